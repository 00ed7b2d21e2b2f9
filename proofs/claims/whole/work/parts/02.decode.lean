theorem dX0_init_0 : decode cX0_init 0 = .ok (.aload_n 0, 1) := by decide +kernel
theorem dX0_init_1 : decode cX0_init 1 = .ok (.invokespecial 3, 3) := by decide +kernel
theorem dX0_init_4 : decode cX0_init 4 = .ok (.return_, 1) := by decide +kernel
theorem dX0_search_0 : decode cX0_search 0 = .ok (.aload_n 0, 1) := by decide +kernel
theorem dX0_search_1 : decode cX0_search 1 = .ok (.iconst (-1), 1) := by decide +kernel
theorem dX0_search_2 : decode cX0_search 2 = .ok (.putfield 9, 3) := by decide +kernel
theorem dX0_search_5 : decode cX0_search 5 = .ok (.aload_n 0, 1) := by decide +kernel
theorem dX0_search_6 : decode cX0_search 6 = .ok (.iconst (-1), 1) := by decide +kernel
theorem dX0_search_7 : decode cX0_search 7 = .ok (.putfield 15, 3) := by decide +kernel
theorem dX0_search_10 : decode cX0_search 10 = .ok (.aload_n 2, 1) := by decide +kernel
theorem dX0_search_11 : decode cX0_search 11 = .ok (.iload_n 3, 1) := by decide +kernel
theorem dX0_search_12 : decode cX0_search 12 = .ok (.invokevirtual 18, 3) := by decide +kernel
theorem dX0_search_15 : decode cX0_search 15 = .ok (.istore 6, 2) := by decide +kernel
theorem dX0_search_17 : decode cX0_search 17 = .ok (.iconst 1, 1) := by decide +kernel
theorem dX0_search_18 : decode cX0_search 18 = .ok (.istore 7, 2) := by decide +kernel
theorem dX0_search_20 : decode cX0_search 20 = .ok (.iload 7, 2) := by decide +kernel
theorem dX0_search_22 : decode cX0_search 22 = .ok (.iload 6, 2) := by decide +kernel
theorem dX0_search_24 : decode cX0_search 24 = .ok (.if_icmp .gt 47, 3) := by decide +kernel
theorem dX0_search_27 : decode cX0_search 27 = .ok (.iload 7, 2) := by decide +kernel
theorem dX0_search_29 : decode cX0_search 29 = .ok (.iload 6, 2) := by decide +kernel
theorem dX0_search_31 : decode cX0_search 31 = .ok (.iand, 1) := by decide +kernel
theorem dX0_search_32 : decode cX0_search 32 = .ok (.iload 7, 2) := by decide +kernel
theorem dX0_search_34 : decode cX0_search 34 = .ok (.if_icmp .ne 31, 3) := by decide +kernel
theorem dX0_search_37 : decode cX0_search 37 = .ok (.aload_n 2, 1) := by decide +kernel
theorem dX0_search_38 : decode cX0_search 38 = .ok (.iload 7, 2) := by decide +kernel
theorem dX0_search_40 : decode cX0_search 40 = .ok (.invokevirtual 24, 3) := by decide +kernel
theorem dX0_search_43 : decode cX0_search 43 = .ok (.iload 4, 2) := by decide +kernel
theorem dX0_search_45 : decode cX0_search 45 = .ok (.if_icmp .lt 20, 3) := by decide +kernel
theorem dX0_search_48 : decode cX0_search 48 = .ok (.aload_n 0, 1) := by decide +kernel
theorem dX0_search_49 : decode cX0_search 49 = .ok (.iload 7, 2) := by decide +kernel
theorem dX0_search_51 : decode cX0_search 51 = .ok (.aload_n 0, 1) := by decide +kernel
theorem dX0_search_52 : decode cX0_search 52 = .ok (.aload_n 1, 1) := by decide +kernel
theorem dX0_search_53 : decode cX0_search 53 = .ok (.aload_n 2, 1) := by decide +kernel
theorem dX0_search_54 : decode cX0_search 54 = .ok (.iload_n 3, 1) := by decide +kernel
theorem dX0_search_55 : decode cX0_search 55 = .ok (.iload 7, 2) := by decide +kernel
theorem dX0_search_57 : decode cX0_search 57 = .ok (.iload 5, 2) := by decide +kernel
theorem dX0_search_59 : decode cX0_search 59 = .ok (.invokevirtual 27, 3) := by decide +kernel
theorem dX0_search_62 : decode cX0_search 62 = .ok (.invokevirtual 31, 3) := by decide +kernel
theorem dX0_search_65 : decode cX0_search 65 = .ok (.iinc 7 1, 3) := by decide +kernel
theorem dX0_search_68 : decode cX0_search 68 = .ok (.goto (-48), 3) := by decide +kernel
theorem dX0_search_71 : decode cX0_search 71 = .ok (.return_, 1) := by decide +kernel
theorem dX0_weigh_0 : decode cX0_weigh 0 = .ok (.aload_n 0, 1) := by decide +kernel
theorem dX0_weigh_1 : decode cX0_weigh 1 = .ok (.getfield 9, 3) := by decide +kernel
theorem dX0_weigh_4 : decode cX0_weigh 4 = .ok (.iconst (-1), 1) := by decide +kernel
theorem dX0_weigh_5 : decode cX0_weigh 5 = .ok (.if_icmp .eq 33, 3) := by decide +kernel
theorem dX0_weigh_8 : decode cX0_weigh 8 = .ok (.iload_n 2, 1) := by decide +kernel
theorem dX0_weigh_9 : decode cX0_weigh 9 = .ok (.aload_n 0, 1) := by decide +kernel
theorem dX0_weigh_10 : decode cX0_weigh 10 = .ok (.getfield 15, 3) := by decide +kernel
theorem dX0_weigh_13 : decode cX0_weigh 13 = .ok (.if_icmp .lt 25, 3) := by decide +kernel
theorem dX0_weigh_16 : decode cX0_weigh 16 = .ok (.iload_n 2, 1) := by decide +kernel
theorem dX0_weigh_17 : decode cX0_weigh 17 = .ok (.aload_n 0, 1) := by decide +kernel
theorem dX0_weigh_18 : decode cX0_weigh 18 = .ok (.getfield 15, 3) := by decide +kernel
theorem dX0_weigh_21 : decode cX0_weigh 21 = .ok (.if_icmp .ne 27, 3) := by decide +kernel
theorem dX0_weigh_24 : decode cX0_weigh 24 = .ok (.iload_n 1, 1) := by decide +kernel
theorem dX0_weigh_25 : decode cX0_weigh 25 = .ok (.invokestatic 35, 3) := by decide +kernel
theorem dX0_weigh_28 : decode cX0_weigh 28 = .ok (.aload_n 0, 1) := by decide +kernel
theorem dX0_weigh_29 : decode cX0_weigh 29 = .ok (.getfield 9, 3) := by decide +kernel
theorem dX0_weigh_32 : decode cX0_weigh 32 = .ok (.invokestatic 35, 3) := by decide +kernel
theorem dX0_weigh_35 : decode cX0_weigh 35 = .ok (.if_icmp .ge 13, 3) := by decide +kernel
theorem dX0_weigh_38 : decode cX0_weigh 38 = .ok (.aload_n 0, 1) := by decide +kernel
theorem dX0_weigh_39 : decode cX0_weigh 39 = .ok (.iload_n 1, 1) := by decide +kernel
theorem dX0_weigh_40 : decode cX0_weigh 40 = .ok (.putfield 9, 3) := by decide +kernel
theorem dX0_weigh_43 : decode cX0_weigh 43 = .ok (.aload_n 0, 1) := by decide +kernel
theorem dX0_weigh_44 : decode cX0_weigh 44 = .ok (.iload_n 2, 1) := by decide +kernel
theorem dX0_weigh_45 : decode cX0_weigh 45 = .ok (.putfield 15, 3) := by decide +kernel
theorem dX0_weigh_48 : decode cX0_weigh 48 = .ok (.return_, 1) := by decide +kernel
theorem dX0_owedBehind_0 : decode cX0_owedBehind 0 = .ok (.iconst 0, 1) := by decide +kernel
theorem dX0_owedBehind_1 : decode cX0_owedBehind 1 = .ok (.istore 6, 2) := by decide +kernel
theorem dX0_owedBehind_3 : decode cX0_owedBehind 3 = .ok (.iconst 0, 1) := by decide +kernel
theorem dX0_owedBehind_4 : decode cX0_owedBehind 4 = .ok (.istore 7, 2) := by decide +kernel
theorem dX0_owedBehind_6 : decode cX0_owedBehind 6 = .ok (.iload 7, 2) := by decide +kernel
theorem dX0_owedBehind_8 : decode cX0_owedBehind 8 = .ok (.aload_n 1, 1) := by decide +kernel
theorem dX0_owedBehind_9 : decode cX0_owedBehind 9 = .ok (.getfield 40, 3) := by decide +kernel
theorem dX0_owedBehind_12 : decode cX0_owedBehind 12 = .ok (.if_icmp .ge 119, 3) := by decide +kernel
theorem dX0_owedBehind_15 : decode cX0_owedBehind 15 = .ok (.iload_n 3, 1) := by decide +kernel
theorem dX0_owedBehind_16 : decode cX0_owedBehind 16 = .ok (.iload 7, 2) := by decide +kernel
theorem dX0_owedBehind_18 : decode cX0_owedBehind 18 = .ok (.invokestatic 45, 3) := by decide +kernel
theorem dX0_owedBehind_21 : decode cX0_owedBehind 21 = .ok (.istore 8, 2) := by decide +kernel
theorem dX0_owedBehind_23 : decode cX0_owedBehind 23 = .ok (.aload_n 2, 1) := by decide +kernel
theorem dX0_owedBehind_24 : decode cX0_owedBehind 24 = .ok (.iload 7, 2) := by decide +kernel
theorem dX0_owedBehind_26 : decode cX0_owedBehind 26 = .ok (.iload 4, 2) := by decide +kernel
theorem dX0_owedBehind_28 : decode cX0_owedBehind 28 = .ok (.invokevirtual 49, 3) := by decide +kernel
theorem dX0_owedBehind_31 : decode cX0_owedBehind 31 = .ok (.istore 9, 2) := by decide +kernel
theorem dX0_owedBehind_33 : decode cX0_owedBehind 33 = .ok (.sipush 9999, 3) := by decide +kernel
theorem dX0_owedBehind_36 : decode cX0_owedBehind 36 = .ok (.aload_n 1, 1) := by decide +kernel
theorem dX0_owedBehind_37 : decode cX0_owedBehind 37 = .ok (.getfield 52, 3) := by decide +kernel
theorem dX0_owedBehind_40 : decode cX0_owedBehind 40 = .ok (.iload 8, 2) := by decide +kernel
theorem dX0_owedBehind_42 : decode cX0_owedBehind 42 = .ok (.iaload, 1) := by decide +kernel
theorem dX0_owedBehind_43 : decode cX0_owedBehind 43 = .ok (.iload 9, 2) := by decide +kernel
theorem dX0_owedBehind_45 : decode cX0_owedBehind 45 = .ok (.iadd, 1) := by decide +kernel
theorem dX0_owedBehind_46 : decode cX0_owedBehind 46 = .ok (.invokestatic 56, 3) := by decide +kernel
theorem dX0_owedBehind_49 : decode cX0_owedBehind 49 = .ok (.istore 10, 2) := by decide +kernel
theorem dX0_owedBehind_51 : decode cX0_owedBehind 51 = .ok (.iload 9, 2) := by decide +kernel
theorem dX0_owedBehind_53 : decode cX0_owedBehind 53 = .ok (.ifCond .le 23, 3) := by decide +kernel
theorem dX0_owedBehind_56 : decode cX0_owedBehind 56 = .ok (.aload_n 1, 1) := by decide +kernel
theorem dX0_owedBehind_57 : decode cX0_owedBehind 57 = .ok (.getfield 61, 3) := by decide +kernel
theorem dX0_owedBehind_60 : decode cX0_owedBehind 60 = .ok (.iload 8, 2) := by decide +kernel
theorem dX0_owedBehind_62 : decode cX0_owedBehind 62 = .ok (.iaload, 1) := by decide +kernel
theorem dX0_owedBehind_63 : decode cX0_owedBehind 63 = .ok (.aload_n 1, 1) := by decide +kernel
theorem dX0_owedBehind_64 : decode cX0_owedBehind 64 = .ok (.getfield 64, 3) := by decide +kernel
theorem dX0_owedBehind_67 : decode cX0_owedBehind 67 = .ok (.getfield 68, 3) := by decide +kernel
theorem dX0_owedBehind_70 : decode cX0_owedBehind 70 = .ok (.invokestatic 72, 3) := by decide +kernel
theorem dX0_owedBehind_73 : decode cX0_owedBehind 73 = .ok (.goto 10, 3) := by decide +kernel
theorem dX0_owedBehind_76 : decode cX0_owedBehind 76 = .ok (.aload_n 1, 1) := by decide +kernel
theorem dX0_owedBehind_77 : decode cX0_owedBehind 77 = .ok (.getfield 61, 3) := by decide +kernel
theorem dX0_owedBehind_80 : decode cX0_owedBehind 80 = .ok (.iload 8, 2) := by decide +kernel
theorem dX0_owedBehind_82 : decode cX0_owedBehind 82 = .ok (.iaload, 1) := by decide +kernel
theorem dX0_owedBehind_83 : decode cX0_owedBehind 83 = .ok (.istore 11, 2) := by decide +kernel
theorem dX0_owedBehind_85 : decode cX0_owedBehind 85 = .ok (.aload_n 1, 1) := by decide +kernel
theorem dX0_owedBehind_86 : decode cX0_owedBehind 86 = .ok (.getfield 64, 3) := by decide +kernel
theorem dX0_owedBehind_89 : decode cX0_owedBehind 89 = .ok (.aload_n 1, 1) := by decide +kernel
theorem dX0_owedBehind_90 : decode cX0_owedBehind 90 = .ok (.iload_n 3, 1) := by decide +kernel
theorem dX0_owedBehind_91 : decode cX0_owedBehind 91 = .ok (.invokevirtual 75, 3) := by decide +kernel
theorem dX0_owedBehind_94 : decode cX0_owedBehind 94 = .ok (.aload_n 1, 1) := by decide +kernel
theorem dX0_owedBehind_95 : decode cX0_owedBehind 95 = .ok (.iload 7, 2) := by decide +kernel
theorem dX0_owedBehind_97 : decode cX0_owedBehind 97 = .ok (.invokevirtual 75, 3) := by decide +kernel
theorem dX0_owedBehind_100 : decode cX0_owedBehind 100 = .ok (.invokevirtual 79, 3) := by decide +kernel
theorem dX0_owedBehind_103 : decode cX0_owedBehind 103 = .ok (.istore 12, 2) := by decide +kernel
theorem dX0_owedBehind_105 : decode cX0_owedBehind 105 = .ok (.iload 6, 2) := by decide +kernel
theorem dX0_owedBehind_107 : decode cX0_owedBehind 107 = .ok (.aload_n 1, 1) := by decide +kernel
theorem dX0_owedBehind_108 : decode cX0_owedBehind 108 = .ok (.getfield 64, 3) := by decide +kernel
theorem dX0_owedBehind_111 : decode cX0_owedBehind 111 = .ok (.iload 10, 2) := by decide +kernel
theorem dX0_owedBehind_113 : decode cX0_owedBehind 113 = .ok (.iload 11, 2) := by decide +kernel
theorem dX0_owedBehind_115 : decode cX0_owedBehind 115 = .ok (.iload 5, 2) := by decide +kernel
theorem dX0_owedBehind_117 : decode cX0_owedBehind 117 = .ok (.iload 12, 2) := by decide +kernel
theorem dX0_owedBehind_119 : decode cX0_owedBehind 119 = .ok (.invokevirtual 83, 3) := by decide +kernel
theorem dX0_owedBehind_122 : decode cX0_owedBehind 122 = .ok (.iadd, 1) := by decide +kernel
theorem dX0_owedBehind_123 : decode cX0_owedBehind 123 = .ok (.istore 6, 2) := by decide +kernel
theorem dX0_owedBehind_125 : decode cX0_owedBehind 125 = .ok (.iinc 7 1, 3) := by decide +kernel
theorem dX0_owedBehind_128 : decode cX0_owedBehind 128 = .ok (.goto (-122), 3) := by decide +kernel
theorem dX0_owedBehind_131 : decode cX0_owedBehind 131 = .ok (.iload 6, 2) := by decide +kernel
theorem dX0_owedBehind_133 : decode cX0_owedBehind 133 = .ok (.ireturn, 1) := by decide +kernel
theorem dX1_init_0 : decode cX1_init 0 = .ok (.aload_n 0, 1) := by decide +kernel
theorem dX1_init_1 : decode cX1_init 1 = .ok (.invokespecial 1, 3) := by decide +kernel
theorem dX1_init_4 : decode cX1_init 4 = .ok (.return_, 1) := by decide +kernel
theorem dX1_next_0 : decode cX1_next 0 = .ok (.iload_n 1, 1) := by decide +kernel
theorem dX1_next_1 : decode cX1_next 1 = .ok (.iconst 1, 1) := by decide +kernel
theorem dX1_next_2 : decode cX1_next 2 = .ok (.if_icmp .ge 5, 3) := by decide +kernel
theorem dX1_next_5 : decode cX1_next 5 = .ok (.iconst 0, 1) := by decide +kernel
theorem dX1_next_6 : decode cX1_next 6 = .ok (.ireturn, 1) := by decide +kernel
theorem dX1_next_7 : decode cX1_next 7 = .ok (.aload_n 0, 1) := by decide +kernel
theorem dX1_next_8 : decode cX1_next 8 = .ok (.ldc2_w 7, 3) := by decide +kernel
theorem dX1_next_11 : decode cX1_next 11 = .ok (.aload_n 0, 1) := by decide +kernel
theorem dX1_next_12 : decode cX1_next 12 = .ok (.getfield 9, 3) := by decide +kernel
theorem dX1_next_15 : decode cX1_next 15 = .ok (.i2l, 1) := by decide +kernel
theorem dX1_next_16 : decode cX1_next 16 = .ok (.lmul, 1) := by decide +kernel
theorem dX1_next_17 : decode cX1_next 17 = .ok (.ldc2_w 15, 3) := by decide +kernel
theorem dX1_next_20 : decode cX1_next 20 = .ok (.ladd, 1) := by decide +kernel
theorem dX1_next_21 : decode cX1_next 21 = .ok (.ldc2_w 17, 3) := by decide +kernel
theorem dX1_next_24 : decode cX1_next 24 = .ok (.land, 1) := by decide +kernel
theorem dX1_next_25 : decode cX1_next 25 = .ok (.l2i, 1) := by decide +kernel
theorem dX1_next_26 : decode cX1_next 26 = .ok (.putfield 9, 3) := by decide +kernel
theorem dX1_next_29 : decode cX1_next 29 = .ok (.aload_n 0, 1) := by decide +kernel
theorem dX1_next_30 : decode cX1_next 30 = .ok (.getfield 9, 3) := by decide +kernel
theorem dX1_next_33 : decode cX1_next 33 = .ok (.ldc 19, 2) := by decide +kernel
theorem dX1_next_35 : decode cX1_next 35 = .ok (.idiv, 1) := by decide +kernel
theorem dX1_next_36 : decode cX1_next 36 = .ok (.iload_n 1, 1) := by decide +kernel
theorem dX1_next_37 : decode cX1_next 37 = .ok (.irem, 1) := by decide +kernel
theorem dX1_next_38 : decode cX1_next 38 = .ok (.ireturn, 1) := by decide +kernel
theorem dX2_isA_0 : decode cX2_isA 0 = .ok (.aload_n 1, 1) := by decide +kernel
theorem dX2_isA_1 : decode cX2_isA 1 = .ok (.aload_n 0, 1) := by decide +kernel
theorem dX2_isA_2 : decode cX2_isA 2 = .ok (.if_acmp .eq 24, 3) := by decide +kernel
theorem dX2_isA_5 : decode cX2_isA 5 = .ok (.aload_n 1, 1) := by decide +kernel
theorem dX2_isA_6 : decode cX2_isA 6 = .ok (.getstatic 3, 3) := by decide +kernel
theorem dX2_isA_9 : decode cX2_isA 9 = .ok (.if_acmp .eq 17, 3) := by decide +kernel
theorem dX2_isA_12 : decode cX2_isA 12 = .ok (.aload_n 0, 1) := by decide +kernel
theorem dX2_isA_13 : decode cX2_isA 13 = .ok (.getstatic 16, 3) := by decide +kernel
theorem dX2_isA_16 : decode cX2_isA 16 = .ok (.if_acmp .ne 14, 3) := by decide +kernel
theorem dX2_isA_19 : decode cX2_isA 19 = .ok (.aload_n 1, 1) := by decide +kernel
theorem dX2_isA_20 : decode cX2_isA 20 = .ok (.getstatic 13, 3) := by decide +kernel
theorem dX2_isA_23 : decode cX2_isA 23 = .ok (.if_acmp .ne 7, 3) := by decide +kernel
theorem dX2_isA_26 : decode cX2_isA 26 = .ok (.iconst 1, 1) := by decide +kernel
theorem dX2_isA_27 : decode cX2_isA 27 = .ok (.goto 4, 3) := by decide +kernel
theorem dX2_isA_30 : decode cX2_isA 30 = .ok (.iconst 0, 1) := by decide +kernel
theorem dX2_isA_31 : decode cX2_isA 31 = .ok (.ireturn, 1) := by decide +kernel
theorem dX3_init_0 : decode cX3_init 0 = .ok (.aload_n 0, 1) := by decide +kernel
theorem dX3_init_1 : decode cX3_init 1 = .ok (.invokespecial 3, 3) := by decide +kernel
theorem dX3_init_4 : decode cX3_init 4 = .ok (.aload_n 0, 1) := by decide +kernel
theorem dX3_init_5 : decode cX3_init 5 = .ok (.iconst 1, 1) := by decide +kernel
theorem dX3_init_6 : decode cX3_init 6 = .ok (.putfield 9, 3) := by decide +kernel
theorem dX3_init_9 : decode cX3_init 9 = .ok (.aload_n 0, 1) := by decide +kernel
theorem dX3_init_10 : decode cX3_init 10 = .ok (.iconst 1, 1) := by decide +kernel
theorem dX3_init_11 : decode cX3_init 11 = .ok (.putfield 15, 3) := by decide +kernel
theorem dX3_init_14 : decode cX3_init 14 = .ok (.return_, 1) := by decide +kernel
theorem dX3_readFrom_0 : decode cX3_readFrom 0 = .ok (.aload_n 0, 1) := by decide +kernel
theorem dX3_readFrom_1 : decode cX3_readFrom 1 = .ok (.aload_n 1, 1) := by decide +kernel
theorem dX3_readFrom_2 : decode cX3_readFrom 2 = .ok (.iconst 0, 1) := by decide +kernel
theorem dX3_readFrom_3 : decode cX3_readFrom 3 = .ok (.invokevirtual 19, 3) := by decide +kernel
theorem dX3_readFrom_6 : decode cX3_readFrom 6 = .ok (.putfield 9, 3) := by decide +kernel
theorem dX3_readFrom_9 : decode cX3_readFrom 9 = .ok (.aload_n 0, 1) := by decide +kernel
theorem dX3_readFrom_10 : decode cX3_readFrom 10 = .ok (.aload_n 1, 1) := by decide +kernel
theorem dX3_readFrom_11 : decode cX3_readFrom 11 = .ok (.getfield 25, 3) := by decide +kernel
theorem dX3_readFrom_14 : decode cX3_readFrom 14 = .ok (.iconst 1, 1) := by decide +kernel
theorem dX3_readFrom_15 : decode cX3_readFrom 15 = .ok (.iaload, 1) := by decide +kernel
theorem dX3_readFrom_16 : decode cX3_readFrom 16 = .ok (.bipush 117, 2) := by decide +kernel
theorem dX3_readFrom_18 : decode cX3_readFrom 18 = .ok (.if_icmp .ne 7, 3) := by decide +kernel
theorem dX3_readFrom_21 : decode cX3_readFrom 21 = .ok (.iconst 1, 1) := by decide +kernel
theorem dX3_readFrom_22 : decode cX3_readFrom 22 = .ok (.goto 4, 3) := by decide +kernel
theorem dX3_readFrom_25 : decode cX3_readFrom 25 = .ok (.iconst 0, 1) := by decide +kernel
theorem dX3_readFrom_26 : decode cX3_readFrom 26 = .ok (.putfield 15, 3) := by decide +kernel
theorem dX3_readFrom_29 : decode cX3_readFrom 29 = .ok (.aload_n 0, 1) := by decide +kernel
theorem dX3_readFrom_30 : decode cX3_readFrom 30 = .ok (.aload_n 1, 1) := by decide +kernel
theorem dX3_readFrom_31 : decode cX3_readFrom 31 = .ok (.iconst 2, 1) := by decide +kernel
theorem dX3_readFrom_32 : decode cX3_readFrom 32 = .ok (.invokevirtual 19, 3) := by decide +kernel
theorem dX3_readFrom_35 : decode cX3_readFrom 35 = .ok (.putfield 29, 3) := by decide +kernel
theorem dX3_readFrom_38 : decode cX3_readFrom 38 = .ok (.aload_n 0, 1) := by decide +kernel
theorem dX3_readFrom_39 : decode cX3_readFrom 39 = .ok (.aload_n 1, 1) := by decide +kernel
theorem dX3_readFrom_40 : decode cX3_readFrom 40 = .ok (.iconst 3, 1) := by decide +kernel
theorem dX3_readFrom_41 : decode cX3_readFrom 41 = .ok (.invokevirtual 19, 3) := by decide +kernel
theorem dX3_readFrom_44 : decode cX3_readFrom 44 = .ok (.putfield 32, 3) := by decide +kernel
theorem dX3_readFrom_47 : decode cX3_readFrom 47 = .ok (.return_, 1) := by decide +kernel
theorem dX3_copyFrom_0 : decode cX3_copyFrom 0 = .ok (.aload_n 0, 1) := by decide +kernel
theorem dX3_copyFrom_1 : decode cX3_copyFrom 1 = .ok (.aload_n 1, 1) := by decide +kernel
theorem dX3_copyFrom_2 : decode cX3_copyFrom 2 = .ok (.getfield 9, 3) := by decide +kernel
theorem dX3_copyFrom_5 : decode cX3_copyFrom 5 = .ok (.putfield 9, 3) := by decide +kernel
theorem dX3_copyFrom_8 : decode cX3_copyFrom 8 = .ok (.aload_n 0, 1) := by decide +kernel
theorem dX3_copyFrom_9 : decode cX3_copyFrom 9 = .ok (.aload_n 1, 1) := by decide +kernel
theorem dX3_copyFrom_10 : decode cX3_copyFrom 10 = .ok (.getfield 15, 3) := by decide +kernel
theorem dX3_copyFrom_13 : decode cX3_copyFrom 13 = .ok (.putfield 15, 3) := by decide +kernel
theorem dX3_copyFrom_16 : decode cX3_copyFrom 16 = .ok (.aload_n 0, 1) := by decide +kernel
theorem dX3_copyFrom_17 : decode cX3_copyFrom 17 = .ok (.aload_n 1, 1) := by decide +kernel
theorem dX3_copyFrom_18 : decode cX3_copyFrom 18 = .ok (.getfield 29, 3) := by decide +kernel
theorem dX3_copyFrom_21 : decode cX3_copyFrom 21 = .ok (.putfield 29, 3) := by decide +kernel
theorem dX3_copyFrom_24 : decode cX3_copyFrom 24 = .ok (.aload_n 0, 1) := by decide +kernel
theorem dX3_copyFrom_25 : decode cX3_copyFrom 25 = .ok (.aload_n 1, 1) := by decide +kernel
theorem dX3_copyFrom_26 : decode cX3_copyFrom 26 = .ok (.getfield 32, 3) := by decide +kernel
theorem dX3_copyFrom_29 : decode cX3_copyFrom 29 = .ok (.putfield 32, 3) := by decide +kernel
theorem dX3_copyFrom_32 : decode cX3_copyFrom 32 = .ok (.return_, 1) := by decide +kernel
theorem dX3_tenths_0 : decode cX3_tenths 0 = .ok (.aload_n 0, 1) := by decide +kernel
theorem dX3_tenths_1 : decode cX3_tenths 1 = .ok (.getfield 9, 3) := by decide +kernel
theorem dX3_tenths_4 : decode cX3_tenths 4 = .ok (.aload_n 1, 1) := by decide +kernel
theorem dX3_tenths_5 : decode cX3_tenths 5 = .ok (.getfield 35, 3) := by decide +kernel
theorem dX3_tenths_8 : decode cX3_tenths 8 = .ok (.imul, 1) := by decide +kernel
theorem dX3_tenths_9 : decode cX3_tenths 9 = .ok (.aload_n 2, 1) := by decide +kernel
theorem dX3_tenths_10 : decode cX3_tenths 10 = .ok (.getfield 40, 3) := by decide +kernel
theorem dX3_tenths_13 : decode cX3_tenths 13 = .ok (.imul, 1) := by decide +kernel
theorem dX3_tenths_14 : decode cX3_tenths 14 = .ok (.ireturn, 1) := by decide +kernel
theorem dX3_owedNextWeek_0 : decode cX3_owedNextWeek 0 = .ok (.iload_n 1, 1) := by decide +kernel
theorem dX3_owedNextWeek_1 : decode cX3_owedNextWeek 1 = .ok (.iload_n 2, 1) := by decide +kernel
theorem dX3_owedNextWeek_2 : decode cX3_owedNextWeek 2 = .ok (.imul, 1) := by decide +kernel
theorem dX3_owedNextWeek_3 : decode cX3_owedNextWeek 3 = .ok (.istore_n 3, 1) := by decide +kernel
theorem dX3_owedNextWeek_4 : decode cX3_owedNextWeek 4 = .ok (.aload_n 0, 1) := by decide +kernel
theorem dX3_owedNextWeek_5 : decode cX3_owedNextWeek 5 = .ok (.getfield 15, 3) := by decide +kernel
theorem dX3_owedNextWeek_8 : decode cX3_owedNextWeek 8 = .ok (.ifCond .eq 13, 3) := by decide +kernel
theorem dX3_owedNextWeek_11 : decode cX3_owedNextWeek 11 = .ok (.iload_n 3, 1) := by decide +kernel
theorem dX3_owedNextWeek_12 : decode cX3_owedNextWeek 12 = .ok (.bipush 9, 2) := by decide +kernel
theorem dX3_owedNextWeek_14 : decode cX3_owedNextWeek 14 = .ok (.iadd, 1) := by decide +kernel
theorem dX3_owedNextWeek_15 : decode cX3_owedNextWeek 15 = .ok (.bipush 10, 2) := by decide +kernel
theorem dX3_owedNextWeek_17 : decode cX3_owedNextWeek 17 = .ok (.idiv, 1) := by decide +kernel
theorem dX3_owedNextWeek_18 : decode cX3_owedNextWeek 18 = .ok (.goto 7, 3) := by decide +kernel
theorem dX3_owedNextWeek_21 : decode cX3_owedNextWeek 21 = .ok (.iload_n 3, 1) := by decide +kernel
theorem dX3_owedNextWeek_22 : decode cX3_owedNextWeek 22 = .ok (.bipush 10, 2) := by decide +kernel
theorem dX3_owedNextWeek_24 : decode cX3_owedNextWeek 24 = .ok (.idiv, 1) := by decide +kernel
theorem dX3_owedNextWeek_25 : decode cX3_owedNextWeek 25 = .ok (.istore 4, 2) := by decide +kernel
theorem dX3_owedNextWeek_27 : decode cX3_owedNextWeek 27 = .ok (.sipush 9999, 3) := by decide +kernel
theorem dX3_owedNextWeek_30 : decode cX3_owedNextWeek 30 = .ok (.iload_n 1, 1) := by decide +kernel
theorem dX3_owedNextWeek_31 : decode cX3_owedNextWeek 31 = .ok (.iload 4, 2) := by decide +kernel
theorem dX3_owedNextWeek_33 : decode cX3_owedNextWeek 33 = .ok (.iadd, 1) := by decide +kernel
theorem dX3_owedNextWeek_34 : decode cX3_owedNextWeek 34 = .ok (.invokestatic 43, 3) := by decide +kernel
theorem dX3_owedNextWeek_37 : decode cX3_owedNextWeek 37 = .ok (.ireturn, 1) := by decide +kernel
theorem dX3_owedAfter_0 : decode cX3_owedAfter 0 = .ok (.iload_n 1, 1) := by decide +kernel
theorem dX3_owedAfter_1 : decode cX3_owedAfter 1 = .ok (.istore 5, 2) := by decide +kernel
theorem dX3_owedAfter_3 : decode cX3_owedAfter 3 = .ok (.iload_n 2, 1) := by decide +kernel
theorem dX3_owedAfter_4 : decode cX3_owedAfter 4 = .ok (.istore 6, 2) := by decide +kernel
theorem dX3_owedAfter_6 : decode cX3_owedAfter 6 = .ok (.iload 6, 2) := by decide +kernel
theorem dX3_owedAfter_8 : decode cX3_owedAfter 8 = .ok (.iload_n 3, 1) := by decide +kernel
theorem dX3_owedAfter_9 : decode cX3_owedAfter 9 = .ok (.if_icmp .ge 33, 3) := by decide +kernel
theorem dX3_owedAfter_12 : decode cX3_owedAfter 12 = .ok (.aload_n 0, 1) := by decide +kernel
theorem dX3_owedAfter_13 : decode cX3_owedAfter 13 = .ok (.iload 5, 2) := by decide +kernel
theorem dX3_owedAfter_15 : decode cX3_owedAfter 15 = .ok (.iload 4, 2) := by decide +kernel
theorem dX3_owedAfter_17 : decode cX3_owedAfter 17 = .ok (.invokevirtual 49, 3) := by decide +kernel
theorem dX3_owedAfter_20 : decode cX3_owedAfter 20 = .ok (.istore 7, 2) := by decide +kernel
theorem dX3_owedAfter_22 : decode cX3_owedAfter 22 = .ok (.iload 7, 2) := by decide +kernel
theorem dX3_owedAfter_24 : decode cX3_owedAfter 24 = .ok (.iload 5, 2) := by decide +kernel
theorem dX3_owedAfter_26 : decode cX3_owedAfter 26 = .ok (.if_icmp .ne 6, 3) := by decide +kernel
theorem dX3_owedAfter_29 : decode cX3_owedAfter 29 = .ok (.iload 5, 2) := by decide +kernel
theorem dX3_owedAfter_31 : decode cX3_owedAfter 31 = .ok (.ireturn, 1) := by decide +kernel
theorem dX3_owedAfter_32 : decode cX3_owedAfter 32 = .ok (.iload 7, 2) := by decide +kernel
theorem dX3_owedAfter_34 : decode cX3_owedAfter 34 = .ok (.istore 5, 2) := by decide +kernel
theorem dX3_owedAfter_36 : decode cX3_owedAfter 36 = .ok (.iinc 6 1, 3) := by decide +kernel
theorem dX3_owedAfter_39 : decode cX3_owedAfter 39 = .ok (.goto (-33), 3) := by decide +kernel
theorem dX3_owedAfter_42 : decode cX3_owedAfter 42 = .ok (.iload 5, 2) := by decide +kernel
theorem dX3_owedAfter_44 : decode cX3_owedAfter 44 = .ok (.ireturn, 1) := by decide +kernel
theorem dX4_init_0 : decode cX4_init 0 = .ok (.aload_n 0, 1) := by decide +kernel
theorem dX4_init_1 : decode cX4_init 1 = .ok (.invokespecial 3, 3) := by decide +kernel
theorem dX4_init_4 : decode cX4_init 4 = .ok (.aload_n 0, 1) := by decide +kernel
theorem dX4_init_5 : decode cX4_init 5 = .ok (.bipush 6, 2) := by decide +kernel
theorem dX4_init_7 : decode cX4_init 7 = .ok (.newarray .int, 2) := by decide +kernel
theorem dX4_init_9 : decode cX4_init 9 = .ok (.putfield 9, 3) := by decide +kernel
theorem dX4_init_12 : decode cX4_init 12 = .ok (.aload_n 0, 1) := by decide +kernel
theorem dX4_init_13 : decode cX4_init 13 = .ok (.bipush 6, 2) := by decide +kernel
theorem dX4_init_15 : decode cX4_init 15 = .ok (.newarray .int, 2) := by decide +kernel
theorem dX4_init_17 : decode cX4_init 17 = .ok (.putfield 15, 3) := by decide +kernel
theorem dX4_init_20 : decode cX4_init 20 = .ok (.aload_n 0, 1) := by decide +kernel
theorem dX4_init_21 : decode cX4_init 21 = .ok (.bipush 6, 2) := by decide +kernel
theorem dX4_init_23 : decode cX4_init 23 = .ok (.newarray .int, 2) := by decide +kernel
theorem dX4_init_25 : decode cX4_init 25 = .ok (.putfield 18, 3) := by decide +kernel
theorem dX4_init_28 : decode cX4_init 28 = .ok (.return_, 1) := by decide +kernel
theorem dX4_copyFrom_0 : decode cX4_copyFrom 0 = .ok (.aload_n 1, 1) := by decide +kernel
theorem dX4_copyFrom_1 : decode cX4_copyFrom 1 = .ok (.getfield 9, 3) := by decide +kernel
theorem dX4_copyFrom_4 : decode cX4_copyFrom 4 = .ok (.iconst 0, 1) := by decide +kernel
theorem dX4_copyFrom_5 : decode cX4_copyFrom 5 = .ok (.aload_n 0, 1) := by decide +kernel
theorem dX4_copyFrom_6 : decode cX4_copyFrom 6 = .ok (.getfield 9, 3) := by decide +kernel
theorem dX4_copyFrom_9 : decode cX4_copyFrom 9 = .ok (.iconst 0, 1) := by decide +kernel
theorem dX4_copyFrom_10 : decode cX4_copyFrom 10 = .ok (.bipush 6, 2) := by decide +kernel
theorem dX4_copyFrom_12 : decode cX4_copyFrom 12 = .ok (.invokestatic 21, 3) := by decide +kernel
theorem dX4_copyFrom_15 : decode cX4_copyFrom 15 = .ok (.aload_n 1, 1) := by decide +kernel
theorem dX4_copyFrom_16 : decode cX4_copyFrom 16 = .ok (.getfield 15, 3) := by decide +kernel
theorem dX4_copyFrom_19 : decode cX4_copyFrom 19 = .ok (.iconst 0, 1) := by decide +kernel
theorem dX4_copyFrom_20 : decode cX4_copyFrom 20 = .ok (.aload_n 0, 1) := by decide +kernel
theorem dX4_copyFrom_21 : decode cX4_copyFrom 21 = .ok (.getfield 15, 3) := by decide +kernel
theorem dX4_copyFrom_24 : decode cX4_copyFrom 24 = .ok (.iconst 0, 1) := by decide +kernel
theorem dX4_copyFrom_25 : decode cX4_copyFrom 25 = .ok (.bipush 6, 2) := by decide +kernel
theorem dX4_copyFrom_27 : decode cX4_copyFrom 27 = .ok (.invokestatic 21, 3) := by decide +kernel
theorem dX4_copyFrom_30 : decode cX4_copyFrom 30 = .ok (.aload_n 1, 1) := by decide +kernel
theorem dX4_copyFrom_31 : decode cX4_copyFrom 31 = .ok (.getfield 18, 3) := by decide +kernel
theorem dX4_copyFrom_34 : decode cX4_copyFrom 34 = .ok (.iconst 0, 1) := by decide +kernel
theorem dX4_copyFrom_35 : decode cX4_copyFrom 35 = .ok (.aload_n 0, 1) := by decide +kernel
theorem dX4_copyFrom_36 : decode cX4_copyFrom 36 = .ok (.getfield 18, 3) := by decide +kernel
theorem dX4_copyFrom_39 : decode cX4_copyFrom 39 = .ok (.iconst 0, 1) := by decide +kernel
theorem dX4_copyFrom_40 : decode cX4_copyFrom 40 = .ok (.bipush 6, 2) := by decide +kernel
theorem dX4_copyFrom_42 : decode cX4_copyFrom 42 = .ok (.invokestatic 21, 3) := by decide +kernel
theorem dX4_copyFrom_45 : decode cX4_copyFrom 45 = .ok (.aload_n 0, 1) := by decide +kernel
theorem dX4_copyFrom_46 : decode cX4_copyFrom 46 = .ok (.aload_n 1, 1) := by decide +kernel
theorem dX4_copyFrom_47 : decode cX4_copyFrom 47 = .ok (.getfield 27, 3) := by decide +kernel
theorem dX4_copyFrom_50 : decode cX4_copyFrom 50 = .ok (.putfield 27, 3) := by decide +kernel
theorem dX4_copyFrom_53 : decode cX4_copyFrom 53 = .ok (.return_, 1) := by decide +kernel
theorem dX4_put_0 : decode cX4_put 0 = .ok (.aload_n 0, 1) := by decide +kernel
theorem dX4_put_1 : decode cX4_put 1 = .ok (.getfield 27, 3) := by decide +kernel
theorem dX4_put_4 : decode cX4_put 4 = .ok (.bipush 6, 2) := by decide +kernel
theorem dX4_put_6 : decode cX4_put 6 = .ok (.if_icmp .ge 43, 3) := by decide +kernel
theorem dX4_put_9 : decode cX4_put 9 = .ok (.aload_n 0, 1) := by decide +kernel
theorem dX4_put_10 : decode cX4_put 10 = .ok (.getfield 9, 3) := by decide +kernel
theorem dX4_put_13 : decode cX4_put 13 = .ok (.aload_n 0, 1) := by decide +kernel
theorem dX4_put_14 : decode cX4_put 14 = .ok (.getfield 27, 3) := by decide +kernel
theorem dX4_put_17 : decode cX4_put 17 = .ok (.iload_n 1, 1) := by decide +kernel
theorem dX4_put_18 : decode cX4_put 18 = .ok (.iastore, 1) := by decide +kernel
theorem dX4_put_19 : decode cX4_put 19 = .ok (.aload_n 0, 1) := by decide +kernel
theorem dX4_put_20 : decode cX4_put 20 = .ok (.getfield 15, 3) := by decide +kernel
theorem dX4_put_23 : decode cX4_put 23 = .ok (.aload_n 0, 1) := by decide +kernel
theorem dX4_put_24 : decode cX4_put 24 = .ok (.getfield 27, 3) := by decide +kernel
theorem dX4_put_27 : decode cX4_put 27 = .ok (.iload_n 2, 1) := by decide +kernel
theorem dX4_put_28 : decode cX4_put 28 = .ok (.iastore, 1) := by decide +kernel
theorem dX4_put_29 : decode cX4_put 29 = .ok (.aload_n 0, 1) := by decide +kernel
theorem dX4_put_30 : decode cX4_put 30 = .ok (.getfield 18, 3) := by decide +kernel
theorem dX4_put_33 : decode cX4_put 33 = .ok (.aload_n 0, 1) := by decide +kernel
theorem dX4_put_34 : decode cX4_put 34 = .ok (.getfield 27, 3) := by decide +kernel
theorem dX4_put_37 : decode cX4_put 37 = .ok (.iload_n 3, 1) := by decide +kernel
theorem dX4_put_38 : decode cX4_put 38 = .ok (.iastore, 1) := by decide +kernel
theorem dX4_put_39 : decode cX4_put 39 = .ok (.aload_n 0, 1) := by decide +kernel
theorem dX4_put_40 : decode cX4_put 40 = .ok (.dup, 1) := by decide +kernel
theorem dX4_put_41 : decode cX4_put 41 = .ok (.getfield 27, 3) := by decide +kernel
theorem dX4_put_44 : decode cX4_put 44 = .ok (.iconst 1, 1) := by decide +kernel
theorem dX4_put_45 : decode cX4_put 45 = .ok (.iadd, 1) := by decide +kernel
theorem dX4_put_46 : decode cX4_put 46 = .ok (.putfield 27, 3) := by decide +kernel
theorem dX4_put_49 : decode cX4_put 49 = .ok (.return_, 1) := by decide +kernel
theorem dX4_bitsFor_0 : decode cX4_bitsFor 0 = .ok (.iconst 0, 1) := by decide +kernel
theorem dX4_bitsFor_1 : decode cX4_bitsFor 1 = .ok (.istore_n 2, 1) := by decide +kernel
theorem dX4_bitsFor_2 : decode cX4_bitsFor 2 = .ok (.iconst 0, 1) := by decide +kernel
theorem dX4_bitsFor_3 : decode cX4_bitsFor 3 = .ok (.istore_n 3, 1) := by decide +kernel
theorem dX4_bitsFor_4 : decode cX4_bitsFor 4 = .ok (.iload_n 3, 1) := by decide +kernel
theorem dX4_bitsFor_5 : decode cX4_bitsFor 5 = .ok (.aload_n 0, 1) := by decide +kernel
theorem dX4_bitsFor_6 : decode cX4_bitsFor 6 = .ok (.getfield 27, 3) := by decide +kernel
theorem dX4_bitsFor_9 : decode cX4_bitsFor 9 = .ok (.if_icmp .ge 25, 3) := by decide +kernel
theorem dX4_bitsFor_12 : decode cX4_bitsFor 12 = .ok (.aload_n 0, 1) := by decide +kernel
theorem dX4_bitsFor_13 : decode cX4_bitsFor 13 = .ok (.getfield 15, 3) := by decide +kernel
theorem dX4_bitsFor_16 : decode cX4_bitsFor 16 = .ok (.iload_n 3, 1) := by decide +kernel
theorem dX4_bitsFor_17 : decode cX4_bitsFor 17 = .ok (.iaload, 1) := by decide +kernel
theorem dX4_bitsFor_18 : decode cX4_bitsFor 18 = .ok (.iload_n 1, 1) := by decide +kernel
theorem dX4_bitsFor_19 : decode cX4_bitsFor 19 = .ok (.if_icmp .ne 9, 3) := by decide +kernel
theorem dX4_bitsFor_22 : decode cX4_bitsFor 22 = .ok (.iload_n 2, 1) := by decide +kernel
theorem dX4_bitsFor_23 : decode cX4_bitsFor 23 = .ok (.iconst 1, 1) := by decide +kernel
theorem dX4_bitsFor_24 : decode cX4_bitsFor 24 = .ok (.iload_n 3, 1) := by decide +kernel
theorem dX4_bitsFor_25 : decode cX4_bitsFor 25 = .ok (.ishl, 1) := by decide +kernel
theorem dX4_bitsFor_26 : decode cX4_bitsFor 26 = .ok (.ior, 1) := by decide +kernel
theorem dX4_bitsFor_27 : decode cX4_bitsFor 27 = .ok (.istore_n 2, 1) := by decide +kernel
theorem dX4_bitsFor_28 : decode cX4_bitsFor 28 = .ok (.iinc 3 1, 3) := by decide +kernel
theorem dX4_bitsFor_31 : decode cX4_bitsFor 31 = .ok (.goto (-27), 3) := by decide +kernel
theorem dX4_bitsFor_34 : decode cX4_bitsFor 34 = .ok (.iload_n 2, 1) := by decide +kernel
theorem dX4_bitsFor_35 : decode cX4_bitsFor 35 = .ok (.ireturn, 1) := by decide +kernel
theorem dX4_sizeOf_0 : decode cX4_sizeOf 0 = .ok (.iconst 0, 1) := by decide +kernel
theorem dX4_sizeOf_1 : decode cX4_sizeOf 1 = .ok (.istore_n 2, 1) := by decide +kernel
theorem dX4_sizeOf_2 : decode cX4_sizeOf 2 = .ok (.iconst 0, 1) := by decide +kernel
theorem dX4_sizeOf_3 : decode cX4_sizeOf 3 = .ok (.istore_n 3, 1) := by decide +kernel
theorem dX4_sizeOf_4 : decode cX4_sizeOf 4 = .ok (.iload_n 3, 1) := by decide +kernel
theorem dX4_sizeOf_5 : decode cX4_sizeOf 5 = .ok (.aload_n 0, 1) := by decide +kernel
theorem dX4_sizeOf_6 : decode cX4_sizeOf 6 = .ok (.getfield 27, 3) := by decide +kernel
theorem dX4_sizeOf_9 : decode cX4_sizeOf 9 = .ok (.if_icmp .ge 26, 3) := by decide +kernel
theorem dX4_sizeOf_12 : decode cX4_sizeOf 12 = .ok (.iload_n 3, 1) := by decide +kernel
theorem dX4_sizeOf_13 : decode cX4_sizeOf 13 = .ok (.iload_n 1, 1) := by decide +kernel
theorem dX4_sizeOf_14 : decode cX4_sizeOf 14 = .ok (.invokestatic 31, 3) := by decide +kernel
theorem dX4_sizeOf_17 : decode cX4_sizeOf 17 = .ok (.ifCond .eq 12, 3) := by decide +kernel
theorem dX4_sizeOf_20 : decode cX4_sizeOf 20 = .ok (.iload_n 2, 1) := by decide +kernel
theorem dX4_sizeOf_21 : decode cX4_sizeOf 21 = .ok (.aload_n 0, 1) := by decide +kernel
theorem dX4_sizeOf_22 : decode cX4_sizeOf 22 = .ok (.getfield 18, 3) := by decide +kernel
theorem dX4_sizeOf_25 : decode cX4_sizeOf 25 = .ok (.iload_n 3, 1) := by decide +kernel
theorem dX4_sizeOf_26 : decode cX4_sizeOf 26 = .ok (.iaload, 1) := by decide +kernel
theorem dX4_sizeOf_27 : decode cX4_sizeOf 27 = .ok (.iadd, 1) := by decide +kernel
theorem dX4_sizeOf_28 : decode cX4_sizeOf 28 = .ok (.istore_n 2, 1) := by decide +kernel
theorem dX4_sizeOf_29 : decode cX4_sizeOf 29 = .ok (.iinc 3 1, 3) := by decide +kernel
theorem dX4_sizeOf_32 : decode cX4_sizeOf 32 = .ok (.goto (-28), 3) := by decide +kernel
theorem dX4_sizeOf_35 : decode cX4_sizeOf 35 = .ok (.iload_n 2, 1) := by decide +kernel
theorem dX4_sizeOf_36 : decode cX4_sizeOf 36 = .ok (.ireturn, 1) := by decide +kernel
theorem dX4_sizeFrom_0 : decode cX4_sizeFrom 0 = .ok (.iconst 0, 1) := by decide +kernel
theorem dX4_sizeFrom_1 : decode cX4_sizeFrom 1 = .ok (.istore_n 3, 1) := by decide +kernel
theorem dX4_sizeFrom_2 : decode cX4_sizeFrom 2 = .ok (.iconst 0, 1) := by decide +kernel
theorem dX4_sizeFrom_3 : decode cX4_sizeFrom 3 = .ok (.istore 4, 2) := by decide +kernel
theorem dX4_sizeFrom_5 : decode cX4_sizeFrom 5 = .ok (.iload 4, 2) := by decide +kernel
theorem dX4_sizeFrom_7 : decode cX4_sizeFrom 7 = .ok (.aload_n 0, 1) := by decide +kernel
theorem dX4_sizeFrom_8 : decode cX4_sizeFrom 8 = .ok (.getfield 27, 3) := by decide +kernel
theorem dX4_sizeFrom_11 : decode cX4_sizeFrom 11 = .ok (.if_icmp .ge 39, 3) := by decide +kernel
theorem dX4_sizeFrom_14 : decode cX4_sizeFrom 14 = .ok (.iload 4, 2) := by decide +kernel
theorem dX4_sizeFrom_16 : decode cX4_sizeFrom 16 = .ok (.iload_n 2, 1) := by decide +kernel
theorem dX4_sizeFrom_17 : decode cX4_sizeFrom 17 = .ok (.invokestatic 31, 3) := by decide +kernel
theorem dX4_sizeFrom_20 : decode cX4_sizeFrom 20 = .ok (.ifCond .eq 24, 3) := by decide +kernel
theorem dX4_sizeFrom_23 : decode cX4_sizeFrom 23 = .ok (.aload_n 0, 1) := by decide +kernel
theorem dX4_sizeFrom_24 : decode cX4_sizeFrom 24 = .ok (.getfield 9, 3) := by decide +kernel
theorem dX4_sizeFrom_27 : decode cX4_sizeFrom 27 = .ok (.iload 4, 2) := by decide +kernel
theorem dX4_sizeFrom_29 : decode cX4_sizeFrom 29 = .ok (.iaload, 1) := by decide +kernel
theorem dX4_sizeFrom_30 : decode cX4_sizeFrom 30 = .ok (.iload_n 1, 1) := by decide +kernel
theorem dX4_sizeFrom_31 : decode cX4_sizeFrom 31 = .ok (.if_icmp .ne 13, 3) := by decide +kernel
theorem dX4_sizeFrom_34 : decode cX4_sizeFrom 34 = .ok (.iload_n 3, 1) := by decide +kernel
theorem dX4_sizeFrom_35 : decode cX4_sizeFrom 35 = .ok (.aload_n 0, 1) := by decide +kernel
theorem dX4_sizeFrom_36 : decode cX4_sizeFrom 36 = .ok (.getfield 18, 3) := by decide +kernel
theorem dX4_sizeFrom_39 : decode cX4_sizeFrom 39 = .ok (.iload 4, 2) := by decide +kernel
theorem dX4_sizeFrom_41 : decode cX4_sizeFrom 41 = .ok (.iaload, 1) := by decide +kernel
theorem dX4_sizeFrom_42 : decode cX4_sizeFrom 42 = .ok (.iadd, 1) := by decide +kernel
theorem dX4_sizeFrom_43 : decode cX4_sizeFrom 43 = .ok (.istore_n 3, 1) := by decide +kernel
theorem dX4_sizeFrom_44 : decode cX4_sizeFrom 44 = .ok (.iinc 4 1, 3) := by decide +kernel
theorem dX4_sizeFrom_47 : decode cX4_sizeFrom 47 = .ok (.goto (-42), 3) := by decide +kernel
theorem dX4_sizeFrom_50 : decode cX4_sizeFrom 50 = .ok (.iload_n 3, 1) := by decide +kernel
theorem dX4_sizeFrom_51 : decode cX4_sizeFrom 51 = .ok (.ireturn, 1) := by decide +kernel
theorem dX5_init_0 : decode cX5_init 0 = .ok (.aload_n 0, 1) := by decide +kernel
theorem dX5_init_1 : decode cX5_init 1 = .ok (.invokespecial 3, 3) := by decide +kernel
theorem dX5_init_4 : decode cX5_init 4 = .ok (.aload_n 0, 1) := by decide +kernel
theorem dX5_init_5 : decode cX5_init 5 = .ok (.bipush 6, 2) := by decide +kernel
theorem dX5_init_7 : decode cX5_init 7 = .ok (.newarray .int, 2) := by decide +kernel
theorem dX5_init_9 : decode cX5_init 9 = .ok (.putfield 9, 3) := by decide +kernel
theorem dX5_init_12 : decode cX5_init 12 = .ok (.return_, 1) := by decide +kernel
theorem dX5_put_0 : decode cX5_put 0 = .ok (.aload_n 0, 1) := by decide +kernel
theorem dX5_put_1 : decode cX5_put 1 = .ok (.getfield 15, 3) := by decide +kernel
theorem dX5_put_4 : decode cX5_put 4 = .ok (.bipush 6, 2) := by decide +kernel
theorem dX5_put_6 : decode cX5_put 6 = .ok (.if_icmp .ge 23, 3) := by decide +kernel
theorem dX5_put_9 : decode cX5_put 9 = .ok (.aload_n 0, 1) := by decide +kernel
theorem dX5_put_10 : decode cX5_put 10 = .ok (.getfield 9, 3) := by decide +kernel
theorem dX5_put_13 : decode cX5_put 13 = .ok (.aload_n 0, 1) := by decide +kernel
theorem dX5_put_14 : decode cX5_put 14 = .ok (.getfield 15, 3) := by decide +kernel
theorem dX5_put_17 : decode cX5_put 17 = .ok (.iload_n 1, 1) := by decide +kernel
theorem dX5_put_18 : decode cX5_put 18 = .ok (.iastore, 1) := by decide +kernel
theorem dX5_put_19 : decode cX5_put 19 = .ok (.aload_n 0, 1) := by decide +kernel
theorem dX5_put_20 : decode cX5_put 20 = .ok (.dup, 1) := by decide +kernel
theorem dX5_put_21 : decode cX5_put 21 = .ok (.getfield 15, 3) := by decide +kernel
theorem dX5_put_24 : decode cX5_put 24 = .ok (.iconst 1, 1) := by decide +kernel
theorem dX5_put_25 : decode cX5_put 25 = .ok (.iadd, 1) := by decide +kernel
theorem dX5_put_26 : decode cX5_put 26 = .ok (.putfield 15, 3) := by decide +kernel
theorem dX5_put_29 : decode cX5_put 29 = .ok (.return_, 1) := by decide +kernel
theorem dX5_firstFault_0 : decode cX5_firstFault 0 = .ok (.iconst 0, 1) := by decide +kernel
theorem dX5_firstFault_1 : decode cX5_firstFault 1 = .ok (.istore_n 1, 1) := by decide +kernel
theorem dX5_firstFault_2 : decode cX5_firstFault 2 = .ok (.iload_n 1, 1) := by decide +kernel
theorem dX5_firstFault_3 : decode cX5_firstFault 3 = .ok (.aload_n 0, 1) := by decide +kernel
theorem dX5_firstFault_4 : decode cX5_firstFault 4 = .ok (.getfield 15, 3) := by decide +kernel
theorem dX5_firstFault_7 : decode cX5_firstFault 7 = .ok (.if_icmp .ge 19, 3) := by decide +kernel
theorem dX5_firstFault_10 : decode cX5_firstFault 10 = .ok (.aload_n 0, 1) := by decide +kernel
theorem dX5_firstFault_11 : decode cX5_firstFault 11 = .ok (.iload_n 1, 1) := by decide +kernel
theorem dX5_firstFault_12 : decode cX5_firstFault 12 = .ok (.invokevirtual 19, 3) := by decide +kernel
theorem dX5_firstFault_15 : decode cX5_firstFault 15 = .ok (.ifCond .ne 5, 3) := by decide +kernel
theorem dX5_firstFault_18 : decode cX5_firstFault 18 = .ok (.iload_n 1, 1) := by decide +kernel
theorem dX5_firstFault_19 : decode cX5_firstFault 19 = .ok (.ireturn, 1) := by decide +kernel
theorem dX5_firstFault_20 : decode cX5_firstFault 20 = .ok (.iinc 1 1, 3) := by decide +kernel
theorem dX5_firstFault_23 : decode cX5_firstFault 23 = .ok (.goto (-21), 3) := by decide +kernel
theorem dX5_firstFault_26 : decode cX5_firstFault 26 = .ok (.aload_n 0, 1) := by decide +kernel
theorem dX5_firstFault_27 : decode cX5_firstFault 27 = .ok (.getfield 15, 3) := by decide +kernel
theorem dX5_firstFault_30 : decode cX5_firstFault 30 = .ok (.ireturn, 1) := by decide +kernel
theorem dX5_isLaw_0 : decode cX5_isLaw 0 = .ok (.aload_n 0, 1) := by decide +kernel
theorem dX5_isLaw_1 : decode cX5_isLaw 1 = .ok (.getfield 15, 3) := by decide +kernel
theorem dX5_isLaw_4 : decode cX5_isLaw 4 = .ok (.iconst 4, 1) := by decide +kernel
theorem dX5_isLaw_5 : decode cX5_isLaw 5 = .ok (.if_icmp .ne 15, 3) := by decide +kernel
theorem dX5_isLaw_8 : decode cX5_isLaw 8 = .ok (.aload_n 0, 1) := by decide +kernel
theorem dX5_isLaw_9 : decode cX5_isLaw 9 = .ok (.invokevirtual 23, 3) := by decide +kernel
theorem dX5_isLaw_12 : decode cX5_isLaw 12 = .ok (.iconst 4, 1) := by decide +kernel
theorem dX5_isLaw_13 : decode cX5_isLaw 13 = .ok (.if_icmp .ne 7, 3) := by decide +kernel
theorem dX5_isLaw_16 : decode cX5_isLaw 16 = .ok (.iconst 1, 1) := by decide +kernel
theorem dX5_isLaw_17 : decode cX5_isLaw 17 = .ok (.goto 4, 3) := by decide +kernel
theorem dX5_isLaw_20 : decode cX5_isLaw 20 = .ok (.iconst 0, 1) := by decide +kernel
theorem dX5_isLaw_21 : decode cX5_isLaw 21 = .ok (.ireturn, 1) := by decide +kernel
theorem dX5_digit_0 : decode cX5_digit 0 = .ok (.aload_n 0, 1) := by decide +kernel
theorem dX5_digit_1 : decode cX5_digit 1 = .ok (.getfield 9, 3) := by decide +kernel
theorem dX5_digit_4 : decode cX5_digit 4 = .ok (.iload_n 1, 1) := by decide +kernel
theorem dX5_digit_5 : decode cX5_digit 5 = .ok (.iaload, 1) := by decide +kernel
theorem dX5_digit_6 : decode cX5_digit 6 = .ok (.bipush 48, 2) := by decide +kernel
theorem dX5_digit_8 : decode cX5_digit 8 = .ok (.isub, 1) := by decide +kernel
theorem dX5_digit_9 : decode cX5_digit 9 = .ok (.ireturn, 1) := by decide +kernel
theorem dX5_fits_0 : decode cX5_fits 0 = .ok (.iload_n 1, 1) := by decide +kernel
theorem dX5_fits_1 : decode cX5_fits 1 = .ok (.iconst 4, 1) := by decide +kernel
theorem dX5_fits_2 : decode cX5_fits 2 = .ok (.if_icmp .lt 5, 3) := by decide +kernel
theorem dX5_fits_5 : decode cX5_fits 5 = .ok (.iconst 0, 1) := by decide +kernel
theorem dX5_fits_6 : decode cX5_fits 6 = .ok (.ireturn, 1) := by decide +kernel
theorem dX5_fits_7 : decode cX5_fits 7 = .ok (.iload_n 1, 1) := by decide +kernel
theorem dX5_fits_8 : decode cX5_fits 8 = .ok (.iconst 1, 1) := by decide +kernel
theorem dX5_fits_9 : decode cX5_fits 9 = .ok (.if_icmp .ne 31, 3) := by decide +kernel
theorem dX5_fits_12 : decode cX5_fits 12 = .ok (.aload_n 0, 1) := by decide +kernel
theorem dX5_fits_13 : decode cX5_fits 13 = .ok (.getfield 9, 3) := by decide +kernel
theorem dX5_fits_16 : decode cX5_fits 16 = .ok (.iload_n 1, 1) := by decide +kernel
theorem dX5_fits_17 : decode cX5_fits 17 = .ok (.iaload, 1) := by decide +kernel
theorem dX5_fits_18 : decode cX5_fits 18 = .ok (.bipush 117, 2) := by decide +kernel
theorem dX5_fits_20 : decode cX5_fits 20 = .ok (.if_icmp .eq 14, 3) := by decide +kernel
theorem dX5_fits_23 : decode cX5_fits 23 = .ok (.aload_n 0, 1) := by decide +kernel
theorem dX5_fits_24 : decode cX5_fits 24 = .ok (.getfield 9, 3) := by decide +kernel
theorem dX5_fits_27 : decode cX5_fits 27 = .ok (.iload_n 1, 1) := by decide +kernel
theorem dX5_fits_28 : decode cX5_fits 28 = .ok (.iaload, 1) := by decide +kernel
theorem dX5_fits_29 : decode cX5_fits 29 = .ok (.bipush 100, 2) := by decide +kernel
theorem dX5_fits_31 : decode cX5_fits 31 = .ok (.if_icmp .ne 7, 3) := by decide +kernel
theorem dX5_fits_34 : decode cX5_fits 34 = .ok (.iconst 1, 1) := by decide +kernel
theorem dX5_fits_35 : decode cX5_fits 35 = .ok (.goto 4, 3) := by decide +kernel
theorem dX5_fits_38 : decode cX5_fits 38 = .ok (.iconst 0, 1) := by decide +kernel
theorem dX5_fits_39 : decode cX5_fits 39 = .ok (.ireturn, 1) := by decide +kernel
theorem dX5_fits_40 : decode cX5_fits 40 = .ok (.aload_n 0, 1) := by decide +kernel
theorem dX5_fits_41 : decode cX5_fits 41 = .ok (.iload_n 1, 1) := by decide +kernel
theorem dX5_fits_42 : decode cX5_fits 42 = .ok (.invokevirtual 27, 3) := by decide +kernel
theorem dX5_fits_45 : decode cX5_fits 45 = .ok (.iconst 0, 1) := by decide +kernel
theorem dX5_fits_46 : decode cX5_fits 46 = .ok (.bipush 9, 2) := by decide +kernel
theorem dX5_fits_48 : decode cX5_fits 48 = .ok (.invokestatic 31, 3) := by decide +kernel
theorem dX5_fits_51 : decode cX5_fits 51 = .ok (.ireturn, 1) := by decide +kernel
theorem dX6_init_0 : decode cX6_init 0 = .ok (.aload_n 0, 1) := by decide +kernel
theorem dX6_init_1 : decode cX6_init 1 = .ok (.invokespecial 3, 3) := by decide +kernel
theorem dX6_init_4 : decode cX6_init 4 = .ok (.aload_n 0, 1) := by decide +kernel
theorem dX6_init_5 : decode cX6_init 5 = .ok (.iconst 4, 1) := by decide +kernel
theorem dX6_init_6 : decode cX6_init 6 = .ok (.newarray .int, 2) := by decide +kernel
theorem dX6_init_8 : decode cX6_init 8 = .ok (.putfield 9, 3) := by decide +kernel
theorem dX6_init_11 : decode cX6_init 11 = .ok (.aload_n 0, 1) := by decide +kernel
theorem dX6_init_12 : decode cX6_init 12 = .ok (.iconst 4, 1) := by decide +kernel
theorem dX6_init_13 : decode cX6_init 13 = .ok (.newarray .int, 2) := by decide +kernel
theorem dX6_init_15 : decode cX6_init 15 = .ok (.putfield 15, 3) := by decide +kernel
theorem dX6_init_18 : decode cX6_init 18 = .ok (.return_, 1) := by decide +kernel
theorem dX6_search_0 : decode cX6_search 0 = .ok (.aload_n 0, 1) := by decide +kernel
theorem dX6_search_1 : decode cX6_search 1 = .ok (.iconst 0, 1) := by decide +kernel
theorem dX6_search_2 : decode cX6_search 2 = .ok (.putfield 18, 3) := by decide +kernel
theorem dX6_search_5 : decode cX6_search 5 = .ok (.aload_n 0, 1) := by decide +kernel
theorem dX6_search_6 : decode cX6_search 6 = .ok (.iconst 0, 1) := by decide +kernel
theorem dX6_search_7 : decode cX6_search 7 = .ok (.putfield 22, 3) := by decide +kernel
theorem dX6_search_10 : decode cX6_search 10 = .ok (.iconst 2, 1) := by decide +kernel
theorem dX6_search_11 : decode cX6_search 11 = .ok (.istore_n 2, 1) := by decide +kernel
theorem dX6_search_12 : decode cX6_search 12 = .ok (.iload_n 2, 1) := by decide +kernel
theorem dX6_search_13 : decode cX6_search 13 = .ok (.iconst 4, 1) := by decide +kernel
theorem dX6_search_14 : decode cX6_search 14 = .ok (.if_icmp .gt 42, 3) := by decide +kernel
theorem dX6_search_17 : decode cX6_search 17 = .ok (.iconst 0, 1) := by decide +kernel
theorem dX6_search_18 : decode cX6_search 18 = .ok (.istore_n 3, 1) := by decide +kernel
theorem dX6_search_19 : decode cX6_search 19 = .ok (.iload_n 3, 1) := by decide +kernel
theorem dX6_search_20 : decode cX6_search 20 = .ok (.aload_n 1, 1) := by decide +kernel
theorem dX6_search_21 : decode cX6_search 21 = .ok (.getfield 25, 3) := by decide +kernel
theorem dX6_search_24 : decode cX6_search 24 = .ok (.if_icmp .ge 26, 3) := by decide +kernel
theorem dX6_search_27 : decode cX6_search 27 = .ok (.aload_n 0, 1) := by decide +kernel
theorem dX6_search_28 : decode cX6_search 28 = .ok (.getfield 9, 3) := by decide +kernel
theorem dX6_search_31 : decode cX6_search 31 = .ok (.iconst 0, 1) := by decide +kernel
theorem dX6_search_32 : decode cX6_search 32 = .ok (.iload_n 3, 1) := by decide +kernel
theorem dX6_search_33 : decode cX6_search 33 = .ok (.iastore, 1) := by decide +kernel
theorem dX6_search_34 : decode cX6_search 34 = .ok (.aload_n 0, 1) := by decide +kernel
theorem dX6_search_35 : decode cX6_search 35 = .ok (.aload_n 1, 1) := by decide +kernel
theorem dX6_search_36 : decode cX6_search 36 = .ok (.iconst 1, 1) := by decide +kernel
theorem dX6_search_37 : decode cX6_search 37 = .ok (.iload_n 2, 1) := by decide +kernel
theorem dX6_search_38 : decode cX6_search 38 = .ok (.sipush 9999, 3) := by decide +kernel
theorem dX6_search_41 : decode cX6_search 41 = .ok (.invokevirtual 30, 3) := by decide +kernel
theorem dX6_search_44 : decode cX6_search 44 = .ok (.iinc 3 1, 3) := by decide +kernel
theorem dX6_search_47 : decode cX6_search 47 = .ok (.goto (-28), 3) := by decide +kernel
theorem dX6_search_50 : decode cX6_search 50 = .ok (.iinc 2 1, 3) := by decide +kernel
theorem dX6_search_53 : decode cX6_search 53 = .ok (.goto (-41), 3) := by decide +kernel
theorem dX6_search_56 : decode cX6_search 56 = .ok (.return_, 1) := by decide +kernel
theorem dX6_tell_0 : decode cX6_tell 0 = .ok (.iload_n 1, 1) := by decide +kernel
theorem dX6_tell_1 : decode cX6_tell 1 = .ok (.ifCond .ne 8, 3) := by decide +kernel
theorem dX6_tell_4 : decode cX6_tell 4 = .ok (.aload_n 0, 1) := by decide +kernel
theorem dX6_tell_5 : decode cX6_tell 5 = .ok (.getfield 22, 3) := by decide +kernel
theorem dX6_tell_8 : decode cX6_tell 8 = .ok (.ireturn, 1) := by decide +kernel
theorem dX6_tell_9 : decode cX6_tell 9 = .ok (.iload_n 1, 1) := by decide +kernel
theorem dX6_tell_10 : decode cX6_tell 10 = .ok (.iconst 1, 1) := by decide +kernel
theorem dX6_tell_11 : decode cX6_tell 11 = .ok (.if_icmp .ne 8, 3) := by decide +kernel
theorem dX6_tell_14 : decode cX6_tell 14 = .ok (.aload_n 0, 1) := by decide +kernel
theorem dX6_tell_15 : decode cX6_tell 15 = .ok (.getfield 18, 3) := by decide +kernel
theorem dX6_tell_18 : decode cX6_tell 18 = .ok (.ireturn, 1) := by decide +kernel
theorem dX6_tell_19 : decode cX6_tell 19 = .ok (.iload_n 1, 1) := by decide +kernel
theorem dX6_tell_20 : decode cX6_tell 20 = .ok (.bipush 10, 2) := by decide +kernel
theorem dX6_tell_22 : decode cX6_tell 22 = .ok (.isub, 1) := by decide +kernel
theorem dX6_tell_23 : decode cX6_tell 23 = .ok (.istore_n 2, 1) := by decide +kernel
theorem dX6_tell_24 : decode cX6_tell 24 = .ok (.iload_n 2, 1) := by decide +kernel
theorem dX6_tell_25 : decode cX6_tell 25 = .ok (.ifCond .lt 20, 3) := by decide +kernel
theorem dX6_tell_28 : decode cX6_tell 28 = .ok (.iload_n 2, 1) := by decide +kernel
theorem dX6_tell_29 : decode cX6_tell 29 = .ok (.aload_n 0, 1) := by decide +kernel
theorem dX6_tell_30 : decode cX6_tell 30 = .ok (.getfield 18, 3) := by decide +kernel
theorem dX6_tell_33 : decode cX6_tell 33 = .ok (.if_icmp .ge 12, 3) := by decide +kernel
theorem dX6_tell_36 : decode cX6_tell 36 = .ok (.aload_n 0, 1) := by decide +kernel
theorem dX6_tell_37 : decode cX6_tell 37 = .ok (.getfield 15, 3) := by decide +kernel
theorem dX6_tell_40 : decode cX6_tell 40 = .ok (.iload_n 2, 1) := by decide +kernel
theorem dX6_tell_41 : decode cX6_tell 41 = .ok (.iaload, 1) := by decide +kernel
theorem dX6_tell_42 : decode cX6_tell 42 = .ok (.goto 4, 3) := by decide +kernel
theorem dX6_tell_45 : decode cX6_tell 45 = .ok (.iconst (-1), 1) := by decide +kernel
theorem dX6_tell_46 : decode cX6_tell 46 = .ok (.ireturn, 1) := by decide +kernel
theorem dX6_extend_0 : decode cX6_extend 0 = .ok (.aload_n 0, 1) := by decide +kernel
theorem dX6_extend_1 : decode cX6_extend 1 = .ok (.getfield 9, 3) := by decide +kernel
theorem dX6_extend_4 : decode cX6_extend 4 = .ok (.iload_n 2, 1) := by decide +kernel
theorem dX6_extend_5 : decode cX6_extend 5 = .ok (.iconst 1, 1) := by decide +kernel
theorem dX6_extend_6 : decode cX6_extend 6 = .ok (.isub, 1) := by decide +kernel
theorem dX6_extend_7 : decode cX6_extend 7 = .ok (.iaload, 1) := by decide +kernel
theorem dX6_extend_8 : decode cX6_extend 8 = .ok (.istore 5, 2) := by decide +kernel
theorem dX6_extend_10 : decode cX6_extend 10 = .ok (.iload_n 2, 1) := by decide +kernel
theorem dX6_extend_11 : decode cX6_extend 11 = .ok (.iload_n 3, 1) := by decide +kernel
theorem dX6_extend_12 : decode cX6_extend 12 = .ok (.if_icmp .lt 30, 3) := by decide +kernel
theorem dX6_extend_15 : decode cX6_extend 15 = .ok (.aload_n 0, 1) := by decide +kernel
theorem dX6_extend_16 : decode cX6_extend 16 = .ok (.iload_n 3, 1) := by decide +kernel
theorem dX6_extend_17 : decode cX6_extend 17 = .ok (.iload 4, 2) := by decide +kernel
theorem dX6_extend_19 : decode cX6_extend 19 = .ok (.aload_n 1, 1) := by decide +kernel
theorem dX6_extend_20 : decode cX6_extend 20 = .ok (.getfield 34, 3) := by decide +kernel
theorem dX6_extend_23 : decode cX6_extend 23 = .ok (.iload 5, 2) := by decide +kernel
theorem dX6_extend_25 : decode cX6_extend 25 = .ok (.aload_n 0, 1) := by decide +kernel
theorem dX6_extend_26 : decode cX6_extend 26 = .ok (.getfield 9, 3) := by decide +kernel
theorem dX6_extend_29 : decode cX6_extend 29 = .ok (.iconst 0, 1) := by decide +kernel
theorem dX6_extend_30 : decode cX6_extend 30 = .ok (.iaload, 1) := by decide +kernel
theorem dX6_extend_31 : decode cX6_extend 31 = .ok (.invokestatic 37, 3) := by decide +kernel
theorem dX6_extend_34 : decode cX6_extend 34 = .ok (.iaload, 1) := by decide +kernel
theorem dX6_extend_35 : decode cX6_extend 35 = .ok (.invokestatic 41, 3) := by decide +kernel
theorem dX6_extend_38 : decode cX6_extend 38 = .ok (.invokevirtual 46, 3) := by decide +kernel
theorem dX6_extend_41 : decode cX6_extend 41 = .ok (.return_, 1) := by decide +kernel
theorem dX6_extend_42 : decode cX6_extend 42 = .ok (.aload_n 0, 1) := by decide +kernel
theorem dX6_extend_43 : decode cX6_extend 43 = .ok (.getfield 9, 3) := by decide +kernel
theorem dX6_extend_46 : decode cX6_extend 46 = .ok (.iconst 0, 1) := by decide +kernel
theorem dX6_extend_47 : decode cX6_extend 47 = .ok (.iaload, 1) := by decide +kernel
theorem dX6_extend_48 : decode cX6_extend 48 = .ok (.iconst 1, 1) := by decide +kernel
theorem dX6_extend_49 : decode cX6_extend 49 = .ok (.iadd, 1) := by decide +kernel
theorem dX6_extend_50 : decode cX6_extend 50 = .ok (.istore 6, 2) := by decide +kernel
theorem dX6_extend_52 : decode cX6_extend 52 = .ok (.iload 6, 2) := by decide +kernel
theorem dX6_extend_54 : decode cX6_extend 54 = .ok (.aload_n 1, 1) := by decide +kernel
theorem dX6_extend_55 : decode cX6_extend 55 = .ok (.getfield 25, 3) := by decide +kernel
theorem dX6_extend_58 : decode cX6_extend 58 = .ok (.if_icmp .ge 68, 3) := by decide +kernel
theorem dX6_extend_61 : decode cX6_extend 61 = .ok (.iload 4, 2) := by decide +kernel
theorem dX6_extend_63 : decode cX6_extend 63 = .ok (.aload_n 1, 1) := by decide +kernel
theorem dX6_extend_64 : decode cX6_extend 64 = .ok (.getfield 34, 3) := by decide +kernel
theorem dX6_extend_67 : decode cX6_extend 67 = .ok (.iload 5, 2) := by decide +kernel
theorem dX6_extend_69 : decode cX6_extend 69 = .ok (.iload 6, 2) := by decide +kernel
theorem dX6_extend_71 : decode cX6_extend 71 = .ok (.invokestatic 37, 3) := by decide +kernel
theorem dX6_extend_74 : decode cX6_extend 74 = .ok (.iaload, 1) := by decide +kernel
theorem dX6_extend_75 : decode cX6_extend 75 = .ok (.invokestatic 41, 3) := by decide +kernel
theorem dX6_extend_78 : decode cX6_extend 78 = .ok (.istore 7, 2) := by decide +kernel
theorem dX6_extend_80 : decode cX6_extend 80 = .ok (.iload 7, 2) := by decide +kernel
theorem dX6_extend_82 : decode cX6_extend 82 = .ok (.iload_n 3, 1) := by decide +kernel
theorem dX6_extend_83 : decode cX6_extend 83 = .ok (.imul, 1) := by decide +kernel
theorem dX6_extend_84 : decode cX6_extend 84 = .ok (.aload_n 0, 1) := by decide +kernel
theorem dX6_extend_85 : decode cX6_extend 85 = .ok (.getfield 22, 3) := by decide +kernel
theorem dX6_extend_88 : decode cX6_extend 88 = .ok (.if_icmp .le 32, 3) := by decide +kernel
theorem dX6_extend_91 : decode cX6_extend 91 = .ok (.aload_n 0, 1) := by decide +kernel
theorem dX6_extend_92 : decode cX6_extend 92 = .ok (.iload 6, 2) := by decide +kernel
theorem dX6_extend_94 : decode cX6_extend 94 = .ok (.iload_n 2, 1) := by decide +kernel
theorem dX6_extend_95 : decode cX6_extend 95 = .ok (.invokevirtual 50, 3) := by decide +kernel
theorem dX6_extend_98 : decode cX6_extend 98 = .ok (.ifCond .ne 22, 3) := by decide +kernel
theorem dX6_extend_101 : decode cX6_extend 101 = .ok (.aload_n 0, 1) := by decide +kernel
theorem dX6_extend_102 : decode cX6_extend 102 = .ok (.getfield 9, 3) := by decide +kernel
theorem dX6_extend_105 : decode cX6_extend 105 = .ok (.iload_n 2, 1) := by decide +kernel
theorem dX6_extend_106 : decode cX6_extend 106 = .ok (.iload 6, 2) := by decide +kernel
theorem dX6_extend_108 : decode cX6_extend 108 = .ok (.iastore, 1) := by decide +kernel
theorem dX6_extend_109 : decode cX6_extend 109 = .ok (.aload_n 0, 1) := by decide +kernel
theorem dX6_extend_110 : decode cX6_extend 110 = .ok (.aload_n 1, 1) := by decide +kernel
theorem dX6_extend_111 : decode cX6_extend 111 = .ok (.iload_n 2, 1) := by decide +kernel
theorem dX6_extend_112 : decode cX6_extend 112 = .ok (.iconst 1, 1) := by decide +kernel
theorem dX6_extend_113 : decode cX6_extend 113 = .ok (.iadd, 1) := by decide +kernel
theorem dX6_extend_114 : decode cX6_extend 114 = .ok (.iload_n 3, 1) := by decide +kernel
theorem dX6_extend_115 : decode cX6_extend 115 = .ok (.iload 7, 2) := by decide +kernel
theorem dX6_extend_117 : decode cX6_extend 117 = .ok (.invokevirtual 30, 3) := by decide +kernel
theorem dX6_extend_120 : decode cX6_extend 120 = .ok (.iinc 6 1, 3) := by decide +kernel
theorem dX6_extend_123 : decode cX6_extend 123 = .ok (.goto (-71), 3) := by decide +kernel
theorem dX6_extend_126 : decode cX6_extend 126 = .ok (.return_, 1) := by decide +kernel
theorem dX6_isInRow_0 : decode cX6_isInRow 0 = .ok (.iconst 0, 1) := by decide +kernel
theorem dX6_isInRow_1 : decode cX6_isInRow 1 = .ok (.istore_n 3, 1) := by decide +kernel
theorem dX6_isInRow_2 : decode cX6_isInRow 2 = .ok (.iload_n 3, 1) := by decide +kernel
theorem dX6_isInRow_3 : decode cX6_isInRow 3 = .ok (.iload_n 2, 1) := by decide +kernel
theorem dX6_isInRow_4 : decode cX6_isInRow 4 = .ok (.if_icmp .ge 21, 3) := by decide +kernel
theorem dX6_isInRow_7 : decode cX6_isInRow 7 = .ok (.aload_n 0, 1) := by decide +kernel
theorem dX6_isInRow_8 : decode cX6_isInRow 8 = .ok (.getfield 9, 3) := by decide +kernel
theorem dX6_isInRow_11 : decode cX6_isInRow 11 = .ok (.iload_n 3, 1) := by decide +kernel
theorem dX6_isInRow_12 : decode cX6_isInRow 12 = .ok (.iaload, 1) := by decide +kernel
theorem dX6_isInRow_13 : decode cX6_isInRow 13 = .ok (.iload_n 1, 1) := by decide +kernel
theorem dX6_isInRow_14 : decode cX6_isInRow 14 = .ok (.if_icmp .ne 5, 3) := by decide +kernel
theorem dX6_isInRow_17 : decode cX6_isInRow 17 = .ok (.iconst 1, 1) := by decide +kernel
theorem dX6_isInRow_18 : decode cX6_isInRow 18 = .ok (.ireturn, 1) := by decide +kernel
theorem dX6_isInRow_19 : decode cX6_isInRow 19 = .ok (.iinc 3 1, 3) := by decide +kernel
theorem dX6_isInRow_22 : decode cX6_isInRow 22 = .ok (.goto (-20), 3) := by decide +kernel
theorem dX6_isInRow_25 : decode cX6_isInRow 25 = .ok (.iconst 0, 1) := by decide +kernel
theorem dX6_isInRow_26 : decode cX6_isInRow 26 = .ok (.ireturn, 1) := by decide +kernel
theorem dX6_close_0 : decode cX6_close 0 = .ok (.iload_n 2, 1) := by decide +kernel
theorem dX6_close_1 : decode cX6_close 1 = .ok (.iload_n 1, 1) := by decide +kernel
theorem dX6_close_2 : decode cX6_close 2 = .ok (.imul, 1) := by decide +kernel
theorem dX6_close_3 : decode cX6_close 3 = .ok (.aload_n 0, 1) := by decide +kernel
theorem dX6_close_4 : decode cX6_close 4 = .ok (.getfield 22, 3) := by decide +kernel
theorem dX6_close_7 : decode cX6_close 7 = .ok (.if_icmp .le 29, 3) := by decide +kernel
theorem dX6_close_10 : decode cX6_close 10 = .ok (.aload_n 0, 1) := by decide +kernel
theorem dX6_close_11 : decode cX6_close 11 = .ok (.iload_n 2, 1) := by decide +kernel
theorem dX6_close_12 : decode cX6_close 12 = .ok (.iload_n 1, 1) := by decide +kernel
theorem dX6_close_13 : decode cX6_close 13 = .ok (.imul, 1) := by decide +kernel
theorem dX6_close_14 : decode cX6_close 14 = .ok (.putfield 22, 3) := by decide +kernel
theorem dX6_close_17 : decode cX6_close 17 = .ok (.aload_n 0, 1) := by decide +kernel
theorem dX6_close_18 : decode cX6_close 18 = .ok (.iload_n 1, 1) := by decide +kernel
theorem dX6_close_19 : decode cX6_close 19 = .ok (.putfield 18, 3) := by decide +kernel
theorem dX6_close_22 : decode cX6_close 22 = .ok (.aload_n 0, 1) := by decide +kernel
theorem dX6_close_23 : decode cX6_close 23 = .ok (.getfield 9, 3) := by decide +kernel
theorem dX6_close_26 : decode cX6_close 26 = .ok (.iconst 0, 1) := by decide +kernel
theorem dX6_close_27 : decode cX6_close 27 = .ok (.aload_n 0, 1) := by decide +kernel
theorem dX6_close_28 : decode cX6_close 28 = .ok (.getfield 15, 3) := by decide +kernel
theorem dX6_close_31 : decode cX6_close 31 = .ok (.iconst 0, 1) := by decide +kernel
theorem dX6_close_32 : decode cX6_close 32 = .ok (.iload_n 1, 1) := by decide +kernel
theorem dX6_close_33 : decode cX6_close 33 = .ok (.invokestatic 54, 3) := by decide +kernel
theorem dX6_close_36 : decode cX6_close 36 = .ok (.return_, 1) := by decide +kernel
theorem dX7_init_0 : decode cX7_init 0 = .ok (.aload_n 0, 1) := by decide +kernel
theorem dX7_init_1 : decode cX7_init 1 = .ok (.invokespecial 3, 3) := by decide +kernel
theorem dX7_init_4 : decode cX7_init 4 = .ok (.aload_n 0, 1) := by decide +kernel
theorem dX7_init_5 : decode cX7_init 5 = .ok (.bipush 32, 2) := by decide +kernel
theorem dX7_init_7 : decode cX7_init 7 = .ok (.newarray .int, 2) := by decide +kernel
theorem dX7_init_9 : decode cX7_init 9 = .ok (.putfield 9, 3) := by decide +kernel
theorem dX7_init_12 : decode cX7_init 12 = .ok (.aload_n 0, 1) := by decide +kernel
theorem dX7_init_13 : decode cX7_init 13 = .ok (.bipush 32, 2) := by decide +kernel
theorem dX7_init_15 : decode cX7_init 15 = .ok (.newarray .int, 2) := by decide +kernel
theorem dX7_init_17 : decode cX7_init 17 = .ok (.putfield 15, 3) := by decide +kernel
theorem dX7_init_20 : decode cX7_init 20 = .ok (.return_, 1) := by decide +kernel
theorem dX7_fewestPayments_0 : decode cX7_fewestPayments 0 = .ok (.iconst 1, 1) := by decide +kernel
theorem dX7_fewestPayments_1 : decode cX7_fewestPayments 1 = .ok (.aload_n 1, 1) := by decide +kernel
theorem dX7_fewestPayments_2 : decode cX7_fewestPayments 2 = .ok (.getfield 18, 3) := by decide +kernel
theorem dX7_fewestPayments_5 : decode cX7_fewestPayments 5 = .ok (.ishl, 1) := by decide +kernel
theorem dX7_fewestPayments_6 : decode cX7_fewestPayments 6 = .ok (.istore_n 2, 1) := by decide +kernel
theorem dX7_fewestPayments_7 : decode cX7_fewestPayments 7 = .ok (.iconst 1, 1) := by decide +kernel
theorem dX7_fewestPayments_8 : decode cX7_fewestPayments 8 = .ok (.istore_n 3, 1) := by decide +kernel
theorem dX7_fewestPayments_9 : decode cX7_fewestPayments 9 = .ok (.iload_n 3, 1) := by decide +kernel
theorem dX7_fewestPayments_10 : decode cX7_fewestPayments 10 = .ok (.iload_n 2, 1) := by decide +kernel
theorem dX7_fewestPayments_11 : decode cX7_fewestPayments 11 = .ok (.if_icmp .ge 78, 3) := by decide +kernel
theorem dX7_fewestPayments_14 : decode cX7_fewestPayments 14 = .ok (.iload_n 3, 1) := by decide +kernel
theorem dX7_fewestPayments_15 : decode cX7_fewestPayments 15 = .ok (.invokestatic 24, 3) := by decide +kernel
theorem dX7_fewestPayments_18 : decode cX7_fewestPayments 18 = .ok (.istore 4, 2) := by decide +kernel
theorem dX7_fewestPayments_20 : decode cX7_fewestPayments 20 = .ok (.aload_n 0, 1) := by decide +kernel
theorem dX7_fewestPayments_21 : decode cX7_fewestPayments 21 = .ok (.getfield 9, 3) := by decide +kernel
theorem dX7_fewestPayments_24 : decode cX7_fewestPayments 24 = .ok (.iload_n 3, 1) := by decide +kernel
theorem dX7_fewestPayments_25 : decode cX7_fewestPayments 25 = .ok (.aload_n 0, 1) := by decide +kernel
theorem dX7_fewestPayments_26 : decode cX7_fewestPayments 26 = .ok (.getfield 9, 3) := by decide +kernel
theorem dX7_fewestPayments_29 : decode cX7_fewestPayments 29 = .ok (.iload_n 3, 1) := by decide +kernel
theorem dX7_fewestPayments_30 : decode cX7_fewestPayments 30 = .ok (.iload_n 3, 1) := by decide +kernel
theorem dX7_fewestPayments_31 : decode cX7_fewestPayments 31 = .ok (.iconst 1, 1) := by decide +kernel
theorem dX7_fewestPayments_32 : decode cX7_fewestPayments 32 = .ok (.isub, 1) := by decide +kernel
theorem dX7_fewestPayments_33 : decode cX7_fewestPayments 33 = .ok (.iand, 1) := by decide +kernel
theorem dX7_fewestPayments_34 : decode cX7_fewestPayments 34 = .ok (.iaload, 1) := by decide +kernel
theorem dX7_fewestPayments_35 : decode cX7_fewestPayments 35 = .ok (.aload_n 1, 1) := by decide +kernel
theorem dX7_fewestPayments_36 : decode cX7_fewestPayments 36 = .ok (.iload 4, 2) := by decide +kernel
theorem dX7_fewestPayments_38 : decode cX7_fewestPayments 38 = .ok (.invokevirtual 30, 3) := by decide +kernel
theorem dX7_fewestPayments_41 : decode cX7_fewestPayments 41 = .ok (.iadd, 1) := by decide +kernel
theorem dX7_fewestPayments_42 : decode cX7_fewestPayments 42 = .ok (.aload_n 1, 1) := by decide +kernel
theorem dX7_fewestPayments_43 : decode cX7_fewestPayments 43 = .ok (.iload 4, 2) := by decide +kernel
theorem dX7_fewestPayments_45 : decode cX7_fewestPayments 45 = .ok (.invokevirtual 33, 3) := by decide +kernel
theorem dX7_fewestPayments_48 : decode cX7_fewestPayments 48 = .ok (.isub, 1) := by decide +kernel
theorem dX7_fewestPayments_49 : decode cX7_fewestPayments 49 = .ok (.iastore, 1) := by decide +kernel
theorem dX7_fewestPayments_50 : decode cX7_fewestPayments 50 = .ok (.aload_n 0, 1) := by decide +kernel
theorem dX7_fewestPayments_51 : decode cX7_fewestPayments 51 = .ok (.getfield 15, 3) := by decide +kernel
theorem dX7_fewestPayments_54 : decode cX7_fewestPayments 54 = .ok (.iload_n 3, 1) := by decide +kernel
theorem dX7_fewestPayments_55 : decode cX7_fewestPayments 55 = .ok (.aload_n 0, 1) := by decide +kernel
theorem dX7_fewestPayments_56 : decode cX7_fewestPayments 56 = .ok (.iload_n 3, 1) := by decide +kernel
theorem dX7_fewestPayments_57 : decode cX7_fewestPayments 57 = .ok (.aload_n 1, 1) := by decide +kernel
theorem dX7_fewestPayments_58 : decode cX7_fewestPayments 58 = .ok (.getfield 18, 3) := by decide +kernel
theorem dX7_fewestPayments_61 : decode cX7_fewestPayments 61 = .ok (.invokevirtual 36, 3) := by decide +kernel
theorem dX7_fewestPayments_64 : decode cX7_fewestPayments 64 = .ok (.aload_n 0, 1) := by decide +kernel
theorem dX7_fewestPayments_65 : decode cX7_fewestPayments 65 = .ok (.getfield 9, 3) := by decide +kernel
theorem dX7_fewestPayments_68 : decode cX7_fewestPayments 68 = .ok (.iload_n 3, 1) := by decide +kernel
theorem dX7_fewestPayments_69 : decode cX7_fewestPayments 69 = .ok (.iaload, 1) := by decide +kernel
theorem dX7_fewestPayments_70 : decode cX7_fewestPayments 70 = .ok (.ifCond .ne 7, 3) := by decide +kernel
theorem dX7_fewestPayments_73 : decode cX7_fewestPayments 73 = .ok (.iconst 1, 1) := by decide +kernel
theorem dX7_fewestPayments_74 : decode cX7_fewestPayments 74 = .ok (.goto 4, 3) := by decide +kernel
theorem dX7_fewestPayments_77 : decode cX7_fewestPayments 77 = .ok (.iconst 0, 1) := by decide +kernel
theorem dX7_fewestPayments_78 : decode cX7_fewestPayments 78 = .ok (.invokestatic 40, 3) := by decide +kernel
theorem dX7_fewestPayments_81 : decode cX7_fewestPayments 81 = .ok (.iadd, 1) := by decide +kernel
theorem dX7_fewestPayments_82 : decode cX7_fewestPayments 82 = .ok (.iastore, 1) := by decide +kernel
theorem dX7_fewestPayments_83 : decode cX7_fewestPayments 83 = .ok (.iinc 3 1, 3) := by decide +kernel
theorem dX7_fewestPayments_86 : decode cX7_fewestPayments 86 = .ok (.goto (-77), 3) := by decide +kernel
theorem dX7_fewestPayments_89 : decode cX7_fewestPayments 89 = .ok (.aload_n 1, 1) := by decide +kernel
theorem dX7_fewestPayments_90 : decode cX7_fewestPayments 90 = .ok (.getfield 18, 3) := by decide +kernel
theorem dX7_fewestPayments_93 : decode cX7_fewestPayments 93 = .ok (.aload_n 0, 1) := by decide +kernel
theorem dX7_fewestPayments_94 : decode cX7_fewestPayments 94 = .ok (.getfield 15, 3) := by decide +kernel
theorem dX7_fewestPayments_97 : decode cX7_fewestPayments 97 = .ok (.iload_n 2, 1) := by decide +kernel
theorem dX7_fewestPayments_98 : decode cX7_fewestPayments 98 = .ok (.iconst 1, 1) := by decide +kernel
theorem dX7_fewestPayments_99 : decode cX7_fewestPayments 99 = .ok (.isub, 1) := by decide +kernel
theorem dX7_fewestPayments_100 : decode cX7_fewestPayments 100 = .ok (.iaload, 1) := by decide +kernel
theorem dX7_fewestPayments_101 : decode cX7_fewestPayments 101 = .ok (.isub, 1) := by decide +kernel
theorem dX7_fewestPayments_102 : decode cX7_fewestPayments 102 = .ok (.ireturn, 1) := by decide +kernel
theorem dX7_mostWithoutOne_0 : decode cX7_mostWithoutOne 0 = .ok (.iconst 0, 1) := by decide +kernel
theorem dX7_mostWithoutOne_1 : decode cX7_mostWithoutOne 1 = .ok (.istore_n 3, 1) := by decide +kernel
theorem dX7_mostWithoutOne_2 : decode cX7_mostWithoutOne 2 = .ok (.iconst 0, 1) := by decide +kernel
theorem dX7_mostWithoutOne_3 : decode cX7_mostWithoutOne 3 = .ok (.istore 4, 2) := by decide +kernel
theorem dX7_mostWithoutOne_5 : decode cX7_mostWithoutOne 5 = .ok (.iload 4, 2) := by decide +kernel
theorem dX7_mostWithoutOne_7 : decode cX7_mostWithoutOne 7 = .ok (.iload_n 2, 1) := by decide +kernel
theorem dX7_mostWithoutOne_8 : decode cX7_mostWithoutOne 8 = .ok (.if_icmp .ge 34, 3) := by decide +kernel
theorem dX7_mostWithoutOne_11 : decode cX7_mostWithoutOne 11 = .ok (.iload 4, 2) := by decide +kernel
theorem dX7_mostWithoutOne_13 : decode cX7_mostWithoutOne 13 = .ok (.iload_n 1, 1) := by decide +kernel
theorem dX7_mostWithoutOne_14 : decode cX7_mostWithoutOne 14 = .ok (.invokestatic 44, 3) := by decide +kernel
theorem dX7_mostWithoutOne_17 : decode cX7_mostWithoutOne 17 = .ok (.ifCond .eq 19, 3) := by decide +kernel
theorem dX7_mostWithoutOne_20 : decode cX7_mostWithoutOne 20 = .ok (.iload_n 3, 1) := by decide +kernel
theorem dX7_mostWithoutOne_21 : decode cX7_mostWithoutOne 21 = .ok (.aload_n 0, 1) := by decide +kernel
theorem dX7_mostWithoutOne_22 : decode cX7_mostWithoutOne 22 = .ok (.getfield 15, 3) := by decide +kernel
theorem dX7_mostWithoutOne_25 : decode cX7_mostWithoutOne 25 = .ok (.iload_n 1, 1) := by decide +kernel
theorem dX7_mostWithoutOne_26 : decode cX7_mostWithoutOne 26 = .ok (.iconst 1, 1) := by decide +kernel
theorem dX7_mostWithoutOne_27 : decode cX7_mostWithoutOne 27 = .ok (.iload 4, 2) := by decide +kernel
theorem dX7_mostWithoutOne_29 : decode cX7_mostWithoutOne 29 = .ok (.ishl, 1) := by decide +kernel
theorem dX7_mostWithoutOne_30 : decode cX7_mostWithoutOne 30 = .ok (.ixor, 1) := by decide +kernel
theorem dX7_mostWithoutOne_31 : decode cX7_mostWithoutOne 31 = .ok (.iaload, 1) := by decide +kernel
theorem dX7_mostWithoutOne_32 : decode cX7_mostWithoutOne 32 = .ok (.invokestatic 48, 3) := by decide +kernel
theorem dX7_mostWithoutOne_35 : decode cX7_mostWithoutOne 35 = .ok (.istore_n 3, 1) := by decide +kernel
theorem dX7_mostWithoutOne_36 : decode cX7_mostWithoutOne 36 = .ok (.iinc 4 1, 3) := by decide +kernel
theorem dX7_mostWithoutOne_39 : decode cX7_mostWithoutOne 39 = .ok (.goto (-34), 3) := by decide +kernel
theorem dX7_mostWithoutOne_42 : decode cX7_mostWithoutOne 42 = .ok (.iload_n 3, 1) := by decide +kernel
theorem dX7_mostWithoutOne_43 : decode cX7_mostWithoutOne 43 = .ok (.ireturn, 1) := by decide +kernel
theorem dX8_init_0 : decode cX8_init 0 = .ok (.aload_n 0, 1) := by decide +kernel
theorem dX8_init_1 : decode cX8_init 1 = .ok (.invokespecial 3, 3) := by decide +kernel
theorem dX8_init_4 : decode cX8_init 4 = .ok (.aload_n 0, 1) := by decide +kernel
theorem dX8_init_5 : decode cX8_init 5 = .ok (.new 9, 3) := by decide +kernel
theorem dX8_init_8 : decode cX8_init 8 = .ok (.dup, 1) := by decide +kernel
theorem dX8_init_9 : decode cX8_init 9 = .ok (.invokespecial 11, 3) := by decide +kernel
theorem dX8_init_12 : decode cX8_init 12 = .ok (.putfield 12, 3) := by decide +kernel
theorem dX8_init_15 : decode cX8_init 15 = .ok (.aload_n 0, 1) := by decide +kernel
theorem dX8_init_16 : decode cX8_init 16 = .ok (.iconst 5, 1) := by decide +kernel
theorem dX8_init_17 : decode cX8_init 17 = .ok (.newarray .int, 2) := by decide +kernel
theorem dX8_init_19 : decode cX8_init 19 = .ok (.putfield 18, 3) := by decide +kernel
theorem dX8_init_22 : decode cX8_init 22 = .ok (.aload_n 0, 1) := by decide +kernel
theorem dX8_init_23 : decode cX8_init 23 = .ok (.iconst 5, 1) := by decide +kernel
theorem dX8_init_24 : decode cX8_init 24 = .ok (.newarray .int, 2) := by decide +kernel
theorem dX8_init_26 : decode cX8_init 26 = .ok (.putfield 22, 3) := by decide +kernel
theorem dX8_init_29 : decode cX8_init 29 = .ok (.aload_n 0, 1) := by decide +kernel
theorem dX8_init_30 : decode cX8_init 30 = .ok (.bipush 25, 2) := by decide +kernel
theorem dX8_init_32 : decode cX8_init 32 = .ok (.newarray .int, 2) := by decide +kernel
theorem dX8_init_34 : decode cX8_init 34 = .ok (.putfield 25, 3) := by decide +kernel
theorem dX8_init_37 : decode cX8_init 37 = .ok (.aload_n 0, 1) := by decide +kernel
theorem dX8_init_38 : decode cX8_init 38 = .ok (.bipush 25, 2) := by decide +kernel
theorem dX8_init_40 : decode cX8_init 40 = .ok (.newarray .int, 2) := by decide +kernel
theorem dX8_init_42 : decode cX8_init 42 = .ok (.putfield 28, 3) := by decide +kernel
theorem dX8_init_45 : decode cX8_init 45 = .ok (.aload_n 0, 1) := by decide +kernel
theorem dX8_init_46 : decode cX8_init 46 = .ok (.bipush 25, 2) := by decide +kernel
theorem dX8_init_48 : decode cX8_init 48 = .ok (.newarray .int, 2) := by decide +kernel
theorem dX8_init_50 : decode cX8_init 50 = .ok (.putfield 31, 3) := by decide +kernel
theorem dX8_init_53 : decode cX8_init 53 = .ok (.return_, 1) := by decide +kernel
theorem dX8_copyFrom_0 : decode cX8_copyFrom 0 = .ok (.aload_n 0, 1) := by decide +kernel
theorem dX8_copyFrom_1 : decode cX8_copyFrom 1 = .ok (.getfield 12, 3) := by decide +kernel
theorem dX8_copyFrom_4 : decode cX8_copyFrom 4 = .ok (.aload_n 1, 1) := by decide +kernel
theorem dX8_copyFrom_5 : decode cX8_copyFrom 5 = .ok (.getfield 12, 3) := by decide +kernel
theorem dX8_copyFrom_8 : decode cX8_copyFrom 8 = .ok (.invokevirtual 34, 3) := by decide +kernel
theorem dX8_copyFrom_11 : decode cX8_copyFrom 11 = .ok (.aload_n 1, 1) := by decide +kernel
theorem dX8_copyFrom_12 : decode cX8_copyFrom 12 = .ok (.getfield 18, 3) := by decide +kernel
theorem dX8_copyFrom_15 : decode cX8_copyFrom 15 = .ok (.iconst 0, 1) := by decide +kernel
theorem dX8_copyFrom_16 : decode cX8_copyFrom 16 = .ok (.aload_n 0, 1) := by decide +kernel
theorem dX8_copyFrom_17 : decode cX8_copyFrom 17 = .ok (.getfield 18, 3) := by decide +kernel
theorem dX8_copyFrom_20 : decode cX8_copyFrom 20 = .ok (.iconst 0, 1) := by decide +kernel
theorem dX8_copyFrom_21 : decode cX8_copyFrom 21 = .ok (.iconst 5, 1) := by decide +kernel
theorem dX8_copyFrom_22 : decode cX8_copyFrom 22 = .ok (.invokestatic 38, 3) := by decide +kernel
theorem dX8_copyFrom_25 : decode cX8_copyFrom 25 = .ok (.aload_n 1, 1) := by decide +kernel
theorem dX8_copyFrom_26 : decode cX8_copyFrom 26 = .ok (.getfield 22, 3) := by decide +kernel
theorem dX8_copyFrom_29 : decode cX8_copyFrom 29 = .ok (.iconst 0, 1) := by decide +kernel
theorem dX8_copyFrom_30 : decode cX8_copyFrom 30 = .ok (.aload_n 0, 1) := by decide +kernel
theorem dX8_copyFrom_31 : decode cX8_copyFrom 31 = .ok (.getfield 22, 3) := by decide +kernel
theorem dX8_copyFrom_34 : decode cX8_copyFrom 34 = .ok (.iconst 0, 1) := by decide +kernel
theorem dX8_copyFrom_35 : decode cX8_copyFrom 35 = .ok (.iconst 5, 1) := by decide +kernel
theorem dX8_copyFrom_36 : decode cX8_copyFrom 36 = .ok (.invokestatic 38, 3) := by decide +kernel
theorem dX8_copyFrom_39 : decode cX8_copyFrom 39 = .ok (.aload_n 1, 1) := by decide +kernel
theorem dX8_copyFrom_40 : decode cX8_copyFrom 40 = .ok (.getfield 25, 3) := by decide +kernel
theorem dX8_copyFrom_43 : decode cX8_copyFrom 43 = .ok (.iconst 0, 1) := by decide +kernel
theorem dX8_copyFrom_44 : decode cX8_copyFrom 44 = .ok (.aload_n 0, 1) := by decide +kernel
theorem dX8_copyFrom_45 : decode cX8_copyFrom 45 = .ok (.getfield 25, 3) := by decide +kernel
theorem dX8_copyFrom_48 : decode cX8_copyFrom 48 = .ok (.iconst 0, 1) := by decide +kernel
theorem dX8_copyFrom_49 : decode cX8_copyFrom 49 = .ok (.bipush 25, 2) := by decide +kernel
theorem dX8_copyFrom_51 : decode cX8_copyFrom 51 = .ok (.invokestatic 38, 3) := by decide +kernel
theorem dX8_copyFrom_54 : decode cX8_copyFrom 54 = .ok (.aload_n 1, 1) := by decide +kernel
theorem dX8_copyFrom_55 : decode cX8_copyFrom 55 = .ok (.getfield 28, 3) := by decide +kernel
theorem dX8_copyFrom_58 : decode cX8_copyFrom 58 = .ok (.iconst 0, 1) := by decide +kernel
theorem dX8_copyFrom_59 : decode cX8_copyFrom 59 = .ok (.aload_n 0, 1) := by decide +kernel
theorem dX8_copyFrom_60 : decode cX8_copyFrom 60 = .ok (.getfield 28, 3) := by decide +kernel
theorem dX8_copyFrom_63 : decode cX8_copyFrom 63 = .ok (.iconst 0, 1) := by decide +kernel
theorem dX8_copyFrom_64 : decode cX8_copyFrom 64 = .ok (.bipush 25, 2) := by decide +kernel
theorem dX8_copyFrom_66 : decode cX8_copyFrom 66 = .ok (.invokestatic 38, 3) := by decide +kernel
theorem dX8_copyFrom_69 : decode cX8_copyFrom 69 = .ok (.aload_n 1, 1) := by decide +kernel
theorem dX8_copyFrom_70 : decode cX8_copyFrom 70 = .ok (.getfield 31, 3) := by decide +kernel
theorem dX8_copyFrom_73 : decode cX8_copyFrom 73 = .ok (.iconst 0, 1) := by decide +kernel
theorem dX8_copyFrom_74 : decode cX8_copyFrom 74 = .ok (.aload_n 0, 1) := by decide +kernel
theorem dX8_copyFrom_75 : decode cX8_copyFrom 75 = .ok (.getfield 31, 3) := by decide +kernel
theorem dX8_copyFrom_78 : decode cX8_copyFrom 78 = .ok (.iconst 0, 1) := by decide +kernel
theorem dX8_copyFrom_79 : decode cX8_copyFrom 79 = .ok (.bipush 25, 2) := by decide +kernel
theorem dX8_copyFrom_81 : decode cX8_copyFrom 81 = .ok (.invokestatic 38, 3) := by decide +kernel
theorem dX8_copyFrom_84 : decode cX8_copyFrom 84 = .ok (.aload_n 0, 1) := by decide +kernel
theorem dX8_copyFrom_85 : decode cX8_copyFrom 85 = .ok (.aload_n 1, 1) := by decide +kernel
theorem dX8_copyFrom_86 : decode cX8_copyFrom 86 = .ok (.getfield 44, 3) := by decide +kernel
theorem dX8_copyFrom_89 : decode cX8_copyFrom 89 = .ok (.putfield 44, 3) := by decide +kernel
theorem dX8_copyFrom_92 : decode cX8_copyFrom 92 = .ok (.aload_n 0, 1) := by decide +kernel
theorem dX8_copyFrom_93 : decode cX8_copyFrom 93 = .ok (.aload_n 1, 1) := by decide +kernel
theorem dX8_copyFrom_94 : decode cX8_copyFrom 94 = .ok (.getfield 48, 3) := by decide +kernel
theorem dX8_copyFrom_97 : decode cX8_copyFrom 97 = .ok (.putfield 48, 3) := by decide +kernel
theorem dX8_copyFrom_100 : decode cX8_copyFrom 100 = .ok (.return_, 1) := by decide +kernel
theorem dX8_welcome_0 : decode cX8_welcome 0 = .ok (.aload_n 0, 1) := by decide +kernel
theorem dX8_welcome_1 : decode cX8_welcome 1 = .ok (.getfield 44, 3) := by decide +kernel
theorem dX8_welcome_4 : decode cX8_welcome 4 = .ok (.iconst 5, 1) := by decide +kernel
theorem dX8_welcome_5 : decode cX8_welcome 5 = .ok (.if_icmp .lt 6, 3) := by decide +kernel
theorem dX8_welcome_8 : decode cX8_welcome 8 = .ok (.bipush (-104), 2) := by decide +kernel
theorem dX8_welcome_10 : decode cX8_welcome 10 = .ok (.ireturn, 1) := by decide +kernel
theorem dX8_welcome_11 : decode cX8_welcome 11 = .ok (.aload_n 0, 1) := by decide +kernel
theorem dX8_welcome_12 : decode cX8_welcome 12 = .ok (.getfield 18, 3) := by decide +kernel
theorem dX8_welcome_15 : decode cX8_welcome 15 = .ok (.aload_n 0, 1) := by decide +kernel
theorem dX8_welcome_16 : decode cX8_welcome 16 = .ok (.getfield 44, 3) := by decide +kernel
theorem dX8_welcome_19 : decode cX8_welcome 19 = .ok (.iload_n 1, 1) := by decide +kernel
theorem dX8_welcome_20 : decode cX8_welcome 20 = .ok (.iastore, 1) := by decide +kernel
theorem dX8_welcome_21 : decode cX8_welcome 21 = .ok (.aload_n 0, 1) := by decide +kernel
theorem dX8_welcome_22 : decode cX8_welcome 22 = .ok (.getfield 22, 3) := by decide +kernel
theorem dX8_welcome_25 : decode cX8_welcome 25 = .ok (.aload_n 0, 1) := by decide +kernel
theorem dX8_welcome_26 : decode cX8_welcome 26 = .ok (.getfield 44, 3) := by decide +kernel
theorem dX8_welcome_29 : decode cX8_welcome 29 = .ok (.iload_n 2, 1) := by decide +kernel
theorem dX8_welcome_30 : decode cX8_welcome 30 = .ok (.iastore, 1) := by decide +kernel
theorem dX8_welcome_31 : decode cX8_welcome 31 = .ok (.aload_n 0, 1) := by decide +kernel
theorem dX8_welcome_32 : decode cX8_welcome 32 = .ok (.dup, 1) := by decide +kernel
theorem dX8_welcome_33 : decode cX8_welcome 33 = .ok (.getfield 44, 3) := by decide +kernel
theorem dX8_welcome_36 : decode cX8_welcome 36 = .ok (.iconst 1, 1) := by decide +kernel
theorem dX8_welcome_37 : decode cX8_welcome 37 = .ok (.iadd, 1) := by decide +kernel
theorem dX8_welcome_38 : decode cX8_welcome 38 = .ok (.putfield 44, 3) := by decide +kernel
theorem dX8_welcome_41 : decode cX8_welcome 41 = .ok (.aload_n 0, 1) := by decide +kernel
theorem dX8_welcome_42 : decode cX8_welcome 42 = .ok (.getfield 44, 3) := by decide +kernel
theorem dX8_welcome_45 : decode cX8_welcome 45 = .ok (.iconst 1, 1) := by decide +kernel
theorem dX8_welcome_46 : decode cX8_welcome 46 = .ok (.isub, 1) := by decide +kernel
theorem dX8_welcome_47 : decode cX8_welcome 47 = .ok (.ireturn, 1) := by decide +kernel
theorem dX8_has_0 : decode cX8_has 0 = .ok (.iload_n 1, 1) := by decide +kernel
theorem dX8_has_1 : decode cX8_has 1 = .ok (.ifCond .lt 15, 3) := by decide +kernel
theorem dX8_has_4 : decode cX8_has 4 = .ok (.iload_n 1, 1) := by decide +kernel
theorem dX8_has_5 : decode cX8_has 5 = .ok (.aload_n 0, 1) := by decide +kernel
theorem dX8_has_6 : decode cX8_has 6 = .ok (.getfield 44, 3) := by decide +kernel
theorem dX8_has_9 : decode cX8_has 9 = .ok (.if_icmp .ge 7, 3) := by decide +kernel
theorem dX8_has_12 : decode cX8_has 12 = .ok (.iconst 1, 1) := by decide +kernel
theorem dX8_has_13 : decode cX8_has 13 = .ok (.goto 4, 3) := by decide +kernel
theorem dX8_has_16 : decode cX8_has 16 = .ok (.iconst 0, 1) := by decide +kernel
theorem dX8_has_17 : decode cX8_has 17 = .ok (.ireturn, 1) := by decide +kernel
theorem dX8_hasBoth_0 : decode cX8_hasBoth 0 = .ok (.aload_n 0, 1) := by decide +kernel
theorem dX8_hasBoth_1 : decode cX8_hasBoth 1 = .ok (.iload_n 1, 1) := by decide +kernel
theorem dX8_hasBoth_2 : decode cX8_hasBoth 2 = .ok (.invokevirtual 51, 3) := by decide +kernel
theorem dX8_hasBoth_5 : decode cX8_hasBoth 5 = .ok (.ifCond .eq 20, 3) := by decide +kernel
theorem dX8_hasBoth_8 : decode cX8_hasBoth 8 = .ok (.aload_n 0, 1) := by decide +kernel
theorem dX8_hasBoth_9 : decode cX8_hasBoth 9 = .ok (.iload_n 2, 1) := by decide +kernel
theorem dX8_hasBoth_10 : decode cX8_hasBoth 10 = .ok (.invokevirtual 51, 3) := by decide +kernel
theorem dX8_hasBoth_13 : decode cX8_hasBoth 13 = .ok (.ifCond .eq 12, 3) := by decide +kernel
theorem dX8_hasBoth_16 : decode cX8_hasBoth 16 = .ok (.iload_n 1, 1) := by decide +kernel
theorem dX8_hasBoth_17 : decode cX8_hasBoth 17 = .ok (.iload_n 2, 1) := by decide +kernel
theorem dX8_hasBoth_18 : decode cX8_hasBoth 18 = .ok (.if_icmp .eq 7, 3) := by decide +kernel
theorem dX8_hasBoth_21 : decode cX8_hasBoth 21 = .ok (.iconst 1, 1) := by decide +kernel
theorem dX8_hasBoth_22 : decode cX8_hasBoth 22 = .ok (.goto 4, 3) := by decide +kernel
theorem dX8_hasBoth_25 : decode cX8_hasBoth 25 = .ok (.iconst 0, 1) := by decide +kernel
theorem dX8_hasBoth_26 : decode cX8_hasBoth 26 = .ok (.ireturn, 1) := by decide +kernel
theorem dX8_kindOf_0 : decode cX8_kindOf 0 = .ok (.getstatic 55, 3) := by decide +kernel
theorem dX8_kindOf_3 : decode cX8_kindOf 3 = .ok (.aload_n 0, 1) := by decide +kernel
theorem dX8_kindOf_4 : decode cX8_kindOf 4 = .ok (.getfield 18, 3) := by decide +kernel
theorem dX8_kindOf_7 : decode cX8_kindOf 7 = .ok (.iload_n 1, 1) := by decide +kernel
theorem dX8_kindOf_8 : decode cX8_kindOf 8 = .ok (.iaload, 1) := by decide +kernel
theorem dX8_kindOf_9 : decode cX8_kindOf 9 = .ok (.aaload, 1) := by decide +kernel
theorem dX8_kindOf_10 : decode cX8_kindOf 10 = .ok (.areturn, 1) := by decide +kernel
theorem dX8_owedBy_0 : decode cX8_owedBy 0 = .ok (.iconst 0, 1) := by decide +kernel
theorem dX8_owedBy_1 : decode cX8_owedBy 1 = .ok (.istore_n 2, 1) := by decide +kernel
theorem dX8_owedBy_2 : decode cX8_owedBy 2 = .ok (.iconst 0, 1) := by decide +kernel
theorem dX8_owedBy_3 : decode cX8_owedBy 3 = .ok (.istore_n 3, 1) := by decide +kernel
theorem dX8_owedBy_4 : decode cX8_owedBy 4 = .ok (.iload_n 3, 1) := by decide +kernel
theorem dX8_owedBy_5 : decode cX8_owedBy 5 = .ok (.aload_n 0, 1) := by decide +kernel
theorem dX8_owedBy_6 : decode cX8_owedBy 6 = .ok (.getfield 44, 3) := by decide +kernel
theorem dX8_owedBy_9 : decode cX8_owedBy 9 = .ok (.if_icmp .ge 22, 3) := by decide +kernel
theorem dX8_owedBy_12 : decode cX8_owedBy 12 = .ok (.iload_n 2, 1) := by decide +kernel
theorem dX8_owedBy_13 : decode cX8_owedBy 13 = .ok (.aload_n 0, 1) := by decide +kernel
theorem dX8_owedBy_14 : decode cX8_owedBy 14 = .ok (.getfield 25, 3) := by decide +kernel
theorem dX8_owedBy_17 : decode cX8_owedBy 17 = .ok (.iload_n 1, 1) := by decide +kernel
theorem dX8_owedBy_18 : decode cX8_owedBy 18 = .ok (.iload_n 3, 1) := by decide +kernel
theorem dX8_owedBy_19 : decode cX8_owedBy 19 = .ok (.invokestatic 59, 3) := by decide +kernel
theorem dX8_owedBy_22 : decode cX8_owedBy 22 = .ok (.iaload, 1) := by decide +kernel
theorem dX8_owedBy_23 : decode cX8_owedBy 23 = .ok (.iadd, 1) := by decide +kernel
theorem dX8_owedBy_24 : decode cX8_owedBy 24 = .ok (.istore_n 2, 1) := by decide +kernel
theorem dX8_owedBy_25 : decode cX8_owedBy 25 = .ok (.iinc 3 1, 3) := by decide +kernel
theorem dX8_owedBy_28 : decode cX8_owedBy 28 = .ok (.goto (-24), 3) := by decide +kernel
theorem dX8_owedBy_31 : decode cX8_owedBy 31 = .ok (.iload_n 2, 1) := by decide +kernel
theorem dX8_owedBy_32 : decode cX8_owedBy 32 = .ok (.ireturn, 1) := by decide +kernel
theorem dX8_owedTo_0 : decode cX8_owedTo 0 = .ok (.iconst 0, 1) := by decide +kernel
theorem dX8_owedTo_1 : decode cX8_owedTo 1 = .ok (.istore_n 2, 1) := by decide +kernel
theorem dX8_owedTo_2 : decode cX8_owedTo 2 = .ok (.iconst 0, 1) := by decide +kernel
theorem dX8_owedTo_3 : decode cX8_owedTo 3 = .ok (.istore_n 3, 1) := by decide +kernel
theorem dX8_owedTo_4 : decode cX8_owedTo 4 = .ok (.iload_n 3, 1) := by decide +kernel
theorem dX8_owedTo_5 : decode cX8_owedTo 5 = .ok (.aload_n 0, 1) := by decide +kernel
theorem dX8_owedTo_6 : decode cX8_owedTo 6 = .ok (.getfield 44, 3) := by decide +kernel
theorem dX8_owedTo_9 : decode cX8_owedTo 9 = .ok (.if_icmp .ge 22, 3) := by decide +kernel
theorem dX8_owedTo_12 : decode cX8_owedTo 12 = .ok (.iload_n 2, 1) := by decide +kernel
theorem dX8_owedTo_13 : decode cX8_owedTo 13 = .ok (.aload_n 0, 1) := by decide +kernel
theorem dX8_owedTo_14 : decode cX8_owedTo 14 = .ok (.getfield 25, 3) := by decide +kernel
theorem dX8_owedTo_17 : decode cX8_owedTo 17 = .ok (.iload_n 3, 1) := by decide +kernel
theorem dX8_owedTo_18 : decode cX8_owedTo 18 = .ok (.iload_n 1, 1) := by decide +kernel
theorem dX8_owedTo_19 : decode cX8_owedTo 19 = .ok (.invokestatic 59, 3) := by decide +kernel
theorem dX8_owedTo_22 : decode cX8_owedTo 22 = .ok (.iaload, 1) := by decide +kernel
theorem dX8_owedTo_23 : decode cX8_owedTo 23 = .ok (.iadd, 1) := by decide +kernel
theorem dX8_owedTo_24 : decode cX8_owedTo 24 = .ok (.istore_n 2, 1) := by decide +kernel
theorem dX8_owedTo_25 : decode cX8_owedTo 25 = .ok (.iinc 3 1, 3) := by decide +kernel
theorem dX8_owedTo_28 : decode cX8_owedTo 28 = .ok (.goto (-24), 3) := by decide +kernel
theorem dX8_owedTo_31 : decode cX8_owedTo 31 = .ok (.iload_n 2, 1) := by decide +kernel
theorem dX8_owedTo_32 : decode cX8_owedTo 32 = .ok (.ireturn, 1) := by decide +kernel
theorem dX8_net_0 : decode cX8_net 0 = .ok (.aload_n 0, 1) := by decide +kernel
theorem dX8_net_1 : decode cX8_net 1 = .ok (.getfield 22, 3) := by decide +kernel
theorem dX8_net_4 : decode cX8_net 4 = .ok (.iload_n 1, 1) := by decide +kernel
theorem dX8_net_5 : decode cX8_net 5 = .ok (.iaload, 1) := by decide +kernel
theorem dX8_net_6 : decode cX8_net 6 = .ok (.aload_n 0, 1) := by decide +kernel
theorem dX8_net_7 : decode cX8_net 7 = .ok (.iload_n 1, 1) := by decide +kernel
theorem dX8_net_8 : decode cX8_net 8 = .ok (.invokevirtual 63, 3) := by decide +kernel
theorem dX8_net_11 : decode cX8_net 11 = .ok (.iadd, 1) := by decide +kernel
theorem dX8_net_12 : decode cX8_net 12 = .ok (.aload_n 0, 1) := by decide +kernel
theorem dX8_net_13 : decode cX8_net 13 = .ok (.iload_n 1, 1) := by decide +kernel
theorem dX8_net_14 : decode cX8_net 14 = .ok (.invokevirtual 67, 3) := by decide +kernel
theorem dX8_net_17 : decode cX8_net 17 = .ok (.isub, 1) := by decide +kernel
theorem dX8_net_18 : decode cX8_net 18 = .ok (.ireturn, 1) := by decide +kernel
theorem dX8_isRuined_0 : decode cX8_isRuined 0 = .ok (.aload_n 0, 1) := by decide +kernel
theorem dX8_isRuined_1 : decode cX8_isRuined 1 = .ok (.iload_n 1, 1) := by decide +kernel
theorem dX8_isRuined_2 : decode cX8_isRuined 2 = .ok (.invokevirtual 70, 3) := by decide +kernel
theorem dX8_isRuined_5 : decode cX8_isRuined 5 = .ok (.ifCond .ge 7, 3) := by decide +kernel
theorem dX8_isRuined_8 : decode cX8_isRuined 8 = .ok (.iconst 1, 1) := by decide +kernel
theorem dX8_isRuined_9 : decode cX8_isRuined 9 = .ok (.goto 4, 3) := by decide +kernel
theorem dX8_isRuined_12 : decode cX8_isRuined 12 = .ok (.iconst 0, 1) := by decide +kernel
theorem dX8_isRuined_13 : decode cX8_isRuined 13 = .ok (.ireturn, 1) := by decide +kernel
theorem dX8_ruinedOnes_0 : decode cX8_ruinedOnes 0 = .ok (.iconst 0, 1) := by decide +kernel
theorem dX8_ruinedOnes_1 : decode cX8_ruinedOnes 1 = .ok (.istore_n 1, 1) := by decide +kernel
theorem dX8_ruinedOnes_2 : decode cX8_ruinedOnes 2 = .ok (.iconst 0, 1) := by decide +kernel
theorem dX8_ruinedOnes_3 : decode cX8_ruinedOnes 3 = .ok (.istore_n 2, 1) := by decide +kernel
theorem dX8_ruinedOnes_4 : decode cX8_ruinedOnes 4 = .ok (.iload_n 2, 1) := by decide +kernel
theorem dX8_ruinedOnes_5 : decode cX8_ruinedOnes 5 = .ok (.aload_n 0, 1) := by decide +kernel
theorem dX8_ruinedOnes_6 : decode cX8_ruinedOnes 6 = .ok (.getfield 44, 3) := by decide +kernel
theorem dX8_ruinedOnes_9 : decode cX8_ruinedOnes 9 = .ok (.if_icmp .ge 20, 3) := by decide +kernel
theorem dX8_ruinedOnes_12 : decode cX8_ruinedOnes 12 = .ok (.iload_n 1, 1) := by decide +kernel
theorem dX8_ruinedOnes_13 : decode cX8_ruinedOnes 13 = .ok (.aload_n 0, 1) := by decide +kernel
theorem dX8_ruinedOnes_14 : decode cX8_ruinedOnes 14 = .ok (.iload_n 2, 1) := by decide +kernel
theorem dX8_ruinedOnes_15 : decode cX8_ruinedOnes 15 = .ok (.invokevirtual 73, 3) := by decide +kernel
theorem dX8_ruinedOnes_18 : decode cX8_ruinedOnes 18 = .ok (.invokestatic 76, 3) := by decide +kernel
theorem dX8_ruinedOnes_21 : decode cX8_ruinedOnes 21 = .ok (.iadd, 1) := by decide +kernel
theorem dX8_ruinedOnes_22 : decode cX8_ruinedOnes 22 = .ok (.istore_n 1, 1) := by decide +kernel
theorem dX8_ruinedOnes_23 : decode cX8_ruinedOnes 23 = .ok (.iinc 2 1, 3) := by decide +kernel
theorem dX8_ruinedOnes_26 : decode cX8_ruinedOnes 26 = .ok (.goto (-22), 3) := by decide +kernel
theorem dX8_ruinedOnes_29 : decode cX8_ruinedOnes 29 = .ok (.iload_n 1, 1) := by decide +kernel
theorem dX8_ruinedOnes_30 : decode cX8_ruinedOnes 30 = .ok (.ireturn, 1) := by decide +kernel
theorem dX8_allOwed_0 : decode cX8_allOwed 0 = .ok (.iconst 0, 1) := by decide +kernel
theorem dX8_allOwed_1 : decode cX8_allOwed 1 = .ok (.istore_n 1, 1) := by decide +kernel
theorem dX8_allOwed_2 : decode cX8_allOwed 2 = .ok (.iconst 0, 1) := by decide +kernel
theorem dX8_allOwed_3 : decode cX8_allOwed 3 = .ok (.istore_n 2, 1) := by decide +kernel
theorem dX8_allOwed_4 : decode cX8_allOwed 4 = .ok (.iload_n 2, 1) := by decide +kernel
theorem dX8_allOwed_5 : decode cX8_allOwed 5 = .ok (.aload_n 0, 1) := by decide +kernel
theorem dX8_allOwed_6 : decode cX8_allOwed 6 = .ok (.getfield 44, 3) := by decide +kernel
theorem dX8_allOwed_9 : decode cX8_allOwed 9 = .ok (.if_icmp .ge 17, 3) := by decide +kernel
theorem dX8_allOwed_12 : decode cX8_allOwed 12 = .ok (.iload_n 1, 1) := by decide +kernel
theorem dX8_allOwed_13 : decode cX8_allOwed 13 = .ok (.aload_n 0, 1) := by decide +kernel
theorem dX8_allOwed_14 : decode cX8_allOwed 14 = .ok (.iload_n 2, 1) := by decide +kernel
theorem dX8_allOwed_15 : decode cX8_allOwed 15 = .ok (.invokevirtual 67, 3) := by decide +kernel
theorem dX8_allOwed_18 : decode cX8_allOwed 18 = .ok (.iadd, 1) := by decide +kernel
theorem dX8_allOwed_19 : decode cX8_allOwed 19 = .ok (.istore_n 1, 1) := by decide +kernel
theorem dX8_allOwed_20 : decode cX8_allOwed 20 = .ok (.iinc 2 1, 3) := by decide +kernel
theorem dX8_allOwed_23 : decode cX8_allOwed 23 = .ok (.goto (-19), 3) := by decide +kernel
theorem dX8_allOwed_26 : decode cX8_allOwed 26 = .ok (.iload_n 1, 1) := by decide +kernel
theorem dX8_allOwed_27 : decode cX8_allOwed 27 = .ok (.ireturn, 1) := by decide +kernel
theorem dX8_isOffended_0 : decode cX8_isOffended 0 = .ok (.aload_n 0, 1) := by decide +kernel
theorem dX8_isOffended_1 : decode cX8_isOffended 1 = .ok (.getfield 31, 3) := by decide +kernel
theorem dX8_isOffended_4 : decode cX8_isOffended 4 = .ok (.iload_n 1, 1) := by decide +kernel
theorem dX8_isOffended_5 : decode cX8_isOffended 5 = .ok (.iload_n 2, 1) := by decide +kernel
theorem dX8_isOffended_6 : decode cX8_isOffended 6 = .ok (.invokestatic 59, 3) := by decide +kernel
theorem dX8_isOffended_9 : decode cX8_isOffended 9 = .ok (.iaload, 1) := by decide +kernel
theorem dX8_isOffended_10 : decode cX8_isOffended 10 = .ok (.ifCond .le 7, 3) := by decide +kernel
theorem dX8_isOffended_13 : decode cX8_isOffended 13 = .ok (.iconst 1, 1) := by decide +kernel
theorem dX8_isOffended_14 : decode cX8_isOffended 14 = .ok (.goto 4, 3) := by decide +kernel
theorem dX8_isOffended_17 : decode cX8_isOffended 17 = .ok (.iconst 0, 1) := by decide +kernel
theorem dX8_isOffended_18 : decode cX8_isOffended 18 = .ok (.ireturn, 1) := by decide +kernel
theorem dX8_thank_0 : decode cX8_thank 0 = .ok (.iload_n 2, 1) := by decide +kernel
theorem dX8_thank_1 : decode cX8_thank 1 = .ok (.iload_n 1, 1) := by decide +kernel
theorem dX8_thank_2 : decode cX8_thank 2 = .ok (.invokestatic 59, 3) := by decide +kernel
theorem dX8_thank_5 : decode cX8_thank 5 = .ok (.istore 4, 2) := by decide +kernel
theorem dX8_thank_7 : decode cX8_thank 7 = .ok (.aload_n 0, 1) := by decide +kernel
theorem dX8_thank_8 : decode cX8_thank 8 = .ok (.getfield 25, 3) := by decide +kernel
theorem dX8_thank_11 : decode cX8_thank 11 = .ok (.iload 4, 2) := by decide +kernel
theorem dX8_thank_13 : decode cX8_thank 13 = .ok (.sipush 9999, 3) := by decide +kernel
theorem dX8_thank_16 : decode cX8_thank 16 = .ok (.aload_n 0, 1) := by decide +kernel
theorem dX8_thank_17 : decode cX8_thank 17 = .ok (.getfield 25, 3) := by decide +kernel
theorem dX8_thank_20 : decode cX8_thank 20 = .ok (.iload 4, 2) := by decide +kernel
theorem dX8_thank_22 : decode cX8_thank 22 = .ok (.iaload, 1) := by decide +kernel
theorem dX8_thank_23 : decode cX8_thank 23 = .ok (.iload_n 3, 1) := by decide +kernel
theorem dX8_thank_24 : decode cX8_thank 24 = .ok (.iadd, 1) := by decide +kernel
theorem dX8_thank_25 : decode cX8_thank 25 = .ok (.invokestatic 80, 3) := by decide +kernel
theorem dX8_thank_28 : decode cX8_thank 28 = .ok (.iastore, 1) := by decide +kernel
theorem dX8_thank_29 : decode cX8_thank 29 = .ok (.aload_n 0, 1) := by decide +kernel
theorem dX8_thank_30 : decode cX8_thank 30 = .ok (.getfield 28, 3) := by decide +kernel
theorem dX8_thank_33 : decode cX8_thank 33 = .ok (.iload 4, 2) := by decide +kernel
theorem dX8_thank_35 : decode cX8_thank 35 = .ok (.aload_n 0, 1) := by decide +kernel
theorem dX8_thank_36 : decode cX8_thank 36 = .ok (.getfield 28, 3) := by decide +kernel
theorem dX8_thank_39 : decode cX8_thank 39 = .ok (.iload 4, 2) := by decide +kernel
theorem dX8_thank_41 : decode cX8_thank 41 = .ok (.iaload, 1) := by decide +kernel
theorem dX8_thank_42 : decode cX8_thank 42 = .ok (.aload_n 0, 1) := by decide +kernel
theorem dX8_thank_43 : decode cX8_thank 43 = .ok (.getfield 12, 3) := by decide +kernel
theorem dX8_thank_46 : decode cX8_thank 46 = .ok (.getfield 85, 3) := by decide +kernel
theorem dX8_thank_49 : decode cX8_thank 49 = .ok (.invokestatic 87, 3) := by decide +kernel
theorem dX8_thank_52 : decode cX8_thank 52 = .ok (.iastore, 1) := by decide +kernel
theorem dX8_thank_53 : decode cX8_thank 53 = .ok (.return_, 1) := by decide +kernel
theorem dX8_grunt_0 : decode cX8_grunt 0 = .ok (.aload_n 0, 1) := by decide +kernel
theorem dX8_grunt_1 : decode cX8_grunt 1 = .ok (.iload_n 1, 1) := by decide +kernel
theorem dX8_grunt_2 : decode cX8_grunt 2 = .ok (.invokevirtual 90, 3) := by decide +kernel
theorem dX8_grunt_5 : decode cX8_grunt 5 = .ok (.getfield 94, 3) := by decide +kernel
theorem dX8_grunt_8 : decode cX8_grunt 8 = .ok (.ifCond .eq 31, 3) := by decide +kernel
theorem dX8_grunt_11 : decode cX8_grunt 11 = .ok (.iload_n 1, 1) := by decide +kernel
theorem dX8_grunt_12 : decode cX8_grunt 12 = .ok (.iload_n 2, 1) := by decide +kernel
theorem dX8_grunt_13 : decode cX8_grunt 13 = .ok (.invokestatic 59, 3) := by decide +kernel
theorem dX8_grunt_16 : decode cX8_grunt 16 = .ok (.istore_n 3, 1) := by decide +kernel
theorem dX8_grunt_17 : decode cX8_grunt 17 = .ok (.aload_n 0, 1) := by decide +kernel
theorem dX8_grunt_18 : decode cX8_grunt 18 = .ok (.getfield 31, 3) := by decide +kernel
theorem dX8_grunt_21 : decode cX8_grunt 21 = .ok (.iload_n 3, 1) := by decide +kernel
theorem dX8_grunt_22 : decode cX8_grunt 22 = .ok (.aload_n 0, 1) := by decide +kernel
theorem dX8_grunt_23 : decode cX8_grunt 23 = .ok (.getfield 31, 3) := by decide +kernel
theorem dX8_grunt_26 : decode cX8_grunt 26 = .ok (.iload_n 3, 1) := by decide +kernel
theorem dX8_grunt_27 : decode cX8_grunt 27 = .ok (.iaload, 1) := by decide +kernel
theorem dX8_grunt_28 : decode cX8_grunt 28 = .ok (.aload_n 0, 1) := by decide +kernel
theorem dX8_grunt_29 : decode cX8_grunt 29 = .ok (.getfield 12, 3) := by decide +kernel
theorem dX8_grunt_32 : decode cX8_grunt 32 = .ok (.getfield 100, 3) := by decide +kernel
theorem dX8_grunt_35 : decode cX8_grunt 35 = .ok (.invokestatic 87, 3) := by decide +kernel
theorem dX8_grunt_38 : decode cX8_grunt 38 = .ok (.iastore, 1) := by decide +kernel
theorem dX8_grunt_39 : decode cX8_grunt 39 = .ok (.return_, 1) := by decide +kernel
theorem dX8_passWeek_0 : decode cX8_passWeek 0 = .ok (.iconst 0, 1) := by decide +kernel
theorem dX8_passWeek_1 : decode cX8_passWeek 1 = .ok (.istore_n 1, 1) := by decide +kernel
theorem dX8_passWeek_2 : decode cX8_passWeek 2 = .ok (.iconst 0, 1) := by decide +kernel
theorem dX8_passWeek_3 : decode cX8_passWeek 3 = .ok (.istore_n 2, 1) := by decide +kernel
theorem dX8_passWeek_4 : decode cX8_passWeek 4 = .ok (.iload_n 2, 1) := by decide +kernel
theorem dX8_passWeek_5 : decode cX8_passWeek 5 = .ok (.aload_n 0, 1) := by decide +kernel
theorem dX8_passWeek_6 : decode cX8_passWeek 6 = .ok (.getfield 44, 3) := by decide +kernel
theorem dX8_passWeek_9 : decode cX8_passWeek 9 = .ok (.if_icmp .ge 34, 3) := by decide +kernel
theorem dX8_passWeek_12 : decode cX8_passWeek 12 = .ok (.iconst 0, 1) := by decide +kernel
theorem dX8_passWeek_13 : decode cX8_passWeek 13 = .ok (.istore_n 3, 1) := by decide +kernel
theorem dX8_passWeek_14 : decode cX8_passWeek 14 = .ok (.iload_n 3, 1) := by decide +kernel
theorem dX8_passWeek_15 : decode cX8_passWeek 15 = .ok (.aload_n 0, 1) := by decide +kernel
theorem dX8_passWeek_16 : decode cX8_passWeek 16 = .ok (.getfield 44, 3) := by decide +kernel
theorem dX8_passWeek_19 : decode cX8_passWeek 19 = .ok (.if_icmp .ge 18, 3) := by decide +kernel
theorem dX8_passWeek_22 : decode cX8_passWeek 22 = .ok (.iload_n 1, 1) := by decide +kernel
theorem dX8_passWeek_23 : decode cX8_passWeek 23 = .ok (.aload_n 0, 1) := by decide +kernel
theorem dX8_passWeek_24 : decode cX8_passWeek 24 = .ok (.iload_n 2, 1) := by decide +kernel
theorem dX8_passWeek_25 : decode cX8_passWeek 25 = .ok (.iload_n 3, 1) := by decide +kernel
theorem dX8_passWeek_26 : decode cX8_passWeek 26 = .ok (.invokevirtual 103, 3) := by decide +kernel
theorem dX8_passWeek_29 : decode cX8_passWeek 29 = .ok (.iadd, 1) := by decide +kernel
theorem dX8_passWeek_30 : decode cX8_passWeek 30 = .ok (.istore_n 1, 1) := by decide +kernel
theorem dX8_passWeek_31 : decode cX8_passWeek 31 = .ok (.iinc 3 1, 3) := by decide +kernel
theorem dX8_passWeek_34 : decode cX8_passWeek 34 = .ok (.goto (-20), 3) := by decide +kernel
theorem dX8_passWeek_37 : decode cX8_passWeek 37 = .ok (.iinc 2 1, 3) := by decide +kernel
theorem dX8_passWeek_40 : decode cX8_passWeek 40 = .ok (.goto (-36), 3) := by decide +kernel
theorem dX8_passWeek_43 : decode cX8_passWeek 43 = .ok (.aload_n 0, 1) := by decide +kernel
theorem dX8_passWeek_44 : decode cX8_passWeek 44 = .ok (.dup, 1) := by decide +kernel
theorem dX8_passWeek_45 : decode cX8_passWeek 45 = .ok (.getfield 48, 3) := by decide +kernel
theorem dX8_passWeek_48 : decode cX8_passWeek 48 = .ok (.iconst 1, 1) := by decide +kernel
theorem dX8_passWeek_49 : decode cX8_passWeek 49 = .ok (.iadd, 1) := by decide +kernel
theorem dX8_passWeek_50 : decode cX8_passWeek 50 = .ok (.putfield 48, 3) := by decide +kernel
theorem dX8_passWeek_53 : decode cX8_passWeek 53 = .ok (.iload_n 1, 1) := by decide +kernel
theorem dX8_passWeek_54 : decode cX8_passWeek 54 = .ok (.ireturn, 1) := by decide +kernel
theorem dX8_passPairWeek_0 : decode cX8_passPairWeek 0 = .ok (.iload_n 1, 1) := by decide +kernel
theorem dX8_passPairWeek_1 : decode cX8_passPairWeek 1 = .ok (.iload_n 2, 1) := by decide +kernel
theorem dX8_passPairWeek_2 : decode cX8_passPairWeek 2 = .ok (.invokestatic 59, 3) := by decide +kernel
theorem dX8_passPairWeek_5 : decode cX8_passPairWeek 5 = .ok (.istore_n 3, 1) := by decide +kernel
theorem dX8_passPairWeek_6 : decode cX8_passPairWeek 6 = .ok (.aload_n 0, 1) := by decide +kernel
theorem dX8_passPairWeek_7 : decode cX8_passPairWeek 7 = .ok (.getfield 25, 3) := by decide +kernel
theorem dX8_passPairWeek_10 : decode cX8_passPairWeek 10 = .ok (.iload_n 3, 1) := by decide +kernel
theorem dX8_passPairWeek_11 : decode cX8_passPairWeek 11 = .ok (.iaload, 1) := by decide +kernel
theorem dX8_passPairWeek_12 : decode cX8_passPairWeek 12 = .ok (.istore 4, 2) := by decide +kernel
theorem dX8_passPairWeek_14 : decode cX8_passPairWeek 14 = .ok (.aload_n 0, 1) := by decide +kernel
theorem dX8_passPairWeek_15 : decode cX8_passPairWeek 15 = .ok (.getfield 28, 3) := by decide +kernel
theorem dX8_passPairWeek_18 : decode cX8_passPairWeek 18 = .ok (.iload_n 3, 1) := by decide +kernel
theorem dX8_passPairWeek_19 : decode cX8_passPairWeek 19 = .ok (.iaload, 1) := by decide +kernel
theorem dX8_passPairWeek_20 : decode cX8_passPairWeek 20 = .ok (.ifCond .ne 40, 3) := by decide +kernel
theorem dX8_passPairWeek_23 : decode cX8_passPairWeek 23 = .ok (.iload 4, 2) := by decide +kernel
theorem dX8_passPairWeek_25 : decode cX8_passPairWeek 25 = .ok (.ifCond .le 35, 3) := by decide +kernel
theorem dX8_passPairWeek_28 : decode cX8_passPairWeek 28 = .ok (.aload_n 0, 1) := by decide +kernel
theorem dX8_passPairWeek_29 : decode cX8_passPairWeek 29 = .ok (.getfield 25, 3) := by decide +kernel
theorem dX8_passPairWeek_32 : decode cX8_passPairWeek 32 = .ok (.iload_n 3, 1) := by decide +kernel
theorem dX8_passPairWeek_33 : decode cX8_passPairWeek 33 = .ok (.aload_n 0, 1) := by decide +kernel
theorem dX8_passPairWeek_34 : decode cX8_passPairWeek 34 = .ok (.getfield 12, 3) := by decide +kernel
theorem dX8_passPairWeek_37 : decode cX8_passPairWeek 37 = .ok (.iload 4, 2) := by decide +kernel
theorem dX8_passPairWeek_39 : decode cX8_passPairWeek 39 = .ok (.aload_n 0, 1) := by decide +kernel
theorem dX8_passPairWeek_40 : decode cX8_passPairWeek 40 = .ok (.getfield 12, 3) := by decide +kernel
theorem dX8_passPairWeek_43 : decode cX8_passPairWeek 43 = .ok (.aload_n 0, 1) := by decide +kernel
theorem dX8_passPairWeek_44 : decode cX8_passPairWeek 44 = .ok (.iload_n 1, 1) := by decide +kernel
theorem dX8_passPairWeek_45 : decode cX8_passPairWeek 45 = .ok (.invokevirtual 90, 3) := by decide +kernel
theorem dX8_passPairWeek_48 : decode cX8_passPairWeek 48 = .ok (.aload_n 0, 1) := by decide +kernel
theorem dX8_passPairWeek_49 : decode cX8_passPairWeek 49 = .ok (.iload_n 2, 1) := by decide +kernel
theorem dX8_passPairWeek_50 : decode cX8_passPairWeek 50 = .ok (.invokevirtual 90, 3) := by decide +kernel
theorem dX8_passPairWeek_53 : decode cX8_passPairWeek 53 = .ok (.invokevirtual 106, 3) := by decide +kernel
theorem dX8_passPairWeek_56 : decode cX8_passPairWeek 56 = .ok (.invokevirtual 110, 3) := by decide +kernel
theorem dX8_passPairWeek_59 : decode cX8_passPairWeek 59 = .ok (.iastore, 1) := by decide +kernel
theorem dX8_passPairWeek_60 : decode cX8_passPairWeek 60 = .ok (.aload_n 0, 1) := by decide +kernel
theorem dX8_passPairWeek_61 : decode cX8_passPairWeek 61 = .ok (.getfield 28, 3) := by decide +kernel
theorem dX8_passPairWeek_64 : decode cX8_passPairWeek 64 = .ok (.iload_n 3, 1) := by decide +kernel
theorem dX8_passPairWeek_65 : decode cX8_passPairWeek 65 = .ok (.iconst 0, 1) := by decide +kernel
theorem dX8_passPairWeek_66 : decode cX8_passPairWeek 66 = .ok (.aload_n 0, 1) := by decide +kernel
theorem dX8_passPairWeek_67 : decode cX8_passPairWeek 67 = .ok (.getfield 28, 3) := by decide +kernel
theorem dX8_passPairWeek_70 : decode cX8_passPairWeek 70 = .ok (.iload_n 3, 1) := by decide +kernel
theorem dX8_passPairWeek_71 : decode cX8_passPairWeek 71 = .ok (.iaload, 1) := by decide +kernel
theorem dX8_passPairWeek_72 : decode cX8_passPairWeek 72 = .ok (.iconst 1, 1) := by decide +kernel
theorem dX8_passPairWeek_73 : decode cX8_passPairWeek 73 = .ok (.isub, 1) := by decide +kernel
theorem dX8_passPairWeek_74 : decode cX8_passPairWeek 74 = .ok (.invokestatic 87, 3) := by decide +kernel
theorem dX8_passPairWeek_77 : decode cX8_passPairWeek 77 = .ok (.iastore, 1) := by decide +kernel
theorem dX8_passPairWeek_78 : decode cX8_passPairWeek 78 = .ok (.aload_n 0, 1) := by decide +kernel
theorem dX8_passPairWeek_79 : decode cX8_passPairWeek 79 = .ok (.getfield 31, 3) := by decide +kernel
theorem dX8_passPairWeek_82 : decode cX8_passPairWeek 82 = .ok (.iload_n 3, 1) := by decide +kernel
theorem dX8_passPairWeek_83 : decode cX8_passPairWeek 83 = .ok (.iconst 0, 1) := by decide +kernel
theorem dX8_passPairWeek_84 : decode cX8_passPairWeek 84 = .ok (.aload_n 0, 1) := by decide +kernel
theorem dX8_passPairWeek_85 : decode cX8_passPairWeek 85 = .ok (.getfield 31, 3) := by decide +kernel
theorem dX8_passPairWeek_88 : decode cX8_passPairWeek 88 = .ok (.iload_n 3, 1) := by decide +kernel
theorem dX8_passPairWeek_89 : decode cX8_passPairWeek 89 = .ok (.iaload, 1) := by decide +kernel
theorem dX8_passPairWeek_90 : decode cX8_passPairWeek 90 = .ok (.iconst 1, 1) := by decide +kernel
theorem dX8_passPairWeek_91 : decode cX8_passPairWeek 91 = .ok (.isub, 1) := by decide +kernel
theorem dX8_passPairWeek_92 : decode cX8_passPairWeek 92 = .ok (.invokestatic 87, 3) := by decide +kernel
theorem dX8_passPairWeek_95 : decode cX8_passPairWeek 95 = .ok (.iastore, 1) := by decide +kernel
theorem dX8_passPairWeek_96 : decode cX8_passPairWeek 96 = .ok (.aload_n 0, 1) := by decide +kernel
theorem dX8_passPairWeek_97 : decode cX8_passPairWeek 97 = .ok (.getfield 25, 3) := by decide +kernel
theorem dX8_passPairWeek_100 : decode cX8_passPairWeek 100 = .ok (.iload_n 3, 1) := by decide +kernel
theorem dX8_passPairWeek_101 : decode cX8_passPairWeek 101 = .ok (.iaload, 1) := by decide +kernel
theorem dX8_passPairWeek_102 : decode cX8_passPairWeek 102 = .ok (.iload 4, 2) := by decide +kernel
theorem dX8_passPairWeek_104 : decode cX8_passPairWeek 104 = .ok (.isub, 1) := by decide +kernel
theorem dX8_passPairWeek_105 : decode cX8_passPairWeek 105 = .ok (.ireturn, 1) := by decide +kernel
theorem dX8_shareOut_0 : decode cX8_shareOut 0 = .ok (.aload_n 0, 1) := by decide +kernel
theorem dX8_shareOut_1 : decode cX8_shareOut 1 = .ok (.getfield 22, 3) := by decide +kernel
theorem dX8_shareOut_4 : decode cX8_shareOut 4 = .ok (.iload_n 1, 1) := by decide +kernel
theorem dX8_shareOut_5 : decode cX8_shareOut 5 = .ok (.iaload, 1) := by decide +kernel
theorem dX8_shareOut_6 : decode cX8_shareOut 6 = .ok (.istore_n 3, 1) := by decide +kernel
theorem dX8_shareOut_7 : decode cX8_shareOut 7 = .ok (.iconst 0, 1) := by decide +kernel
theorem dX8_shareOut_8 : decode cX8_shareOut 8 = .ok (.istore 4, 2) := by decide +kernel
theorem dX8_shareOut_10 : decode cX8_shareOut 10 = .ok (.iconst 0, 1) := by decide +kernel
theorem dX8_shareOut_11 : decode cX8_shareOut 11 = .ok (.istore 5, 2) := by decide +kernel
theorem dX8_shareOut_13 : decode cX8_shareOut 13 = .ok (.iload 5, 2) := by decide +kernel
theorem dX8_shareOut_15 : decode cX8_shareOut 15 = .ok (.aload_n 0, 1) := by decide +kernel
theorem dX8_shareOut_16 : decode cX8_shareOut 16 = .ok (.getfield 44, 3) := by decide +kernel
theorem dX8_shareOut_19 : decode cX8_shareOut 19 = .ok (.if_icmp .ge 92, 3) := by decide +kernel
theorem dX8_shareOut_22 : decode cX8_shareOut 22 = .ok (.iload_n 1, 1) := by decide +kernel
theorem dX8_shareOut_23 : decode cX8_shareOut 23 = .ok (.iload 5, 2) := by decide +kernel
theorem dX8_shareOut_25 : decode cX8_shareOut 25 = .ok (.invokestatic 59, 3) := by decide +kernel
theorem dX8_shareOut_28 : decode cX8_shareOut 28 = .ok (.istore 6, 2) := by decide +kernel
theorem dX8_shareOut_30 : decode cX8_shareOut 30 = .ok (.aload_n 0, 1) := by decide +kernel
theorem dX8_shareOut_31 : decode cX8_shareOut 31 = .ok (.getfield 25, 3) := by decide +kernel
theorem dX8_shareOut_34 : decode cX8_shareOut 34 = .ok (.iload 6, 2) := by decide +kernel
theorem dX8_shareOut_36 : decode cX8_shareOut 36 = .ok (.iaload, 1) := by decide +kernel
theorem dX8_shareOut_37 : decode cX8_shareOut 37 = .ok (.ifCond .le 68, 3) := by decide +kernel
theorem dX8_shareOut_40 : decode cX8_shareOut 40 = .ok (.iload_n 2, 1) := by decide +kernel
theorem dX8_shareOut_41 : decode cX8_shareOut 41 = .ok (.ifCond .le 64, 3) := by decide +kernel
theorem dX8_shareOut_44 : decode cX8_shareOut 44 = .ok (.aload_n 0, 1) := by decide +kernel
theorem dX8_shareOut_45 : decode cX8_shareOut 45 = .ok (.getfield 25, 3) := by decide +kernel
theorem dX8_shareOut_48 : decode cX8_shareOut 48 = .ok (.iload 6, 2) := by decide +kernel
theorem dX8_shareOut_50 : decode cX8_shareOut 50 = .ok (.iaload, 1) := by decide +kernel
theorem dX8_shareOut_51 : decode cX8_shareOut 51 = .ok (.iload_n 3, 1) := by decide +kernel
theorem dX8_shareOut_52 : decode cX8_shareOut 52 = .ok (.aload_n 0, 1) := by decide +kernel
theorem dX8_shareOut_53 : decode cX8_shareOut 53 = .ok (.getfield 25, 3) := by decide +kernel
theorem dX8_shareOut_56 : decode cX8_shareOut 56 = .ok (.iload 6, 2) := by decide +kernel
theorem dX8_shareOut_58 : decode cX8_shareOut 58 = .ok (.iaload, 1) := by decide +kernel
theorem dX8_shareOut_59 : decode cX8_shareOut 59 = .ok (.imul, 1) := by decide +kernel
theorem dX8_shareOut_60 : decode cX8_shareOut 60 = .ok (.iload_n 2, 1) := by decide +kernel
theorem dX8_shareOut_61 : decode cX8_shareOut 61 = .ok (.idiv, 1) := by decide +kernel
theorem dX8_shareOut_62 : decode cX8_shareOut 62 = .ok (.invokestatic 80, 3) := by decide +kernel
theorem dX8_shareOut_65 : decode cX8_shareOut 65 = .ok (.istore 7, 2) := by decide +kernel
theorem dX8_shareOut_67 : decode cX8_shareOut 67 = .ok (.aload_n 0, 1) := by decide +kernel
theorem dX8_shareOut_68 : decode cX8_shareOut 68 = .ok (.getfield 22, 3) := by decide +kernel
theorem dX8_shareOut_71 : decode cX8_shareOut 71 = .ok (.iload 5, 2) := by decide +kernel
theorem dX8_shareOut_73 : decode cX8_shareOut 73 = .ok (.sipush 999, 3) := by decide +kernel
theorem dX8_shareOut_76 : decode cX8_shareOut 76 = .ok (.aload_n 0, 1) := by decide +kernel
theorem dX8_shareOut_77 : decode cX8_shareOut 77 = .ok (.getfield 22, 3) := by decide +kernel
theorem dX8_shareOut_80 : decode cX8_shareOut 80 = .ok (.iload 5, 2) := by decide +kernel
theorem dX8_shareOut_82 : decode cX8_shareOut 82 = .ok (.iaload, 1) := by decide +kernel
theorem dX8_shareOut_83 : decode cX8_shareOut 83 = .ok (.iload 7, 2) := by decide +kernel
theorem dX8_shareOut_85 : decode cX8_shareOut 85 = .ok (.iadd, 1) := by decide +kernel
theorem dX8_shareOut_86 : decode cX8_shareOut 86 = .ok (.invokestatic 80, 3) := by decide +kernel
theorem dX8_shareOut_89 : decode cX8_shareOut 89 = .ok (.iastore, 1) := by decide +kernel
theorem dX8_shareOut_90 : decode cX8_shareOut 90 = .ok (.iload 4, 2) := by decide +kernel
theorem dX8_shareOut_92 : decode cX8_shareOut 92 = .ok (.iload 7, 2) := by decide +kernel
theorem dX8_shareOut_94 : decode cX8_shareOut 94 = .ok (.iadd, 1) := by decide +kernel
theorem dX8_shareOut_95 : decode cX8_shareOut 95 = .ok (.istore 4, 2) := by decide +kernel
theorem dX8_shareOut_97 : decode cX8_shareOut 97 = .ok (.aload_n 0, 1) := by decide +kernel
theorem dX8_shareOut_98 : decode cX8_shareOut 98 = .ok (.getfield 25, 3) := by decide +kernel
theorem dX8_shareOut_101 : decode cX8_shareOut 101 = .ok (.iload 6, 2) := by decide +kernel
theorem dX8_shareOut_103 : decode cX8_shareOut 103 = .ok (.iconst 0, 1) := by decide +kernel
theorem dX8_shareOut_104 : decode cX8_shareOut 104 = .ok (.iastore, 1) := by decide +kernel
theorem dX8_shareOut_105 : decode cX8_shareOut 105 = .ok (.iinc 5 1, 3) := by decide +kernel
theorem dX8_shareOut_108 : decode cX8_shareOut 108 = .ok (.goto (-95), 3) := by decide +kernel
theorem dX8_shareOut_111 : decode cX8_shareOut 111 = .ok (.aload_n 0, 1) := by decide +kernel
theorem dX8_shareOut_112 : decode cX8_shareOut 112 = .ok (.getfield 22, 3) := by decide +kernel
theorem dX8_shareOut_115 : decode cX8_shareOut 115 = .ok (.iload_n 1, 1) := by decide +kernel
theorem dX8_shareOut_116 : decode cX8_shareOut 116 = .ok (.iload_n 3, 1) := by decide +kernel
theorem dX8_shareOut_117 : decode cX8_shareOut 117 = .ok (.iload 4, 2) := by decide +kernel
theorem dX8_shareOut_119 : decode cX8_shareOut 119 = .ok (.isub, 1) := by decide +kernel
theorem dX8_shareOut_120 : decode cX8_shareOut 120 = .ok (.iastore, 1) := by decide +kernel
theorem dX8_shareOut_121 : decode cX8_shareOut 121 = .ok (.iload 4, 2) := by decide +kernel
theorem dX8_shareOut_123 : decode cX8_shareOut 123 = .ok (.ireturn, 1) := by decide +kernel
theorem dX8_liveWeek_0 : decode cX8_liveWeek 0 = .ok (.aload_n 1, 1) := by decide +kernel
theorem dX8_liveWeek_1 : decode cX8_liveWeek 1 = .ok (.aload_n 0, 1) := by decide +kernel
theorem dX8_liveWeek_2 : decode cX8_liveWeek 2 = .ok (.getfield 44, 3) := by decide +kernel
theorem dX8_liveWeek_5 : decode cX8_liveWeek 5 = .ok (.invokevirtual 113, 3) := by decide +kernel
theorem dX8_liveWeek_8 : decode cX8_liveWeek 8 = .ok (.istore_n 2, 1) := by decide +kernel
theorem dX8_liveWeek_9 : decode cX8_liveWeek 9 = .ok (.aload_n 1, 1) := by decide +kernel
theorem dX8_liveWeek_10 : decode cX8_liveWeek 10 = .ok (.aload_n 0, 1) := by decide +kernel
theorem dX8_liveWeek_11 : decode cX8_liveWeek 11 = .ok (.getfield 44, 3) := by decide +kernel
theorem dX8_liveWeek_14 : decode cX8_liveWeek 14 = .ok (.invokevirtual 113, 3) := by decide +kernel
theorem dX8_liveWeek_17 : decode cX8_liveWeek 17 = .ok (.istore_n 3, 1) := by decide +kernel
theorem dX8_liveWeek_18 : decode cX8_liveWeek 18 = .ok (.aload_n 1, 1) := by decide +kernel
theorem dX8_liveWeek_19 : decode cX8_liveWeek 19 = .ok (.bipush 9, 2) := by decide +kernel
theorem dX8_liveWeek_21 : decode cX8_liveWeek 21 = .ok (.invokevirtual 113, 3) := by decide +kernel
theorem dX8_liveWeek_24 : decode cX8_liveWeek 24 = .ok (.iconst 1, 1) := by decide +kernel
theorem dX8_liveWeek_25 : decode cX8_liveWeek 25 = .ok (.iadd, 1) := by decide +kernel
theorem dX8_liveWeek_26 : decode cX8_liveWeek 26 = .ok (.istore 4, 2) := by decide +kernel
theorem dX8_liveWeek_28 : decode cX8_liveWeek 28 = .ok (.iload_n 2, 1) := by decide +kernel
theorem dX8_liveWeek_29 : decode cX8_liveWeek 29 = .ok (.iload_n 3, 1) := by decide +kernel
theorem dX8_liveWeek_30 : decode cX8_liveWeek 30 = .ok (.if_icmp .eq 49, 3) := by decide +kernel
theorem dX8_liveWeek_33 : decode cX8_liveWeek 33 = .ok (.aload_n 0, 1) := by decide +kernel
theorem dX8_liveWeek_34 : decode cX8_liveWeek 34 = .ok (.iload_n 2, 1) := by decide +kernel
theorem dX8_liveWeek_35 : decode cX8_liveWeek 35 = .ok (.iload_n 3, 1) := by decide +kernel
theorem dX8_liveWeek_36 : decode cX8_liveWeek 36 = .ok (.invokevirtual 118, 3) := by decide +kernel
theorem dX8_liveWeek_39 : decode cX8_liveWeek 39 = .ok (.ifCond .ne 40, 3) := by decide +kernel
theorem dX8_liveWeek_42 : decode cX8_liveWeek 42 = .ok (.aload_n 0, 1) := by decide +kernel
theorem dX8_liveWeek_43 : decode cX8_liveWeek 43 = .ok (.iload_n 3, 1) := by decide +kernel
theorem dX8_liveWeek_44 : decode cX8_liveWeek 44 = .ok (.invokevirtual 90, 3) := by decide +kernel
theorem dX8_liveWeek_47 : decode cX8_liveWeek 47 = .ok (.getfield 122, 3) := by decide +kernel
theorem dX8_liveWeek_50 : decode cX8_liveWeek 50 = .ok (.ifCond .eq 23, 3) := by decide +kernel
theorem dX8_liveWeek_53 : decode cX8_liveWeek 53 = .ok (.aload_n 1, 1) := by decide +kernel
theorem dX8_liveWeek_54 : decode cX8_liveWeek 54 = .ok (.iconst 2, 1) := by decide +kernel
theorem dX8_liveWeek_55 : decode cX8_liveWeek 55 = .ok (.invokevirtual 113, 3) := by decide +kernel
theorem dX8_liveWeek_58 : decode cX8_liveWeek 58 = .ok (.iconst 1, 1) := by decide +kernel
theorem dX8_liveWeek_59 : decode cX8_liveWeek 59 = .ok (.if_icmp .ne 14, 3) := by decide +kernel
theorem dX8_liveWeek_62 : decode cX8_liveWeek 62 = .ok (.aload_n 0, 1) := by decide +kernel
theorem dX8_liveWeek_63 : decode cX8_liveWeek 63 = .ok (.iload_n 2, 1) := by decide +kernel
theorem dX8_liveWeek_64 : decode cX8_liveWeek 64 = .ok (.iload_n 3, 1) := by decide +kernel
theorem dX8_liveWeek_65 : decode cX8_liveWeek 65 = .ok (.iload 4, 2) := by decide +kernel
theorem dX8_liveWeek_67 : decode cX8_liveWeek 67 = .ok (.invokevirtual 125, 3) := by decide +kernel
theorem dX8_liveWeek_70 : decode cX8_liveWeek 70 = .ok (.goto 9, 3) := by decide +kernel
theorem dX8_liveWeek_73 : decode cX8_liveWeek 73 = .ok (.aload_n 0, 1) := by decide +kernel
theorem dX8_liveWeek_74 : decode cX8_liveWeek 74 = .ok (.iload_n 2, 1) := by decide +kernel
theorem dX8_liveWeek_75 : decode cX8_liveWeek 75 = .ok (.iload_n 3, 1) := by decide +kernel
theorem dX8_liveWeek_76 : decode cX8_liveWeek 76 = .ok (.invokevirtual 129, 3) := by decide +kernel
theorem dX8_liveWeek_79 : decode cX8_liveWeek 79 = .ok (.aload_n 0, 1) := by decide +kernel
theorem dX8_liveWeek_80 : decode cX8_liveWeek 80 = .ok (.invokevirtual 133, 3) := by decide +kernel
theorem dX8_liveWeek_83 : decode cX8_liveWeek 83 = .ok (.pop, 1) := by decide +kernel
theorem dX8_liveWeek_84 : decode cX8_liveWeek 84 = .ok (.return_, 1) := by decide +kernel
theorem dX9_init_0 : decode cX9_init 0 = .ok (.aload_n 0, 1) := by decide +kernel
theorem dX9_init_1 : decode cX9_init 1 = .ok (.invokespecial 3, 3) := by decide +kernel
theorem dX9_init_4 : decode cX9_init 4 = .ok (.aload_n 0, 1) := by decide +kernel
theorem dX9_init_5 : decode cX9_init 5 = .ok (.new 9, 3) := by decide +kernel
theorem dX9_init_8 : decode cX9_init 8 = .ok (.dup, 1) := by decide +kernel
theorem dX9_init_9 : decode cX9_init 9 = .ok (.invokespecial 11, 3) := by decide +kernel
theorem dX9_init_12 : decode cX9_init 12 = .ok (.putfield 12, 3) := by decide +kernel
theorem dX9_init_15 : decode cX9_init 15 = .ok (.aload_n 0, 1) := by decide +kernel
theorem dX9_init_16 : decode cX9_init 16 = .ok (.new 16, 3) := by decide +kernel
theorem dX9_init_19 : decode cX9_init 19 = .ok (.dup, 1) := by decide +kernel
theorem dX9_init_20 : decode cX9_init 20 = .ok (.invokespecial 18, 3) := by decide +kernel
theorem dX9_init_23 : decode cX9_init 23 = .ok (.putfield 19, 3) := by decide +kernel
theorem dX9_init_26 : decode cX9_init 26 = .ok (.aload_n 0, 1) := by decide +kernel
theorem dX9_init_27 : decode cX9_init 27 = .ok (.new 23, 3) := by decide +kernel
theorem dX9_init_30 : decode cX9_init 30 = .ok (.dup, 1) := by decide +kernel
theorem dX9_init_31 : decode cX9_init 31 = .ok (.invokespecial 25, 3) := by decide +kernel
theorem dX9_init_34 : decode cX9_init 34 = .ok (.putfield 26, 3) := by decide +kernel
theorem dX9_init_37 : decode cX9_init 37 = .ok (.aload_n 0, 1) := by decide +kernel
theorem dX9_init_38 : decode cX9_init 38 = .ok (.new 16, 3) := by decide +kernel
theorem dX9_init_41 : decode cX9_init 41 = .ok (.dup, 1) := by decide +kernel
theorem dX9_init_42 : decode cX9_init 42 = .ok (.invokespecial 18, 3) := by decide +kernel
theorem dX9_init_45 : decode cX9_init 45 = .ok (.putfield 30, 3) := by decide +kernel
theorem dX9_init_48 : decode cX9_init 48 = .ok (.aload_n 0, 1) := by decide +kernel
theorem dX9_init_49 : decode cX9_init 49 = .ok (.new 23, 3) := by decide +kernel
theorem dX9_init_52 : decode cX9_init 52 = .ok (.dup, 1) := by decide +kernel
theorem dX9_init_53 : decode cX9_init 53 = .ok (.invokespecial 25, 3) := by decide +kernel
theorem dX9_init_56 : decode cX9_init 56 = .ok (.putfield 33, 3) := by decide +kernel
theorem dX9_init_59 : decode cX9_init 59 = .ok (.aload_n 0, 1) := by decide +kernel
theorem dX9_init_60 : decode cX9_init 60 = .ok (.new 16, 3) := by decide +kernel
theorem dX9_init_63 : decode cX9_init 63 = .ok (.dup, 1) := by decide +kernel
theorem dX9_init_64 : decode cX9_init 64 = .ok (.invokespecial 18, 3) := by decide +kernel
theorem dX9_init_67 : decode cX9_init 67 = .ok (.putfield 36, 3) := by decide +kernel
theorem dX9_init_70 : decode cX9_init 70 = .ok (.aload_n 0, 1) := by decide +kernel
theorem dX9_init_71 : decode cX9_init 71 = .ok (.new 39, 3) := by decide +kernel
theorem dX9_init_74 : decode cX9_init 74 = .ok (.dup, 1) := by decide +kernel
theorem dX9_init_75 : decode cX9_init 75 = .ok (.invokespecial 41, 3) := by decide +kernel
theorem dX9_init_78 : decode cX9_init 78 = .ok (.putfield 42, 3) := by decide +kernel
theorem dX9_init_81 : decode cX9_init 81 = .ok (.aload_n 0, 1) := by decide +kernel
theorem dX9_init_82 : decode cX9_init 82 = .ok (.new 46, 3) := by decide +kernel
theorem dX9_init_85 : decode cX9_init 85 = .ok (.dup, 1) := by decide +kernel
theorem dX9_init_86 : decode cX9_init 86 = .ok (.invokespecial 48, 3) := by decide +kernel
theorem dX9_init_89 : decode cX9_init 89 = .ok (.putfield 49, 3) := by decide +kernel
theorem dX9_init_92 : decode cX9_init 92 = .ok (.aload_n 0, 1) := by decide +kernel
theorem dX9_init_93 : decode cX9_init 93 = .ok (.new 53, 3) := by decide +kernel
theorem dX9_init_96 : decode cX9_init 96 = .ok (.dup, 1) := by decide +kernel
theorem dX9_init_97 : decode cX9_init 97 = .ok (.invokespecial 55, 3) := by decide +kernel
theorem dX9_init_100 : decode cX9_init 100 = .ok (.putfield 56, 3) := by decide +kernel
theorem dX9_init_103 : decode cX9_init 103 = .ok (.aload_n 0, 1) := by decide +kernel
theorem dX9_init_104 : decode cX9_init 104 = .ok (.new 60, 3) := by decide +kernel
theorem dX9_init_107 : decode cX9_init 107 = .ok (.dup, 1) := by decide +kernel
theorem dX9_init_108 : decode cX9_init 108 = .ok (.invokespecial 62, 3) := by decide +kernel
theorem dX9_init_111 : decode cX9_init 111 = .ok (.putfield 63, 3) := by decide +kernel
theorem dX9_init_114 : decode cX9_init 114 = .ok (.aload_n 0, 1) := by decide +kernel
theorem dX9_init_115 : decode cX9_init 115 = .ok (.iconst 5, 1) := by decide +kernel
theorem dX9_init_116 : decode cX9_init 116 = .ok (.newarray .int, 2) := by decide +kernel
theorem dX9_init_118 : decode cX9_init 118 = .ok (.putfield 67, 3) := by decide +kernel
theorem dX9_init_121 : decode cX9_init 121 = .ok (.return_, 1) := by decide +kernel
theorem dX9_letter_0 : decode cX9_letter 0 = .ok (.iload_n 1, 1) := by decide +kernel
theorem dX9_letter_1 : decode cX9_letter 1 = .ok (.bipush 32, 2) := by decide +kernel
theorem dX9_letter_3 : decode cX9_letter 3 = .ok (.bipush 126, 2) := by decide +kernel
theorem dX9_letter_5 : decode cX9_letter 5 = .ok (.invokestatic 71, 3) := by decide +kernel
theorem dX9_letter_8 : decode cX9_letter 8 = .ok (.ifCond .ne 6, 3) := by decide +kernel
theorem dX9_letter_11 : decode cX9_letter 11 = .ok (.bipush (-102), 2) := by decide +kernel
theorem dX9_letter_13 : decode cX9_letter 13 = .ok (.ireturn, 1) := by decide +kernel
theorem dX9_letter_14 : decode cX9_letter 14 = .ok (.aload_n 0, 1) := by decide +kernel
theorem dX9_letter_15 : decode cX9_letter 15 = .ok (.getfield 12, 3) := by decide +kernel
theorem dX9_letter_18 : decode cX9_letter 18 = .ok (.getfield 75, 3) := by decide +kernel
theorem dX9_letter_21 : decode cX9_letter 21 = .ok (.bipush 6, 2) := by decide +kernel
theorem dX9_letter_23 : decode cX9_letter 23 = .ok (.if_icmp .lt 6, 3) := by decide +kernel
theorem dX9_letter_26 : decode cX9_letter 26 = .ok (.bipush (-104), 2) := by decide +kernel
theorem dX9_letter_28 : decode cX9_letter 28 = .ok (.ireturn, 1) := by decide +kernel
theorem dX9_letter_29 : decode cX9_letter 29 = .ok (.aload_n 0, 1) := by decide +kernel
theorem dX9_letter_30 : decode cX9_letter 30 = .ok (.getfield 12, 3) := by decide +kernel
theorem dX9_letter_33 : decode cX9_letter 33 = .ok (.iload_n 1, 1) := by decide +kernel
theorem dX9_letter_34 : decode cX9_letter 34 = .ok (.invokevirtual 79, 3) := by decide +kernel
theorem dX9_letter_37 : decode cX9_letter 37 = .ok (.aload_n 0, 1) := by decide +kernel
theorem dX9_letter_38 : decode cX9_letter 38 = .ok (.getfield 12, 3) := by decide +kernel
theorem dX9_letter_41 : decode cX9_letter 41 = .ok (.getfield 75, 3) := by decide +kernel
theorem dX9_letter_44 : decode cX9_letter 44 = .ok (.ireturn, 1) := by decide +kernel
theorem dX9_blank_0 : decode cX9_blank 0 = .ok (.aload_n 0, 1) := by decide +kernel
theorem dX9_blank_1 : decode cX9_blank 1 = .ok (.getfield 12, 3) := by decide +kernel
theorem dX9_blank_4 : decode cX9_blank 4 = .ok (.getfield 75, 3) := by decide +kernel
theorem dX9_blank_7 : decode cX9_blank 7 = .ok (.istore_n 1, 1) := by decide +kernel
theorem dX9_blank_8 : decode cX9_blank 8 = .ok (.aload_n 0, 1) := by decide +kernel
theorem dX9_blank_9 : decode cX9_blank 9 = .ok (.getfield 12, 3) := by decide +kernel
theorem dX9_blank_12 : decode cX9_blank 12 = .ok (.iconst 0, 1) := by decide +kernel
theorem dX9_blank_13 : decode cX9_blank 13 = .ok (.putfield 75, 3) := by decide +kernel
theorem dX9_blank_16 : decode cX9_blank 16 = .ok (.iload_n 1, 1) := by decide +kernel
theorem dX9_blank_17 : decode cX9_blank 17 = .ok (.ireturn, 1) := by decide +kernel
theorem dX9_fault_0 : decode cX9_fault 0 = .ok (.aload_n 0, 1) := by decide +kernel
theorem dX9_fault_1 : decode cX9_fault 1 = .ok (.getfield 12, 3) := by decide +kernel
theorem dX9_fault_4 : decode cX9_fault 4 = .ok (.invokevirtual 83, 3) := by decide +kernel
theorem dX9_fault_7 : decode cX9_fault 7 = .ok (.ireturn, 1) := by decide +kernel
theorem dX9_law_0 : decode cX9_law 0 = .ok (.aload_n 0, 1) := by decide +kernel
theorem dX9_law_1 : decode cX9_law 1 = .ok (.getfield 12, 3) := by decide +kernel
theorem dX9_law_4 : decode cX9_law 4 = .ok (.invokevirtual 87, 3) := by decide +kernel
theorem dX9_law_7 : decode cX9_law 7 = .ok (.ifCond .ne 6, 3) := by decide +kernel
theorem dX9_law_10 : decode cX9_law 10 = .ok (.bipush (-103), 2) := by decide +kernel
theorem dX9_law_12 : decode cX9_law 12 = .ok (.ireturn, 1) := by decide +kernel
theorem dX9_law_13 : decode cX9_law 13 = .ok (.aload_n 0, 1) := by decide +kernel
theorem dX9_law_14 : decode cX9_law 14 = .ok (.getfield 19, 3) := by decide +kernel
theorem dX9_law_17 : decode cX9_law 17 = .ok (.getfield 91, 3) := by decide +kernel
theorem dX9_law_20 : decode cX9_law 20 = .ok (.aload_n 0, 1) := by decide +kernel
theorem dX9_law_21 : decode cX9_law 21 = .ok (.getfield 12, 3) := by decide +kernel
theorem dX9_law_24 : decode cX9_law 24 = .ok (.invokevirtual 95, 3) := by decide +kernel
theorem dX9_law_27 : decode cX9_law 27 = .ok (.aload_n 0, 1) := by decide +kernel
theorem dX9_law_28 : decode cX9_law 28 = .ok (.getfield 12, 3) := by decide +kernel
theorem dX9_law_31 : decode cX9_law 31 = .ok (.iconst 0, 1) := by decide +kernel
theorem dX9_law_32 : decode cX9_law 32 = .ok (.putfield 75, 3) := by decide +kernel
theorem dX9_law_35 : decode cX9_law 35 = .ok (.aload_n 0, 1) := by decide +kernel
theorem dX9_law_36 : decode cX9_law 36 = .ok (.dup, 1) := by decide +kernel
theorem dX9_law_37 : decode cX9_law 37 = .ok (.getfield 101, 3) := by decide +kernel
theorem dX9_law_40 : decode cX9_law 40 = .ok (.iconst 1, 1) := by decide +kernel
theorem dX9_law_41 : decode cX9_law 41 = .ok (.iadd, 1) := by decide +kernel
theorem dX9_law_42 : decode cX9_law 42 = .ok (.putfield 101, 3) := by decide +kernel
theorem dX9_law_45 : decode cX9_law 45 = .ok (.aload_n 0, 1) := by decide +kernel
theorem dX9_law_46 : decode cX9_law 46 = .ok (.getfield 101, 3) := by decide +kernel
theorem dX9_law_49 : decode cX9_law 49 = .ok (.ireturn, 1) := by decide +kernel
theorem dX9_person_0 : decode cX9_person 0 = .ok (.iload_n 1, 1) := by decide +kernel
theorem dX9_person_1 : decode cX9_person 1 = .ok (.invokestatic 104, 3) := by decide +kernel
theorem dX9_person_4 : decode cX9_person 4 = .ok (.ifCond .eq 13, 3) := by decide +kernel
theorem dX9_person_7 : decode cX9_person 7 = .ok (.iload_n 2, 1) := by decide +kernel
theorem dX9_person_8 : decode cX9_person 8 = .ok (.iconst 0, 1) := by decide +kernel
theorem dX9_person_9 : decode cX9_person 9 = .ok (.bipush 99, 2) := by decide +kernel
theorem dX9_person_11 : decode cX9_person 11 = .ok (.invokestatic 71, 3) := by decide +kernel
theorem dX9_person_14 : decode cX9_person 14 = .ok (.ifCond .ne 6, 3) := by decide +kernel
theorem dX9_person_17 : decode cX9_person 17 = .ok (.bipush (-102), 2) := by decide +kernel
theorem dX9_person_19 : decode cX9_person 19 = .ok (.ireturn, 1) := by decide +kernel
theorem dX9_person_20 : decode cX9_person 20 = .ok (.aload_n 0, 1) := by decide +kernel
theorem dX9_person_21 : decode cX9_person 21 = .ok (.getfield 19, 3) := by decide +kernel
theorem dX9_person_24 : decode cX9_person 24 = .ok (.getfield 108, 3) := by decide +kernel
theorem dX9_person_27 : decode cX9_person 27 = .ok (.iconst 5, 1) := by decide +kernel
theorem dX9_person_28 : decode cX9_person 28 = .ok (.if_icmp .lt 6, 3) := by decide +kernel
theorem dX9_person_31 : decode cX9_person 31 = .ok (.bipush (-104), 2) := by decide +kernel
theorem dX9_person_33 : decode cX9_person 33 = .ok (.ireturn, 1) := by decide +kernel
theorem dX9_person_34 : decode cX9_person 34 = .ok (.aload_n 0, 1) := by decide +kernel
theorem dX9_person_35 : decode cX9_person 35 = .ok (.getfield 19, 3) := by decide +kernel
theorem dX9_person_38 : decode cX9_person 38 = .ok (.iload_n 1, 1) := by decide +kernel
theorem dX9_person_39 : decode cX9_person 39 = .ok (.iload_n 2, 1) := by decide +kernel
theorem dX9_person_40 : decode cX9_person 40 = .ok (.invokevirtual 111, 3) := by decide +kernel
theorem dX9_person_43 : decode cX9_person 43 = .ok (.ireturn, 1) := by decide +kernel
theorem dX9_about_0 : decode cX9_about 0 = .ok (.aload_n 0, 1) := by decide +kernel
theorem dX9_about_1 : decode cX9_about 1 = .ok (.getfield 19, 3) := by decide +kernel
theorem dX9_about_4 : decode cX9_about 4 = .ok (.iload_n 1, 1) := by decide +kernel
theorem dX9_about_5 : decode cX9_about 5 = .ok (.invokevirtual 115, 3) := by decide +kernel
theorem dX9_about_8 : decode cX9_about 8 = .ok (.ifCond .ne 6, 3) := by decide +kernel
theorem dX9_about_11 : decode cX9_about 11 = .ok (.bipush (-101), 2) := by decide +kernel
theorem dX9_about_13 : decode cX9_about 13 = .ok (.ireturn, 1) := by decide +kernel
theorem dX9_about_14 : decode cX9_about 14 = .ok (.iload_n 2, 1) := by decide +kernel
theorem dX9_about_15 : decode cX9_about 15 = .ok (.tableswitch 96 0 5 #[37, 47, 57, 66, 75, 84], 37) := by decide +kernel
theorem dX9_about_52 : decode cX9_about 52 = .ok (.aload_n 0, 1) := by decide +kernel
theorem dX9_about_53 : decode cX9_about 53 = .ok (.getfield 19, 3) := by decide +kernel
theorem dX9_about_56 : decode cX9_about 56 = .ok (.getfield 118, 3) := by decide +kernel
theorem dX9_about_59 : decode cX9_about 59 = .ok (.iload_n 1, 1) := by decide +kernel
theorem dX9_about_60 : decode cX9_about 60 = .ok (.iaload, 1) := by decide +kernel
theorem dX9_about_61 : decode cX9_about 61 = .ok (.ireturn, 1) := by decide +kernel
theorem dX9_about_62 : decode cX9_about 62 = .ok (.aload_n 0, 1) := by decide +kernel
theorem dX9_about_63 : decode cX9_about 63 = .ok (.getfield 19, 3) := by decide +kernel
theorem dX9_about_66 : decode cX9_about 66 = .ok (.getfield 121, 3) := by decide +kernel
theorem dX9_about_69 : decode cX9_about 69 = .ok (.iload_n 1, 1) := by decide +kernel
theorem dX9_about_70 : decode cX9_about 70 = .ok (.iaload, 1) := by decide +kernel
theorem dX9_about_71 : decode cX9_about 71 = .ok (.ireturn, 1) := by decide +kernel
theorem dX9_about_72 : decode cX9_about 72 = .ok (.aload_n 0, 1) := by decide +kernel
theorem dX9_about_73 : decode cX9_about 73 = .ok (.getfield 19, 3) := by decide +kernel
theorem dX9_about_76 : decode cX9_about 76 = .ok (.iload_n 1, 1) := by decide +kernel
theorem dX9_about_77 : decode cX9_about 77 = .ok (.invokevirtual 124, 3) := by decide +kernel
theorem dX9_about_80 : decode cX9_about 80 = .ok (.ireturn, 1) := by decide +kernel
theorem dX9_about_81 : decode cX9_about 81 = .ok (.aload_n 0, 1) := by decide +kernel
theorem dX9_about_82 : decode cX9_about 82 = .ok (.getfield 19, 3) := by decide +kernel
theorem dX9_about_85 : decode cX9_about 85 = .ok (.iload_n 1, 1) := by decide +kernel
theorem dX9_about_86 : decode cX9_about 86 = .ok (.invokevirtual 128, 3) := by decide +kernel
theorem dX9_about_89 : decode cX9_about 89 = .ok (.ireturn, 1) := by decide +kernel
theorem dX9_about_90 : decode cX9_about 90 = .ok (.aload_n 0, 1) := by decide +kernel
theorem dX9_about_91 : decode cX9_about 91 = .ok (.getfield 19, 3) := by decide +kernel
theorem dX9_about_94 : decode cX9_about 94 = .ok (.iload_n 1, 1) := by decide +kernel
theorem dX9_about_95 : decode cX9_about 95 = .ok (.invokevirtual 131, 3) := by decide +kernel
theorem dX9_about_98 : decode cX9_about 98 = .ok (.ireturn, 1) := by decide +kernel
theorem dX9_about_99 : decode cX9_about 99 = .ok (.aload_n 0, 1) := by decide +kernel
theorem dX9_about_100 : decode cX9_about 100 = .ok (.getfield 19, 3) := by decide +kernel
theorem dX9_about_103 : decode cX9_about 103 = .ok (.iload_n 1, 1) := by decide +kernel
theorem dX9_about_104 : decode cX9_about 104 = .ok (.invokevirtual 134, 3) := by decide +kernel
theorem dX9_about_107 : decode cX9_about 107 = .ok (.invokestatic 137, 3) := by decide +kernel
theorem dX9_about_110 : decode cX9_about 110 = .ok (.ireturn, 1) := by decide +kernel
theorem dX9_about_111 : decode cX9_about 111 = .ok (.bipush (-102), 2) := by decide +kernel
theorem dX9_about_113 : decode cX9_about 113 = .ok (.ireturn, 1) := by decide +kernel
theorem dX9_as_0 : decode cX9_as 0 = .ok (.aload_n 0, 1) := by decide +kernel
theorem dX9_as_1 : decode cX9_as 1 = .ok (.getfield 19, 3) := by decide +kernel
theorem dX9_as_4 : decode cX9_as 4 = .ok (.iload_n 1, 1) := by decide +kernel
theorem dX9_as_5 : decode cX9_as 5 = .ok (.invokevirtual 115, 3) := by decide +kernel
theorem dX9_as_8 : decode cX9_as 8 = .ok (.ifCond .ne 6, 3) := by decide +kernel
theorem dX9_as_11 : decode cX9_as 11 = .ok (.bipush (-101), 2) := by decide +kernel
theorem dX9_as_13 : decode cX9_as 13 = .ok (.ireturn, 1) := by decide +kernel
theorem dX9_as_14 : decode cX9_as 14 = .ok (.iload_n 2, 1) := by decide +kernel
theorem dX9_as_15 : decode cX9_as 15 = .ok (.invokestatic 104, 3) := by decide +kernel
theorem dX9_as_18 : decode cX9_as 18 = .ok (.ifCond .ne 6, 3) := by decide +kernel
theorem dX9_as_21 : decode cX9_as 21 = .ok (.bipush (-102), 2) := by decide +kernel
theorem dX9_as_23 : decode cX9_as 23 = .ok (.ireturn, 1) := by decide +kernel
theorem dX9_as_24 : decode cX9_as 24 = .ok (.aload_n 0, 1) := by decide +kernel
theorem dX9_as_25 : decode cX9_as 25 = .ok (.getfield 19, 3) := by decide +kernel
theorem dX9_as_28 : decode cX9_as 28 = .ok (.iload_n 1, 1) := by decide +kernel
theorem dX9_as_29 : decode cX9_as 29 = .ok (.invokevirtual 141, 3) := by decide +kernel
theorem dX9_as_32 : decode cX9_as 32 = .ok (.getstatic 145, 3) := by decide +kernel
theorem dX9_as_35 : decode cX9_as 35 = .ok (.iload_n 2, 1) := by decide +kernel
theorem dX9_as_36 : decode cX9_as 36 = .ok (.aaload, 1) := by decide +kernel
theorem dX9_as_37 : decode cX9_as 37 = .ok (.invokevirtual 149, 3) := by decide +kernel
theorem dX9_as_40 : decode cX9_as 40 = .ok (.ifCond .eq 7, 3) := by decide +kernel
theorem dX9_as_43 : decode cX9_as 43 = .ok (.iload_n 1, 1) := by decide +kernel
theorem dX9_as_44 : decode cX9_as 44 = .ok (.goto 4, 3) := by decide +kernel
theorem dX9_as_47 : decode cX9_as 47 = .ok (.iconst (-1), 1) := by decide +kernel
theorem dX9_as_48 : decode cX9_as 48 = .ok (.ireturn, 1) := by decide +kernel
theorem dX9_between_0 : decode cX9_between 0 = .ok (.aload_n 0, 1) := by decide +kernel
theorem dX9_between_1 : decode cX9_between 1 = .ok (.getfield 19, 3) := by decide +kernel
theorem dX9_between_4 : decode cX9_between 4 = .ok (.iload_n 1, 1) := by decide +kernel
theorem dX9_between_5 : decode cX9_between 5 = .ok (.iload_n 2, 1) := by decide +kernel
theorem dX9_between_6 : decode cX9_between 6 = .ok (.invokevirtual 155, 3) := by decide +kernel
theorem dX9_between_9 : decode cX9_between 9 = .ok (.ifCond .ne 6, 3) := by decide +kernel
theorem dX9_between_12 : decode cX9_between 12 = .ok (.bipush (-101), 2) := by decide +kernel
theorem dX9_between_14 : decode cX9_between 14 = .ok (.ireturn, 1) := by decide +kernel
theorem dX9_between_15 : decode cX9_between 15 = .ok (.iload_n 1, 1) := by decide +kernel
theorem dX9_between_16 : decode cX9_between 16 = .ok (.iload_n 2, 1) := by decide +kernel
theorem dX9_between_17 : decode cX9_between 17 = .ok (.invokestatic 159, 3) := by decide +kernel
theorem dX9_between_20 : decode cX9_between 20 = .ok (.istore 4, 2) := by decide +kernel
theorem dX9_between_22 : decode cX9_between 22 = .ok (.iload_n 3, 1) := by decide +kernel
theorem dX9_between_23 : decode cX9_between 23 = .ok (.tableswitch 58 0 2 #[25, 36, 47], 25) := by decide +kernel
theorem dX9_between_48 : decode cX9_between 48 = .ok (.aload_n 0, 1) := by decide +kernel
theorem dX9_between_49 : decode cX9_between 49 = .ok (.getfield 19, 3) := by decide +kernel
theorem dX9_between_52 : decode cX9_between 52 = .ok (.getfield 162, 3) := by decide +kernel
theorem dX9_between_55 : decode cX9_between 55 = .ok (.iload 4, 2) := by decide +kernel
theorem dX9_between_57 : decode cX9_between 57 = .ok (.iaload, 1) := by decide +kernel
theorem dX9_between_58 : decode cX9_between 58 = .ok (.ireturn, 1) := by decide +kernel
theorem dX9_between_59 : decode cX9_between 59 = .ok (.aload_n 0, 1) := by decide +kernel
theorem dX9_between_60 : decode cX9_between 60 = .ok (.getfield 19, 3) := by decide +kernel
theorem dX9_between_63 : decode cX9_between 63 = .ok (.getfield 165, 3) := by decide +kernel
theorem dX9_between_66 : decode cX9_between 66 = .ok (.iload 4, 2) := by decide +kernel
theorem dX9_between_68 : decode cX9_between 68 = .ok (.iaload, 1) := by decide +kernel
theorem dX9_between_69 : decode cX9_between 69 = .ok (.ireturn, 1) := by decide +kernel
theorem dX9_between_70 : decode cX9_between 70 = .ok (.aload_n 0, 1) := by decide +kernel
theorem dX9_between_71 : decode cX9_between 71 = .ok (.getfield 19, 3) := by decide +kernel
theorem dX9_between_74 : decode cX9_between 74 = .ok (.getfield 168, 3) := by decide +kernel
theorem dX9_between_77 : decode cX9_between 77 = .ok (.iload 4, 2) := by decide +kernel
theorem dX9_between_79 : decode cX9_between 79 = .ok (.iaload, 1) := by decide +kernel
theorem dX9_between_80 : decode cX9_between 80 = .ok (.ireturn, 1) := by decide +kernel
theorem dX9_between_81 : decode cX9_between 81 = .ok (.bipush (-102), 2) := by decide +kernel
theorem dX9_between_83 : decode cX9_between 83 = .ok (.ireturn, 1) := by decide +kernel
theorem dX9_favour_0 : decode cX9_favour 0 = .ok (.aload_n 0, 1) := by decide +kernel
theorem dX9_favour_1 : decode cX9_favour 1 = .ok (.getfield 19, 3) := by decide +kernel
theorem dX9_favour_4 : decode cX9_favour 4 = .ok (.iload_n 1, 1) := by decide +kernel
theorem dX9_favour_5 : decode cX9_favour 5 = .ok (.iload_n 2, 1) := by decide +kernel
theorem dX9_favour_6 : decode cX9_favour 6 = .ok (.invokevirtual 155, 3) := by decide +kernel
theorem dX9_favour_9 : decode cX9_favour 9 = .ok (.ifCond .ne 6, 3) := by decide +kernel
theorem dX9_favour_12 : decode cX9_favour 12 = .ok (.bipush (-101), 2) := by decide +kernel
theorem dX9_favour_14 : decode cX9_favour 14 = .ok (.ireturn, 1) := by decide +kernel
theorem dX9_favour_15 : decode cX9_favour 15 = .ok (.iload_n 3, 1) := by decide +kernel
theorem dX9_favour_16 : decode cX9_favour 16 = .ok (.invokestatic 171, 3) := by decide +kernel
theorem dX9_favour_19 : decode cX9_favour 19 = .ok (.ifCond .ne 6, 3) := by decide +kernel
theorem dX9_favour_22 : decode cX9_favour 22 = .ok (.bipush (-102), 2) := by decide +kernel
theorem dX9_favour_24 : decode cX9_favour 24 = .ok (.ireturn, 1) := by decide +kernel
theorem dX9_favour_25 : decode cX9_favour 25 = .ok (.aload_n 0, 1) := by decide +kernel
theorem dX9_favour_26 : decode cX9_favour 26 = .ok (.getfield 19, 3) := by decide +kernel
theorem dX9_favour_29 : decode cX9_favour 29 = .ok (.iload_n 1, 1) := by decide +kernel
theorem dX9_favour_30 : decode cX9_favour 30 = .ok (.iload_n 2, 1) := by decide +kernel
theorem dX9_favour_31 : decode cX9_favour 31 = .ok (.invokevirtual 174, 3) := by decide +kernel
theorem dX9_favour_34 : decode cX9_favour 34 = .ok (.ifCond .ne 22, 3) := by decide +kernel
theorem dX9_favour_37 : decode cX9_favour 37 = .ok (.iload 4, 2) := by decide +kernel
theorem dX9_favour_39 : decode cX9_favour 39 = .ok (.ifCond .eq 20, 3) := by decide +kernel
theorem dX9_favour_42 : decode cX9_favour 42 = .ok (.aload_n 0, 1) := by decide +kernel
theorem dX9_favour_43 : decode cX9_favour 43 = .ok (.getfield 19, 3) := by decide +kernel
theorem dX9_favour_46 : decode cX9_favour 46 = .ok (.iload_n 2, 1) := by decide +kernel
theorem dX9_favour_47 : decode cX9_favour 47 = .ok (.invokevirtual 141, 3) := by decide +kernel
theorem dX9_favour_50 : decode cX9_favour 50 = .ok (.getfield 177, 3) := by decide +kernel
theorem dX9_favour_53 : decode cX9_favour 53 = .ok (.ifCond .ne 6, 3) := by decide +kernel
theorem dX9_favour_56 : decode cX9_favour 56 = .ok (.bipush (-103), 2) := by decide +kernel
theorem dX9_favour_58 : decode cX9_favour 58 = .ok (.ireturn, 1) := by decide +kernel
theorem dX9_favour_59 : decode cX9_favour 59 = .ok (.iload 4, 2) := by decide +kernel
theorem dX9_favour_61 : decode cX9_favour 61 = .ok (.ifCond .eq 16, 3) := by decide +kernel
theorem dX9_favour_64 : decode cX9_favour 64 = .ok (.aload_n 0, 1) := by decide +kernel
theorem dX9_favour_65 : decode cX9_favour 65 = .ok (.getfield 19, 3) := by decide +kernel
theorem dX9_favour_68 : decode cX9_favour 68 = .ok (.iload_n 1, 1) := by decide +kernel
theorem dX9_favour_69 : decode cX9_favour 69 = .ok (.iload_n 2, 1) := by decide +kernel
theorem dX9_favour_70 : decode cX9_favour 70 = .ok (.iload_n 3, 1) := by decide +kernel
theorem dX9_favour_71 : decode cX9_favour 71 = .ok (.invokevirtual 181, 3) := by decide +kernel
theorem dX9_favour_74 : decode cX9_favour 74 = .ok (.goto 12, 3) := by decide +kernel
theorem dX9_favour_77 : decode cX9_favour 77 = .ok (.aload_n 0, 1) := by decide +kernel
theorem dX9_favour_78 : decode cX9_favour 78 = .ok (.getfield 19, 3) := by decide +kernel
theorem dX9_favour_81 : decode cX9_favour 81 = .ok (.iload_n 1, 1) := by decide +kernel
theorem dX9_favour_82 : decode cX9_favour 82 = .ok (.iload_n 2, 1) := by decide +kernel
theorem dX9_favour_83 : decode cX9_favour 83 = .ok (.invokevirtual 185, 3) := by decide +kernel
theorem dX9_favour_86 : decode cX9_favour 86 = .ok (.aload_n 0, 1) := by decide +kernel
theorem dX9_favour_87 : decode cX9_favour 87 = .ok (.getfield 19, 3) := by decide +kernel
theorem dX9_favour_90 : decode cX9_favour 90 = .ok (.getfield 162, 3) := by decide +kernel
theorem dX9_favour_93 : decode cX9_favour 93 = .ok (.iload_n 2, 1) := by decide +kernel
theorem dX9_favour_94 : decode cX9_favour 94 = .ok (.iload_n 1, 1) := by decide +kernel
theorem dX9_favour_95 : decode cX9_favour 95 = .ok (.invokestatic 159, 3) := by decide +kernel
theorem dX9_favour_98 : decode cX9_favour 98 = .ok (.iaload, 1) := by decide +kernel
theorem dX9_favour_99 : decode cX9_favour 99 = .ok (.ireturn, 1) := by decide +kernel
theorem dX9_week_0 : decode cX9_week 0 = .ok (.aload_n 0, 1) := by decide +kernel
theorem dX9_week_1 : decode cX9_week 1 = .ok (.getfield 19, 3) := by decide +kernel
theorem dX9_week_4 : decode cX9_week 4 = .ok (.invokevirtual 189, 3) := by decide +kernel
theorem dX9_week_7 : decode cX9_week 7 = .ok (.ireturn, 1) := by decide +kernel
theorem dX9_pay_0 : decode cX9_pay 0 = .ok (.aload_n 0, 1) := by decide +kernel
theorem dX9_pay_1 : decode cX9_pay 1 = .ok (.getfield 19, 3) := by decide +kernel
theorem dX9_pay_4 : decode cX9_pay 4 = .ok (.iload_n 1, 1) := by decide +kernel
theorem dX9_pay_5 : decode cX9_pay 5 = .ok (.iload_n 2, 1) := by decide +kernel
theorem dX9_pay_6 : decode cX9_pay 6 = .ok (.invokevirtual 155, 3) := by decide +kernel
theorem dX9_pay_9 : decode cX9_pay 9 = .ok (.ifCond .ne 6, 3) := by decide +kernel
theorem dX9_pay_12 : decode cX9_pay 12 = .ok (.bipush (-101), 2) := by decide +kernel
theorem dX9_pay_14 : decode cX9_pay 14 = .ok (.ireturn, 1) := by decide +kernel
theorem dX9_pay_15 : decode cX9_pay 15 = .ok (.iload_n 3, 1) := by decide +kernel
theorem dX9_pay_16 : decode cX9_pay 16 = .ok (.iconst 1, 1) := by decide +kernel
theorem dX9_pay_17 : decode cX9_pay 17 = .ok (.sipush 999, 3) := by decide +kernel
theorem dX9_pay_20 : decode cX9_pay 20 = .ok (.invokestatic 71, 3) := by decide +kernel
theorem dX9_pay_23 : decode cX9_pay 23 = .ok (.ifCond .ne 6, 3) := by decide +kernel
theorem dX9_pay_26 : decode cX9_pay 26 = .ok (.bipush (-102), 2) := by decide +kernel
theorem dX9_pay_28 : decode cX9_pay 28 = .ok (.ireturn, 1) := by decide +kernel
theorem dX9_pay_29 : decode cX9_pay 29 = .ok (.iload_n 1, 1) := by decide +kernel
theorem dX9_pay_30 : decode cX9_pay 30 = .ok (.iload_n 2, 1) := by decide +kernel
theorem dX9_pay_31 : decode cX9_pay 31 = .ok (.invokestatic 159, 3) := by decide +kernel
theorem dX9_pay_34 : decode cX9_pay 34 = .ok (.istore 4, 2) := by decide +kernel
theorem dX9_pay_36 : decode cX9_pay 36 = .ok (.aload_n 0, 1) := by decide +kernel
theorem dX9_pay_37 : decode cX9_pay 37 = .ok (.getfield 19, 3) := by decide +kernel
theorem dX9_pay_40 : decode cX9_pay 40 = .ok (.getfield 121, 3) := by decide +kernel
theorem dX9_pay_43 : decode cX9_pay 43 = .ok (.iload_n 1, 1) := by decide +kernel
theorem dX9_pay_44 : decode cX9_pay 44 = .ok (.iaload, 1) := by decide +kernel
theorem dX9_pay_45 : decode cX9_pay 45 = .ok (.iload_n 3, 1) := by decide +kernel
theorem dX9_pay_46 : decode cX9_pay 46 = .ok (.if_icmp .lt 34, 3) := by decide +kernel
theorem dX9_pay_49 : decode cX9_pay 49 = .ok (.aload_n 0, 1) := by decide +kernel
theorem dX9_pay_50 : decode cX9_pay 50 = .ok (.getfield 19, 3) := by decide +kernel
theorem dX9_pay_53 : decode cX9_pay 53 = .ok (.getfield 162, 3) := by decide +kernel
theorem dX9_pay_56 : decode cX9_pay 56 = .ok (.iload 4, 2) := by decide +kernel
theorem dX9_pay_58 : decode cX9_pay 58 = .ok (.iaload, 1) := by decide +kernel
theorem dX9_pay_59 : decode cX9_pay 59 = .ok (.iload_n 3, 1) := by decide +kernel
theorem dX9_pay_60 : decode cX9_pay 60 = .ok (.if_icmp .lt 20, 3) := by decide +kernel
theorem dX9_pay_63 : decode cX9_pay 63 = .ok (.aload_n 0, 1) := by decide +kernel
theorem dX9_pay_64 : decode cX9_pay 64 = .ok (.getfield 19, 3) := by decide +kernel
theorem dX9_pay_67 : decode cX9_pay 67 = .ok (.getfield 121, 3) := by decide +kernel
theorem dX9_pay_70 : decode cX9_pay 70 = .ok (.iload_n 2, 1) := by decide +kernel
theorem dX9_pay_71 : decode cX9_pay 71 = .ok (.iaload, 1) := by decide +kernel
theorem dX9_pay_72 : decode cX9_pay 72 = .ok (.iload_n 3, 1) := by decide +kernel
theorem dX9_pay_73 : decode cX9_pay 73 = .ok (.iadd, 1) := by decide +kernel
theorem dX9_pay_74 : decode cX9_pay 74 = .ok (.sipush 999, 3) := by decide +kernel
theorem dX9_pay_77 : decode cX9_pay 77 = .ok (.if_icmp .le 6, 3) := by decide +kernel
theorem dX9_pay_80 : decode cX9_pay 80 = .ok (.bipush (-103), 2) := by decide +kernel
theorem dX9_pay_82 : decode cX9_pay 82 = .ok (.ireturn, 1) := by decide +kernel
theorem dX9_pay_83 : decode cX9_pay 83 = .ok (.aload_n 0, 1) := by decide +kernel
theorem dX9_pay_84 : decode cX9_pay 84 = .ok (.getfield 19, 3) := by decide +kernel
theorem dX9_pay_87 : decode cX9_pay 87 = .ok (.getfield 121, 3) := by decide +kernel
theorem dX9_pay_90 : decode cX9_pay 90 = .ok (.iload_n 1, 1) := by decide +kernel
theorem dX9_pay_91 : decode cX9_pay 91 = .ok (.dup2, 1) := by decide +kernel
theorem dX9_pay_92 : decode cX9_pay 92 = .ok (.iaload, 1) := by decide +kernel
theorem dX9_pay_93 : decode cX9_pay 93 = .ok (.iload_n 3, 1) := by decide +kernel
theorem dX9_pay_94 : decode cX9_pay 94 = .ok (.isub, 1) := by decide +kernel
theorem dX9_pay_95 : decode cX9_pay 95 = .ok (.iastore, 1) := by decide +kernel
theorem dX9_pay_96 : decode cX9_pay 96 = .ok (.aload_n 0, 1) := by decide +kernel
theorem dX9_pay_97 : decode cX9_pay 97 = .ok (.getfield 19, 3) := by decide +kernel
theorem dX9_pay_100 : decode cX9_pay 100 = .ok (.getfield 121, 3) := by decide +kernel
theorem dX9_pay_103 : decode cX9_pay 103 = .ok (.iload_n 2, 1) := by decide +kernel
theorem dX9_pay_104 : decode cX9_pay 104 = .ok (.dup2, 1) := by decide +kernel
theorem dX9_pay_105 : decode cX9_pay 105 = .ok (.iaload, 1) := by decide +kernel
theorem dX9_pay_106 : decode cX9_pay 106 = .ok (.iload_n 3, 1) := by decide +kernel
theorem dX9_pay_107 : decode cX9_pay 107 = .ok (.iadd, 1) := by decide +kernel
theorem dX9_pay_108 : decode cX9_pay 108 = .ok (.iastore, 1) := by decide +kernel
theorem dX9_pay_109 : decode cX9_pay 109 = .ok (.aload_n 0, 1) := by decide +kernel
theorem dX9_pay_110 : decode cX9_pay 110 = .ok (.getfield 19, 3) := by decide +kernel
theorem dX9_pay_113 : decode cX9_pay 113 = .ok (.getfield 162, 3) := by decide +kernel
theorem dX9_pay_116 : decode cX9_pay 116 = .ok (.iload 4, 2) := by decide +kernel
theorem dX9_pay_118 : decode cX9_pay 118 = .ok (.dup2, 1) := by decide +kernel
theorem dX9_pay_119 : decode cX9_pay 119 = .ok (.iaload, 1) := by decide +kernel
theorem dX9_pay_120 : decode cX9_pay 120 = .ok (.iload_n 3, 1) := by decide +kernel
theorem dX9_pay_121 : decode cX9_pay 121 = .ok (.isub, 1) := by decide +kernel
theorem dX9_pay_122 : decode cX9_pay 122 = .ok (.iastore, 1) := by decide +kernel
theorem dX9_pay_123 : decode cX9_pay 123 = .ok (.aload_n 0, 1) := by decide +kernel
theorem dX9_pay_124 : decode cX9_pay 124 = .ok (.getfield 19, 3) := by decide +kernel
theorem dX9_pay_127 : decode cX9_pay 127 = .ok (.getfield 162, 3) := by decide +kernel
theorem dX9_pay_130 : decode cX9_pay 130 = .ok (.iload 4, 2) := by decide +kernel
theorem dX9_pay_132 : decode cX9_pay 132 = .ok (.iaload, 1) := by decide +kernel
theorem dX9_pay_133 : decode cX9_pay 133 = .ok (.ireturn, 1) := by decide +kernel
theorem dX9_setOff_0 : decode cX9_setOff 0 = .ok (.aload_n 0, 1) := by decide +kernel
theorem dX9_setOff_1 : decode cX9_setOff 1 = .ok (.getfield 19, 3) := by decide +kernel
theorem dX9_setOff_4 : decode cX9_setOff 4 = .ok (.iload_n 1, 1) := by decide +kernel
theorem dX9_setOff_5 : decode cX9_setOff 5 = .ok (.iload_n 2, 1) := by decide +kernel
theorem dX9_setOff_6 : decode cX9_setOff 6 = .ok (.invokevirtual 155, 3) := by decide +kernel
theorem dX9_setOff_9 : decode cX9_setOff 9 = .ok (.ifCond .ne 6, 3) := by decide +kernel
theorem dX9_setOff_12 : decode cX9_setOff 12 = .ok (.bipush (-101), 2) := by decide +kernel
theorem dX9_setOff_14 : decode cX9_setOff 14 = .ok (.ireturn, 1) := by decide +kernel
theorem dX9_setOff_15 : decode cX9_setOff 15 = .ok (.iload_n 1, 1) := by decide +kernel
theorem dX9_setOff_16 : decode cX9_setOff 16 = .ok (.iload_n 2, 1) := by decide +kernel
theorem dX9_setOff_17 : decode cX9_setOff 17 = .ok (.invokestatic 159, 3) := by decide +kernel
theorem dX9_setOff_20 : decode cX9_setOff 20 = .ok (.istore_n 3, 1) := by decide +kernel
theorem dX9_setOff_21 : decode cX9_setOff 21 = .ok (.iload_n 2, 1) := by decide +kernel
theorem dX9_setOff_22 : decode cX9_setOff 22 = .ok (.iload_n 1, 1) := by decide +kernel
theorem dX9_setOff_23 : decode cX9_setOff 23 = .ok (.invokestatic 159, 3) := by decide +kernel
theorem dX9_setOff_26 : decode cX9_setOff 26 = .ok (.istore 4, 2) := by decide +kernel
theorem dX9_setOff_28 : decode cX9_setOff 28 = .ok (.aload_n 0, 1) := by decide +kernel
theorem dX9_setOff_29 : decode cX9_setOff 29 = .ok (.getfield 19, 3) := by decide +kernel
theorem dX9_setOff_32 : decode cX9_setOff 32 = .ok (.getfield 162, 3) := by decide +kernel
theorem dX9_setOff_35 : decode cX9_setOff 35 = .ok (.iload_n 3, 1) := by decide +kernel
theorem dX9_setOff_36 : decode cX9_setOff 36 = .ok (.iaload, 1) := by decide +kernel
theorem dX9_setOff_37 : decode cX9_setOff 37 = .ok (.aload_n 0, 1) := by decide +kernel
theorem dX9_setOff_38 : decode cX9_setOff 38 = .ok (.getfield 19, 3) := by decide +kernel
theorem dX9_setOff_41 : decode cX9_setOff 41 = .ok (.getfield 162, 3) := by decide +kernel
theorem dX9_setOff_44 : decode cX9_setOff 44 = .ok (.iload 4, 2) := by decide +kernel
theorem dX9_setOff_46 : decode cX9_setOff 46 = .ok (.iaload, 1) := by decide +kernel
theorem dX9_setOff_47 : decode cX9_setOff 47 = .ok (.invokestatic 192, 3) := by decide +kernel
theorem dX9_setOff_50 : decode cX9_setOff 50 = .ok (.istore 5, 2) := by decide +kernel
theorem dX9_setOff_52 : decode cX9_setOff 52 = .ok (.aload_n 0, 1) := by decide +kernel
theorem dX9_setOff_53 : decode cX9_setOff 53 = .ok (.getfield 19, 3) := by decide +kernel
theorem dX9_setOff_56 : decode cX9_setOff 56 = .ok (.getfield 162, 3) := by decide +kernel
theorem dX9_setOff_59 : decode cX9_setOff 59 = .ok (.iload_n 3, 1) := by decide +kernel
theorem dX9_setOff_60 : decode cX9_setOff 60 = .ok (.dup2, 1) := by decide +kernel
theorem dX9_setOff_61 : decode cX9_setOff 61 = .ok (.iaload, 1) := by decide +kernel
theorem dX9_setOff_62 : decode cX9_setOff 62 = .ok (.iload 5, 2) := by decide +kernel
theorem dX9_setOff_64 : decode cX9_setOff 64 = .ok (.isub, 1) := by decide +kernel
theorem dX9_setOff_65 : decode cX9_setOff 65 = .ok (.iastore, 1) := by decide +kernel
theorem dX9_setOff_66 : decode cX9_setOff 66 = .ok (.aload_n 0, 1) := by decide +kernel
theorem dX9_setOff_67 : decode cX9_setOff 67 = .ok (.getfield 19, 3) := by decide +kernel
theorem dX9_setOff_70 : decode cX9_setOff 70 = .ok (.getfield 162, 3) := by decide +kernel
theorem dX9_setOff_73 : decode cX9_setOff 73 = .ok (.iload 4, 2) := by decide +kernel
theorem dX9_setOff_75 : decode cX9_setOff 75 = .ok (.dup2, 1) := by decide +kernel
theorem dX9_setOff_76 : decode cX9_setOff 76 = .ok (.iaload, 1) := by decide +kernel
theorem dX9_setOff_77 : decode cX9_setOff 77 = .ok (.iload 5, 2) := by decide +kernel
theorem dX9_setOff_79 : decode cX9_setOff 79 = .ok (.isub, 1) := by decide +kernel
theorem dX9_setOff_80 : decode cX9_setOff 80 = .ok (.iastore, 1) := by decide +kernel
theorem dX9_setOff_81 : decode cX9_setOff 81 = .ok (.iload 5, 2) := by decide +kernel
theorem dX9_setOff_83 : decode cX9_setOff 83 = .ok (.ireturn, 1) := by decide +kernel
theorem dX9_ring_0 : decode cX9_ring 0 = .ok (.aload_n 0, 1) := by decide +kernel
theorem dX9_ring_1 : decode cX9_ring 1 = .ok (.getfield 19, 3) := by decide +kernel
theorem dX9_ring_4 : decode cX9_ring 4 = .ok (.iload_n 1, 1) := by decide +kernel
theorem dX9_ring_5 : decode cX9_ring 5 = .ok (.iload_n 2, 1) := by decide +kernel
theorem dX9_ring_6 : decode cX9_ring 6 = .ok (.invokevirtual 155, 3) := by decide +kernel
theorem dX9_ring_9 : decode cX9_ring 9 = .ok (.ifCond .eq 20, 3) := by decide +kernel
theorem dX9_ring_12 : decode cX9_ring 12 = .ok (.aload_n 0, 1) := by decide +kernel
theorem dX9_ring_13 : decode cX9_ring 13 = .ok (.getfield 19, 3) := by decide +kernel
theorem dX9_ring_16 : decode cX9_ring 16 = .ok (.iload_n 2, 1) := by decide +kernel
theorem dX9_ring_17 : decode cX9_ring 17 = .ok (.iload_n 3, 1) := by decide +kernel
theorem dX9_ring_18 : decode cX9_ring 18 = .ok (.invokevirtual 155, 3) := by decide +kernel
theorem dX9_ring_21 : decode cX9_ring 21 = .ok (.ifCond .eq 8, 3) := by decide +kernel
theorem dX9_ring_24 : decode cX9_ring 24 = .ok (.iload_n 1, 1) := by decide +kernel
theorem dX9_ring_25 : decode cX9_ring 25 = .ok (.iload_n 3, 1) := by decide +kernel
theorem dX9_ring_26 : decode cX9_ring 26 = .ok (.if_icmp .ne 6, 3) := by decide +kernel
theorem dX9_ring_29 : decode cX9_ring 29 = .ok (.bipush (-101), 2) := by decide +kernel
theorem dX9_ring_31 : decode cX9_ring 31 = .ok (.ireturn, 1) := by decide +kernel
theorem dX9_ring_32 : decode cX9_ring 32 = .ok (.iload_n 1, 1) := by decide +kernel
theorem dX9_ring_33 : decode cX9_ring 33 = .ok (.iload_n 2, 1) := by decide +kernel
theorem dX9_ring_34 : decode cX9_ring 34 = .ok (.invokestatic 159, 3) := by decide +kernel
theorem dX9_ring_37 : decode cX9_ring 37 = .ok (.istore 4, 2) := by decide +kernel
theorem dX9_ring_39 : decode cX9_ring 39 = .ok (.iload_n 2, 1) := by decide +kernel
theorem dX9_ring_40 : decode cX9_ring 40 = .ok (.iload_n 3, 1) := by decide +kernel
theorem dX9_ring_41 : decode cX9_ring 41 = .ok (.invokestatic 159, 3) := by decide +kernel
theorem dX9_ring_44 : decode cX9_ring 44 = .ok (.istore 5, 2) := by decide +kernel
theorem dX9_ring_46 : decode cX9_ring 46 = .ok (.iload_n 3, 1) := by decide +kernel
theorem dX9_ring_47 : decode cX9_ring 47 = .ok (.iload_n 1, 1) := by decide +kernel
theorem dX9_ring_48 : decode cX9_ring 48 = .ok (.invokestatic 159, 3) := by decide +kernel
theorem dX9_ring_51 : decode cX9_ring 51 = .ok (.istore 6, 2) := by decide +kernel
theorem dX9_ring_53 : decode cX9_ring 53 = .ok (.aload_n 0, 1) := by decide +kernel
theorem dX9_ring_54 : decode cX9_ring 54 = .ok (.getfield 19, 3) := by decide +kernel
theorem dX9_ring_57 : decode cX9_ring 57 = .ok (.getfield 162, 3) := by decide +kernel
theorem dX9_ring_60 : decode cX9_ring 60 = .ok (.iload 4, 2) := by decide +kernel
theorem dX9_ring_62 : decode cX9_ring 62 = .ok (.iaload, 1) := by decide +kernel
theorem dX9_ring_63 : decode cX9_ring 63 = .ok (.aload_n 0, 1) := by decide +kernel
theorem dX9_ring_64 : decode cX9_ring 64 = .ok (.getfield 19, 3) := by decide +kernel
theorem dX9_ring_67 : decode cX9_ring 67 = .ok (.getfield 162, 3) := by decide +kernel
theorem dX9_ring_70 : decode cX9_ring 70 = .ok (.iload 5, 2) := by decide +kernel
theorem dX9_ring_72 : decode cX9_ring 72 = .ok (.iaload, 1) := by decide +kernel
theorem dX9_ring_73 : decode cX9_ring 73 = .ok (.aload_n 0, 1) := by decide +kernel
theorem dX9_ring_74 : decode cX9_ring 74 = .ok (.getfield 19, 3) := by decide +kernel
theorem dX9_ring_77 : decode cX9_ring 77 = .ok (.getfield 162, 3) := by decide +kernel
theorem dX9_ring_80 : decode cX9_ring 80 = .ok (.iload 6, 2) := by decide +kernel
theorem dX9_ring_82 : decode cX9_ring 82 = .ok (.iaload, 1) := by decide +kernel
theorem dX9_ring_83 : decode cX9_ring 83 = .ok (.invokestatic 192, 3) := by decide +kernel
theorem dX9_ring_86 : decode cX9_ring 86 = .ok (.invokestatic 192, 3) := by decide +kernel
theorem dX9_ring_89 : decode cX9_ring 89 = .ok (.istore 7, 2) := by decide +kernel
theorem dX9_ring_91 : decode cX9_ring 91 = .ok (.aload_n 0, 1) := by decide +kernel
theorem dX9_ring_92 : decode cX9_ring 92 = .ok (.getfield 19, 3) := by decide +kernel
theorem dX9_ring_95 : decode cX9_ring 95 = .ok (.getfield 162, 3) := by decide +kernel
theorem dX9_ring_98 : decode cX9_ring 98 = .ok (.iload 4, 2) := by decide +kernel
theorem dX9_ring_100 : decode cX9_ring 100 = .ok (.dup2, 1) := by decide +kernel
theorem dX9_ring_101 : decode cX9_ring 101 = .ok (.iaload, 1) := by decide +kernel
theorem dX9_ring_102 : decode cX9_ring 102 = .ok (.iload 7, 2) := by decide +kernel
theorem dX9_ring_104 : decode cX9_ring 104 = .ok (.isub, 1) := by decide +kernel
theorem dX9_ring_105 : decode cX9_ring 105 = .ok (.iastore, 1) := by decide +kernel
theorem dX9_ring_106 : decode cX9_ring 106 = .ok (.aload_n 0, 1) := by decide +kernel
theorem dX9_ring_107 : decode cX9_ring 107 = .ok (.getfield 19, 3) := by decide +kernel
theorem dX9_ring_110 : decode cX9_ring 110 = .ok (.getfield 162, 3) := by decide +kernel
theorem dX9_ring_113 : decode cX9_ring 113 = .ok (.iload 5, 2) := by decide +kernel
theorem dX9_ring_115 : decode cX9_ring 115 = .ok (.dup2, 1) := by decide +kernel
theorem dX9_ring_116 : decode cX9_ring 116 = .ok (.iaload, 1) := by decide +kernel
theorem dX9_ring_117 : decode cX9_ring 117 = .ok (.iload 7, 2) := by decide +kernel
theorem dX9_ring_119 : decode cX9_ring 119 = .ok (.isub, 1) := by decide +kernel
theorem dX9_ring_120 : decode cX9_ring 120 = .ok (.iastore, 1) := by decide +kernel
theorem dX9_ring_121 : decode cX9_ring 121 = .ok (.aload_n 0, 1) := by decide +kernel
theorem dX9_ring_122 : decode cX9_ring 122 = .ok (.getfield 19, 3) := by decide +kernel
theorem dX9_ring_125 : decode cX9_ring 125 = .ok (.getfield 162, 3) := by decide +kernel
theorem dX9_ring_128 : decode cX9_ring 128 = .ok (.iload 6, 2) := by decide +kernel
theorem dX9_ring_130 : decode cX9_ring 130 = .ok (.dup2, 1) := by decide +kernel
theorem dX9_ring_131 : decode cX9_ring 131 = .ok (.iaload, 1) := by decide +kernel
theorem dX9_ring_132 : decode cX9_ring 132 = .ok (.iload 7, 2) := by decide +kernel
theorem dX9_ring_134 : decode cX9_ring 134 = .ok (.isub, 1) := by decide +kernel
theorem dX9_ring_135 : decode cX9_ring 135 = .ok (.iastore, 1) := by decide +kernel
theorem dX9_ring_136 : decode cX9_ring 136 = .ok (.iload 7, 2) := by decide +kernel
theorem dX9_ring_138 : decode cX9_ring 138 = .ok (.ireturn, 1) := by decide +kernel
theorem dX9_forgive_0 : decode cX9_forgive 0 = .ok (.aload_n 0, 1) := by decide +kernel
theorem dX9_forgive_1 : decode cX9_forgive 1 = .ok (.getfield 19, 3) := by decide +kernel
theorem dX9_forgive_4 : decode cX9_forgive 4 = .ok (.iload_n 1, 1) := by decide +kernel
theorem dX9_forgive_5 : decode cX9_forgive 5 = .ok (.iload_n 2, 1) := by decide +kernel
theorem dX9_forgive_6 : decode cX9_forgive 6 = .ok (.invokevirtual 155, 3) := by decide +kernel
theorem dX9_forgive_9 : decode cX9_forgive 9 = .ok (.ifCond .ne 6, 3) := by decide +kernel
theorem dX9_forgive_12 : decode cX9_forgive 12 = .ok (.bipush (-101), 2) := by decide +kernel
theorem dX9_forgive_14 : decode cX9_forgive 14 = .ok (.ireturn, 1) := by decide +kernel
theorem dX9_forgive_15 : decode cX9_forgive 15 = .ok (.iload_n 2, 1) := by decide +kernel
theorem dX9_forgive_16 : decode cX9_forgive 16 = .ok (.iload_n 1, 1) := by decide +kernel
theorem dX9_forgive_17 : decode cX9_forgive 17 = .ok (.invokestatic 159, 3) := by decide +kernel
theorem dX9_forgive_20 : decode cX9_forgive 20 = .ok (.istore_n 3, 1) := by decide +kernel
theorem dX9_forgive_21 : decode cX9_forgive 21 = .ok (.aload_n 0, 1) := by decide +kernel
theorem dX9_forgive_22 : decode cX9_forgive 22 = .ok (.getfield 19, 3) := by decide +kernel
theorem dX9_forgive_25 : decode cX9_forgive 25 = .ok (.getfield 162, 3) := by decide +kernel
theorem dX9_forgive_28 : decode cX9_forgive 28 = .ok (.iload_n 3, 1) := by decide +kernel
theorem dX9_forgive_29 : decode cX9_forgive 29 = .ok (.iaload, 1) := by decide +kernel
theorem dX9_forgive_30 : decode cX9_forgive 30 = .ok (.istore 4, 2) := by decide +kernel
theorem dX9_forgive_32 : decode cX9_forgive 32 = .ok (.aload_n 0, 1) := by decide +kernel
theorem dX9_forgive_33 : decode cX9_forgive 33 = .ok (.getfield 19, 3) := by decide +kernel
theorem dX9_forgive_36 : decode cX9_forgive 36 = .ok (.getfield 162, 3) := by decide +kernel
theorem dX9_forgive_39 : decode cX9_forgive 39 = .ok (.iload_n 3, 1) := by decide +kernel
theorem dX9_forgive_40 : decode cX9_forgive 40 = .ok (.iconst 0, 1) := by decide +kernel
theorem dX9_forgive_41 : decode cX9_forgive 41 = .ok (.iastore, 1) := by decide +kernel
theorem dX9_forgive_42 : decode cX9_forgive 42 = .ok (.iload 4, 2) := by decide +kernel
theorem dX9_forgive_44 : decode cX9_forgive 44 = .ok (.ireturn, 1) := by decide +kernel
theorem dX9_bankrupt_0 : decode cX9_bankrupt 0 = .ok (.aload_n 0, 1) := by decide +kernel
theorem dX9_bankrupt_1 : decode cX9_bankrupt 1 = .ok (.getfield 19, 3) := by decide +kernel
theorem dX9_bankrupt_4 : decode cX9_bankrupt 4 = .ok (.iload_n 1, 1) := by decide +kernel
theorem dX9_bankrupt_5 : decode cX9_bankrupt 5 = .ok (.invokevirtual 115, 3) := by decide +kernel
theorem dX9_bankrupt_8 : decode cX9_bankrupt 8 = .ok (.ifCond .ne 6, 3) := by decide +kernel
theorem dX9_bankrupt_11 : decode cX9_bankrupt 11 = .ok (.bipush (-101), 2) := by decide +kernel
theorem dX9_bankrupt_13 : decode cX9_bankrupt 13 = .ok (.ireturn, 1) := by decide +kernel
theorem dX9_bankrupt_14 : decode cX9_bankrupt 14 = .ok (.aload_n 0, 1) := by decide +kernel
theorem dX9_bankrupt_15 : decode cX9_bankrupt 15 = .ok (.getfield 19, 3) := by decide +kernel
theorem dX9_bankrupt_18 : decode cX9_bankrupt 18 = .ok (.iload_n 1, 1) := by decide +kernel
theorem dX9_bankrupt_19 : decode cX9_bankrupt 19 = .ok (.invokevirtual 124, 3) := by decide +kernel
theorem dX9_bankrupt_22 : decode cX9_bankrupt 22 = .ok (.istore_n 2, 1) := by decide +kernel
theorem dX9_bankrupt_23 : decode cX9_bankrupt 23 = .ok (.iload_n 2, 1) := by decide +kernel
theorem dX9_bankrupt_24 : decode cX9_bankrupt 24 = .ok (.ifCond .gt 6, 3) := by decide +kernel
theorem dX9_bankrupt_27 : decode cX9_bankrupt 27 = .ok (.bipush (-103), 2) := by decide +kernel
theorem dX9_bankrupt_29 : decode cX9_bankrupt 29 = .ok (.ireturn, 1) := by decide +kernel
theorem dX9_bankrupt_30 : decode cX9_bankrupt 30 = .ok (.aload_n 0, 1) := by decide +kernel
theorem dX9_bankrupt_31 : decode cX9_bankrupt 31 = .ok (.getfield 19, 3) := by decide +kernel
theorem dX9_bankrupt_34 : decode cX9_bankrupt 34 = .ok (.iload_n 1, 1) := by decide +kernel
theorem dX9_bankrupt_35 : decode cX9_bankrupt 35 = .ok (.iload_n 2, 1) := by decide +kernel
theorem dX9_bankrupt_36 : decode cX9_bankrupt 36 = .ok (.invokevirtual 197, 3) := by decide +kernel
theorem dX9_bankrupt_39 : decode cX9_bankrupt 39 = .ok (.ireturn, 1) := by decide +kernel
theorem dX9_ruin_0 : decode cX9_ruin 0 = .ok (.aload_n 0, 1) := by decide +kernel
theorem dX9_ruin_1 : decode cX9_ruin 1 = .ok (.getfield 19, 3) := by decide +kernel
theorem dX9_ruin_4 : decode cX9_ruin 4 = .ok (.iload_n 1, 1) := by decide +kernel
theorem dX9_ruin_5 : decode cX9_ruin 5 = .ok (.invokevirtual 115, 3) := by decide +kernel
theorem dX9_ruin_8 : decode cX9_ruin 8 = .ok (.ifCond .ne 6, 3) := by decide +kernel
theorem dX9_ruin_11 : decode cX9_ruin 11 = .ok (.bipush (-101), 2) := by decide +kernel
theorem dX9_ruin_13 : decode cX9_ruin 13 = .ok (.ireturn, 1) := by decide +kernel
theorem dX9_ruin_14 : decode cX9_ruin 14 = .ok (.aload_n 0, 1) := by decide +kernel
theorem dX9_ruin_15 : decode cX9_ruin 15 = .ok (.invokevirtual 200, 3) := by decide +kernel
theorem dX9_ruin_18 : decode cX9_ruin 18 = .ok (.aload_n 0, 1) := by decide +kernel
theorem dX9_ruin_19 : decode cX9_ruin 19 = .ok (.getfield 67, 3) := by decide +kernel
theorem dX9_ruin_22 : decode cX9_ruin 22 = .ok (.iload_n 1, 1) := by decide +kernel
theorem dX9_ruin_23 : decode cX9_ruin 23 = .ok (.iaload, 1) := by decide +kernel
theorem dX9_ruin_24 : decode cX9_ruin 24 = .ok (.ireturn, 1) := by decide +kernel
theorem dX9_settling_0 : decode cX9_settling 0 = .ok (.aload_n 0, 1) := by decide +kernel
theorem dX9_settling_1 : decode cX9_settling 1 = .ok (.getfield 49, 3) := by decide +kernel
theorem dX9_settling_4 : decode cX9_settling 4 = .ok (.aload_n 0, 1) := by decide +kernel
theorem dX9_settling_5 : decode cX9_settling 5 = .ok (.getfield 19, 3) := by decide +kernel
theorem dX9_settling_8 : decode cX9_settling 8 = .ok (.invokevirtual 203, 3) := by decide +kernel
theorem dX9_settling_11 : decode cX9_settling 11 = .ok (.ireturn, 1) := by decide +kernel
theorem dX9_bestRing_0 : decode cX9_bestRing 0 = .ok (.iload_n 1, 1) := by decide +kernel
theorem dX9_bestRing_1 : decode cX9_bestRing 1 = .ok (.ifCond .eq 22, 3) := by decide +kernel
theorem dX9_bestRing_4 : decode cX9_bestRing 4 = .ok (.iload_n 1, 1) := by decide +kernel
theorem dX9_bestRing_5 : decode cX9_bestRing 5 = .ok (.iconst 1, 1) := by decide +kernel
theorem dX9_bestRing_6 : decode cX9_bestRing 6 = .ok (.if_icmp .eq 17, 3) := by decide +kernel
theorem dX9_bestRing_9 : decode cX9_bestRing 9 = .ok (.iload_n 1, 1) := by decide +kernel
theorem dX9_bestRing_10 : decode cX9_bestRing 10 = .ok (.bipush 10, 2) := by decide +kernel
theorem dX9_bestRing_12 : decode cX9_bestRing 12 = .ok (.bipush 13, 2) := by decide +kernel
theorem dX9_bestRing_14 : decode cX9_bestRing 14 = .ok (.invokestatic 71, 3) := by decide +kernel
theorem dX9_bestRing_17 : decode cX9_bestRing 17 = .ok (.ifCond .ne 6, 3) := by decide +kernel
theorem dX9_bestRing_20 : decode cX9_bestRing 20 = .ok (.bipush (-102), 2) := by decide +kernel
theorem dX9_bestRing_22 : decode cX9_bestRing 22 = .ok (.ireturn, 1) := by decide +kernel
theorem dX9_bestRing_23 : decode cX9_bestRing 23 = .ok (.aload_n 0, 1) := by decide +kernel
theorem dX9_bestRing_24 : decode cX9_bestRing 24 = .ok (.getfield 42, 3) := by decide +kernel
theorem dX9_bestRing_27 : decode cX9_bestRing 27 = .ok (.aload_n 0, 1) := by decide +kernel
theorem dX9_bestRing_28 : decode cX9_bestRing 28 = .ok (.getfield 19, 3) := by decide +kernel
theorem dX9_bestRing_31 : decode cX9_bestRing 31 = .ok (.invokevirtual 207, 3) := by decide +kernel
theorem dX9_bestRing_34 : decode cX9_bestRing 34 = .ok (.aload_n 0, 1) := by decide +kernel
theorem dX9_bestRing_35 : decode cX9_bestRing 35 = .ok (.getfield 42, 3) := by decide +kernel
theorem dX9_bestRing_38 : decode cX9_bestRing 38 = .ok (.iload_n 1, 1) := by decide +kernel
theorem dX9_bestRing_39 : decode cX9_bestRing 39 = .ok (.invokevirtual 211, 3) := by decide +kernel
theorem dX9_bestRing_42 : decode cX9_bestRing 42 = .ok (.ireturn, 1) := by decide +kernel
theorem dX9_offer_0 : decode cX9_offer 0 = .ok (.aload_n 0, 1) := by decide +kernel
theorem dX9_offer_1 : decode cX9_offer 1 = .ok (.getfield 19, 3) := by decide +kernel
theorem dX9_offer_4 : decode cX9_offer 4 = .ok (.iload_n 1, 1) := by decide +kernel
theorem dX9_offer_5 : decode cX9_offer 5 = .ok (.iload_n 2, 1) := by decide +kernel
theorem dX9_offer_6 : decode cX9_offer 6 = .ok (.invokevirtual 155, 3) := by decide +kernel
theorem dX9_offer_9 : decode cX9_offer 9 = .ok (.ifCond .ne 6, 3) := by decide +kernel
theorem dX9_offer_12 : decode cX9_offer 12 = .ok (.bipush (-101), 2) := by decide +kernel
theorem dX9_offer_14 : decode cX9_offer 14 = .ok (.ireturn, 1) := by decide +kernel
theorem dX9_offer_15 : decode cX9_offer 15 = .ok (.iload_n 3, 1) := by decide +kernel
theorem dX9_offer_16 : decode cX9_offer 16 = .ok (.invokestatic 171, 3) := by decide +kernel
theorem dX9_offer_19 : decode cX9_offer 19 = .ok (.ifCond .ne 6, 3) := by decide +kernel
theorem dX9_offer_22 : decode cX9_offer 22 = .ok (.bipush (-102), 2) := by decide +kernel
theorem dX9_offer_24 : decode cX9_offer 24 = .ok (.ireturn, 1) := by decide +kernel
theorem dX9_offer_25 : decode cX9_offer 25 = .ok (.aload_n 0, 1) := by decide +kernel
theorem dX9_offer_26 : decode cX9_offer 26 = .ok (.getfield 26, 3) := by decide +kernel
theorem dX9_offer_29 : decode cX9_offer 29 = .ok (.getfield 214, 3) := by decide +kernel
theorem dX9_offer_32 : decode cX9_offer 32 = .ok (.bipush 6, 2) := by decide +kernel
theorem dX9_offer_34 : decode cX9_offer 34 = .ok (.if_icmp .lt 6, 3) := by decide +kernel
theorem dX9_offer_37 : decode cX9_offer 37 = .ok (.bipush (-104), 2) := by decide +kernel
theorem dX9_offer_39 : decode cX9_offer 39 = .ok (.ireturn, 1) := by decide +kernel
theorem dX9_offer_40 : decode cX9_offer 40 = .ok (.aload_n 0, 1) := by decide +kernel
theorem dX9_offer_41 : decode cX9_offer 41 = .ok (.getfield 26, 3) := by decide +kernel
theorem dX9_offer_44 : decode cX9_offer 44 = .ok (.iload_n 1, 1) := by decide +kernel
theorem dX9_offer_45 : decode cX9_offer 45 = .ok (.iload_n 2, 1) := by decide +kernel
theorem dX9_offer_46 : decode cX9_offer 46 = .ok (.iload_n 3, 1) := by decide +kernel
theorem dX9_offer_47 : decode cX9_offer 47 = .ok (.invokevirtual 217, 3) := by decide +kernel
theorem dX9_offer_50 : decode cX9_offer 50 = .ok (.aload_n 0, 1) := by decide +kernel
theorem dX9_offer_51 : decode cX9_offer 51 = .ok (.getfield 26, 3) := by decide +kernel
theorem dX9_offer_54 : decode cX9_offer 54 = .ok (.getfield 214, 3) := by decide +kernel
theorem dX9_offer_57 : decode cX9_offer 57 = .ok (.ireturn, 1) := by decide +kernel
theorem dX9_forget_0 : decode cX9_forget 0 = .ok (.aload_n 0, 1) := by decide +kernel
theorem dX9_forget_1 : decode cX9_forget 1 = .ok (.getfield 26, 3) := by decide +kernel
theorem dX9_forget_4 : decode cX9_forget 4 = .ok (.getfield 214, 3) := by decide +kernel
theorem dX9_forget_7 : decode cX9_forget 7 = .ok (.istore_n 1, 1) := by decide +kernel
theorem dX9_forget_8 : decode cX9_forget 8 = .ok (.aload_n 0, 1) := by decide +kernel
theorem dX9_forget_9 : decode cX9_forget 9 = .ok (.getfield 26, 3) := by decide +kernel
theorem dX9_forget_12 : decode cX9_forget 12 = .ok (.iconst 0, 1) := by decide +kernel
theorem dX9_forget_13 : decode cX9_forget 13 = .ok (.putfield 214, 3) := by decide +kernel
theorem dX9_forget_16 : decode cX9_forget 16 = .ok (.iload_n 1, 1) := by decide +kernel
theorem dX9_forget_17 : decode cX9_forget 17 = .ok (.ireturn, 1) := by decide +kernel
theorem dX9_accept_0 : decode cX9_accept 0 = .ok (.aload_n 0, 1) := by decide +kernel
theorem dX9_accept_1 : decode cX9_accept 1 = .ok (.getfield 19, 3) := by decide +kernel
theorem dX9_accept_4 : decode cX9_accept 4 = .ok (.iload_n 1, 1) := by decide +kernel
theorem dX9_accept_5 : decode cX9_accept 5 = .ok (.invokevirtual 115, 3) := by decide +kernel
theorem dX9_accept_8 : decode cX9_accept 8 = .ok (.ifCond .ne 6, 3) := by decide +kernel
theorem dX9_accept_11 : decode cX9_accept 11 = .ok (.bipush (-101), 2) := by decide +kernel
theorem dX9_accept_13 : decode cX9_accept 13 = .ok (.ireturn, 1) := by decide +kernel
theorem dX9_accept_14 : decode cX9_accept 14 = .ok (.iload_n 2, 1) := by decide +kernel
theorem dX9_accept_15 : decode cX9_accept 15 = .ok (.iconst 1, 1) := by decide +kernel
theorem dX9_accept_16 : decode cX9_accept 16 = .ok (.sipush 500, 3) := by decide +kernel
theorem dX9_accept_19 : decode cX9_accept 19 = .ok (.invokestatic 71, 3) := by decide +kernel
theorem dX9_accept_22 : decode cX9_accept 22 = .ok (.ifCond .eq 23, 3) := by decide +kernel
theorem dX9_accept_25 : decode cX9_accept 25 = .ok (.iload_n 3, 1) := by decide +kernel
theorem dX9_accept_26 : decode cX9_accept 26 = .ok (.iconst 0, 1) := by decide +kernel
theorem dX9_accept_27 : decode cX9_accept 27 = .ok (.bipush 20, 2) := by decide +kernel
theorem dX9_accept_29 : decode cX9_accept 29 = .ok (.invokestatic 71, 3) := by decide +kernel
theorem dX9_accept_32 : decode cX9_accept 32 = .ok (.ifCond .eq 13, 3) := by decide +kernel
theorem dX9_accept_35 : decode cX9_accept 35 = .ok (.iload 4, 2) := by decide +kernel
theorem dX9_accept_37 : decode cX9_accept 37 = .ok (.iconst 0, 1) := by decide +kernel
theorem dX9_accept_38 : decode cX9_accept 38 = .ok (.iconst 1, 1) := by decide +kernel
theorem dX9_accept_39 : decode cX9_accept 39 = .ok (.invokestatic 71, 3) := by decide +kernel
theorem dX9_accept_42 : decode cX9_accept 42 = .ok (.ifCond .ne 6, 3) := by decide +kernel
theorem dX9_accept_45 : decode cX9_accept 45 = .ok (.bipush (-102), 2) := by decide +kernel
theorem dX9_accept_47 : decode cX9_accept 47 = .ok (.ireturn, 1) := by decide +kernel
theorem dX9_accept_48 : decode cX9_accept 48 = .ok (.aload_n 0, 1) := by decide +kernel
theorem dX9_accept_49 : decode cX9_accept 49 = .ok (.getfield 56, 3) := by decide +kernel
theorem dX9_accept_52 : decode cX9_accept 52 = .ok (.aload_n 0, 1) := by decide +kernel
theorem dX9_accept_53 : decode cX9_accept 53 = .ok (.getfield 19, 3) := by decide +kernel
theorem dX9_accept_56 : decode cX9_accept 56 = .ok (.aload_n 0, 1) := by decide +kernel
theorem dX9_accept_57 : decode cX9_accept 57 = .ok (.getfield 26, 3) := by decide +kernel
theorem dX9_accept_60 : decode cX9_accept 60 = .ok (.iload_n 1, 1) := by decide +kernel
theorem dX9_accept_61 : decode cX9_accept 61 = .ok (.iload_n 2, 1) := by decide +kernel
theorem dX9_accept_62 : decode cX9_accept 62 = .ok (.iload_n 3, 1) := by decide +kernel
theorem dX9_accept_63 : decode cX9_accept 63 = .ok (.invokevirtual 219, 3) := by decide +kernel
theorem dX9_accept_66 : decode cX9_accept 66 = .ok (.iload 4, 2) := by decide +kernel
theorem dX9_accept_68 : decode cX9_accept 68 = .ok (.ifCond .ne 13, 3) := by decide +kernel
theorem dX9_accept_71 : decode cX9_accept 71 = .ok (.aload_n 0, 1) := by decide +kernel
theorem dX9_accept_72 : decode cX9_accept 72 = .ok (.getfield 56, 3) := by decide +kernel
theorem dX9_accept_75 : decode cX9_accept 75 = .ok (.getfield 222, 3) := by decide +kernel
theorem dX9_accept_78 : decode cX9_accept 78 = .ok (.goto 10, 3) := by decide +kernel
theorem dX9_accept_81 : decode cX9_accept 81 = .ok (.aload_n 0, 1) := by decide +kernel
theorem dX9_accept_82 : decode cX9_accept 82 = .ok (.getfield 56, 3) := by decide +kernel
theorem dX9_accept_85 : decode cX9_accept 85 = .ok (.getfield 225, 3) := by decide +kernel
theorem dX9_accept_88 : decode cX9_accept 88 = .ok (.ireturn, 1) := by decide +kernel
theorem dX9_grown_0 : decode cX9_grown 0 = .ok (.iload_n 1, 1) := by decide +kernel
theorem dX9_grown_1 : decode cX9_grown 1 = .ok (.iconst 0, 1) := by decide +kernel
theorem dX9_grown_2 : decode cX9_grown 2 = .ok (.sipush 9999, 3) := by decide +kernel
theorem dX9_grown_5 : decode cX9_grown 5 = .ok (.invokestatic 71, 3) := by decide +kernel
theorem dX9_grown_8 : decode cX9_grown 8 = .ok (.ifCond .eq 38, 3) := by decide +kernel
theorem dX9_grown_11 : decode cX9_grown 11 = .ok (.iload_n 2, 1) := by decide +kernel
theorem dX9_grown_12 : decode cX9_grown 12 = .ok (.iconst 0, 1) := by decide +kernel
theorem dX9_grown_13 : decode cX9_grown 13 = .ok (.bipush 40, 2) := by decide +kernel
theorem dX9_grown_15 : decode cX9_grown 15 = .ok (.invokestatic 71, 3) := by decide +kernel
theorem dX9_grown_18 : decode cX9_grown 18 = .ok (.ifCond .eq 28, 3) := by decide +kernel
theorem dX9_grown_21 : decode cX9_grown 21 = .ok (.iload_n 3, 1) := by decide +kernel
theorem dX9_grown_22 : decode cX9_grown 22 = .ok (.invokestatic 104, 3) := by decide +kernel
theorem dX9_grown_25 : decode cX9_grown 25 = .ok (.ifCond .eq 21, 3) := by decide +kernel
theorem dX9_grown_28 : decode cX9_grown 28 = .ok (.iload 4, 2) := by decide +kernel
theorem dX9_grown_30 : decode cX9_grown 30 = .ok (.invokestatic 104, 3) := by decide +kernel
theorem dX9_grown_33 : decode cX9_grown 33 = .ok (.ifCond .eq 13, 3) := by decide +kernel
theorem dX9_grown_36 : decode cX9_grown 36 = .ok (.iload 5, 2) := by decide +kernel
theorem dX9_grown_38 : decode cX9_grown 38 = .ok (.iconst 0, 1) := by decide +kernel
theorem dX9_grown_39 : decode cX9_grown 39 = .ok (.iconst 1, 1) := by decide +kernel
theorem dX9_grown_40 : decode cX9_grown 40 = .ok (.invokestatic 71, 3) := by decide +kernel
theorem dX9_grown_43 : decode cX9_grown 43 = .ok (.ifCond .ne 6, 3) := by decide +kernel
theorem dX9_grown_46 : decode cX9_grown 46 = .ok (.bipush (-102), 2) := by decide +kernel
theorem dX9_grown_48 : decode cX9_grown 48 = .ok (.ireturn, 1) := by decide +kernel
theorem dX9_grown_49 : decode cX9_grown 49 = .ok (.aload_n 0, 1) := by decide +kernel
theorem dX9_grown_50 : decode cX9_grown 50 = .ok (.getfield 19, 3) := by decide +kernel
theorem dX9_grown_53 : decode cX9_grown 53 = .ok (.getfield 91, 3) := by decide +kernel
theorem dX9_grown_56 : decode cX9_grown 56 = .ok (.getstatic 145, 3) := by decide +kernel
theorem dX9_grown_59 : decode cX9_grown 59 = .ok (.iload_n 3, 1) := by decide +kernel
theorem dX9_grown_60 : decode cX9_grown 60 = .ok (.aaload, 1) := by decide +kernel
theorem dX9_grown_61 : decode cX9_grown 61 = .ok (.getstatic 145, 3) := by decide +kernel
theorem dX9_grown_64 : decode cX9_grown 64 = .ok (.iload 4, 2) := by decide +kernel
theorem dX9_grown_66 : decode cX9_grown 66 = .ok (.aaload, 1) := by decide +kernel
theorem dX9_grown_67 : decode cX9_grown 67 = .ok (.invokevirtual 228, 3) := by decide +kernel
theorem dX9_grown_70 : decode cX9_grown 70 = .ok (.istore 6, 2) := by decide +kernel
theorem dX9_grown_72 : decode cX9_grown 72 = .ok (.iconst 0, 1) := by decide +kernel
theorem dX9_grown_73 : decode cX9_grown 73 = .ok (.istore 7, 2) := by decide +kernel
theorem dX9_grown_75 : decode cX9_grown 75 = .ok (.iconst (-1), 1) := by decide +kernel
theorem dX9_grown_76 : decode cX9_grown 76 = .ok (.istore 8, 2) := by decide +kernel
theorem dX9_grown_78 : decode cX9_grown 78 = .ok (.bipush 99, 2) := by decide +kernel
theorem dX9_grown_80 : decode cX9_grown 80 = .ok (.istore 9, 2) := by decide +kernel
theorem dX9_grown_82 : decode cX9_grown 82 = .ok (.iload 9, 2) := by decide +kernel
theorem dX9_grown_84 : decode cX9_grown 84 = .ok (.iconst 1, 1) := by decide +kernel
theorem dX9_grown_85 : decode cX9_grown 85 = .ok (.if_icmp .lt 45, 3) := by decide +kernel
theorem dX9_grown_88 : decode cX9_grown 88 = .ok (.aload_n 0, 1) := by decide +kernel
theorem dX9_grown_89 : decode cX9_grown 89 = .ok (.getfield 19, 3) := by decide +kernel
theorem dX9_grown_92 : decode cX9_grown 92 = .ok (.getfield 91, 3) := by decide +kernel
theorem dX9_grown_95 : decode cX9_grown 95 = .ok (.iload 9, 2) := by decide +kernel
theorem dX9_grown_97 : decode cX9_grown 97 = .ok (.aload_n 0, 1) := by decide +kernel
theorem dX9_grown_98 : decode cX9_grown 98 = .ok (.getfield 19, 3) := by decide +kernel
theorem dX9_grown_101 : decode cX9_grown 101 = .ok (.getfield 91, 3) := by decide +kernel
theorem dX9_grown_104 : decode cX9_grown 104 = .ok (.getfield 232, 3) := by decide +kernel
theorem dX9_grown_107 : decode cX9_grown 107 = .ok (.iload_n 2, 1) := by decide +kernel
theorem dX9_grown_108 : decode cX9_grown 108 = .ok (.iload 6, 2) := by decide +kernel
theorem dX9_grown_110 : decode cX9_grown 110 = .ok (.invokevirtual 234, 3) := by decide +kernel
theorem dX9_grown_113 : decode cX9_grown 113 = .ok (.iload_n 1, 1) := by decide +kernel
theorem dX9_grown_114 : decode cX9_grown 114 = .ok (.if_icmp .ne 10, 3) := by decide +kernel
theorem dX9_grown_117 : decode cX9_grown 117 = .ok (.iinc 7 1, 3) := by decide +kernel
theorem dX9_grown_120 : decode cX9_grown 120 = .ok (.iload 9, 2) := by decide +kernel
theorem dX9_grown_122 : decode cX9_grown 122 = .ok (.istore 8, 2) := by decide +kernel
theorem dX9_grown_124 : decode cX9_grown 124 = .ok (.iinc 9 (-1), 3) := by decide +kernel
theorem dX9_grown_127 : decode cX9_grown 127 = .ok (.goto (-45), 3) := by decide +kernel
theorem dX9_grown_130 : decode cX9_grown 130 = .ok (.iload 5, 2) := by decide +kernel
theorem dX9_grown_132 : decode cX9_grown 132 = .ok (.ifCond .ne 8, 3) := by decide +kernel
theorem dX9_grown_135 : decode cX9_grown 135 = .ok (.iload 7, 2) := by decide +kernel
theorem dX9_grown_137 : decode cX9_grown 137 = .ok (.goto 5, 3) := by decide +kernel
theorem dX9_grown_140 : decode cX9_grown 140 = .ok (.iload 8, 2) := by decide +kernel
theorem dX9_grown_142 : decode cX9_grown 142 = .ok (.ireturn, 1) := by decide +kernel
theorem dX9_years_0 : decode cX9_years 0 = .ok (.iload_n 1, 1) := by decide +kernel
theorem dX9_years_1 : decode cX9_years 1 = .ok (.iconst 1, 1) := by decide +kernel
theorem dX9_years_2 : decode cX9_years 2 = .ok (.bipush 60, 2) := by decide +kernel
theorem dX9_years_4 : decode cX9_years 4 = .ok (.invokestatic 71, 3) := by decide +kernel
theorem dX9_years_7 : decode cX9_years 7 = .ok (.ifCond .eq 16, 3) := by decide +kernel
theorem dX9_years_10 : decode cX9_years 10 = .ok (.iload_n 2, 1) := by decide +kernel
theorem dX9_years_11 : decode cX9_years 11 = .ok (.ifCond .lt 12, 3) := by decide +kernel
theorem dX9_years_14 : decode cX9_years 14 = .ok (.iload_n 3, 1) := by decide +kernel
theorem dX9_years_15 : decode cX9_years 15 = .ok (.iconst 0, 1) := by decide +kernel
theorem dX9_years_16 : decode cX9_years 16 = .ok (.iconst 2, 1) := by decide +kernel
theorem dX9_years_17 : decode cX9_years 17 = .ok (.invokestatic 71, 3) := by decide +kernel
theorem dX9_years_20 : decode cX9_years 20 = .ok (.ifCond .ne 6, 3) := by decide +kernel
theorem dX9_years_23 : decode cX9_years 23 = .ok (.bipush (-102), 2) := by decide +kernel
theorem dX9_years_25 : decode cX9_years 25 = .ok (.ireturn, 1) := by decide +kernel
theorem dX9_years_26 : decode cX9_years 26 = .ok (.aload_n 0, 1) := by decide +kernel
theorem dX9_years_27 : decode cX9_years 27 = .ok (.getfield 19, 3) := by decide +kernel
theorem dX9_years_30 : decode cX9_years 30 = .ok (.getfield 108, 3) := by decide +kernel
theorem dX9_years_33 : decode cX9_years 33 = .ok (.ifCond .ne 6, 3) := by decide +kernel
theorem dX9_years_36 : decode cX9_years 36 = .ok (.bipush (-103), 2) := by decide +kernel
theorem dX9_years_38 : decode cX9_years 38 = .ok (.ireturn, 1) := by decide +kernel
theorem dX9_years_39 : decode cX9_years 39 = .ok (.aload_n 0, 1) := by decide +kernel
theorem dX9_years_40 : decode cX9_years 40 = .ok (.getfield 63, 3) := by decide +kernel
theorem dX9_years_43 : decode cX9_years 43 = .ok (.iload_n 2, 1) := by decide +kernel
theorem dX9_years_44 : decode cX9_years 44 = .ok (.putfield 238, 3) := by decide +kernel
theorem dX9_years_47 : decode cX9_years 47 = .ok (.aload_n 0, 1) := by decide +kernel
theorem dX9_years_48 : decode cX9_years 48 = .ok (.getfield 36, 3) := by decide +kernel
theorem dX9_years_51 : decode cX9_years 51 = .ok (.aload_n 0, 1) := by decide +kernel
theorem dX9_years_52 : decode cX9_years 52 = .ok (.getfield 19, 3) := by decide +kernel
theorem dX9_years_55 : decode cX9_years 55 = .ok (.invokevirtual 241, 3) := by decide +kernel
theorem dX9_years_58 : decode cX9_years 58 = .ok (.iconst 0, 1) := by decide +kernel
theorem dX9_years_59 : decode cX9_years 59 = .ok (.istore 4, 2) := by decide +kernel
theorem dX9_years_61 : decode cX9_years 61 = .ok (.iload 4, 2) := by decide +kernel
theorem dX9_years_63 : decode cX9_years 63 = .ok (.iload_n 1, 1) := by decide +kernel
theorem dX9_years_64 : decode cX9_years 64 = .ok (.if_icmp .ge 20, 3) := by decide +kernel
theorem dX9_years_67 : decode cX9_years 67 = .ok (.aload_n 0, 1) := by decide +kernel
theorem dX9_years_68 : decode cX9_years 68 = .ok (.getfield 36, 3) := by decide +kernel
theorem dX9_years_71 : decode cX9_years 71 = .ok (.aload_n 0, 1) := by decide +kernel
theorem dX9_years_72 : decode cX9_years 72 = .ok (.getfield 63, 3) := by decide +kernel
theorem dX9_years_75 : decode cX9_years 75 = .ok (.invokevirtual 244, 3) := by decide +kernel
theorem dX9_years_78 : decode cX9_years 78 = .ok (.iinc 4 1, 3) := by decide +kernel
theorem dX9_years_81 : decode cX9_years 81 = .ok (.goto (-20), 3) := by decide +kernel
theorem dX9_years_84 : decode cX9_years 84 = .ok (.iload_n 3, 1) := by decide +kernel
theorem dX9_years_85 : decode cX9_years 85 = .ok (.lookupswitch 43 #[(0, 27), (1, 35)], 27) := by decide +kernel
theorem dX9_years_112 : decode cX9_years 112 = .ok (.aload_n 0, 1) := by decide +kernel
theorem dX9_years_113 : decode cX9_years 113 = .ok (.getfield 36, 3) := by decide +kernel
theorem dX9_years_116 : decode cX9_years 116 = .ok (.invokevirtual 248, 3) := by decide +kernel
theorem dX9_years_119 : decode cX9_years 119 = .ok (.ireturn, 1) := by decide +kernel
theorem dX9_years_120 : decode cX9_years 120 = .ok (.aload_n 0, 1) := by decide +kernel
theorem dX9_years_121 : decode cX9_years 121 = .ok (.getfield 36, 3) := by decide +kernel
theorem dX9_years_124 : decode cX9_years 124 = .ok (.invokevirtual 251, 3) := by decide +kernel
theorem dX9_years_127 : decode cX9_years 127 = .ok (.ireturn, 1) := by decide +kernel
theorem dX9_years_128 : decode cX9_years 128 = .ok (.aload_n 0, 1) := by decide +kernel
theorem dX9_years_129 : decode cX9_years 129 = .ok (.getfield 63, 3) := by decide +kernel
theorem dX9_years_132 : decode cX9_years 132 = .ok (.getfield 238, 3) := by decide +kernel
theorem dX9_years_135 : decode cX9_years 135 = .ok (.ireturn, 1) := by decide +kernel
theorem dX9_image_0 : decode cX9_image 0 = .ok (.aload_n 0, 1) := by decide +kernel
theorem dX9_image_1 : decode cX9_image 1 = .ok (.getfield 30, 3) := by decide +kernel
theorem dX9_image_4 : decode cX9_image 4 = .ok (.aload_n 0, 1) := by decide +kernel
theorem dX9_image_5 : decode cX9_image 5 = .ok (.getfield 19, 3) := by decide +kernel
theorem dX9_image_8 : decode cX9_image 8 = .ok (.invokevirtual 241, 3) := by decide +kernel
theorem dX9_image_11 : decode cX9_image 11 = .ok (.aload_n 0, 1) := by decide +kernel
theorem dX9_image_12 : decode cX9_image 12 = .ok (.getfield 33, 3) := by decide +kernel
theorem dX9_image_15 : decode cX9_image 15 = .ok (.aload_n 0, 1) := by decide +kernel
theorem dX9_image_16 : decode cX9_image 16 = .ok (.getfield 26, 3) := by decide +kernel
theorem dX9_image_19 : decode cX9_image 19 = .ok (.invokevirtual 254, 3) := by decide +kernel
theorem dX9_image_22 : decode cX9_image 22 = .ok (.aload_n 0, 1) := by decide +kernel
theorem dX9_image_23 : decode cX9_image 23 = .ok (.iconst 1, 1) := by decide +kernel
theorem dX9_image_24 : decode cX9_image 24 = .ok (.putfield 257, 3) := by decide +kernel
theorem dX9_image_27 : decode cX9_image 27 = .ok (.aload_n 0, 1) := by decide +kernel
theorem dX9_image_28 : decode cX9_image 28 = .ok (.getfield 19, 3) := by decide +kernel
theorem dX9_image_31 : decode cX9_image 31 = .ok (.getfield 260, 3) := by decide +kernel
theorem dX9_image_34 : decode cX9_image 34 = .ok (.ireturn, 1) := by decide +kernel
theorem dX9_restore_0 : decode cX9_restore 0 = .ok (.aload_n 0, 1) := by decide +kernel
theorem dX9_restore_1 : decode cX9_restore 1 = .ok (.getfield 257, 3) := by decide +kernel
theorem dX9_restore_4 : decode cX9_restore 4 = .ok (.ifCond .ne 6, 3) := by decide +kernel
theorem dX9_restore_7 : decode cX9_restore 7 = .ok (.bipush (-103), 2) := by decide +kernel
theorem dX9_restore_9 : decode cX9_restore 9 = .ok (.ireturn, 1) := by decide +kernel
theorem dX9_restore_10 : decode cX9_restore 10 = .ok (.aload_n 0, 1) := by decide +kernel
theorem dX9_restore_11 : decode cX9_restore 11 = .ok (.getfield 19, 3) := by decide +kernel
theorem dX9_restore_14 : decode cX9_restore 14 = .ok (.aload_n 0, 1) := by decide +kernel
theorem dX9_restore_15 : decode cX9_restore 15 = .ok (.getfield 30, 3) := by decide +kernel
theorem dX9_restore_18 : decode cX9_restore 18 = .ok (.invokevirtual 241, 3) := by decide +kernel
theorem dX9_restore_21 : decode cX9_restore 21 = .ok (.aload_n 0, 1) := by decide +kernel
theorem dX9_restore_22 : decode cX9_restore 22 = .ok (.getfield 26, 3) := by decide +kernel
theorem dX9_restore_25 : decode cX9_restore 25 = .ok (.aload_n 0, 1) := by decide +kernel
theorem dX9_restore_26 : decode cX9_restore 26 = .ok (.getfield 33, 3) := by decide +kernel
theorem dX9_restore_29 : decode cX9_restore 29 = .ok (.invokevirtual 254, 3) := by decide +kernel
theorem dX9_restore_32 : decode cX9_restore 32 = .ok (.aload_n 0, 1) := by decide +kernel
theorem dX9_restore_33 : decode cX9_restore 33 = .ok (.getfield 19, 3) := by decide +kernel
theorem dX9_restore_36 : decode cX9_restore 36 = .ok (.getfield 260, 3) := by decide +kernel
theorem dX9_restore_39 : decode cX9_restore 39 = .ok (.ireturn, 1) := by decide +kernel
theorem dX9_count_0 : decode cX9_count 0 = .ok (.iload_n 1, 1) := by decide +kernel
theorem dX9_count_1 : decode cX9_count 1 = .ok (.tableswitch 159 0 10 #[59, 70, 84, 95, 106, 114, 122, 130, 138, 146, 154], 59) := by decide +kernel
theorem dX9_count_60 : decode cX9_count 60 = .ok (.aload_n 0, 1) := by decide +kernel
theorem dX9_count_61 : decode cX9_count 61 = .ok (.getfield 19, 3) := by decide +kernel
theorem dX9_count_64 : decode cX9_count 64 = .ok (.getfield 91, 3) := by decide +kernel
theorem dX9_count_67 : decode cX9_count 67 = .ok (.getfield 263, 3) := by decide +kernel
theorem dX9_count_70 : decode cX9_count 70 = .ok (.ireturn, 1) := by decide +kernel
theorem dX9_count_71 : decode cX9_count 71 = .ok (.aload_n 0, 1) := by decide +kernel
theorem dX9_count_72 : decode cX9_count 72 = .ok (.getfield 19, 3) := by decide +kernel
theorem dX9_count_75 : decode cX9_count 75 = .ok (.getfield 91, 3) := by decide +kernel
theorem dX9_count_78 : decode cX9_count 78 = .ok (.getfield 266, 3) := by decide +kernel
theorem dX9_count_81 : decode cX9_count 81 = .ok (.invokestatic 137, 3) := by decide +kernel
theorem dX9_count_84 : decode cX9_count 84 = .ok (.ireturn, 1) := by decide +kernel
theorem dX9_count_85 : decode cX9_count 85 = .ok (.aload_n 0, 1) := by decide +kernel
theorem dX9_count_86 : decode cX9_count 86 = .ok (.getfield 19, 3) := by decide +kernel
theorem dX9_count_89 : decode cX9_count 89 = .ok (.getfield 91, 3) := by decide +kernel
theorem dX9_count_92 : decode cX9_count 92 = .ok (.getfield 232, 3) := by decide +kernel
theorem dX9_count_95 : decode cX9_count 95 = .ok (.ireturn, 1) := by decide +kernel
theorem dX9_count_96 : decode cX9_count 96 = .ok (.aload_n 0, 1) := by decide +kernel
theorem dX9_count_97 : decode cX9_count 97 = .ok (.getfield 19, 3) := by decide +kernel
theorem dX9_count_100 : decode cX9_count 100 = .ok (.getfield 91, 3) := by decide +kernel
theorem dX9_count_103 : decode cX9_count 103 = .ok (.getfield 269, 3) := by decide +kernel
theorem dX9_count_106 : decode cX9_count 106 = .ok (.ireturn, 1) := by decide +kernel
theorem dX9_count_107 : decode cX9_count 107 = .ok (.aload_n 0, 1) := by decide +kernel
theorem dX9_count_108 : decode cX9_count 108 = .ok (.getfield 19, 3) := by decide +kernel
theorem dX9_count_111 : decode cX9_count 111 = .ok (.getfield 108, 3) := by decide +kernel
theorem dX9_count_114 : decode cX9_count 114 = .ok (.ireturn, 1) := by decide +kernel
theorem dX9_count_115 : decode cX9_count 115 = .ok (.aload_n 0, 1) := by decide +kernel
theorem dX9_count_116 : decode cX9_count 116 = .ok (.getfield 19, 3) := by decide +kernel
theorem dX9_count_119 : decode cX9_count 119 = .ok (.invokevirtual 251, 3) := by decide +kernel
theorem dX9_count_122 : decode cX9_count 122 = .ok (.ireturn, 1) := by decide +kernel
theorem dX9_count_123 : decode cX9_count 123 = .ok (.aload_n 0, 1) := by decide +kernel
theorem dX9_count_124 : decode cX9_count 124 = .ok (.getfield 19, 3) := by decide +kernel
theorem dX9_count_127 : decode cX9_count 127 = .ok (.getfield 260, 3) := by decide +kernel
theorem dX9_count_130 : decode cX9_count 130 = .ok (.ireturn, 1) := by decide +kernel
theorem dX9_count_131 : decode cX9_count 131 = .ok (.aload_n 0, 1) := by decide +kernel
theorem dX9_count_132 : decode cX9_count 132 = .ok (.getfield 26, 3) := by decide +kernel
theorem dX9_count_135 : decode cX9_count 135 = .ok (.getfield 214, 3) := by decide +kernel
theorem dX9_count_138 : decode cX9_count 138 = .ok (.ireturn, 1) := by decide +kernel
theorem dX9_count_139 : decode cX9_count 139 = .ok (.aload_n 0, 1) := by decide +kernel
theorem dX9_count_140 : decode cX9_count 140 = .ok (.getfield 19, 3) := by decide +kernel
theorem dX9_count_143 : decode cX9_count 143 = .ok (.invokevirtual 248, 3) := by decide +kernel
theorem dX9_count_146 : decode cX9_count 146 = .ok (.ireturn, 1) := by decide +kernel
theorem dX9_count_147 : decode cX9_count 147 = .ok (.aload_n 0, 1) := by decide +kernel
theorem dX9_count_148 : decode cX9_count 148 = .ok (.getfield 12, 3) := by decide +kernel
theorem dX9_count_151 : decode cX9_count 151 = .ok (.getfield 75, 3) := by decide +kernel
theorem dX9_count_154 : decode cX9_count 154 = .ok (.ireturn, 1) := by decide +kernel
theorem dX9_count_155 : decode cX9_count 155 = .ok (.aload_n 0, 1) := by decide +kernel
theorem dX9_count_156 : decode cX9_count 156 = .ok (.getfield 101, 3) := by decide +kernel
theorem dX9_count_159 : decode cX9_count 159 = .ok (.ireturn, 1) := by decide +kernel
theorem dX9_count_160 : decode cX9_count 160 = .ok (.bipush (-102), 2) := by decide +kernel
theorem dX9_count_162 : decode cX9_count 162 = .ok (.ireturn, 1) := by decide +kernel
theorem dX9_digest_0 : decode cX9_digest 0 = .ok (.ldc2_w 272, 3) := by decide +kernel
theorem dX9_digest_3 : decode cX9_digest 3 = .ok (.lstore_n 1, 1) := by decide +kernel
theorem dX9_digest_4 : decode cX9_digest 4 = .ok (.aload_n 0, 1) := by decide +kernel
theorem dX9_digest_5 : decode cX9_digest 5 = .ok (.invokevirtual 200, 3) := by decide +kernel
theorem dX9_digest_8 : decode cX9_digest 8 = .ok (.iconst 0, 1) := by decide +kernel
theorem dX9_digest_9 : decode cX9_digest 9 = .ok (.istore_n 3, 1) := by decide +kernel
theorem dX9_digest_10 : decode cX9_digest 10 = .ok (.iload_n 3, 1) := by decide +kernel
theorem dX9_digest_11 : decode cX9_digest 11 = .ok (.aload_n 0, 1) := by decide +kernel
theorem dX9_digest_12 : decode cX9_digest 12 = .ok (.getfield 19, 3) := by decide +kernel
theorem dX9_digest_15 : decode cX9_digest 15 = .ok (.getfield 108, 3) := by decide +kernel
theorem dX9_digest_18 : decode cX9_digest 18 = .ok (.if_icmp .ge 16, 3) := by decide +kernel
theorem dX9_digest_21 : decode cX9_digest 21 = .ok (.aload_n 0, 1) := by decide +kernel
theorem dX9_digest_22 : decode cX9_digest 22 = .ok (.lload_n 1, 1) := by decide +kernel
theorem dX9_digest_23 : decode cX9_digest 23 = .ok (.iload_n 3, 1) := by decide +kernel
theorem dX9_digest_24 : decode cX9_digest 24 = .ok (.invokevirtual 274, 3) := by decide +kernel
theorem dX9_digest_27 : decode cX9_digest 27 = .ok (.lstore_n 1, 1) := by decide +kernel
theorem dX9_digest_28 : decode cX9_digest 28 = .ok (.iinc 3 1, 3) := by decide +kernel
theorem dX9_digest_31 : decode cX9_digest 31 = .ok (.goto (-21), 3) := by decide +kernel
theorem dX9_digest_34 : decode cX9_digest 34 = .ok (.ldc2_w 278, 3) := by decide +kernel
theorem dX9_digest_37 : decode cX9_digest 37 = .ok (.lload_n 1, 1) := by decide +kernel
theorem dX9_digest_38 : decode cX9_digest 38 = .ok (.lmul, 1) := by decide +kernel
theorem dX9_digest_39 : decode cX9_digest 39 = .ok (.aload_n 0, 1) := by decide +kernel
theorem dX9_digest_40 : decode cX9_digest 40 = .ok (.getfield 49, 3) := by decide +kernel
theorem dX9_digest_43 : decode cX9_digest 43 = .ok (.aload_n 0, 1) := by decide +kernel
theorem dX9_digest_44 : decode cX9_digest 44 = .ok (.getfield 19, 3) := by decide +kernel
theorem dX9_digest_47 : decode cX9_digest 47 = .ok (.invokevirtual 203, 3) := by decide +kernel
theorem dX9_digest_50 : decode cX9_digest 50 = .ok (.i2l, 1) := by decide +kernel
theorem dX9_digest_51 : decode cX9_digest 51 = .ok (.ladd, 1) := by decide +kernel
theorem dX9_digest_52 : decode cX9_digest 52 = .ok (.lstore_n 1, 1) := by decide +kernel
theorem dX9_digest_53 : decode cX9_digest 53 = .ok (.aload_n 0, 1) := by decide +kernel
theorem dX9_digest_54 : decode cX9_digest 54 = .ok (.getfield 42, 3) := by decide +kernel
theorem dX9_digest_57 : decode cX9_digest 57 = .ok (.aload_n 0, 1) := by decide +kernel
theorem dX9_digest_58 : decode cX9_digest 58 = .ok (.getfield 19, 3) := by decide +kernel
theorem dX9_digest_61 : decode cX9_digest 61 = .ok (.invokevirtual 207, 3) := by decide +kernel
theorem dX9_digest_64 : decode cX9_digest 64 = .ok (.ldc2_w 278, 3) := by decide +kernel
theorem dX9_digest_67 : decode cX9_digest 67 = .ok (.lload_n 1, 1) := by decide +kernel
theorem dX9_digest_68 : decode cX9_digest 68 = .ok (.lmul, 1) := by decide +kernel
theorem dX9_digest_69 : decode cX9_digest 69 = .ok (.aload_n 0, 1) := by decide +kernel
theorem dX9_digest_70 : decode cX9_digest 70 = .ok (.getfield 42, 3) := by decide +kernel
theorem dX9_digest_73 : decode cX9_digest 73 = .ok (.iconst 0, 1) := by decide +kernel
theorem dX9_digest_74 : decode cX9_digest 74 = .ok (.invokevirtual 211, 3) := by decide +kernel
theorem dX9_digest_77 : decode cX9_digest 77 = .ok (.i2l, 1) := by decide +kernel
theorem dX9_digest_78 : decode cX9_digest 78 = .ok (.ladd, 1) := by decide +kernel
theorem dX9_digest_79 : decode cX9_digest 79 = .ok (.lstore_n 1, 1) := by decide +kernel
theorem dX9_digest_80 : decode cX9_digest 80 = .ok (.ldc2_w 278, 3) := by decide +kernel
theorem dX9_digest_83 : decode cX9_digest 83 = .ok (.lload_n 1, 1) := by decide +kernel
theorem dX9_digest_84 : decode cX9_digest 84 = .ok (.lmul, 1) := by decide +kernel
theorem dX9_digest_85 : decode cX9_digest 85 = .ok (.aload_n 0, 1) := by decide +kernel
theorem dX9_digest_86 : decode cX9_digest 86 = .ok (.getfield 42, 3) := by decide +kernel
theorem dX9_digest_89 : decode cX9_digest 89 = .ok (.iconst 1, 1) := by decide +kernel
theorem dX9_digest_90 : decode cX9_digest 90 = .ok (.invokevirtual 211, 3) := by decide +kernel
theorem dX9_digest_93 : decode cX9_digest 93 = .ok (.i2l, 1) := by decide +kernel
theorem dX9_digest_94 : decode cX9_digest 94 = .ok (.ladd, 1) := by decide +kernel
theorem dX9_digest_95 : decode cX9_digest 95 = .ok (.lstore_n 1, 1) := by decide +kernel
theorem dX9_digest_96 : decode cX9_digest 96 = .ok (.iconst 0, 1) := by decide +kernel
theorem dX9_digest_97 : decode cX9_digest 97 = .ok (.istore_n 3, 1) := by decide +kernel
theorem dX9_digest_98 : decode cX9_digest 98 = .ok (.iload_n 3, 1) := by decide +kernel
theorem dX9_digest_99 : decode cX9_digest 99 = .ok (.iconst 4, 1) := by decide +kernel
theorem dX9_digest_100 : decode cX9_digest 100 = .ok (.if_icmp .ge 28, 3) := by decide +kernel
theorem dX9_digest_103 : decode cX9_digest 103 = .ok (.ldc2_w 278, 3) := by decide +kernel
theorem dX9_digest_106 : decode cX9_digest 106 = .ok (.lload_n 1, 1) := by decide +kernel
theorem dX9_digest_107 : decode cX9_digest 107 = .ok (.lmul, 1) := by decide +kernel
theorem dX9_digest_108 : decode cX9_digest 108 = .ok (.aload_n 0, 1) := by decide +kernel
theorem dX9_digest_109 : decode cX9_digest 109 = .ok (.getfield 42, 3) := by decide +kernel
theorem dX9_digest_112 : decode cX9_digest 112 = .ok (.bipush 10, 2) := by decide +kernel
theorem dX9_digest_114 : decode cX9_digest 114 = .ok (.iload_n 3, 1) := by decide +kernel
theorem dX9_digest_115 : decode cX9_digest 115 = .ok (.iadd, 1) := by decide +kernel
theorem dX9_digest_116 : decode cX9_digest 116 = .ok (.invokevirtual 211, 3) := by decide +kernel
theorem dX9_digest_119 : decode cX9_digest 119 = .ok (.i2l, 1) := by decide +kernel
theorem dX9_digest_120 : decode cX9_digest 120 = .ok (.ladd, 1) := by decide +kernel
theorem dX9_digest_121 : decode cX9_digest 121 = .ok (.lstore_n 1, 1) := by decide +kernel
theorem dX9_digest_122 : decode cX9_digest 122 = .ok (.iinc 3 1, 3) := by decide +kernel
theorem dX9_digest_125 : decode cX9_digest 125 = .ok (.goto (-27), 3) := by decide +kernel
theorem dX9_digest_128 : decode cX9_digest 128 = .ok (.iconst 0, 1) := by decide +kernel
theorem dX9_digest_129 : decode cX9_digest 129 = .ok (.istore_n 3, 1) := by decide +kernel
theorem dX9_digest_130 : decode cX9_digest 130 = .ok (.iload_n 3, 1) := by decide +kernel
theorem dX9_digest_131 : decode cX9_digest 131 = .ok (.aload_n 0, 1) := by decide +kernel
theorem dX9_digest_132 : decode cX9_digest 132 = .ok (.getfield 12, 3) := by decide +kernel
theorem dX9_digest_135 : decode cX9_digest 135 = .ok (.getfield 75, 3) := by decide +kernel
theorem dX9_digest_138 : decode cX9_digest 138 = .ok (.if_icmp .ge 26, 3) := by decide +kernel
theorem dX9_digest_141 : decode cX9_digest 141 = .ok (.ldc2_w 278, 3) := by decide +kernel
theorem dX9_digest_144 : decode cX9_digest 144 = .ok (.lload_n 1, 1) := by decide +kernel
theorem dX9_digest_145 : decode cX9_digest 145 = .ok (.lmul, 1) := by decide +kernel
theorem dX9_digest_146 : decode cX9_digest 146 = .ok (.aload_n 0, 1) := by decide +kernel
theorem dX9_digest_147 : decode cX9_digest 147 = .ok (.getfield 12, 3) := by decide +kernel
theorem dX9_digest_150 : decode cX9_digest 150 = .ok (.getfield 280, 3) := by decide +kernel
theorem dX9_digest_153 : decode cX9_digest 153 = .ok (.iload_n 3, 1) := by decide +kernel
theorem dX9_digest_154 : decode cX9_digest 154 = .ok (.iaload, 1) := by decide +kernel
theorem dX9_digest_155 : decode cX9_digest 155 = .ok (.i2l, 1) := by decide +kernel
theorem dX9_digest_156 : decode cX9_digest 156 = .ok (.ladd, 1) := by decide +kernel
theorem dX9_digest_157 : decode cX9_digest 157 = .ok (.lstore_n 1, 1) := by decide +kernel
theorem dX9_digest_158 : decode cX9_digest 158 = .ok (.iinc 3 1, 3) := by decide +kernel
theorem dX9_digest_161 : decode cX9_digest 161 = .ok (.goto (-31), 3) := by decide +kernel
theorem dX9_digest_164 : decode cX9_digest 164 = .ok (.iconst 0, 1) := by decide +kernel
theorem dX9_digest_165 : decode cX9_digest 165 = .ok (.istore_n 3, 1) := by decide +kernel
theorem dX9_digest_166 : decode cX9_digest 166 = .ok (.iload_n 3, 1) := by decide +kernel
theorem dX9_digest_167 : decode cX9_digest 167 = .ok (.bipush 10, 2) := by decide +kernel
theorem dX9_digest_169 : decode cX9_digest 169 = .ok (.if_icmp .gt 22, 3) := by decide +kernel
theorem dX9_digest_172 : decode cX9_digest 172 = .ok (.ldc2_w 278, 3) := by decide +kernel
theorem dX9_digest_175 : decode cX9_digest 175 = .ok (.lload_n 1, 1) := by decide +kernel
theorem dX9_digest_176 : decode cX9_digest 176 = .ok (.lmul, 1) := by decide +kernel
theorem dX9_digest_177 : decode cX9_digest 177 = .ok (.aload_n 0, 1) := by decide +kernel
theorem dX9_digest_178 : decode cX9_digest 178 = .ok (.iload_n 3, 1) := by decide +kernel
theorem dX9_digest_179 : decode cX9_digest 179 = .ok (.invokevirtual 283, 3) := by decide +kernel
theorem dX9_digest_182 : decode cX9_digest 182 = .ok (.i2l, 1) := by decide +kernel
theorem dX9_digest_183 : decode cX9_digest 183 = .ok (.ladd, 1) := by decide +kernel
theorem dX9_digest_184 : decode cX9_digest 184 = .ok (.lstore_n 1, 1) := by decide +kernel
theorem dX9_digest_185 : decode cX9_digest 185 = .ok (.iinc 3 1, 3) := by decide +kernel
theorem dX9_digest_188 : decode cX9_digest 188 = .ok (.goto (-22), 3) := by decide +kernel
theorem dX9_digest_191 : decode cX9_digest 191 = .ok (.lload_n 1, 1) := by decide +kernel
theorem dX9_digest_192 : decode cX9_digest 192 = .ok (.lreturn, 1) := by decide +kernel
theorem dX9_digestPerson_0 : decode cX9_digestPerson 0 = .ok (.lload_n 1, 1) := by decide +kernel
theorem dX9_digestPerson_1 : decode cX9_digestPerson 1 = .ok (.lstore 4, 2) := by decide +kernel
theorem dX9_digestPerson_3 : decode cX9_digestPerson 3 = .ok (.iconst 0, 1) := by decide +kernel
theorem dX9_digestPerson_4 : decode cX9_digestPerson 4 = .ok (.istore 6, 2) := by decide +kernel
theorem dX9_digestPerson_6 : decode cX9_digestPerson 6 = .ok (.iload 6, 2) := by decide +kernel
theorem dX9_digestPerson_8 : decode cX9_digestPerson 8 = .ok (.iconst 5, 1) := by decide +kernel
theorem dX9_digestPerson_9 : decode cX9_digestPerson 9 = .ok (.if_icmp .gt 26, 3) := by decide +kernel
theorem dX9_digestPerson_12 : decode cX9_digestPerson 12 = .ok (.ldc2_w 278, 3) := by decide +kernel
theorem dX9_digestPerson_15 : decode cX9_digestPerson 15 = .ok (.lload 4, 2) := by decide +kernel
theorem dX9_digestPerson_17 : decode cX9_digestPerson 17 = .ok (.lmul, 1) := by decide +kernel
theorem dX9_digestPerson_18 : decode cX9_digestPerson 18 = .ok (.aload_n 0, 1) := by decide +kernel
theorem dX9_digestPerson_19 : decode cX9_digestPerson 19 = .ok (.iload_n 3, 1) := by decide +kernel
theorem dX9_digestPerson_20 : decode cX9_digestPerson 20 = .ok (.iload 6, 2) := by decide +kernel
theorem dX9_digestPerson_22 : decode cX9_digestPerson 22 = .ok (.invokevirtual 285, 3) := by decide +kernel
theorem dX9_digestPerson_25 : decode cX9_digestPerson 25 = .ok (.i2l, 1) := by decide +kernel
theorem dX9_digestPerson_26 : decode cX9_digestPerson 26 = .ok (.ladd, 1) := by decide +kernel
theorem dX9_digestPerson_27 : decode cX9_digestPerson 27 = .ok (.lstore 4, 2) := by decide +kernel
theorem dX9_digestPerson_29 : decode cX9_digestPerson 29 = .ok (.iinc 6 1, 3) := by decide +kernel
theorem dX9_digestPerson_32 : decode cX9_digestPerson 32 = .ok (.goto (-26), 3) := by decide +kernel
theorem dX9_digestPerson_35 : decode cX9_digestPerson 35 = .ok (.ldc2_w 278, 3) := by decide +kernel
theorem dX9_digestPerson_38 : decode cX9_digestPerson 38 = .ok (.lload 4, 2) := by decide +kernel
theorem dX9_digestPerson_40 : decode cX9_digestPerson 40 = .ok (.lmul, 1) := by decide +kernel
theorem dX9_digestPerson_41 : decode cX9_digestPerson 41 = .ok (.aload_n 0, 1) := by decide +kernel
theorem dX9_digestPerson_42 : decode cX9_digestPerson 42 = .ok (.getfield 67, 3) := by decide +kernel
theorem dX9_digestPerson_45 : decode cX9_digestPerson 45 = .ok (.iload_n 3, 1) := by decide +kernel
theorem dX9_digestPerson_46 : decode cX9_digestPerson 46 = .ok (.iaload, 1) := by decide +kernel
theorem dX9_digestPerson_47 : decode cX9_digestPerson 47 = .ok (.i2l, 1) := by decide +kernel
theorem dX9_digestPerson_48 : decode cX9_digestPerson 48 = .ok (.ladd, 1) := by decide +kernel
theorem dX9_digestPerson_49 : decode cX9_digestPerson 49 = .ok (.lstore 4, 2) := by decide +kernel
theorem dX9_digestPerson_51 : decode cX9_digestPerson 51 = .ok (.iconst 0, 1) := by decide +kernel
theorem dX9_digestPerson_52 : decode cX9_digestPerson 52 = .ok (.istore 6, 2) := by decide +kernel
theorem dX9_digestPerson_54 : decode cX9_digestPerson 54 = .ok (.iload 6, 2) := by decide +kernel
theorem dX9_digestPerson_56 : decode cX9_digestPerson 56 = .ok (.aload_n 0, 1) := by decide +kernel
theorem dX9_digestPerson_57 : decode cX9_digestPerson 57 = .ok (.getfield 19, 3) := by decide +kernel
theorem dX9_digestPerson_60 : decode cX9_digestPerson 60 = .ok (.getfield 108, 3) := by decide +kernel
theorem dX9_digestPerson_63 : decode cX9_digestPerson 63 = .ok (.if_icmp .ge 52, 3) := by decide +kernel
theorem dX9_digestPerson_66 : decode cX9_digestPerson 66 = .ok (.iload 6, 2) := by decide +kernel
theorem dX9_digestPerson_68 : decode cX9_digestPerson 68 = .ok (.iload_n 3, 1) := by decide +kernel
theorem dX9_digestPerson_69 : decode cX9_digestPerson 69 = .ok (.if_icmp .ne 6, 3) := by decide +kernel
theorem dX9_digestPerson_72 : decode cX9_digestPerson 72 = .ok (.goto 37, 3) := by decide +kernel
theorem dX9_digestPerson_75 : decode cX9_digestPerson 75 = .ok (.iconst 0, 1) := by decide +kernel
theorem dX9_digestPerson_76 : decode cX9_digestPerson 76 = .ok (.istore 7, 2) := by decide +kernel
theorem dX9_digestPerson_78 : decode cX9_digestPerson 78 = .ok (.iload 7, 2) := by decide +kernel
theorem dX9_digestPerson_80 : decode cX9_digestPerson 80 = .ok (.iconst 2, 1) := by decide +kernel
theorem dX9_digestPerson_81 : decode cX9_digestPerson 81 = .ok (.if_icmp .gt 28, 3) := by decide +kernel
theorem dX9_digestPerson_84 : decode cX9_digestPerson 84 = .ok (.ldc2_w 278, 3) := by decide +kernel
theorem dX9_digestPerson_87 : decode cX9_digestPerson 87 = .ok (.lload 4, 2) := by decide +kernel
theorem dX9_digestPerson_89 : decode cX9_digestPerson 89 = .ok (.lmul, 1) := by decide +kernel
theorem dX9_digestPerson_90 : decode cX9_digestPerson 90 = .ok (.aload_n 0, 1) := by decide +kernel
theorem dX9_digestPerson_91 : decode cX9_digestPerson 91 = .ok (.iload_n 3, 1) := by decide +kernel
theorem dX9_digestPerson_92 : decode cX9_digestPerson 92 = .ok (.iload 6, 2) := by decide +kernel
theorem dX9_digestPerson_94 : decode cX9_digestPerson 94 = .ok (.iload 7, 2) := by decide +kernel
theorem dX9_digestPerson_96 : decode cX9_digestPerson 96 = .ok (.invokevirtual 288, 3) := by decide +kernel
theorem dX9_digestPerson_99 : decode cX9_digestPerson 99 = .ok (.i2l, 1) := by decide +kernel
theorem dX9_digestPerson_100 : decode cX9_digestPerson 100 = .ok (.ladd, 1) := by decide +kernel
theorem dX9_digestPerson_101 : decode cX9_digestPerson 101 = .ok (.lstore 4, 2) := by decide +kernel
theorem dX9_digestPerson_103 : decode cX9_digestPerson 103 = .ok (.iinc 7 1, 3) := by decide +kernel
theorem dX9_digestPerson_106 : decode cX9_digestPerson 106 = .ok (.goto (-28), 3) := by decide +kernel
theorem dX9_digestPerson_109 : decode cX9_digestPerson 109 = .ok (.iinc 6 1, 3) := by decide +kernel
theorem dX9_digestPerson_112 : decode cX9_digestPerson 112 = .ok (.goto (-58), 3) := by decide +kernel
theorem dX9_digestPerson_115 : decode cX9_digestPerson 115 = .ok (.lload 4, 2) := by decide +kernel
theorem dX9_digestPerson_117 : decode cX9_digestPerson 117 = .ok (.lreturn, 1) := by decide +kernel
theorem dX9_foreseeRuin_0 : decode cX9_foreseeRuin 0 = .ok (.aload_n 0, 1) := by decide +kernel
theorem dX9_foreseeRuin_1 : decode cX9_foreseeRuin 1 = .ok (.getfield 36, 3) := by decide +kernel
theorem dX9_foreseeRuin_4 : decode cX9_foreseeRuin 4 = .ok (.aload_n 0, 1) := by decide +kernel
theorem dX9_foreseeRuin_5 : decode cX9_foreseeRuin 5 = .ok (.getfield 19, 3) := by decide +kernel
theorem dX9_foreseeRuin_8 : decode cX9_foreseeRuin 8 = .ok (.invokevirtual 241, 3) := by decide +kernel
theorem dX9_foreseeRuin_11 : decode cX9_foreseeRuin 11 = .ok (.iconst 0, 1) := by decide +kernel
theorem dX9_foreseeRuin_12 : decode cX9_foreseeRuin 12 = .ok (.istore_n 1, 1) := by decide +kernel
theorem dX9_foreseeRuin_13 : decode cX9_foreseeRuin 13 = .ok (.iload_n 1, 1) := by decide +kernel
theorem dX9_foreseeRuin_14 : decode cX9_foreseeRuin 14 = .ok (.iconst 5, 1) := by decide +kernel
theorem dX9_foreseeRuin_15 : decode cX9_foreseeRuin 15 = .ok (.if_icmp .ge 16, 3) := by decide +kernel
theorem dX9_foreseeRuin_18 : decode cX9_foreseeRuin 18 = .ok (.aload_n 0, 1) := by decide +kernel
theorem dX9_foreseeRuin_19 : decode cX9_foreseeRuin 19 = .ok (.getfield 67, 3) := by decide +kernel
theorem dX9_foreseeRuin_22 : decode cX9_foreseeRuin 22 = .ok (.iload_n 1, 1) := by decide +kernel
theorem dX9_foreseeRuin_23 : decode cX9_foreseeRuin 23 = .ok (.iconst (-1), 1) := by decide +kernel
theorem dX9_foreseeRuin_24 : decode cX9_foreseeRuin 24 = .ok (.iastore, 1) := by decide +kernel
theorem dX9_foreseeRuin_25 : decode cX9_foreseeRuin 25 = .ok (.iinc 1 1, 3) := by decide +kernel
theorem dX9_foreseeRuin_28 : decode cX9_foreseeRuin 28 = .ok (.goto (-15), 3) := by decide +kernel
theorem dX9_foreseeRuin_31 : decode cX9_foreseeRuin 31 = .ok (.aload_n 0, 1) := by decide +kernel
theorem dX9_foreseeRuin_32 : decode cX9_foreseeRuin 32 = .ok (.iconst 0, 1) := by decide +kernel
theorem dX9_foreseeRuin_33 : decode cX9_foreseeRuin 33 = .ok (.invokevirtual 292, 3) := by decide +kernel
theorem dX9_foreseeRuin_36 : decode cX9_foreseeRuin 36 = .ok (.iconst 1, 1) := by decide +kernel
theorem dX9_foreseeRuin_37 : decode cX9_foreseeRuin 37 = .ok (.istore_n 1, 1) := by decide +kernel
theorem dX9_foreseeRuin_38 : decode cX9_foreseeRuin 38 = .ok (.iload_n 1, 1) := by decide +kernel
theorem dX9_foreseeRuin_39 : decode cX9_foreseeRuin 39 = .ok (.bipush 40, 2) := by decide +kernel
theorem dX9_foreseeRuin_41 : decode cX9_foreseeRuin 41 = .ok (.if_icmp .gt 22, 3) := by decide +kernel
theorem dX9_foreseeRuin_44 : decode cX9_foreseeRuin 44 = .ok (.aload_n 0, 1) := by decide +kernel
theorem dX9_foreseeRuin_45 : decode cX9_foreseeRuin 45 = .ok (.getfield 36, 3) := by decide +kernel
theorem dX9_foreseeRuin_48 : decode cX9_foreseeRuin 48 = .ok (.invokevirtual 189, 3) := by decide +kernel
theorem dX9_foreseeRuin_51 : decode cX9_foreseeRuin 51 = .ok (.pop, 1) := by decide +kernel
theorem dX9_foreseeRuin_52 : decode cX9_foreseeRuin 52 = .ok (.aload_n 0, 1) := by decide +kernel
theorem dX9_foreseeRuin_53 : decode cX9_foreseeRuin 53 = .ok (.iload_n 1, 1) := by decide +kernel
theorem dX9_foreseeRuin_54 : decode cX9_foreseeRuin 54 = .ok (.invokevirtual 292, 3) := by decide +kernel
theorem dX9_foreseeRuin_57 : decode cX9_foreseeRuin 57 = .ok (.iinc 1 1, 3) := by decide +kernel
theorem dX9_foreseeRuin_60 : decode cX9_foreseeRuin 60 = .ok (.goto (-22), 3) := by decide +kernel
theorem dX9_foreseeRuin_63 : decode cX9_foreseeRuin 63 = .ok (.return_, 1) := by decide +kernel
theorem dX9_noteRuined_0 : decode cX9_noteRuined 0 = .ok (.iconst 0, 1) := by decide +kernel
theorem dX9_noteRuined_1 : decode cX9_noteRuined 1 = .ok (.istore_n 2, 1) := by decide +kernel
theorem dX9_noteRuined_2 : decode cX9_noteRuined 2 = .ok (.iload_n 2, 1) := by decide +kernel
theorem dX9_noteRuined_3 : decode cX9_noteRuined 3 = .ok (.aload_n 0, 1) := by decide +kernel
theorem dX9_noteRuined_4 : decode cX9_noteRuined 4 = .ok (.getfield 36, 3) := by decide +kernel
theorem dX9_noteRuined_7 : decode cX9_noteRuined 7 = .ok (.getfield 108, 3) := by decide +kernel
theorem dX9_noteRuined_10 : decode cX9_noteRuined 10 = .ok (.if_icmp .ge 37, 3) := by decide +kernel
theorem dX9_noteRuined_13 : decode cX9_noteRuined 13 = .ok (.aload_n 0, 1) := by decide +kernel
theorem dX9_noteRuined_14 : decode cX9_noteRuined 14 = .ok (.getfield 67, 3) := by decide +kernel
theorem dX9_noteRuined_17 : decode cX9_noteRuined 17 = .ok (.iload_n 2, 1) := by decide +kernel
theorem dX9_noteRuined_18 : decode cX9_noteRuined 18 = .ok (.iaload, 1) := by decide +kernel
theorem dX9_noteRuined_19 : decode cX9_noteRuined 19 = .ok (.iconst (-1), 1) := by decide +kernel
theorem dX9_noteRuined_20 : decode cX9_noteRuined 20 = .ok (.if_icmp .ne 21, 3) := by decide +kernel
theorem dX9_noteRuined_23 : decode cX9_noteRuined 23 = .ok (.aload_n 0, 1) := by decide +kernel
theorem dX9_noteRuined_24 : decode cX9_noteRuined 24 = .ok (.getfield 36, 3) := by decide +kernel
theorem dX9_noteRuined_27 : decode cX9_noteRuined 27 = .ok (.iload_n 2, 1) := by decide +kernel
theorem dX9_noteRuined_28 : decode cX9_noteRuined 28 = .ok (.invokevirtual 134, 3) := by decide +kernel
theorem dX9_noteRuined_31 : decode cX9_noteRuined 31 = .ok (.ifCond .eq 10, 3) := by decide +kernel
theorem dX9_noteRuined_34 : decode cX9_noteRuined 34 = .ok (.aload_n 0, 1) := by decide +kernel
theorem dX9_noteRuined_35 : decode cX9_noteRuined 35 = .ok (.getfield 67, 3) := by decide +kernel
theorem dX9_noteRuined_38 : decode cX9_noteRuined 38 = .ok (.iload_n 2, 1) := by decide +kernel
theorem dX9_noteRuined_39 : decode cX9_noteRuined 39 = .ok (.iload_n 1, 1) := by decide +kernel
theorem dX9_noteRuined_40 : decode cX9_noteRuined 40 = .ok (.iastore, 1) := by decide +kernel
theorem dX9_noteRuined_41 : decode cX9_noteRuined 41 = .ok (.iinc 2 1, 3) := by decide +kernel
theorem dX9_noteRuined_44 : decode cX9_noteRuined 44 = .ok (.goto (-42), 3) := by decide +kernel
theorem dX9_noteRuined_47 : decode cX9_noteRuined 47 = .ok (.return_, 1) := by decide +kernel
theorem dX9_within_0 : decode cX9_within 0 = .ok (.iload_n 0, 1) := by decide +kernel
theorem dX9_within_1 : decode cX9_within 1 = .ok (.iload_n 1, 1) := by decide +kernel
theorem dX9_within_2 : decode cX9_within 2 = .ok (.if_icmp .lt 12, 3) := by decide +kernel
theorem dX9_within_5 : decode cX9_within 5 = .ok (.iload_n 0, 1) := by decide +kernel
theorem dX9_within_6 : decode cX9_within 6 = .ok (.iload_n 2, 1) := by decide +kernel
theorem dX9_within_7 : decode cX9_within 7 = .ok (.if_icmp .gt 7, 3) := by decide +kernel
theorem dX9_within_10 : decode cX9_within 10 = .ok (.iconst 1, 1) := by decide +kernel
theorem dX9_within_11 : decode cX9_within 11 = .ok (.goto 4, 3) := by decide +kernel
theorem dX9_within_14 : decode cX9_within 14 = .ok (.iconst 0, 1) := by decide +kernel
theorem dX9_within_15 : decode cX9_within 15 = .ok (.ireturn, 1) := by decide +kernel
theorem dX9_isKind_0 : decode cX9_isKind 0 = .ok (.iload_n 0, 1) := by decide +kernel
theorem dX9_isKind_1 : decode cX9_isKind 1 = .ok (.iconst 0, 1) := by decide +kernel
theorem dX9_isKind_2 : decode cX9_isKind 2 = .ok (.getstatic 145, 3) := by decide +kernel
theorem dX9_isKind_5 : decode cX9_isKind 5 = .ok (.arraylength, 1) := by decide +kernel
theorem dX9_isKind_6 : decode cX9_isKind 6 = .ok (.iconst 1, 1) := by decide +kernel
theorem dX9_isKind_7 : decode cX9_isKind 7 = .ok (.isub, 1) := by decide +kernel
theorem dX9_isKind_8 : decode cX9_isKind 8 = .ok (.invokestatic 71, 3) := by decide +kernel
theorem dX9_isKind_11 : decode cX9_isKind 11 = .ok (.ireturn, 1) := by decide +kernel
theorem dX9_isSize_0 : decode cX9_isSize 0 = .ok (.iload_n 0, 1) := by decide +kernel
theorem dX9_isSize_1 : decode cX9_isSize 1 = .ok (.iconst 1, 1) := by decide +kernel
theorem dX9_isSize_2 : decode cX9_isSize 2 = .ok (.bipush 99, 2) := by decide +kernel
theorem dX9_isSize_4 : decode cX9_isSize 4 = .ok (.invokestatic 71, 3) := by decide +kernel
theorem dX9_isSize_7 : decode cX9_isSize 7 = .ok (.ireturn, 1) := by decide +kernel
theorem dX9_oneIf_0 : decode cX9_oneIf 0 = .ok (.iload_n 0, 1) := by decide +kernel
theorem dX9_oneIf_1 : decode cX9_oneIf 1 = .ok (.ifCond .eq 7, 3) := by decide +kernel
theorem dX9_oneIf_4 : decode cX9_oneIf 4 = .ok (.iconst 1, 1) := by decide +kernel
theorem dX9_oneIf_5 : decode cX9_oneIf 5 = .ok (.goto 4, 3) := by decide +kernel
theorem dX9_oneIf_8 : decode cX9_oneIf 8 = .ok (.iconst 0, 1) := by decide +kernel
theorem dX9_oneIf_9 : decode cX9_oneIf 9 = .ok (.ireturn, 1) := by decide +kernel
theorem dX9_isAmong_0 : decode cX9_isAmong 0 = .ok (.iload_n 1, 1) := by decide +kernel
theorem dX9_isAmong_1 : decode cX9_isAmong 1 = .ok (.iload_n 0, 1) := by decide +kernel
theorem dX9_isAmong_2 : decode cX9_isAmong 2 = .ok (.ishr, 1) := by decide +kernel
theorem dX9_isAmong_3 : decode cX9_isAmong 3 = .ok (.iconst 1, 1) := by decide +kernel
theorem dX9_isAmong_4 : decode cX9_isAmong 4 = .ok (.iand, 1) := by decide +kernel
theorem dX9_isAmong_5 : decode cX9_isAmong 5 = .ok (.iconst 1, 1) := by decide +kernel
theorem dX9_isAmong_6 : decode cX9_isAmong 6 = .ok (.if_icmp .ne 7, 3) := by decide +kernel
theorem dX9_isAmong_9 : decode cX9_isAmong 9 = .ok (.iconst 1, 1) := by decide +kernel
theorem dX9_isAmong_10 : decode cX9_isAmong 10 = .ok (.goto 4, 3) := by decide +kernel
theorem dX9_isAmong_13 : decode cX9_isAmong 13 = .ok (.iconst 0, 1) := by decide +kernel
theorem dX9_isAmong_14 : decode cX9_isAmong 14 = .ok (.ireturn, 1) := by decide +kernel
theorem dX9_pairOf_0 : decode cX9_pairOf 0 = .ok (.iload_n 0, 1) := by decide +kernel
theorem dX9_pairOf_1 : decode cX9_pairOf 1 = .ok (.iconst 5, 1) := by decide +kernel
theorem dX9_pairOf_2 : decode cX9_pairOf 2 = .ok (.imul, 1) := by decide +kernel
theorem dX9_pairOf_3 : decode cX9_pairOf 3 = .ok (.iload_n 1, 1) := by decide +kernel
theorem dX9_pairOf_4 : decode cX9_pairOf 4 = .ok (.iadd, 1) := by decide +kernel
theorem dX9_pairOf_5 : decode cX9_pairOf 5 = .ok (.ireturn, 1) := by decide +kernel
theorem dX10_init_0 : decode cX10_init 0 = .ok (.aload_n 0, 1) := by decide +kernel
theorem dX10_init_1 : decode cX10_init 1 = .ok (.invokespecial 1, 3) := by decide +kernel
theorem dX10_init_4 : decode cX10_init 4 = .ok (.aload_n 0, 1) := by decide +kernel
theorem dX10_init_5 : decode cX10_init 5 = .ok (.iconst 1, 1) := by decide +kernel
theorem dX10_init_6 : decode cX10_init 6 = .ok (.putfield 7, 3) := by decide +kernel
theorem dX10_init_9 : decode cX10_init 9 = .ok (.aload_n 0, 1) := by decide +kernel
theorem dX10_init_10 : decode cX10_init 10 = .ok (.iconst 1, 1) := by decide +kernel
theorem dX10_init_11 : decode cX10_init 11 = .ok (.putfield 13, 3) := by decide +kernel
theorem dX10_init_14 : decode cX10_init 14 = .ok (.aload_n 0, 1) := by decide +kernel
theorem dX10_init_15 : decode cX10_init 15 = .ok (.iconst 5, 1) := by decide +kernel
theorem dX10_init_16 : decode cX10_init 16 = .ok (.newarray .int, 2) := by decide +kernel
theorem dX10_init_18 : decode cX10_init 18 = .ok (.putfield 16, 3) := by decide +kernel
theorem dX10_init_21 : decode cX10_init 21 = .ok (.aload_n 0, 1) := by decide +kernel
theorem dX10_init_22 : decode cX10_init 22 = .ok (.bipush 10, 2) := by decide +kernel
theorem dX10_init_24 : decode cX10_init 24 = .ok (.newarray .int, 2) := by decide +kernel
theorem dX10_init_26 : decode cX10_init 26 = .ok (.putfield 20, 3) := by decide +kernel
theorem dX10_init_29 : decode cX10_init 29 = .ok (.aload_n 0, 1) := by decide +kernel
theorem dX10_init_30 : decode cX10_init 30 = .ok (.bipush 50, 2) := by decide +kernel
theorem dX10_init_32 : decode cX10_init 32 = .ok (.newarray .int, 2) := by decide +kernel
theorem dX10_init_34 : decode cX10_init 34 = .ok (.putfield 23, 3) := by decide +kernel
theorem dX10_init_37 : decode cX10_init 37 = .ok (.aload_n 0, 1) := by decide +kernel
theorem dX10_init_38 : decode cX10_init 38 = .ok (.bipush 50, 2) := by decide +kernel
theorem dX10_init_40 : decode cX10_init 40 = .ok (.newarray .int, 2) := by decide +kernel
theorem dX10_init_42 : decode cX10_init 42 = .ok (.putfield 26, 3) := by decide +kernel
theorem dX10_init_45 : decode cX10_init 45 = .ok (.aload_n 0, 1) := by decide +kernel
theorem dX10_init_46 : decode cX10_init 46 = .ok (.bipush 50, 2) := by decide +kernel
theorem dX10_init_48 : decode cX10_init 48 = .ok (.newarray .int, 2) := by decide +kernel
theorem dX10_init_50 : decode cX10_init 50 = .ok (.putfield 29, 3) := by decide +kernel
theorem dX10_init_53 : decode cX10_init 53 = .ok (.aload_n 0, 1) := by decide +kernel
theorem dX10_init_54 : decode cX10_init 54 = .ok (.bipush 6, 2) := by decide +kernel
theorem dX10_init_56 : decode cX10_init 56 = .ok (.newarray .int, 2) := by decide +kernel
theorem dX10_init_58 : decode cX10_init 58 = .ok (.putfield 32, 3) := by decide +kernel
theorem dX10_init_61 : decode cX10_init 61 = .ok (.aload_n 0, 1) := by decide +kernel
theorem dX10_init_62 : decode cX10_init 62 = .ok (.bipush 6, 2) := by decide +kernel
theorem dX10_init_64 : decode cX10_init 64 = .ok (.newarray .int, 2) := by decide +kernel
theorem dX10_init_66 : decode cX10_init 66 = .ok (.putfield 35, 3) := by decide +kernel
theorem dX10_init_69 : decode cX10_init 69 = .ok (.aload_n 0, 1) := by decide +kernel
theorem dX10_init_70 : decode cX10_init 70 = .ok (.bipush 6, 2) := by decide +kernel
theorem dX10_init_72 : decode cX10_init 72 = .ok (.newarray .int, 2) := by decide +kernel
theorem dX10_init_74 : decode cX10_init 74 = .ok (.putfield 38, 3) := by decide +kernel
theorem dX10_init_77 : decode cX10_init 77 = .ok (.aload_n 0, 1) := by decide +kernel
theorem dX10_init_78 : decode cX10_init 78 = .ok (.bipush 6, 2) := by decide +kernel
theorem dX10_init_80 : decode cX10_init 80 = .ok (.newarray .byte, 2) := by decide +kernel
theorem dX10_init_82 : decode cX10_init 82 = .ok (.putfield 41, 3) := by decide +kernel
theorem dX10_init_85 : decode cX10_init 85 = .ok (.aload_n 0, 1) := by decide +kernel
theorem dX10_init_86 : decode cX10_init 86 = .ok (.bipush 32, 2) := by decide +kernel
theorem dX10_init_88 : decode cX10_init 88 = .ok (.newarray .int, 2) := by decide +kernel
theorem dX10_init_90 : decode cX10_init 90 = .ok (.putfield 45, 3) := by decide +kernel
theorem dX10_init_93 : decode cX10_init 93 = .ok (.aload_n 0, 1) := by decide +kernel
theorem dX10_init_94 : decode cX10_init 94 = .ok (.bipush 32, 2) := by decide +kernel
theorem dX10_init_96 : decode cX10_init 96 = .ok (.newarray .int, 2) := by decide +kernel
theorem dX10_init_98 : decode cX10_init 98 = .ok (.putfield 48, 3) := by decide +kernel
theorem dX10_init_101 : decode cX10_init 101 = .ok (.aload_n 0, 1) := by decide +kernel
theorem dX10_init_102 : decode cX10_init 102 = .ok (.iconst 4, 1) := by decide +kernel
theorem dX10_init_103 : decode cX10_init 103 = .ok (.newarray .int, 2) := by decide +kernel
theorem dX10_init_105 : decode cX10_init 105 = .ok (.putfield 51, 3) := by decide +kernel
theorem dX10_init_108 : decode cX10_init 108 = .ok (.aload_n 0, 1) := by decide +kernel
theorem dX10_init_109 : decode cX10_init 109 = .ok (.iconst 5, 1) := by decide +kernel
theorem dX10_init_110 : decode cX10_init 110 = .ok (.newarray .int, 2) := by decide +kernel
theorem dX10_init_112 : decode cX10_init 112 = .ok (.putfield 54, 3) := by decide +kernel
theorem dX10_init_115 : decode cX10_init 115 = .ok (.aload_n 0, 1) := by decide +kernel
theorem dX10_init_116 : decode cX10_init 116 = .ok (.bipush 25, 2) := by decide +kernel
theorem dX10_init_118 : decode cX10_init 118 = .ok (.newarray .int, 2) := by decide +kernel
theorem dX10_init_120 : decode cX10_init 120 = .ok (.putfield 57, 3) := by decide +kernel
theorem dX10_init_123 : decode cX10_init 123 = .ok (.aload_n 0, 1) := by decide +kernel
theorem dX10_init_124 : decode cX10_init 124 = .ok (.bipush 25, 2) := by decide +kernel
theorem dX10_init_126 : decode cX10_init 126 = .ok (.newarray .int, 2) := by decide +kernel
theorem dX10_init_128 : decode cX10_init 128 = .ok (.putfield 60, 3) := by decide +kernel
theorem dX10_init_131 : decode cX10_init 131 = .ok (.aload_n 0, 1) := by decide +kernel
theorem dX10_init_132 : decode cX10_init 132 = .ok (.bipush 25, 2) := by decide +kernel
theorem dX10_init_134 : decode cX10_init 134 = .ok (.newarray .int, 2) := by decide +kernel
theorem dX10_init_136 : decode cX10_init 136 = .ok (.putfield 63, 3) := by decide +kernel
theorem dX10_init_139 : decode cX10_init 139 = .ok (.aload_n 0, 1) := by decide +kernel
theorem dX10_init_140 : decode cX10_init 140 = .ok (.bipush 18, 2) := by decide +kernel
theorem dX10_init_142 : decode cX10_init 142 = .ok (.newarray .int, 2) := by decide +kernel
theorem dX10_init_144 : decode cX10_init 144 = .ok (.putfield 66, 3) := by decide +kernel
theorem dX10_init_147 : decode cX10_init 147 = .ok (.return_, 1) := by decide +kernel
theorem dX10_within_0 : decode cX10_within 0 = .ok (.iload_n 0, 1) := by decide +kernel
theorem dX10_within_1 : decode cX10_within 1 = .ok (.iload_n 1, 1) := by decide +kernel
theorem dX10_within_2 : decode cX10_within 2 = .ok (.if_icmp .lt 12, 3) := by decide +kernel
theorem dX10_within_5 : decode cX10_within 5 = .ok (.iload_n 0, 1) := by decide +kernel
theorem dX10_within_6 : decode cX10_within 6 = .ok (.iload_n 2, 1) := by decide +kernel
theorem dX10_within_7 : decode cX10_within 7 = .ok (.if_icmp .gt 7, 3) := by decide +kernel
theorem dX10_within_10 : decode cX10_within 10 = .ok (.iconst 1, 1) := by decide +kernel
theorem dX10_within_11 : decode cX10_within 11 = .ok (.goto 4, 3) := by decide +kernel
theorem dX10_within_14 : decode cX10_within 14 = .ok (.iconst 0, 1) := by decide +kernel
theorem dX10_within_15 : decode cX10_within 15 = .ok (.ireturn, 1) := by decide +kernel
theorem dX10_size_0 : decode cX10_size 0 = .ok (.iconst 0, 1) := by decide +kernel
theorem dX10_size_1 : decode cX10_size 1 = .ok (.istore_n 1, 1) := by decide +kernel
theorem dX10_size_2 : decode cX10_size 2 = .ok (.iconst 0, 1) := by decide +kernel
theorem dX10_size_3 : decode cX10_size 3 = .ok (.istore_n 2, 1) := by decide +kernel
theorem dX10_size_4 : decode cX10_size 4 = .ok (.iload_n 2, 1) := by decide +kernel
theorem dX10_size_5 : decode cX10_size 5 = .ok (.bipush 6, 2) := by decide +kernel
theorem dX10_size_7 : decode cX10_size 7 = .ok (.if_icmp .ge 17, 3) := by decide +kernel
theorem dX10_size_10 : decode cX10_size 10 = .ok (.iload_n 1, 1) := by decide +kernel
theorem dX10_size_11 : decode cX10_size 11 = .ok (.iload_n 0, 1) := by decide +kernel
theorem dX10_size_12 : decode cX10_size 12 = .ok (.iload_n 2, 1) := by decide +kernel
theorem dX10_size_13 : decode cX10_size 13 = .ok (.ishr, 1) := by decide +kernel
theorem dX10_size_14 : decode cX10_size 14 = .ok (.iconst 1, 1) := by decide +kernel
theorem dX10_size_15 : decode cX10_size 15 = .ok (.iand, 1) := by decide +kernel
theorem dX10_size_16 : decode cX10_size 16 = .ok (.iadd, 1) := by decide +kernel
theorem dX10_size_17 : decode cX10_size 17 = .ok (.istore_n 1, 1) := by decide +kernel
theorem dX10_size_18 : decode cX10_size 18 = .ok (.iinc 2 1, 3) := by decide +kernel
theorem dX10_size_21 : decode cX10_size 21 = .ok (.goto (-17), 3) := by decide +kernel
theorem dX10_size_24 : decode cX10_size 24 = .ok (.iload_n 1, 1) := by decide +kernel
theorem dX10_size_25 : decode cX10_size 25 = .ok (.ireturn, 1) := by decide +kernel
theorem dX10_less_0 : decode cX10_less 0 = .ok (.iload_n 0, 1) := by decide +kernel
theorem dX10_less_1 : decode cX10_less 1 = .ok (.iload_n 1, 1) := by decide +kernel
theorem dX10_less_2 : decode cX10_less 2 = .ok (.if_icmp .ge 7, 3) := by decide +kernel
theorem dX10_less_5 : decode cX10_less 5 = .ok (.iload_n 0, 1) := by decide +kernel
theorem dX10_less_6 : decode cX10_less 6 = .ok (.goto 4, 3) := by decide +kernel
theorem dX10_less_9 : decode cX10_less 9 = .ok (.iload_n 1, 1) := by decide +kernel
theorem dX10_less_10 : decode cX10_less 10 = .ok (.ireturn, 1) := by decide +kernel
theorem dX10_more_0 : decode cX10_more 0 = .ok (.iload_n 0, 1) := by decide +kernel
theorem dX10_more_1 : decode cX10_more 1 = .ok (.iload_n 1, 1) := by decide +kernel
theorem dX10_more_2 : decode cX10_more 2 = .ok (.if_icmp .le 7, 3) := by decide +kernel
theorem dX10_more_5 : decode cX10_more 5 = .ok (.iload_n 0, 1) := by decide +kernel
theorem dX10_more_6 : decode cX10_more 6 = .ok (.goto 4, 3) := by decide +kernel
theorem dX10_more_9 : decode cX10_more 9 = .ok (.iload_n 1, 1) := by decide +kernel
theorem dX10_more_10 : decode cX10_more 10 = .ok (.ireturn, 1) := by decide +kernel
theorem dX10_letter_0 : decode cX10_letter 0 = .ok (.iload_n 1, 1) := by decide +kernel
theorem dX10_letter_1 : decode cX10_letter 1 = .ok (.bipush 32, 2) := by decide +kernel
theorem dX10_letter_3 : decode cX10_letter 3 = .ok (.bipush 126, 2) := by decide +kernel
theorem dX10_letter_5 : decode cX10_letter 5 = .ok (.invokestatic 69, 3) := by decide +kernel
theorem dX10_letter_8 : decode cX10_letter 8 = .ok (.ifCond .ne 6, 3) := by decide +kernel
theorem dX10_letter_11 : decode cX10_letter 11 = .ok (.bipush (-102), 2) := by decide +kernel
theorem dX10_letter_13 : decode cX10_letter 13 = .ok (.ireturn, 1) := by decide +kernel
theorem dX10_letter_14 : decode cX10_letter 14 = .ok (.aload_n 0, 1) := by decide +kernel
theorem dX10_letter_15 : decode cX10_letter 15 = .ok (.getfield 73, 3) := by decide +kernel
theorem dX10_letter_18 : decode cX10_letter 18 = .ok (.bipush 6, 2) := by decide +kernel
theorem dX10_letter_20 : decode cX10_letter 20 = .ok (.if_icmp .ne 6, 3) := by decide +kernel
theorem dX10_letter_23 : decode cX10_letter 23 = .ok (.bipush (-104), 2) := by decide +kernel
theorem dX10_letter_25 : decode cX10_letter 25 = .ok (.ireturn, 1) := by decide +kernel
theorem dX10_letter_26 : decode cX10_letter 26 = .ok (.aload_n 0, 1) := by decide +kernel
theorem dX10_letter_27 : decode cX10_letter 27 = .ok (.getfield 41, 3) := by decide +kernel
theorem dX10_letter_30 : decode cX10_letter 30 = .ok (.aload_n 0, 1) := by decide +kernel
theorem dX10_letter_31 : decode cX10_letter 31 = .ok (.getfield 73, 3) := by decide +kernel
theorem dX10_letter_34 : decode cX10_letter 34 = .ok (.iload_n 1, 1) := by decide +kernel
theorem dX10_letter_35 : decode cX10_letter 35 = .ok (.i2b, 1) := by decide +kernel
theorem dX10_letter_36 : decode cX10_letter 36 = .ok (.bastore, 1) := by decide +kernel
theorem dX10_letter_37 : decode cX10_letter 37 = .ok (.aload_n 0, 1) := by decide +kernel
theorem dX10_letter_38 : decode cX10_letter 38 = .ok (.dup, 1) := by decide +kernel
theorem dX10_letter_39 : decode cX10_letter 39 = .ok (.getfield 73, 3) := by decide +kernel
theorem dX10_letter_42 : decode cX10_letter 42 = .ok (.iconst 1, 1) := by decide +kernel
theorem dX10_letter_43 : decode cX10_letter 43 = .ok (.iadd, 1) := by decide +kernel
theorem dX10_letter_44 : decode cX10_letter 44 = .ok (.putfield 73, 3) := by decide +kernel
theorem dX10_letter_47 : decode cX10_letter 47 = .ok (.aload_n 0, 1) := by decide +kernel
theorem dX10_letter_48 : decode cX10_letter 48 = .ok (.getfield 73, 3) := by decide +kernel
theorem dX10_letter_51 : decode cX10_letter 51 = .ok (.ireturn, 1) := by decide +kernel
theorem dX10_blank_0 : decode cX10_blank 0 = .ok (.aload_n 0, 1) := by decide +kernel
theorem dX10_blank_1 : decode cX10_blank 1 = .ok (.getfield 73, 3) := by decide +kernel
theorem dX10_blank_4 : decode cX10_blank 4 = .ok (.istore_n 1, 1) := by decide +kernel
theorem dX10_blank_5 : decode cX10_blank 5 = .ok (.aload_n 0, 1) := by decide +kernel
theorem dX10_blank_6 : decode cX10_blank 6 = .ok (.iconst 0, 1) := by decide +kernel
theorem dX10_blank_7 : decode cX10_blank 7 = .ok (.putfield 73, 3) := by decide +kernel
theorem dX10_blank_10 : decode cX10_blank 10 = .ok (.iload_n 1, 1) := by decide +kernel
theorem dX10_blank_11 : decode cX10_blank 11 = .ok (.ireturn, 1) := by decide +kernel
theorem dX10_isGood_0 : decode cX10_isGood 0 = .ok (.iload_n 1, 1) := by decide +kernel
theorem dX10_isGood_1 : decode cX10_isGood 1 = .ok (.iconst 1, 1) := by decide +kernel
theorem dX10_isGood_2 : decode cX10_isGood 2 = .ok (.if_icmp .ne 33, 3) := by decide +kernel
theorem dX10_isGood_5 : decode cX10_isGood 5 = .ok (.aload_n 0, 1) := by decide +kernel
theorem dX10_isGood_6 : decode cX10_isGood 6 = .ok (.getfield 41, 3) := by decide +kernel
theorem dX10_isGood_9 : decode cX10_isGood 9 = .ok (.iconst 1, 1) := by decide +kernel
theorem dX10_isGood_10 : decode cX10_isGood 10 = .ok (.baload, 1) := by decide +kernel
theorem dX10_isGood_11 : decode cX10_isGood 11 = .ok (.bipush 117, 2) := by decide +kernel
theorem dX10_isGood_13 : decode cX10_isGood 13 = .ok (.if_icmp .eq 14, 3) := by decide +kernel
theorem dX10_isGood_16 : decode cX10_isGood 16 = .ok (.aload_n 0, 1) := by decide +kernel
theorem dX10_isGood_17 : decode cX10_isGood 17 = .ok (.getfield 41, 3) := by decide +kernel
theorem dX10_isGood_20 : decode cX10_isGood 20 = .ok (.iconst 1, 1) := by decide +kernel
theorem dX10_isGood_21 : decode cX10_isGood 21 = .ok (.baload, 1) := by decide +kernel
theorem dX10_isGood_22 : decode cX10_isGood 22 = .ok (.bipush 100, 2) := by decide +kernel
theorem dX10_isGood_24 : decode cX10_isGood 24 = .ok (.if_icmp .ne 7, 3) := by decide +kernel
theorem dX10_isGood_27 : decode cX10_isGood 27 = .ok (.iconst 1, 1) := by decide +kernel
theorem dX10_isGood_28 : decode cX10_isGood 28 = .ok (.goto 35, 3) := by decide +kernel
theorem dX10_isGood_31 : decode cX10_isGood 31 = .ok (.iconst 0, 1) := by decide +kernel
theorem dX10_isGood_32 : decode cX10_isGood 32 = .ok (.goto 31, 3) := by decide +kernel
theorem dX10_isGood_35 : decode cX10_isGood 35 = .ok (.iload_n 1, 1) := by decide +kernel
theorem dX10_isGood_36 : decode cX10_isGood 36 = .ok (.iconst 4, 1) := by decide +kernel
theorem dX10_isGood_37 : decode cX10_isGood 37 = .ok (.if_icmp .ge 25, 3) := by decide +kernel
theorem dX10_isGood_40 : decode cX10_isGood 40 = .ok (.aload_n 0, 1) := by decide +kernel
theorem dX10_isGood_41 : decode cX10_isGood 41 = .ok (.getfield 41, 3) := by decide +kernel
theorem dX10_isGood_44 : decode cX10_isGood 44 = .ok (.iload_n 1, 1) := by decide +kernel
theorem dX10_isGood_45 : decode cX10_isGood 45 = .ok (.baload, 1) := by decide +kernel
theorem dX10_isGood_46 : decode cX10_isGood 46 = .ok (.bipush 48, 2) := by decide +kernel
theorem dX10_isGood_48 : decode cX10_isGood 48 = .ok (.isub, 1) := by decide +kernel
theorem dX10_isGood_49 : decode cX10_isGood 49 = .ok (.iconst 0, 1) := by decide +kernel
theorem dX10_isGood_50 : decode cX10_isGood 50 = .ok (.bipush 9, 2) := by decide +kernel
theorem dX10_isGood_52 : decode cX10_isGood 52 = .ok (.invokestatic 69, 3) := by decide +kernel
theorem dX10_isGood_55 : decode cX10_isGood 55 = .ok (.ifCond .eq 7, 3) := by decide +kernel
theorem dX10_isGood_58 : decode cX10_isGood 58 = .ok (.iconst 1, 1) := by decide +kernel
theorem dX10_isGood_59 : decode cX10_isGood 59 = .ok (.goto 4, 3) := by decide +kernel
theorem dX10_isGood_62 : decode cX10_isGood 62 = .ok (.iconst 0, 1) := by decide +kernel
theorem dX10_isGood_63 : decode cX10_isGood 63 = .ok (.ireturn, 1) := by decide +kernel
theorem dX10_faultNow_0 : decode cX10_faultNow 0 = .ok (.iconst 0, 1) := by decide +kernel
theorem dX10_faultNow_1 : decode cX10_faultNow 1 = .ok (.istore_n 1, 1) := by decide +kernel
theorem dX10_faultNow_2 : decode cX10_faultNow 2 = .ok (.iload_n 1, 1) := by decide +kernel
theorem dX10_faultNow_3 : decode cX10_faultNow 3 = .ok (.aload_n 0, 1) := by decide +kernel
theorem dX10_faultNow_4 : decode cX10_faultNow 4 = .ok (.getfield 73, 3) := by decide +kernel
theorem dX10_faultNow_7 : decode cX10_faultNow 7 = .ok (.if_icmp .ge 17, 3) := by decide +kernel
theorem dX10_faultNow_10 : decode cX10_faultNow 10 = .ok (.aload_n 0, 1) := by decide +kernel
theorem dX10_faultNow_11 : decode cX10_faultNow 11 = .ok (.iload_n 1, 1) := by decide +kernel
theorem dX10_faultNow_12 : decode cX10_faultNow 12 = .ok (.invokevirtual 76, 3) := by decide +kernel
theorem dX10_faultNow_15 : decode cX10_faultNow 15 = .ok (.ifCond .eq 9, 3) := by decide +kernel
theorem dX10_faultNow_18 : decode cX10_faultNow 18 = .ok (.iinc 1 1, 3) := by decide +kernel
theorem dX10_faultNow_21 : decode cX10_faultNow 21 = .ok (.goto (-19), 3) := by decide +kernel
theorem dX10_faultNow_24 : decode cX10_faultNow 24 = .ok (.iload_n 1, 1) := by decide +kernel
theorem dX10_faultNow_25 : decode cX10_faultNow 25 = .ok (.ireturn, 1) := by decide +kernel
theorem dX10_fault_0 : decode cX10_fault 0 = .ok (.aload_n 0, 1) := by decide +kernel
theorem dX10_fault_1 : decode cX10_fault 1 = .ok (.invokevirtual 80, 3) := by decide +kernel
theorem dX10_fault_4 : decode cX10_fault 4 = .ok (.ireturn, 1) := by decide +kernel
theorem dX10_law_0 : decode cX10_law 0 = .ok (.aload_n 0, 1) := by decide +kernel
theorem dX10_law_1 : decode cX10_law 1 = .ok (.invokevirtual 80, 3) := by decide +kernel
theorem dX10_law_4 : decode cX10_law 4 = .ok (.aload_n 0, 1) := by decide +kernel
theorem dX10_law_5 : decode cX10_law 5 = .ok (.getfield 73, 3) := by decide +kernel
theorem dX10_law_8 : decode cX10_law 8 = .ok (.if_icmp .ne 11, 3) := by decide +kernel
theorem dX10_law_11 : decode cX10_law 11 = .ok (.aload_n 0, 1) := by decide +kernel
theorem dX10_law_12 : decode cX10_law 12 = .ok (.getfield 73, 3) := by decide +kernel
theorem dX10_law_15 : decode cX10_law 15 = .ok (.iconst 4, 1) := by decide +kernel
theorem dX10_law_16 : decode cX10_law 16 = .ok (.if_icmp .eq 6, 3) := by decide +kernel
theorem dX10_law_19 : decode cX10_law 19 = .ok (.bipush (-103), 2) := by decide +kernel
theorem dX10_law_21 : decode cX10_law 21 = .ok (.ireturn, 1) := by decide +kernel
theorem dX10_law_22 : decode cX10_law 22 = .ok (.aload_n 0, 1) := by decide +kernel
theorem dX10_law_23 : decode cX10_law 23 = .ok (.aload_n 0, 1) := by decide +kernel
theorem dX10_law_24 : decode cX10_law 24 = .ok (.getfield 41, 3) := by decide +kernel
theorem dX10_law_27 : decode cX10_law 27 = .ok (.iconst 0, 1) := by decide +kernel
theorem dX10_law_28 : decode cX10_law 28 = .ok (.baload, 1) := by decide +kernel
theorem dX10_law_29 : decode cX10_law 29 = .ok (.bipush 48, 2) := by decide +kernel
theorem dX10_law_31 : decode cX10_law 31 = .ok (.isub, 1) := by decide +kernel
theorem dX10_law_32 : decode cX10_law 32 = .ok (.putfield 7, 3) := by decide +kernel
theorem dX10_law_35 : decode cX10_law 35 = .ok (.aload_n 0, 1) := by decide +kernel
theorem dX10_law_36 : decode cX10_law 36 = .ok (.aload_n 0, 1) := by decide +kernel
theorem dX10_law_37 : decode cX10_law 37 = .ok (.getfield 41, 3) := by decide +kernel
theorem dX10_law_40 : decode cX10_law 40 = .ok (.iconst 1, 1) := by decide +kernel
theorem dX10_law_41 : decode cX10_law 41 = .ok (.baload, 1) := by decide +kernel
theorem dX10_law_42 : decode cX10_law 42 = .ok (.bipush 117, 2) := by decide +kernel
theorem dX10_law_44 : decode cX10_law 44 = .ok (.if_icmp .ne 7, 3) := by decide +kernel
theorem dX10_law_47 : decode cX10_law 47 = .ok (.iconst 1, 1) := by decide +kernel
theorem dX10_law_48 : decode cX10_law 48 = .ok (.goto 4, 3) := by decide +kernel
theorem dX10_law_51 : decode cX10_law 51 = .ok (.iconst 0, 1) := by decide +kernel
theorem dX10_law_52 : decode cX10_law 52 = .ok (.putfield 13, 3) := by decide +kernel
theorem dX10_law_55 : decode cX10_law 55 = .ok (.aload_n 0, 1) := by decide +kernel
theorem dX10_law_56 : decode cX10_law 56 = .ok (.aload_n 0, 1) := by decide +kernel
theorem dX10_law_57 : decode cX10_law 57 = .ok (.getfield 41, 3) := by decide +kernel
theorem dX10_law_60 : decode cX10_law 60 = .ok (.iconst 2, 1) := by decide +kernel
theorem dX10_law_61 : decode cX10_law 61 = .ok (.baload, 1) := by decide +kernel
theorem dX10_law_62 : decode cX10_law 62 = .ok (.bipush 48, 2) := by decide +kernel
theorem dX10_law_64 : decode cX10_law 64 = .ok (.isub, 1) := by decide +kernel
theorem dX10_law_65 : decode cX10_law 65 = .ok (.putfield 84, 3) := by decide +kernel
theorem dX10_law_68 : decode cX10_law 68 = .ok (.aload_n 0, 1) := by decide +kernel
theorem dX10_law_69 : decode cX10_law 69 = .ok (.aload_n 0, 1) := by decide +kernel
theorem dX10_law_70 : decode cX10_law 70 = .ok (.getfield 41, 3) := by decide +kernel
theorem dX10_law_73 : decode cX10_law 73 = .ok (.iconst 3, 1) := by decide +kernel
theorem dX10_law_74 : decode cX10_law 74 = .ok (.baload, 1) := by decide +kernel
theorem dX10_law_75 : decode cX10_law 75 = .ok (.bipush 48, 2) := by decide +kernel
theorem dX10_law_77 : decode cX10_law 77 = .ok (.isub, 1) := by decide +kernel
theorem dX10_law_78 : decode cX10_law 78 = .ok (.putfield 87, 3) := by decide +kernel
theorem dX10_law_81 : decode cX10_law 81 = .ok (.aload_n 0, 1) := by decide +kernel
theorem dX10_law_82 : decode cX10_law 82 = .ok (.dup, 1) := by decide +kernel
theorem dX10_law_83 : decode cX10_law 83 = .ok (.getfield 90, 3) := by decide +kernel
theorem dX10_law_86 : decode cX10_law 86 = .ok (.iconst 1, 1) := by decide +kernel
theorem dX10_law_87 : decode cX10_law 87 = .ok (.iadd, 1) := by decide +kernel
theorem dX10_law_88 : decode cX10_law 88 = .ok (.putfield 90, 3) := by decide +kernel
theorem dX10_law_91 : decode cX10_law 91 = .ok (.aload_n 0, 1) := by decide +kernel
theorem dX10_law_92 : decode cX10_law 92 = .ok (.iconst 0, 1) := by decide +kernel
theorem dX10_law_93 : decode cX10_law 93 = .ok (.putfield 73, 3) := by decide +kernel
theorem dX10_law_96 : decode cX10_law 96 = .ok (.aload_n 0, 1) := by decide +kernel
theorem dX10_law_97 : decode cX10_law 97 = .ok (.getfield 90, 3) := by decide +kernel
theorem dX10_law_100 : decode cX10_law 100 = .ok (.ireturn, 1) := by decide +kernel
theorem dX10_isPerson_0 : decode cX10_isPerson 0 = .ok (.iload_n 1, 1) := by decide +kernel
theorem dX10_isPerson_1 : decode cX10_isPerson 1 = .ok (.iconst 0, 1) := by decide +kernel
theorem dX10_isPerson_2 : decode cX10_isPerson 2 = .ok (.aload_n 0, 1) := by decide +kernel
theorem dX10_isPerson_3 : decode cX10_isPerson 3 = .ok (.getfield 93, 3) := by decide +kernel
theorem dX10_isPerson_6 : decode cX10_isPerson 6 = .ok (.iconst 1, 1) := by decide +kernel
theorem dX10_isPerson_7 : decode cX10_isPerson 7 = .ok (.isub, 1) := by decide +kernel
theorem dX10_isPerson_8 : decode cX10_isPerson 8 = .ok (.invokestatic 69, 3) := by decide +kernel
theorem dX10_isPerson_11 : decode cX10_isPerson 11 = .ok (.ireturn, 1) := by decide +kernel
theorem dX10_areTwo_0 : decode cX10_areTwo 0 = .ok (.aload_n 0, 1) := by decide +kernel
theorem dX10_areTwo_1 : decode cX10_areTwo 1 = .ok (.iload_n 1, 1) := by decide +kernel
theorem dX10_areTwo_2 : decode cX10_areTwo 2 = .ok (.invokevirtual 96, 3) := by decide +kernel
theorem dX10_areTwo_5 : decode cX10_areTwo 5 = .ok (.ifCond .eq 20, 3) := by decide +kernel
theorem dX10_areTwo_8 : decode cX10_areTwo 8 = .ok (.aload_n 0, 1) := by decide +kernel
theorem dX10_areTwo_9 : decode cX10_areTwo 9 = .ok (.iload_n 2, 1) := by decide +kernel
theorem dX10_areTwo_10 : decode cX10_areTwo 10 = .ok (.invokevirtual 96, 3) := by decide +kernel
theorem dX10_areTwo_13 : decode cX10_areTwo 13 = .ok (.ifCond .eq 12, 3) := by decide +kernel
theorem dX10_areTwo_16 : decode cX10_areTwo 16 = .ok (.iload_n 1, 1) := by decide +kernel
theorem dX10_areTwo_17 : decode cX10_areTwo 17 = .ok (.iload_n 2, 1) := by decide +kernel
theorem dX10_areTwo_18 : decode cX10_areTwo 18 = .ok (.if_icmp .eq 7, 3) := by decide +kernel
theorem dX10_areTwo_21 : decode cX10_areTwo 21 = .ok (.iconst 1, 1) := by decide +kernel
theorem dX10_areTwo_22 : decode cX10_areTwo 22 = .ok (.goto 4, 3) := by decide +kernel
theorem dX10_areTwo_25 : decode cX10_areTwo 25 = .ok (.iconst 0, 1) := by decide +kernel
theorem dX10_areTwo_26 : decode cX10_areTwo 26 = .ok (.ireturn, 1) := by decide +kernel
theorem dX10_person_0 : decode cX10_person 0 = .ok (.iload_n 1, 1) := by decide +kernel
theorem dX10_person_1 : decode cX10_person 1 = .ok (.iconst 0, 1) := by decide +kernel
theorem dX10_person_2 : decode cX10_person 2 = .ok (.iconst 4, 1) := by decide +kernel
theorem dX10_person_3 : decode cX10_person 3 = .ok (.invokestatic 69, 3) := by decide +kernel
theorem dX10_person_6 : decode cX10_person 6 = .ok (.ifCond .eq 13, 3) := by decide +kernel
theorem dX10_person_9 : decode cX10_person 9 = .ok (.iload_n 2, 1) := by decide +kernel
theorem dX10_person_10 : decode cX10_person 10 = .ok (.iconst 0, 1) := by decide +kernel
theorem dX10_person_11 : decode cX10_person 11 = .ok (.bipush 99, 2) := by decide +kernel
theorem dX10_person_13 : decode cX10_person 13 = .ok (.invokestatic 69, 3) := by decide +kernel
theorem dX10_person_16 : decode cX10_person 16 = .ok (.ifCond .ne 6, 3) := by decide +kernel
theorem dX10_person_19 : decode cX10_person 19 = .ok (.bipush (-102), 2) := by decide +kernel
theorem dX10_person_21 : decode cX10_person 21 = .ok (.ireturn, 1) := by decide +kernel
theorem dX10_person_22 : decode cX10_person 22 = .ok (.aload_n 0, 1) := by decide +kernel
theorem dX10_person_23 : decode cX10_person 23 = .ok (.getfield 93, 3) := by decide +kernel
theorem dX10_person_26 : decode cX10_person 26 = .ok (.iconst 5, 1) := by decide +kernel
theorem dX10_person_27 : decode cX10_person 27 = .ok (.if_icmp .ne 6, 3) := by decide +kernel
theorem dX10_person_30 : decode cX10_person 30 = .ok (.bipush (-104), 2) := by decide +kernel
theorem dX10_person_32 : decode cX10_person 32 = .ok (.ireturn, 1) := by decide +kernel
theorem dX10_person_33 : decode cX10_person 33 = .ok (.aload_n 0, 1) := by decide +kernel
theorem dX10_person_34 : decode cX10_person 34 = .ok (.getfield 16, 3) := by decide +kernel
theorem dX10_person_37 : decode cX10_person 37 = .ok (.aload_n 0, 1) := by decide +kernel
theorem dX10_person_38 : decode cX10_person 38 = .ok (.getfield 93, 3) := by decide +kernel
theorem dX10_person_41 : decode cX10_person 41 = .ok (.iload_n 1, 1) := by decide +kernel
theorem dX10_person_42 : decode cX10_person 42 = .ok (.iastore, 1) := by decide +kernel
theorem dX10_person_43 : decode cX10_person 43 = .ok (.aload_n 0, 1) := by decide +kernel
theorem dX10_person_44 : decode cX10_person 44 = .ok (.getfield 20, 3) := by decide +kernel
theorem dX10_person_47 : decode cX10_person 47 = .ok (.aload_n 0, 1) := by decide +kernel
theorem dX10_person_48 : decode cX10_person 48 = .ok (.getfield 93, 3) := by decide +kernel
theorem dX10_person_51 : decode cX10_person 51 = .ok (.iload_n 2, 1) := by decide +kernel
theorem dX10_person_52 : decode cX10_person 52 = .ok (.iastore, 1) := by decide +kernel
theorem dX10_person_53 : decode cX10_person 53 = .ok (.iconst 0, 1) := by decide +kernel
theorem dX10_person_54 : decode cX10_person 54 = .ok (.istore_n 3, 1) := by decide +kernel
theorem dX10_person_55 : decode cX10_person 55 = .ok (.iload_n 3, 1) := by decide +kernel
theorem dX10_person_56 : decode cX10_person 56 = .ok (.iconst 5, 1) := by decide +kernel
theorem dX10_person_57 : decode cX10_person 57 = .ok (.if_icmp .ge 33, 3) := by decide +kernel
theorem dX10_person_60 : decode cX10_person 60 = .ok (.aload_n 0, 1) := by decide +kernel
theorem dX10_person_61 : decode cX10_person 61 = .ok (.iconst 5, 1) := by decide +kernel
theorem dX10_person_62 : decode cX10_person 62 = .ok (.aload_n 0, 1) := by decide +kernel
theorem dX10_person_63 : decode cX10_person 63 = .ok (.getfield 93, 3) := by decide +kernel
theorem dX10_person_66 : decode cX10_person 66 = .ok (.imul, 1) := by decide +kernel
theorem dX10_person_67 : decode cX10_person 67 = .ok (.iload_n 3, 1) := by decide +kernel
theorem dX10_person_68 : decode cX10_person 68 = .ok (.iadd, 1) := by decide +kernel
theorem dX10_person_69 : decode cX10_person 69 = .ok (.invokevirtual 99, 3) := by decide +kernel
theorem dX10_person_72 : decode cX10_person 72 = .ok (.aload_n 0, 1) := by decide +kernel
theorem dX10_person_73 : decode cX10_person 73 = .ok (.iconst 5, 1) := by decide +kernel
theorem dX10_person_74 : decode cX10_person 74 = .ok (.iload_n 3, 1) := by decide +kernel
theorem dX10_person_75 : decode cX10_person 75 = .ok (.imul, 1) := by decide +kernel
theorem dX10_person_76 : decode cX10_person 76 = .ok (.aload_n 0, 1) := by decide +kernel
theorem dX10_person_77 : decode cX10_person 77 = .ok (.getfield 93, 3) := by decide +kernel
theorem dX10_person_80 : decode cX10_person 80 = .ok (.iadd, 1) := by decide +kernel
theorem dX10_person_81 : decode cX10_person 81 = .ok (.invokevirtual 99, 3) := by decide +kernel
theorem dX10_person_84 : decode cX10_person 84 = .ok (.iinc 3 1, 3) := by decide +kernel
theorem dX10_person_87 : decode cX10_person 87 = .ok (.goto (-32), 3) := by decide +kernel
theorem dX10_person_90 : decode cX10_person 90 = .ok (.aload_n 0, 1) := by decide +kernel
theorem dX10_person_91 : decode cX10_person 91 = .ok (.dup, 1) := by decide +kernel
theorem dX10_person_92 : decode cX10_person 92 = .ok (.getfield 93, 3) := by decide +kernel
theorem dX10_person_95 : decode cX10_person 95 = .ok (.iconst 1, 1) := by decide +kernel
theorem dX10_person_96 : decode cX10_person 96 = .ok (.iadd, 1) := by decide +kernel
theorem dX10_person_97 : decode cX10_person 97 = .ok (.putfield 93, 3) := by decide +kernel
theorem dX10_person_100 : decode cX10_person 100 = .ok (.aload_n 0, 1) := by decide +kernel
theorem dX10_person_101 : decode cX10_person 101 = .ok (.getfield 93, 3) := by decide +kernel
theorem dX10_person_104 : decode cX10_person 104 = .ok (.iconst 1, 1) := by decide +kernel
theorem dX10_person_105 : decode cX10_person 105 = .ok (.isub, 1) := by decide +kernel
theorem dX10_person_106 : decode cX10_person 106 = .ok (.ireturn, 1) := by decide +kernel
theorem dX10_clearPair_0 : decode cX10_clearPair 0 = .ok (.aload_n 0, 1) := by decide +kernel
theorem dX10_clearPair_1 : decode cX10_clearPair 1 = .ok (.getfield 23, 3) := by decide +kernel
theorem dX10_clearPair_4 : decode cX10_clearPair 4 = .ok (.iload_n 1, 1) := by decide +kernel
theorem dX10_clearPair_5 : decode cX10_clearPair 5 = .ok (.iconst 0, 1) := by decide +kernel
theorem dX10_clearPair_6 : decode cX10_clearPair 6 = .ok (.iastore, 1) := by decide +kernel
theorem dX10_clearPair_7 : decode cX10_clearPair 7 = .ok (.aload_n 0, 1) := by decide +kernel
theorem dX10_clearPair_8 : decode cX10_clearPair 8 = .ok (.getfield 26, 3) := by decide +kernel
theorem dX10_clearPair_11 : decode cX10_clearPair 11 = .ok (.iload_n 1, 1) := by decide +kernel
theorem dX10_clearPair_12 : decode cX10_clearPair 12 = .ok (.iconst 0, 1) := by decide +kernel
theorem dX10_clearPair_13 : decode cX10_clearPair 13 = .ok (.iastore, 1) := by decide +kernel
theorem dX10_clearPair_14 : decode cX10_clearPair 14 = .ok (.aload_n 0, 1) := by decide +kernel
theorem dX10_clearPair_15 : decode cX10_clearPair 15 = .ok (.getfield 29, 3) := by decide +kernel
theorem dX10_clearPair_18 : decode cX10_clearPair 18 = .ok (.iload_n 1, 1) := by decide +kernel
theorem dX10_clearPair_19 : decode cX10_clearPair 19 = .ok (.iconst 0, 1) := by decide +kernel
theorem dX10_clearPair_20 : decode cX10_clearPair 20 = .ok (.iastore, 1) := by decide +kernel
theorem dX10_clearPair_21 : decode cX10_clearPair 21 = .ok (.return_, 1) := by decide +kernel
theorem dX10_owesAll_0 : decode cX10_owesAll 0 = .ok (.iconst 0, 1) := by decide +kernel
theorem dX10_owesAll_1 : decode cX10_owesAll 1 = .ok (.istore_n 3, 1) := by decide +kernel
theorem dX10_owesAll_2 : decode cX10_owesAll 2 = .ok (.iconst 0, 1) := by decide +kernel
theorem dX10_owesAll_3 : decode cX10_owesAll 3 = .ok (.istore 4, 2) := by decide +kernel
theorem dX10_owesAll_5 : decode cX10_owesAll 5 = .ok (.iload 4, 2) := by decide +kernel
theorem dX10_owesAll_7 : decode cX10_owesAll 7 = .ok (.aload_n 0, 1) := by decide +kernel
theorem dX10_owesAll_8 : decode cX10_owesAll 8 = .ok (.getfield 93, 3) := by decide +kernel
theorem dX10_owesAll_11 : decode cX10_owesAll 11 = .ok (.if_icmp .ge 25, 3) := by decide +kernel
theorem dX10_owesAll_14 : decode cX10_owesAll 14 = .ok (.iload_n 3, 1) := by decide +kernel
theorem dX10_owesAll_15 : decode cX10_owesAll 15 = .ok (.aload_n 0, 1) := by decide +kernel
theorem dX10_owesAll_16 : decode cX10_owesAll 16 = .ok (.getfield 23, 3) := by decide +kernel
theorem dX10_owesAll_19 : decode cX10_owesAll 19 = .ok (.iload_n 1, 1) := by decide +kernel
theorem dX10_owesAll_20 : decode cX10_owesAll 20 = .ok (.iconst 5, 1) := by decide +kernel
theorem dX10_owesAll_21 : decode cX10_owesAll 21 = .ok (.iload_n 2, 1) := by decide +kernel
theorem dX10_owesAll_22 : decode cX10_owesAll 22 = .ok (.imul, 1) := by decide +kernel
theorem dX10_owesAll_23 : decode cX10_owesAll 23 = .ok (.iadd, 1) := by decide +kernel
theorem dX10_owesAll_24 : decode cX10_owesAll 24 = .ok (.iload 4, 2) := by decide +kernel
theorem dX10_owesAll_26 : decode cX10_owesAll 26 = .ok (.iadd, 1) := by decide +kernel
theorem dX10_owesAll_27 : decode cX10_owesAll 27 = .ok (.iaload, 1) := by decide +kernel
theorem dX10_owesAll_28 : decode cX10_owesAll 28 = .ok (.iadd, 1) := by decide +kernel
theorem dX10_owesAll_29 : decode cX10_owesAll 29 = .ok (.istore_n 3, 1) := by decide +kernel
theorem dX10_owesAll_30 : decode cX10_owesAll 30 = .ok (.iinc 4 1, 3) := by decide +kernel
theorem dX10_owesAll_33 : decode cX10_owesAll 33 = .ok (.goto (-28), 3) := by decide +kernel
theorem dX10_owesAll_36 : decode cX10_owesAll 36 = .ok (.iload_n 3, 1) := by decide +kernel
theorem dX10_owesAll_37 : decode cX10_owesAll 37 = .ok (.ireturn, 1) := by decide +kernel
theorem dX10_owedBy_0 : decode cX10_owedBy 0 = .ok (.iconst 0, 1) := by decide +kernel
theorem dX10_owedBy_1 : decode cX10_owedBy 1 = .ok (.istore_n 3, 1) := by decide +kernel
theorem dX10_owedBy_2 : decode cX10_owedBy 2 = .ok (.iconst 0, 1) := by decide +kernel
theorem dX10_owedBy_3 : decode cX10_owedBy 3 = .ok (.istore 4, 2) := by decide +kernel
theorem dX10_owedBy_5 : decode cX10_owedBy 5 = .ok (.iload 4, 2) := by decide +kernel
theorem dX10_owedBy_7 : decode cX10_owedBy 7 = .ok (.aload_n 0, 1) := by decide +kernel
theorem dX10_owedBy_8 : decode cX10_owedBy 8 = .ok (.getfield 93, 3) := by decide +kernel
theorem dX10_owedBy_11 : decode cX10_owedBy 11 = .ok (.if_icmp .ge 25, 3) := by decide +kernel
theorem dX10_owedBy_14 : decode cX10_owedBy 14 = .ok (.iload_n 3, 1) := by decide +kernel
theorem dX10_owedBy_15 : decode cX10_owedBy 15 = .ok (.aload_n 0, 1) := by decide +kernel
theorem dX10_owedBy_16 : decode cX10_owedBy 16 = .ok (.getfield 23, 3) := by decide +kernel
theorem dX10_owedBy_19 : decode cX10_owedBy 19 = .ok (.iload_n 1, 1) := by decide +kernel
theorem dX10_owedBy_20 : decode cX10_owedBy 20 = .ok (.iconst 5, 1) := by decide +kernel
theorem dX10_owedBy_21 : decode cX10_owedBy 21 = .ok (.iload 4, 2) := by decide +kernel
theorem dX10_owedBy_23 : decode cX10_owedBy 23 = .ok (.imul, 1) := by decide +kernel
theorem dX10_owedBy_24 : decode cX10_owedBy 24 = .ok (.iadd, 1) := by decide +kernel
theorem dX10_owedBy_25 : decode cX10_owedBy 25 = .ok (.iload_n 2, 1) := by decide +kernel
theorem dX10_owedBy_26 : decode cX10_owedBy 26 = .ok (.iadd, 1) := by decide +kernel
theorem dX10_owedBy_27 : decode cX10_owedBy 27 = .ok (.iaload, 1) := by decide +kernel
theorem dX10_owedBy_28 : decode cX10_owedBy 28 = .ok (.iadd, 1) := by decide +kernel
theorem dX10_owedBy_29 : decode cX10_owedBy 29 = .ok (.istore_n 3, 1) := by decide +kernel
theorem dX10_owedBy_30 : decode cX10_owedBy 30 = .ok (.iinc 4 1, 3) := by decide +kernel
theorem dX10_owedBy_33 : decode cX10_owedBy 33 = .ok (.goto (-28), 3) := by decide +kernel
theorem dX10_owedBy_36 : decode cX10_owedBy 36 = .ok (.iload_n 3, 1) := by decide +kernel
theorem dX10_owedBy_37 : decode cX10_owedBy 37 = .ok (.ireturn, 1) := by decide +kernel
theorem dX10_net_0 : decode cX10_net 0 = .ok (.aload_n 0, 1) := by decide +kernel
theorem dX10_net_1 : decode cX10_net 1 = .ok (.getfield 20, 3) := by decide +kernel
theorem dX10_net_4 : decode cX10_net 4 = .ok (.iconst 5, 1) := by decide +kernel
theorem dX10_net_5 : decode cX10_net 5 = .ok (.iload_n 1, 1) := by decide +kernel
theorem dX10_net_6 : decode cX10_net 6 = .ok (.imul, 1) := by decide +kernel
theorem dX10_net_7 : decode cX10_net 7 = .ok (.iload_n 2, 1) := by decide +kernel
theorem dX10_net_8 : decode cX10_net 8 = .ok (.iadd, 1) := by decide +kernel
theorem dX10_net_9 : decode cX10_net 9 = .ok (.iaload, 1) := by decide +kernel
theorem dX10_net_10 : decode cX10_net 10 = .ok (.aload_n 0, 1) := by decide +kernel
theorem dX10_net_11 : decode cX10_net 11 = .ok (.bipush 25, 2) := by decide +kernel
theorem dX10_net_13 : decode cX10_net 13 = .ok (.iload_n 1, 1) := by decide +kernel
theorem dX10_net_14 : decode cX10_net 14 = .ok (.imul, 1) := by decide +kernel
theorem dX10_net_15 : decode cX10_net 15 = .ok (.iload_n 2, 1) := by decide +kernel
theorem dX10_net_16 : decode cX10_net 16 = .ok (.invokevirtual 103, 3) := by decide +kernel
theorem dX10_net_19 : decode cX10_net 19 = .ok (.iadd, 1) := by decide +kernel
theorem dX10_net_20 : decode cX10_net 20 = .ok (.aload_n 0, 1) := by decide +kernel
theorem dX10_net_21 : decode cX10_net 21 = .ok (.bipush 25, 2) := by decide +kernel
theorem dX10_net_23 : decode cX10_net 23 = .ok (.iload_n 1, 1) := by decide +kernel
theorem dX10_net_24 : decode cX10_net 24 = .ok (.imul, 1) := by decide +kernel
theorem dX10_net_25 : decode cX10_net 25 = .ok (.iload_n 2, 1) := by decide +kernel
theorem dX10_net_26 : decode cX10_net 26 = .ok (.invokevirtual 107, 3) := by decide +kernel
theorem dX10_net_29 : decode cX10_net 29 = .ok (.isub, 1) := by decide +kernel
theorem dX10_net_30 : decode cX10_net 30 = .ok (.ireturn, 1) := by decide +kernel
theorem dX10_personNow_0 : decode cX10_personNow 0 = .ok (.iload_n 2, 1) := by decide +kernel
theorem dX10_personNow_1 : decode cX10_personNow 1 = .ok (.tableswitch 70 0 4 #[35, 42, 49, 56, 63], 35) := by decide +kernel
theorem dX10_personNow_36 : decode cX10_personNow 36 = .ok (.aload_n 0, 1) := by decide +kernel
theorem dX10_personNow_37 : decode cX10_personNow 37 = .ok (.getfield 16, 3) := by decide +kernel
theorem dX10_personNow_40 : decode cX10_personNow 40 = .ok (.iload_n 1, 1) := by decide +kernel
theorem dX10_personNow_41 : decode cX10_personNow 41 = .ok (.iaload, 1) := by decide +kernel
theorem dX10_personNow_42 : decode cX10_personNow 42 = .ok (.ireturn, 1) := by decide +kernel
theorem dX10_personNow_43 : decode cX10_personNow 43 = .ok (.aload_n 0, 1) := by decide +kernel
theorem dX10_personNow_44 : decode cX10_personNow 44 = .ok (.getfield 20, 3) := by decide +kernel
theorem dX10_personNow_47 : decode cX10_personNow 47 = .ok (.iload_n 1, 1) := by decide +kernel
theorem dX10_personNow_48 : decode cX10_personNow 48 = .ok (.iaload, 1) := by decide +kernel
theorem dX10_personNow_49 : decode cX10_personNow 49 = .ok (.ireturn, 1) := by decide +kernel
theorem dX10_personNow_50 : decode cX10_personNow 50 = .ok (.aload_n 0, 1) := by decide +kernel
theorem dX10_personNow_51 : decode cX10_personNow 51 = .ok (.iconst 0, 1) := by decide +kernel
theorem dX10_personNow_52 : decode cX10_personNow 52 = .ok (.iload_n 1, 1) := by decide +kernel
theorem dX10_personNow_53 : decode cX10_personNow 53 = .ok (.invokevirtual 107, 3) := by decide +kernel
theorem dX10_personNow_56 : decode cX10_personNow 56 = .ok (.ireturn, 1) := by decide +kernel
theorem dX10_personNow_57 : decode cX10_personNow 57 = .ok (.aload_n 0, 1) := by decide +kernel
theorem dX10_personNow_58 : decode cX10_personNow 58 = .ok (.iconst 0, 1) := by decide +kernel
theorem dX10_personNow_59 : decode cX10_personNow 59 = .ok (.iload_n 1, 1) := by decide +kernel
theorem dX10_personNow_60 : decode cX10_personNow 60 = .ok (.invokevirtual 103, 3) := by decide +kernel
theorem dX10_personNow_63 : decode cX10_personNow 63 = .ok (.ireturn, 1) := by decide +kernel
theorem dX10_personNow_64 : decode cX10_personNow 64 = .ok (.aload_n 0, 1) := by decide +kernel
theorem dX10_personNow_65 : decode cX10_personNow 65 = .ok (.iconst 0, 1) := by decide +kernel
theorem dX10_personNow_66 : decode cX10_personNow 66 = .ok (.iload_n 1, 1) := by decide +kernel
theorem dX10_personNow_67 : decode cX10_personNow 67 = .ok (.invokevirtual 110, 3) := by decide +kernel
theorem dX10_personNow_70 : decode cX10_personNow 70 = .ok (.ireturn, 1) := by decide +kernel
theorem dX10_personNow_71 : decode cX10_personNow 71 = .ok (.aload_n 0, 1) := by decide +kernel
theorem dX10_personNow_72 : decode cX10_personNow 72 = .ok (.iconst 0, 1) := by decide +kernel
theorem dX10_personNow_73 : decode cX10_personNow 73 = .ok (.iload_n 1, 1) := by decide +kernel
theorem dX10_personNow_74 : decode cX10_personNow 74 = .ok (.invokevirtual 110, 3) := by decide +kernel
theorem dX10_personNow_77 : decode cX10_personNow 77 = .ok (.ifCond .ge 7, 3) := by decide +kernel
theorem dX10_personNow_80 : decode cX10_personNow 80 = .ok (.iconst 1, 1) := by decide +kernel
theorem dX10_personNow_81 : decode cX10_personNow 81 = .ok (.goto 4, 3) := by decide +kernel
theorem dX10_personNow_84 : decode cX10_personNow 84 = .ok (.iconst 0, 1) := by decide +kernel
theorem dX10_personNow_85 : decode cX10_personNow 85 = .ok (.ireturn, 1) := by decide +kernel
theorem dX10_about_0 : decode cX10_about 0 = .ok (.aload_n 0, 1) := by decide +kernel
theorem dX10_about_1 : decode cX10_about 1 = .ok (.iload_n 1, 1) := by decide +kernel
theorem dX10_about_2 : decode cX10_about 2 = .ok (.invokevirtual 96, 3) := by decide +kernel
theorem dX10_about_5 : decode cX10_about 5 = .ok (.ifCond .ne 8, 3) := by decide +kernel
theorem dX10_about_8 : decode cX10_about 8 = .ok (.bipush (-101), 2) := by decide +kernel
theorem dX10_about_10 : decode cX10_about 10 = .ok (.goto 23, 3) := by decide +kernel
theorem dX10_about_13 : decode cX10_about 13 = .ok (.iload_n 2, 1) := by decide +kernel
theorem dX10_about_14 : decode cX10_about 14 = .ok (.iconst 0, 1) := by decide +kernel
theorem dX10_about_15 : decode cX10_about 15 = .ok (.iconst 5, 1) := by decide +kernel
theorem dX10_about_16 : decode cX10_about 16 = .ok (.invokestatic 69, 3) := by decide +kernel
theorem dX10_about_19 : decode cX10_about 19 = .ok (.ifCond .eq 12, 3) := by decide +kernel
theorem dX10_about_22 : decode cX10_about 22 = .ok (.aload_n 0, 1) := by decide +kernel
theorem dX10_about_23 : decode cX10_about 23 = .ok (.iload_n 1, 1) := by decide +kernel
theorem dX10_about_24 : decode cX10_about 24 = .ok (.iload_n 2, 1) := by decide +kernel
theorem dX10_about_25 : decode cX10_about 25 = .ok (.invokevirtual 113, 3) := by decide +kernel
theorem dX10_about_28 : decode cX10_about 28 = .ok (.goto 5, 3) := by decide +kernel
theorem dX10_about_31 : decode cX10_about 31 = .ok (.bipush (-102), 2) := by decide +kernel
theorem dX10_about_33 : decode cX10_about 33 = .ok (.ireturn, 1) := by decide +kernel
theorem dX10_as_0 : decode cX10_as 0 = .ok (.aload_n 0, 1) := by decide +kernel
theorem dX10_as_1 : decode cX10_as 1 = .ok (.iload_n 1, 1) := by decide +kernel
theorem dX10_as_2 : decode cX10_as 2 = .ok (.invokevirtual 96, 3) := by decide +kernel
theorem dX10_as_5 : decode cX10_as 5 = .ok (.ifCond .ne 6, 3) := by decide +kernel
theorem dX10_as_8 : decode cX10_as 8 = .ok (.bipush (-101), 2) := by decide +kernel
theorem dX10_as_10 : decode cX10_as 10 = .ok (.ireturn, 1) := by decide +kernel
theorem dX10_as_11 : decode cX10_as 11 = .ok (.iload_n 2, 1) := by decide +kernel
theorem dX10_as_12 : decode cX10_as 12 = .ok (.iconst 0, 1) := by decide +kernel
theorem dX10_as_13 : decode cX10_as 13 = .ok (.iconst 4, 1) := by decide +kernel
theorem dX10_as_14 : decode cX10_as 14 = .ok (.invokestatic 69, 3) := by decide +kernel
theorem dX10_as_17 : decode cX10_as 17 = .ok (.ifCond .ne 6, 3) := by decide +kernel
theorem dX10_as_20 : decode cX10_as 20 = .ok (.bipush (-102), 2) := by decide +kernel
theorem dX10_as_22 : decode cX10_as 22 = .ok (.ireturn, 1) := by decide +kernel
theorem dX10_as_23 : decode cX10_as 23 = .ok (.aload_n 0, 1) := by decide +kernel
theorem dX10_as_24 : decode cX10_as 24 = .ok (.getfield 16, 3) := by decide +kernel
theorem dX10_as_27 : decode cX10_as 27 = .ok (.iload_n 1, 1) := by decide +kernel
theorem dX10_as_28 : decode cX10_as 28 = .ok (.iaload, 1) := by decide +kernel
theorem dX10_as_29 : decode cX10_as 29 = .ok (.istore_n 3, 1) := by decide +kernel
theorem dX10_as_30 : decode cX10_as 30 = .ok (.iload_n 2, 1) := by decide +kernel
theorem dX10_as_31 : decode cX10_as 31 = .ok (.ifCond .eq 18, 3) := by decide +kernel
theorem dX10_as_34 : decode cX10_as 34 = .ok (.iload_n 3, 1) := by decide +kernel
theorem dX10_as_35 : decode cX10_as 35 = .ok (.iload_n 2, 1) := by decide +kernel
theorem dX10_as_36 : decode cX10_as 36 = .ok (.if_icmp .eq 13, 3) := by decide +kernel
theorem dX10_as_39 : decode cX10_as 39 = .ok (.iload_n 2, 1) := by decide +kernel
theorem dX10_as_40 : decode cX10_as 40 = .ok (.iconst 3, 1) := by decide +kernel
theorem dX10_as_41 : decode cX10_as 41 = .ok (.if_icmp .ne 12, 3) := by decide +kernel
theorem dX10_as_44 : decode cX10_as 44 = .ok (.iload_n 3, 1) := by decide +kernel
theorem dX10_as_45 : decode cX10_as 45 = .ok (.iconst 4, 1) := by decide +kernel
theorem dX10_as_46 : decode cX10_as 46 = .ok (.if_icmp .ne 7, 3) := by decide +kernel
theorem dX10_as_49 : decode cX10_as 49 = .ok (.iload_n 1, 1) := by decide +kernel
theorem dX10_as_50 : decode cX10_as 50 = .ok (.goto 4, 3) := by decide +kernel
theorem dX10_as_53 : decode cX10_as 53 = .ok (.iconst (-1), 1) := by decide +kernel
theorem dX10_as_54 : decode cX10_as 54 = .ok (.ireturn, 1) := by decide +kernel
theorem dX10_betweenNow_0 : decode cX10_betweenNow 0 = .ok (.iconst 5, 1) := by decide +kernel
theorem dX10_betweenNow_1 : decode cX10_betweenNow 1 = .ok (.iload_n 1, 1) := by decide +kernel
theorem dX10_betweenNow_2 : decode cX10_betweenNow 2 = .ok (.imul, 1) := by decide +kernel
theorem dX10_betweenNow_3 : decode cX10_betweenNow 3 = .ok (.iload_n 2, 1) := by decide +kernel
theorem dX10_betweenNow_4 : decode cX10_betweenNow 4 = .ok (.iadd, 1) := by decide +kernel
theorem dX10_betweenNow_5 : decode cX10_betweenNow 5 = .ok (.istore 4, 2) := by decide +kernel
theorem dX10_betweenNow_7 : decode cX10_betweenNow 7 = .ok (.iload_n 3, 1) := by decide +kernel
theorem dX10_betweenNow_8 : decode cX10_betweenNow 8 = .ok (.ifCond .ne 13, 3) := by decide +kernel
theorem dX10_betweenNow_11 : decode cX10_betweenNow 11 = .ok (.aload_n 0, 1) := by decide +kernel
theorem dX10_betweenNow_12 : decode cX10_betweenNow 12 = .ok (.getfield 23, 3) := by decide +kernel
theorem dX10_betweenNow_15 : decode cX10_betweenNow 15 = .ok (.iload 4, 2) := by decide +kernel
theorem dX10_betweenNow_17 : decode cX10_betweenNow 17 = .ok (.iaload, 1) := by decide +kernel
theorem dX10_betweenNow_18 : decode cX10_betweenNow 18 = .ok (.goto 25, 3) := by decide +kernel
theorem dX10_betweenNow_21 : decode cX10_betweenNow 21 = .ok (.iload_n 3, 1) := by decide +kernel
theorem dX10_betweenNow_22 : decode cX10_betweenNow 22 = .ok (.iconst 1, 1) := by decide +kernel
theorem dX10_betweenNow_23 : decode cX10_betweenNow 23 = .ok (.if_icmp .ne 13, 3) := by decide +kernel
theorem dX10_betweenNow_26 : decode cX10_betweenNow 26 = .ok (.aload_n 0, 1) := by decide +kernel
theorem dX10_betweenNow_27 : decode cX10_betweenNow 27 = .ok (.getfield 26, 3) := by decide +kernel
theorem dX10_betweenNow_30 : decode cX10_betweenNow 30 = .ok (.iload 4, 2) := by decide +kernel
theorem dX10_betweenNow_32 : decode cX10_betweenNow 32 = .ok (.iaload, 1) := by decide +kernel
theorem dX10_betweenNow_33 : decode cX10_betweenNow 33 = .ok (.goto 10, 3) := by decide +kernel
theorem dX10_betweenNow_36 : decode cX10_betweenNow 36 = .ok (.aload_n 0, 1) := by decide +kernel
theorem dX10_betweenNow_37 : decode cX10_betweenNow 37 = .ok (.getfield 29, 3) := by decide +kernel
theorem dX10_betweenNow_40 : decode cX10_betweenNow 40 = .ok (.iload 4, 2) := by decide +kernel
theorem dX10_betweenNow_42 : decode cX10_betweenNow 42 = .ok (.iaload, 1) := by decide +kernel
theorem dX10_betweenNow_43 : decode cX10_betweenNow 43 = .ok (.ireturn, 1) := by decide +kernel
theorem dX10_between_0 : decode cX10_between 0 = .ok (.aload_n 0, 1) := by decide +kernel
theorem dX10_between_1 : decode cX10_between 1 = .ok (.iload_n 1, 1) := by decide +kernel
theorem dX10_between_2 : decode cX10_between 2 = .ok (.iload_n 2, 1) := by decide +kernel
theorem dX10_between_3 : decode cX10_between 3 = .ok (.invokevirtual 116, 3) := by decide +kernel
theorem dX10_between_6 : decode cX10_between 6 = .ok (.ifCond .ne 6, 3) := by decide +kernel
theorem dX10_between_9 : decode cX10_between 9 = .ok (.bipush (-101), 2) := by decide +kernel
theorem dX10_between_11 : decode cX10_between 11 = .ok (.ireturn, 1) := by decide +kernel
theorem dX10_between_12 : decode cX10_between 12 = .ok (.iload_n 3, 1) := by decide +kernel
theorem dX10_between_13 : decode cX10_between 13 = .ok (.iconst 0, 1) := by decide +kernel
theorem dX10_between_14 : decode cX10_between 14 = .ok (.iconst 2, 1) := by decide +kernel
theorem dX10_between_15 : decode cX10_between 15 = .ok (.invokestatic 69, 3) := by decide +kernel
theorem dX10_between_18 : decode cX10_between 18 = .ok (.ifCond .eq 13, 3) := by decide +kernel
theorem dX10_between_21 : decode cX10_between 21 = .ok (.aload_n 0, 1) := by decide +kernel
theorem dX10_between_22 : decode cX10_between 22 = .ok (.iload_n 1, 1) := by decide +kernel
theorem dX10_between_23 : decode cX10_between 23 = .ok (.iload_n 2, 1) := by decide +kernel
theorem dX10_between_24 : decode cX10_between 24 = .ok (.iload_n 3, 1) := by decide +kernel
theorem dX10_between_25 : decode cX10_between 25 = .ok (.invokevirtual 120, 3) := by decide +kernel
theorem dX10_between_28 : decode cX10_between 28 = .ok (.goto 5, 3) := by decide +kernel
theorem dX10_between_31 : decode cX10_between 31 = .ok (.bipush (-102), 2) := by decide +kernel
theorem dX10_between_33 : decode cX10_between 33 = .ok (.ireturn, 1) := by decide +kernel
theorem dX10_neverThanks_0 : decode cX10_neverThanks 0 = .ok (.aload_n 0, 1) := by decide +kernel
theorem dX10_neverThanks_1 : decode cX10_neverThanks 1 = .ok (.getfield 16, 3) := by decide +kernel
theorem dX10_neverThanks_4 : decode cX10_neverThanks 4 = .ok (.iload_n 1, 1) := by decide +kernel
theorem dX10_neverThanks_5 : decode cX10_neverThanks 5 = .ok (.iaload, 1) := by decide +kernel
theorem dX10_neverThanks_6 : decode cX10_neverThanks 6 = .ok (.iconst 3, 1) := by decide +kernel
theorem dX10_neverThanks_7 : decode cX10_neverThanks 7 = .ok (.if_icmp .eq 13, 3) := by decide +kernel
theorem dX10_neverThanks_10 : decode cX10_neverThanks 10 = .ok (.aload_n 0, 1) := by decide +kernel
theorem dX10_neverThanks_11 : decode cX10_neverThanks 11 = .ok (.getfield 16, 3) := by decide +kernel
theorem dX10_neverThanks_14 : decode cX10_neverThanks 14 = .ok (.iload_n 1, 1) := by decide +kernel
theorem dX10_neverThanks_15 : decode cX10_neverThanks 15 = .ok (.iaload, 1) := by decide +kernel
theorem dX10_neverThanks_16 : decode cX10_neverThanks 16 = .ok (.iconst 4, 1) := by decide +kernel
theorem dX10_neverThanks_17 : decode cX10_neverThanks 17 = .ok (.if_icmp .ne 7, 3) := by decide +kernel
theorem dX10_neverThanks_20 : decode cX10_neverThanks 20 = .ok (.iconst 1, 1) := by decide +kernel
theorem dX10_neverThanks_21 : decode cX10_neverThanks 21 = .ok (.goto 4, 3) := by decide +kernel
theorem dX10_neverThanks_24 : decode cX10_neverThanks 24 = .ok (.iconst 0, 1) := by decide +kernel
theorem dX10_neverThanks_25 : decode cX10_neverThanks 25 = .ok (.ireturn, 1) := by decide +kernel
theorem dX10_thank_0 : decode cX10_thank 0 = .ok (.iload_n 1, 1) := by decide +kernel
theorem dX10_thank_1 : decode cX10_thank 1 = .ok (.iconst 5, 1) := by decide +kernel
theorem dX10_thank_2 : decode cX10_thank 2 = .ok (.iload_n 2, 1) := by decide +kernel
theorem dX10_thank_3 : decode cX10_thank 3 = .ok (.imul, 1) := by decide +kernel
theorem dX10_thank_4 : decode cX10_thank 4 = .ok (.iadd, 1) := by decide +kernel
theorem dX10_thank_5 : decode cX10_thank 5 = .ok (.iload_n 3, 1) := by decide +kernel
theorem dX10_thank_6 : decode cX10_thank 6 = .ok (.iadd, 1) := by decide +kernel
theorem dX10_thank_7 : decode cX10_thank 7 = .ok (.istore 5, 2) := by decide +kernel
theorem dX10_thank_9 : decode cX10_thank 9 = .ok (.aload_n 0, 1) := by decide +kernel
theorem dX10_thank_10 : decode cX10_thank 10 = .ok (.getfield 23, 3) := by decide +kernel
theorem dX10_thank_13 : decode cX10_thank 13 = .ok (.iload 5, 2) := by decide +kernel
theorem dX10_thank_15 : decode cX10_thank 15 = .ok (.aload_n 0, 1) := by decide +kernel
theorem dX10_thank_16 : decode cX10_thank 16 = .ok (.getfield 23, 3) := by decide +kernel
theorem dX10_thank_19 : decode cX10_thank 19 = .ok (.iload 5, 2) := by decide +kernel
theorem dX10_thank_21 : decode cX10_thank 21 = .ok (.iaload, 1) := by decide +kernel
theorem dX10_thank_22 : decode cX10_thank 22 = .ok (.iload 4, 2) := by decide +kernel
theorem dX10_thank_24 : decode cX10_thank 24 = .ok (.iadd, 1) := by decide +kernel
theorem dX10_thank_25 : decode cX10_thank 25 = .ok (.sipush 9999, 3) := by decide +kernel
theorem dX10_thank_28 : decode cX10_thank 28 = .ok (.invokestatic 124, 3) := by decide +kernel
theorem dX10_thank_31 : decode cX10_thank 31 = .ok (.iastore, 1) := by decide +kernel
theorem dX10_thank_32 : decode cX10_thank 32 = .ok (.aload_n 0, 1) := by decide +kernel
theorem dX10_thank_33 : decode cX10_thank 33 = .ok (.getfield 26, 3) := by decide +kernel
theorem dX10_thank_36 : decode cX10_thank 36 = .ok (.iload 5, 2) := by decide +kernel
theorem dX10_thank_38 : decode cX10_thank 38 = .ok (.aload_n 0, 1) := by decide +kernel
theorem dX10_thank_39 : decode cX10_thank 39 = .ok (.getfield 26, 3) := by decide +kernel
theorem dX10_thank_42 : decode cX10_thank 42 = .ok (.iload 5, 2) := by decide +kernel
theorem dX10_thank_44 : decode cX10_thank 44 = .ok (.iaload, 1) := by decide +kernel
theorem dX10_thank_45 : decode cX10_thank 45 = .ok (.aload_n 0, 1) := by decide +kernel
theorem dX10_thank_46 : decode cX10_thank 46 = .ok (.getfield 84, 3) := by decide +kernel
theorem dX10_thank_49 : decode cX10_thank 49 = .ok (.invokestatic 127, 3) := by decide +kernel
theorem dX10_thank_52 : decode cX10_thank 52 = .ok (.iastore, 1) := by decide +kernel
theorem dX10_thank_53 : decode cX10_thank 53 = .ok (.return_, 1) := by decide +kernel
theorem dX10_grunt_0 : decode cX10_grunt 0 = .ok (.iload_n 1, 1) := by decide +kernel
theorem dX10_grunt_1 : decode cX10_grunt 1 = .ok (.iconst 5, 1) := by decide +kernel
theorem dX10_grunt_2 : decode cX10_grunt 2 = .ok (.iload_n 3, 1) := by decide +kernel
theorem dX10_grunt_3 : decode cX10_grunt 3 = .ok (.imul, 1) := by decide +kernel
theorem dX10_grunt_4 : decode cX10_grunt 4 = .ok (.iadd, 1) := by decide +kernel
theorem dX10_grunt_5 : decode cX10_grunt 5 = .ok (.iload_n 2, 1) := by decide +kernel
theorem dX10_grunt_6 : decode cX10_grunt 6 = .ok (.iadd, 1) := by decide +kernel
theorem dX10_grunt_7 : decode cX10_grunt 7 = .ok (.istore 4, 2) := by decide +kernel
theorem dX10_grunt_9 : decode cX10_grunt 9 = .ok (.aload_n 0, 1) := by decide +kernel
theorem dX10_grunt_10 : decode cX10_grunt 10 = .ok (.getfield 29, 3) := by decide +kernel
theorem dX10_grunt_13 : decode cX10_grunt 13 = .ok (.iload 4, 2) := by decide +kernel
theorem dX10_grunt_15 : decode cX10_grunt 15 = .ok (.aload_n 0, 1) := by decide +kernel
theorem dX10_grunt_16 : decode cX10_grunt 16 = .ok (.getfield 16, 3) := by decide +kernel
theorem dX10_grunt_19 : decode cX10_grunt 19 = .ok (.iload_n 3, 1) := by decide +kernel
theorem dX10_grunt_20 : decode cX10_grunt 20 = .ok (.iaload, 1) := by decide +kernel
theorem dX10_grunt_21 : decode cX10_grunt 21 = .ok (.iconst 4, 1) := by decide +kernel
theorem dX10_grunt_22 : decode cX10_grunt 22 = .ok (.if_icmp .ne 13, 3) := by decide +kernel
theorem dX10_grunt_25 : decode cX10_grunt 25 = .ok (.aload_n 0, 1) := by decide +kernel
theorem dX10_grunt_26 : decode cX10_grunt 26 = .ok (.getfield 29, 3) := by decide +kernel
theorem dX10_grunt_29 : decode cX10_grunt 29 = .ok (.iload 4, 2) := by decide +kernel
theorem dX10_grunt_31 : decode cX10_grunt 31 = .ok (.iaload, 1) := by decide +kernel
theorem dX10_grunt_32 : decode cX10_grunt 32 = .ok (.goto 17, 3) := by decide +kernel
theorem dX10_grunt_35 : decode cX10_grunt 35 = .ok (.aload_n 0, 1) := by decide +kernel
theorem dX10_grunt_36 : decode cX10_grunt 36 = .ok (.getfield 29, 3) := by decide +kernel
theorem dX10_grunt_39 : decode cX10_grunt 39 = .ok (.iload 4, 2) := by decide +kernel
theorem dX10_grunt_41 : decode cX10_grunt 41 = .ok (.iaload, 1) := by decide +kernel
theorem dX10_grunt_42 : decode cX10_grunt 42 = .ok (.aload_n 0, 1) := by decide +kernel
theorem dX10_grunt_43 : decode cX10_grunt 43 = .ok (.getfield 87, 3) := by decide +kernel
theorem dX10_grunt_46 : decode cX10_grunt 46 = .ok (.invokestatic 127, 3) := by decide +kernel
theorem dX10_grunt_49 : decode cX10_grunt 49 = .ok (.iastore, 1) := by decide +kernel
theorem dX10_grunt_50 : decode cX10_grunt 50 = .ok (.return_, 1) := by decide +kernel
theorem dX10_favour_0 : decode cX10_favour 0 = .ok (.aload_n 0, 1) := by decide +kernel
theorem dX10_favour_1 : decode cX10_favour 1 = .ok (.iload_n 1, 1) := by decide +kernel
theorem dX10_favour_2 : decode cX10_favour 2 = .ok (.iload_n 2, 1) := by decide +kernel
theorem dX10_favour_3 : decode cX10_favour 3 = .ok (.invokevirtual 116, 3) := by decide +kernel
theorem dX10_favour_6 : decode cX10_favour 6 = .ok (.ifCond .ne 6, 3) := by decide +kernel
theorem dX10_favour_9 : decode cX10_favour 9 = .ok (.bipush (-101), 2) := by decide +kernel
theorem dX10_favour_11 : decode cX10_favour 11 = .ok (.ireturn, 1) := by decide +kernel
theorem dX10_favour_12 : decode cX10_favour 12 = .ok (.iload_n 3, 1) := by decide +kernel
theorem dX10_favour_13 : decode cX10_favour 13 = .ok (.iconst 1, 1) := by decide +kernel
theorem dX10_favour_14 : decode cX10_favour 14 = .ok (.bipush 99, 2) := by decide +kernel
theorem dX10_favour_16 : decode cX10_favour 16 = .ok (.invokestatic 69, 3) := by decide +kernel
theorem dX10_favour_19 : decode cX10_favour 19 = .ok (.ifCond .ne 6, 3) := by decide +kernel
theorem dX10_favour_22 : decode cX10_favour 22 = .ok (.bipush (-102), 2) := by decide +kernel
theorem dX10_favour_24 : decode cX10_favour 24 = .ok (.ireturn, 1) := by decide +kernel
theorem dX10_favour_25 : decode cX10_favour 25 = .ok (.aload_n 0, 1) := by decide +kernel
theorem dX10_favour_26 : decode cX10_favour 26 = .ok (.getfield 29, 3) := by decide +kernel
theorem dX10_favour_29 : decode cX10_favour 29 = .ok (.iconst 5, 1) := by decide +kernel
theorem dX10_favour_30 : decode cX10_favour 30 = .ok (.iload_n 1, 1) := by decide +kernel
theorem dX10_favour_31 : decode cX10_favour 31 = .ok (.imul, 1) := by decide +kernel
theorem dX10_favour_32 : decode cX10_favour 32 = .ok (.iload_n 2, 1) := by decide +kernel
theorem dX10_favour_33 : decode cX10_favour 33 = .ok (.iadd, 1) := by decide +kernel
theorem dX10_favour_34 : decode cX10_favour 34 = .ok (.iaload, 1) := by decide +kernel
theorem dX10_favour_35 : decode cX10_favour 35 = .ok (.ifCond .gt 16, 3) := by decide +kernel
theorem dX10_favour_38 : decode cX10_favour 38 = .ok (.iload 4, 2) := by decide +kernel
theorem dX10_favour_40 : decode cX10_favour 40 = .ok (.ifCond .eq 14, 3) := by decide +kernel
theorem dX10_favour_43 : decode cX10_favour 43 = .ok (.aload_n 0, 1) := by decide +kernel
theorem dX10_favour_44 : decode cX10_favour 44 = .ok (.iload_n 2, 1) := by decide +kernel
theorem dX10_favour_45 : decode cX10_favour 45 = .ok (.invokevirtual 130, 3) := by decide +kernel
theorem dX10_favour_48 : decode cX10_favour 48 = .ok (.ifCond .eq 6, 3) := by decide +kernel
theorem dX10_favour_51 : decode cX10_favour 51 = .ok (.bipush (-103), 2) := by decide +kernel
theorem dX10_favour_53 : decode cX10_favour 53 = .ok (.ireturn, 1) := by decide +kernel
theorem dX10_favour_54 : decode cX10_favour 54 = .ok (.iload 4, 2) := by decide +kernel
theorem dX10_favour_56 : decode cX10_favour 56 = .ok (.ifCond .eq 14, 3) := by decide +kernel
theorem dX10_favour_59 : decode cX10_favour 59 = .ok (.aload_n 0, 1) := by decide +kernel
theorem dX10_favour_60 : decode cX10_favour 60 = .ok (.iconst 0, 1) := by decide +kernel
theorem dX10_favour_61 : decode cX10_favour 61 = .ok (.iload_n 2, 1) := by decide +kernel
theorem dX10_favour_62 : decode cX10_favour 62 = .ok (.iload_n 1, 1) := by decide +kernel
theorem dX10_favour_63 : decode cX10_favour 63 = .ok (.iload_n 3, 1) := by decide +kernel
theorem dX10_favour_64 : decode cX10_favour 64 = .ok (.invokevirtual 133, 3) := by decide +kernel
theorem dX10_favour_67 : decode cX10_favour 67 = .ok (.goto 10, 3) := by decide +kernel
theorem dX10_favour_70 : decode cX10_favour 70 = .ok (.aload_n 0, 1) := by decide +kernel
theorem dX10_favour_71 : decode cX10_favour 71 = .ok (.iconst 0, 1) := by decide +kernel
theorem dX10_favour_72 : decode cX10_favour 72 = .ok (.iload_n 2, 1) := by decide +kernel
theorem dX10_favour_73 : decode cX10_favour 73 = .ok (.iload_n 1, 1) := by decide +kernel
theorem dX10_favour_74 : decode cX10_favour 74 = .ok (.invokevirtual 137, 3) := by decide +kernel
theorem dX10_favour_77 : decode cX10_favour 77 = .ok (.aload_n 0, 1) := by decide +kernel
theorem dX10_favour_78 : decode cX10_favour 78 = .ok (.getfield 23, 3) := by decide +kernel
theorem dX10_favour_81 : decode cX10_favour 81 = .ok (.iconst 5, 1) := by decide +kernel
theorem dX10_favour_82 : decode cX10_favour 82 = .ok (.iload_n 2, 1) := by decide +kernel
theorem dX10_favour_83 : decode cX10_favour 83 = .ok (.imul, 1) := by decide +kernel
theorem dX10_favour_84 : decode cX10_favour 84 = .ok (.iload_n 1, 1) := by decide +kernel
theorem dX10_favour_85 : decode cX10_favour 85 = .ok (.iadd, 1) := by decide +kernel
theorem dX10_favour_86 : decode cX10_favour 86 = .ok (.iaload, 1) := by decide +kernel
theorem dX10_favour_87 : decode cX10_favour 87 = .ok (.ireturn, 1) := by decide +kernel
theorem dX10_grows_0 : decode cX10_grows 0 = .ok (.iload_n 2, 1) := by decide +kernel
theorem dX10_grows_1 : decode cX10_grows 1 = .ok (.iconst 1, 1) := by decide +kernel
theorem dX10_grows_2 : decode cX10_grows 2 = .ok (.if_icmp .eq 8, 3) := by decide +kernel
theorem dX10_grows_5 : decode cX10_grows 5 = .ok (.iload_n 3, 1) := by decide +kernel
theorem dX10_grows_6 : decode cX10_grows 6 = .ok (.iconst 4, 1) := by decide +kernel
theorem dX10_grows_7 : decode cX10_grows 7 = .ok (.if_icmp .ne 5, 3) := by decide +kernel
theorem dX10_grows_10 : decode cX10_grows 10 = .ok (.iconst 0, 1) := by decide +kernel
theorem dX10_grows_11 : decode cX10_grows 11 = .ok (.ireturn, 1) := by decide +kernel
theorem dX10_grows_12 : decode cX10_grows 12 = .ok (.iload_n 1, 1) := by decide +kernel
theorem dX10_grows_13 : decode cX10_grows 13 = .ok (.aload_n 0, 1) := by decide +kernel
theorem dX10_grows_14 : decode cX10_grows 14 = .ok (.getfield 7, 3) := by decide +kernel
theorem dX10_grows_17 : decode cX10_grows 17 = .ok (.imul, 1) := by decide +kernel
theorem dX10_grows_18 : decode cX10_grows 18 = .ok (.iload_n 3, 1) := by decide +kernel
theorem dX10_grows_19 : decode cX10_grows 19 = .ok (.iconst 2, 1) := by decide +kernel
theorem dX10_grows_20 : decode cX10_grows 20 = .ok (.if_icmp .ne 7, 3) := by decide +kernel
theorem dX10_grows_23 : decode cX10_grows 23 = .ok (.iconst 2, 1) := by decide +kernel
theorem dX10_grows_24 : decode cX10_grows 24 = .ok (.goto 4, 3) := by decide +kernel
theorem dX10_grows_27 : decode cX10_grows 27 = .ok (.iconst 1, 1) := by decide +kernel
theorem dX10_grows_28 : decode cX10_grows 28 = .ok (.imul, 1) := by decide +kernel
theorem dX10_grows_29 : decode cX10_grows 29 = .ok (.istore 4, 2) := by decide +kernel
theorem dX10_grows_31 : decode cX10_grows 31 = .ok (.iload 4, 2) := by decide +kernel
theorem dX10_grows_33 : decode cX10_grows 33 = .ok (.bipush 10, 2) := by decide +kernel
theorem dX10_grows_35 : decode cX10_grows 35 = .ok (.idiv, 1) := by decide +kernel
theorem dX10_grows_36 : decode cX10_grows 36 = .ok (.aload_n 0, 1) := by decide +kernel
theorem dX10_grows_37 : decode cX10_grows 37 = .ok (.getfield 13, 3) := by decide +kernel
theorem dX10_grows_40 : decode cX10_grows 40 = .ok (.iconst 1, 1) := by decide +kernel
theorem dX10_grows_41 : decode cX10_grows 41 = .ok (.if_icmp .ne 15, 3) := by decide +kernel
theorem dX10_grows_44 : decode cX10_grows 44 = .ok (.iload 4, 2) := by decide +kernel
theorem dX10_grows_46 : decode cX10_grows 46 = .ok (.bipush 10, 2) := by decide +kernel
theorem dX10_grows_48 : decode cX10_grows 48 = .ok (.irem, 1) := by decide +kernel
theorem dX10_grows_49 : decode cX10_grows 49 = .ok (.ifCond .le 7, 3) := by decide +kernel
theorem dX10_grows_52 : decode cX10_grows 52 = .ok (.iconst 1, 1) := by decide +kernel
theorem dX10_grows_53 : decode cX10_grows 53 = .ok (.goto 4, 3) := by decide +kernel
theorem dX10_grows_56 : decode cX10_grows 56 = .ok (.iconst 0, 1) := by decide +kernel
theorem dX10_grows_57 : decode cX10_grows 57 = .ok (.iadd, 1) := by decide +kernel
theorem dX10_grows_58 : decode cX10_grows 58 = .ok (.istore 5, 2) := by decide +kernel
theorem dX10_grows_60 : decode cX10_grows 60 = .ok (.iload_n 1, 1) := by decide +kernel
theorem dX10_grows_61 : decode cX10_grows 61 = .ok (.iload 5, 2) := by decide +kernel
theorem dX10_grows_63 : decode cX10_grows 63 = .ok (.iadd, 1) := by decide +kernel
theorem dX10_grows_64 : decode cX10_grows 64 = .ok (.sipush 9999, 3) := by decide +kernel
theorem dX10_grows_67 : decode cX10_grows 67 = .ok (.invokestatic 124, 3) := by decide +kernel
theorem dX10_grows_70 : decode cX10_grows 70 = .ok (.iload_n 1, 1) := by decide +kernel
theorem dX10_grows_71 : decode cX10_grows 71 = .ok (.isub, 1) := by decide +kernel
theorem dX10_grows_72 : decode cX10_grows 72 = .ok (.ireturn, 1) := by decide +kernel
theorem dX10_goWeek_0 : decode cX10_goWeek 0 = .ok (.iconst 0, 1) := by decide +kernel
theorem dX10_goWeek_1 : decode cX10_goWeek 1 = .ok (.istore_n 2, 1) := by decide +kernel
theorem dX10_goWeek_2 : decode cX10_goWeek 2 = .ok (.iconst 0, 1) := by decide +kernel
theorem dX10_goWeek_3 : decode cX10_goWeek 3 = .ok (.istore_n 3, 1) := by decide +kernel
theorem dX10_goWeek_4 : decode cX10_goWeek 4 = .ok (.iload_n 3, 1) := by decide +kernel
theorem dX10_goWeek_5 : decode cX10_goWeek 5 = .ok (.aload_n 0, 1) := by decide +kernel
theorem dX10_goWeek_6 : decode cX10_goWeek 6 = .ok (.getfield 93, 3) := by decide +kernel
theorem dX10_goWeek_9 : decode cX10_goWeek 9 = .ok (.if_icmp .ge 144, 3) := by decide +kernel
theorem dX10_goWeek_12 : decode cX10_goWeek 12 = .ok (.iconst 0, 1) := by decide +kernel
theorem dX10_goWeek_13 : decode cX10_goWeek 13 = .ok (.istore 4, 2) := by decide +kernel
theorem dX10_goWeek_15 : decode cX10_goWeek 15 = .ok (.iload 4, 2) := by decide +kernel
theorem dX10_goWeek_17 : decode cX10_goWeek 17 = .ok (.aload_n 0, 1) := by decide +kernel
theorem dX10_goWeek_18 : decode cX10_goWeek 18 = .ok (.getfield 93, 3) := by decide +kernel
theorem dX10_goWeek_21 : decode cX10_goWeek 21 = .ok (.if_icmp .ge 126, 3) := by decide +kernel
theorem dX10_goWeek_24 : decode cX10_goWeek 24 = .ok (.iload_n 1, 1) := by decide +kernel
theorem dX10_goWeek_25 : decode cX10_goWeek 25 = .ok (.iconst 5, 1) := by decide +kernel
theorem dX10_goWeek_26 : decode cX10_goWeek 26 = .ok (.iload_n 3, 1) := by decide +kernel
theorem dX10_goWeek_27 : decode cX10_goWeek 27 = .ok (.imul, 1) := by decide +kernel
theorem dX10_goWeek_28 : decode cX10_goWeek 28 = .ok (.iadd, 1) := by decide +kernel
theorem dX10_goWeek_29 : decode cX10_goWeek 29 = .ok (.iload 4, 2) := by decide +kernel
theorem dX10_goWeek_31 : decode cX10_goWeek 31 = .ok (.iadd, 1) := by decide +kernel
theorem dX10_goWeek_32 : decode cX10_goWeek 32 = .ok (.istore 5, 2) := by decide +kernel
theorem dX10_goWeek_34 : decode cX10_goWeek 34 = .ok (.aload_n 0, 1) := by decide +kernel
theorem dX10_goWeek_35 : decode cX10_goWeek 35 = .ok (.getfield 26, 3) := by decide +kernel
theorem dX10_goWeek_38 : decode cX10_goWeek 38 = .ok (.iload 5, 2) := by decide +kernel
theorem dX10_goWeek_40 : decode cX10_goWeek 40 = .ok (.iaload, 1) := by decide +kernel
theorem dX10_goWeek_41 : decode cX10_goWeek 41 = .ok (.ifCond .le 7, 3) := by decide +kernel
theorem dX10_goWeek_44 : decode cX10_goWeek 44 = .ok (.iconst 0, 1) := by decide +kernel
theorem dX10_goWeek_45 : decode cX10_goWeek 45 = .ok (.goto 27, 3) := by decide +kernel
theorem dX10_goWeek_48 : decode cX10_goWeek 48 = .ok (.aload_n 0, 1) := by decide +kernel
theorem dX10_goWeek_49 : decode cX10_goWeek 49 = .ok (.aload_n 0, 1) := by decide +kernel
theorem dX10_goWeek_50 : decode cX10_goWeek 50 = .ok (.getfield 23, 3) := by decide +kernel
theorem dX10_goWeek_53 : decode cX10_goWeek 53 = .ok (.iload 5, 2) := by decide +kernel
theorem dX10_goWeek_55 : decode cX10_goWeek 55 = .ok (.iaload, 1) := by decide +kernel
theorem dX10_goWeek_56 : decode cX10_goWeek 56 = .ok (.aload_n 0, 1) := by decide +kernel
theorem dX10_goWeek_57 : decode cX10_goWeek 57 = .ok (.getfield 16, 3) := by decide +kernel
theorem dX10_goWeek_60 : decode cX10_goWeek 60 = .ok (.iload_n 3, 1) := by decide +kernel
theorem dX10_goWeek_61 : decode cX10_goWeek 61 = .ok (.iaload, 1) := by decide +kernel
theorem dX10_goWeek_62 : decode cX10_goWeek 62 = .ok (.aload_n 0, 1) := by decide +kernel
theorem dX10_goWeek_63 : decode cX10_goWeek 63 = .ok (.getfield 16, 3) := by decide +kernel
theorem dX10_goWeek_66 : decode cX10_goWeek 66 = .ok (.iload 4, 2) := by decide +kernel
theorem dX10_goWeek_68 : decode cX10_goWeek 68 = .ok (.iaload, 1) := by decide +kernel
theorem dX10_goWeek_69 : decode cX10_goWeek 69 = .ok (.invokevirtual 141, 3) := by decide +kernel
theorem dX10_goWeek_72 : decode cX10_goWeek 72 = .ok (.istore 6, 2) := by decide +kernel
theorem dX10_goWeek_74 : decode cX10_goWeek 74 = .ok (.aload_n 0, 1) := by decide +kernel
theorem dX10_goWeek_75 : decode cX10_goWeek 75 = .ok (.getfield 23, 3) := by decide +kernel
theorem dX10_goWeek_78 : decode cX10_goWeek 78 = .ok (.iload 5, 2) := by decide +kernel
theorem dX10_goWeek_80 : decode cX10_goWeek 80 = .ok (.dup2, 1) := by decide +kernel
theorem dX10_goWeek_81 : decode cX10_goWeek 81 = .ok (.iaload, 1) := by decide +kernel
theorem dX10_goWeek_82 : decode cX10_goWeek 82 = .ok (.iload 6, 2) := by decide +kernel
theorem dX10_goWeek_84 : decode cX10_goWeek 84 = .ok (.iadd, 1) := by decide +kernel
theorem dX10_goWeek_85 : decode cX10_goWeek 85 = .ok (.iastore, 1) := by decide +kernel
theorem dX10_goWeek_86 : decode cX10_goWeek 86 = .ok (.iload_n 2, 1) := by decide +kernel
theorem dX10_goWeek_87 : decode cX10_goWeek 87 = .ok (.iload 6, 2) := by decide +kernel
theorem dX10_goWeek_89 : decode cX10_goWeek 89 = .ok (.iadd, 1) := by decide +kernel
theorem dX10_goWeek_90 : decode cX10_goWeek 90 = .ok (.istore_n 2, 1) := by decide +kernel
theorem dX10_goWeek_91 : decode cX10_goWeek 91 = .ok (.aload_n 0, 1) := by decide +kernel
theorem dX10_goWeek_92 : decode cX10_goWeek 92 = .ok (.getfield 26, 3) := by decide +kernel
theorem dX10_goWeek_95 : decode cX10_goWeek 95 = .ok (.iload 5, 2) := by decide +kernel
theorem dX10_goWeek_97 : decode cX10_goWeek 97 = .ok (.dup2, 1) := by decide +kernel
theorem dX10_goWeek_98 : decode cX10_goWeek 98 = .ok (.iaload, 1) := by decide +kernel
theorem dX10_goWeek_99 : decode cX10_goWeek 99 = .ok (.aload_n 0, 1) := by decide +kernel
theorem dX10_goWeek_100 : decode cX10_goWeek 100 = .ok (.getfield 26, 3) := by decide +kernel
theorem dX10_goWeek_103 : decode cX10_goWeek 103 = .ok (.iload 5, 2) := by decide +kernel
theorem dX10_goWeek_105 : decode cX10_goWeek 105 = .ok (.iaload, 1) := by decide +kernel
theorem dX10_goWeek_106 : decode cX10_goWeek 106 = .ok (.ifCond .le 7, 3) := by decide +kernel
theorem dX10_goWeek_109 : decode cX10_goWeek 109 = .ok (.iconst 1, 1) := by decide +kernel
theorem dX10_goWeek_110 : decode cX10_goWeek 110 = .ok (.goto 4, 3) := by decide +kernel
theorem dX10_goWeek_113 : decode cX10_goWeek 113 = .ok (.iconst 0, 1) := by decide +kernel
theorem dX10_goWeek_114 : decode cX10_goWeek 114 = .ok (.isub, 1) := by decide +kernel
theorem dX10_goWeek_115 : decode cX10_goWeek 115 = .ok (.iastore, 1) := by decide +kernel
theorem dX10_goWeek_116 : decode cX10_goWeek 116 = .ok (.aload_n 0, 1) := by decide +kernel
theorem dX10_goWeek_117 : decode cX10_goWeek 117 = .ok (.getfield 29, 3) := by decide +kernel
theorem dX10_goWeek_120 : decode cX10_goWeek 120 = .ok (.iload 5, 2) := by decide +kernel
theorem dX10_goWeek_122 : decode cX10_goWeek 122 = .ok (.dup2, 1) := by decide +kernel
theorem dX10_goWeek_123 : decode cX10_goWeek 123 = .ok (.iaload, 1) := by decide +kernel
theorem dX10_goWeek_124 : decode cX10_goWeek 124 = .ok (.aload_n 0, 1) := by decide +kernel
theorem dX10_goWeek_125 : decode cX10_goWeek 125 = .ok (.getfield 29, 3) := by decide +kernel
theorem dX10_goWeek_128 : decode cX10_goWeek 128 = .ok (.iload 5, 2) := by decide +kernel
theorem dX10_goWeek_130 : decode cX10_goWeek 130 = .ok (.iaload, 1) := by decide +kernel
theorem dX10_goWeek_131 : decode cX10_goWeek 131 = .ok (.ifCond .le 7, 3) := by decide +kernel
theorem dX10_goWeek_134 : decode cX10_goWeek 134 = .ok (.iconst 1, 1) := by decide +kernel
theorem dX10_goWeek_135 : decode cX10_goWeek 135 = .ok (.goto 4, 3) := by decide +kernel
theorem dX10_goWeek_138 : decode cX10_goWeek 138 = .ok (.iconst 0, 1) := by decide +kernel
theorem dX10_goWeek_139 : decode cX10_goWeek 139 = .ok (.isub, 1) := by decide +kernel
theorem dX10_goWeek_140 : decode cX10_goWeek 140 = .ok (.iastore, 1) := by decide +kernel
theorem dX10_goWeek_141 : decode cX10_goWeek 141 = .ok (.iinc 4 1, 3) := by decide +kernel
theorem dX10_goWeek_144 : decode cX10_goWeek 144 = .ok (.goto (-129), 3) := by decide +kernel
theorem dX10_goWeek_147 : decode cX10_goWeek 147 = .ok (.iinc 3 1, 3) := by decide +kernel
theorem dX10_goWeek_150 : decode cX10_goWeek 150 = .ok (.goto (-146), 3) := by decide +kernel
theorem dX10_goWeek_153 : decode cX10_goWeek 153 = .ok (.iload_n 2, 1) := by decide +kernel
theorem dX10_goWeek_154 : decode cX10_goWeek 154 = .ok (.ireturn, 1) := by decide +kernel
theorem dX10_week_0 : decode cX10_week 0 = .ok (.aload_n 0, 1) := by decide +kernel
theorem dX10_week_1 : decode cX10_week 1 = .ok (.dup, 1) := by decide +kernel
theorem dX10_week_2 : decode cX10_week 2 = .ok (.getfield 144, 3) := by decide +kernel
theorem dX10_week_5 : decode cX10_week 5 = .ok (.iconst 1, 1) := by decide +kernel
theorem dX10_week_6 : decode cX10_week 6 = .ok (.iadd, 1) := by decide +kernel
theorem dX10_week_7 : decode cX10_week 7 = .ok (.putfield 144, 3) := by decide +kernel
theorem dX10_week_10 : decode cX10_week 10 = .ok (.aload_n 0, 1) := by decide +kernel
theorem dX10_week_11 : decode cX10_week 11 = .ok (.iconst 0, 1) := by decide +kernel
theorem dX10_week_12 : decode cX10_week 12 = .ok (.invokevirtual 147, 3) := by decide +kernel
theorem dX10_week_15 : decode cX10_week 15 = .ok (.ireturn, 1) := by decide +kernel
theorem dX10_pay_0 : decode cX10_pay 0 = .ok (.aload_n 0, 1) := by decide +kernel
theorem dX10_pay_1 : decode cX10_pay 1 = .ok (.iload_n 2, 1) := by decide +kernel
theorem dX10_pay_2 : decode cX10_pay 2 = .ok (.iload_n 1, 1) := by decide +kernel
theorem dX10_pay_3 : decode cX10_pay 3 = .ok (.invokevirtual 116, 3) := by decide +kernel
theorem dX10_pay_6 : decode cX10_pay 6 = .ok (.ifCond .ne 6, 3) := by decide +kernel
theorem dX10_pay_9 : decode cX10_pay 9 = .ok (.bipush (-101), 2) := by decide +kernel
theorem dX10_pay_11 : decode cX10_pay 11 = .ok (.ireturn, 1) := by decide +kernel
theorem dX10_pay_12 : decode cX10_pay 12 = .ok (.iload_n 3, 1) := by decide +kernel
theorem dX10_pay_13 : decode cX10_pay 13 = .ok (.iconst 1, 1) := by decide +kernel
theorem dX10_pay_14 : decode cX10_pay 14 = .ok (.sipush 999, 3) := by decide +kernel
theorem dX10_pay_17 : decode cX10_pay 17 = .ok (.invokestatic 69, 3) := by decide +kernel
theorem dX10_pay_20 : decode cX10_pay 20 = .ok (.ifCond .ne 6, 3) := by decide +kernel
theorem dX10_pay_23 : decode cX10_pay 23 = .ok (.bipush (-102), 2) := by decide +kernel
theorem dX10_pay_25 : decode cX10_pay 25 = .ok (.ireturn, 1) := by decide +kernel
theorem dX10_pay_26 : decode cX10_pay 26 = .ok (.iconst 5, 1) := by decide +kernel
theorem dX10_pay_27 : decode cX10_pay 27 = .ok (.iload_n 1, 1) := by decide +kernel
theorem dX10_pay_28 : decode cX10_pay 28 = .ok (.imul, 1) := by decide +kernel
theorem dX10_pay_29 : decode cX10_pay 29 = .ok (.iload_n 2, 1) := by decide +kernel
theorem dX10_pay_30 : decode cX10_pay 30 = .ok (.iadd, 1) := by decide +kernel
theorem dX10_pay_31 : decode cX10_pay 31 = .ok (.istore 4, 2) := by decide +kernel
theorem dX10_pay_33 : decode cX10_pay 33 = .ok (.aload_n 0, 1) := by decide +kernel
theorem dX10_pay_34 : decode cX10_pay 34 = .ok (.getfield 20, 3) := by decide +kernel
theorem dX10_pay_37 : decode cX10_pay 37 = .ok (.iload_n 1, 1) := by decide +kernel
theorem dX10_pay_38 : decode cX10_pay 38 = .ok (.iaload, 1) := by decide +kernel
theorem dX10_pay_39 : decode cX10_pay 39 = .ok (.iload_n 3, 1) := by decide +kernel
theorem dX10_pay_40 : decode cX10_pay 40 = .ok (.if_icmp .lt 28, 3) := by decide +kernel
theorem dX10_pay_43 : decode cX10_pay 43 = .ok (.aload_n 0, 1) := by decide +kernel
theorem dX10_pay_44 : decode cX10_pay 44 = .ok (.getfield 23, 3) := by decide +kernel
theorem dX10_pay_47 : decode cX10_pay 47 = .ok (.iload 4, 2) := by decide +kernel
theorem dX10_pay_49 : decode cX10_pay 49 = .ok (.iaload, 1) := by decide +kernel
theorem dX10_pay_50 : decode cX10_pay 50 = .ok (.iload_n 3, 1) := by decide +kernel
theorem dX10_pay_51 : decode cX10_pay 51 = .ok (.if_icmp .lt 17, 3) := by decide +kernel
theorem dX10_pay_54 : decode cX10_pay 54 = .ok (.aload_n 0, 1) := by decide +kernel
theorem dX10_pay_55 : decode cX10_pay 55 = .ok (.getfield 20, 3) := by decide +kernel
theorem dX10_pay_58 : decode cX10_pay 58 = .ok (.iload_n 2, 1) := by decide +kernel
theorem dX10_pay_59 : decode cX10_pay 59 = .ok (.iaload, 1) := by decide +kernel
theorem dX10_pay_60 : decode cX10_pay 60 = .ok (.iload_n 3, 1) := by decide +kernel
theorem dX10_pay_61 : decode cX10_pay 61 = .ok (.iadd, 1) := by decide +kernel
theorem dX10_pay_62 : decode cX10_pay 62 = .ok (.sipush 999, 3) := by decide +kernel
theorem dX10_pay_65 : decode cX10_pay 65 = .ok (.if_icmp .le 6, 3) := by decide +kernel
theorem dX10_pay_68 : decode cX10_pay 68 = .ok (.bipush (-103), 2) := by decide +kernel
theorem dX10_pay_70 : decode cX10_pay 70 = .ok (.ireturn, 1) := by decide +kernel
theorem dX10_pay_71 : decode cX10_pay 71 = .ok (.aload_n 0, 1) := by decide +kernel
theorem dX10_pay_72 : decode cX10_pay 72 = .ok (.getfield 20, 3) := by decide +kernel
theorem dX10_pay_75 : decode cX10_pay 75 = .ok (.iload_n 1, 1) := by decide +kernel
theorem dX10_pay_76 : decode cX10_pay 76 = .ok (.dup2, 1) := by decide +kernel
theorem dX10_pay_77 : decode cX10_pay 77 = .ok (.iaload, 1) := by decide +kernel
theorem dX10_pay_78 : decode cX10_pay 78 = .ok (.iload_n 3, 1) := by decide +kernel
theorem dX10_pay_79 : decode cX10_pay 79 = .ok (.isub, 1) := by decide +kernel
theorem dX10_pay_80 : decode cX10_pay 80 = .ok (.iastore, 1) := by decide +kernel
theorem dX10_pay_81 : decode cX10_pay 81 = .ok (.aload_n 0, 1) := by decide +kernel
theorem dX10_pay_82 : decode cX10_pay 82 = .ok (.getfield 20, 3) := by decide +kernel
theorem dX10_pay_85 : decode cX10_pay 85 = .ok (.iload_n 2, 1) := by decide +kernel
theorem dX10_pay_86 : decode cX10_pay 86 = .ok (.dup2, 1) := by decide +kernel
theorem dX10_pay_87 : decode cX10_pay 87 = .ok (.iaload, 1) := by decide +kernel
theorem dX10_pay_88 : decode cX10_pay 88 = .ok (.iload_n 3, 1) := by decide +kernel
theorem dX10_pay_89 : decode cX10_pay 89 = .ok (.iadd, 1) := by decide +kernel
theorem dX10_pay_90 : decode cX10_pay 90 = .ok (.iastore, 1) := by decide +kernel
theorem dX10_pay_91 : decode cX10_pay 91 = .ok (.aload_n 0, 1) := by decide +kernel
theorem dX10_pay_92 : decode cX10_pay 92 = .ok (.getfield 23, 3) := by decide +kernel
theorem dX10_pay_95 : decode cX10_pay 95 = .ok (.iload 4, 2) := by decide +kernel
theorem dX10_pay_97 : decode cX10_pay 97 = .ok (.dup2, 1) := by decide +kernel
theorem dX10_pay_98 : decode cX10_pay 98 = .ok (.iaload, 1) := by decide +kernel
theorem dX10_pay_99 : decode cX10_pay 99 = .ok (.iload_n 3, 1) := by decide +kernel
theorem dX10_pay_100 : decode cX10_pay 100 = .ok (.isub, 1) := by decide +kernel
theorem dX10_pay_101 : decode cX10_pay 101 = .ok (.iastore, 1) := by decide +kernel
theorem dX10_pay_102 : decode cX10_pay 102 = .ok (.aload_n 0, 1) := by decide +kernel
theorem dX10_pay_103 : decode cX10_pay 103 = .ok (.getfield 23, 3) := by decide +kernel
theorem dX10_pay_106 : decode cX10_pay 106 = .ok (.iload 4, 2) := by decide +kernel
theorem dX10_pay_108 : decode cX10_pay 108 = .ok (.iaload, 1) := by decide +kernel
theorem dX10_pay_109 : decode cX10_pay 109 = .ok (.ireturn, 1) := by decide +kernel
theorem dX10_setOff_0 : decode cX10_setOff 0 = .ok (.aload_n 0, 1) := by decide +kernel
theorem dX10_setOff_1 : decode cX10_setOff 1 = .ok (.iload_n 1, 1) := by decide +kernel
theorem dX10_setOff_2 : decode cX10_setOff 2 = .ok (.iload_n 2, 1) := by decide +kernel
theorem dX10_setOff_3 : decode cX10_setOff 3 = .ok (.invokevirtual 116, 3) := by decide +kernel
theorem dX10_setOff_6 : decode cX10_setOff 6 = .ok (.ifCond .ne 6, 3) := by decide +kernel
theorem dX10_setOff_9 : decode cX10_setOff 9 = .ok (.bipush (-101), 2) := by decide +kernel
theorem dX10_setOff_11 : decode cX10_setOff 11 = .ok (.ireturn, 1) := by decide +kernel
theorem dX10_setOff_12 : decode cX10_setOff 12 = .ok (.aload_n 0, 1) := by decide +kernel
theorem dX10_setOff_13 : decode cX10_setOff 13 = .ok (.getfield 23, 3) := by decide +kernel
theorem dX10_setOff_16 : decode cX10_setOff 16 = .ok (.iconst 5, 1) := by decide +kernel
theorem dX10_setOff_17 : decode cX10_setOff 17 = .ok (.iload_n 1, 1) := by decide +kernel
theorem dX10_setOff_18 : decode cX10_setOff 18 = .ok (.imul, 1) := by decide +kernel
theorem dX10_setOff_19 : decode cX10_setOff 19 = .ok (.iload_n 2, 1) := by decide +kernel
theorem dX10_setOff_20 : decode cX10_setOff 20 = .ok (.iadd, 1) := by decide +kernel
theorem dX10_setOff_21 : decode cX10_setOff 21 = .ok (.iaload, 1) := by decide +kernel
theorem dX10_setOff_22 : decode cX10_setOff 22 = .ok (.aload_n 0, 1) := by decide +kernel
theorem dX10_setOff_23 : decode cX10_setOff 23 = .ok (.getfield 23, 3) := by decide +kernel
theorem dX10_setOff_26 : decode cX10_setOff 26 = .ok (.iconst 5, 1) := by decide +kernel
theorem dX10_setOff_27 : decode cX10_setOff 27 = .ok (.iload_n 2, 1) := by decide +kernel
theorem dX10_setOff_28 : decode cX10_setOff 28 = .ok (.imul, 1) := by decide +kernel
theorem dX10_setOff_29 : decode cX10_setOff 29 = .ok (.iload_n 1, 1) := by decide +kernel
theorem dX10_setOff_30 : decode cX10_setOff 30 = .ok (.iadd, 1) := by decide +kernel
theorem dX10_setOff_31 : decode cX10_setOff 31 = .ok (.iaload, 1) := by decide +kernel
theorem dX10_setOff_32 : decode cX10_setOff 32 = .ok (.invokestatic 124, 3) := by decide +kernel
theorem dX10_setOff_35 : decode cX10_setOff 35 = .ok (.istore_n 3, 1) := by decide +kernel
theorem dX10_setOff_36 : decode cX10_setOff 36 = .ok (.aload_n 0, 1) := by decide +kernel
theorem dX10_setOff_37 : decode cX10_setOff 37 = .ok (.getfield 23, 3) := by decide +kernel
theorem dX10_setOff_40 : decode cX10_setOff 40 = .ok (.iconst 5, 1) := by decide +kernel
theorem dX10_setOff_41 : decode cX10_setOff 41 = .ok (.iload_n 1, 1) := by decide +kernel
theorem dX10_setOff_42 : decode cX10_setOff 42 = .ok (.imul, 1) := by decide +kernel
theorem dX10_setOff_43 : decode cX10_setOff 43 = .ok (.iload_n 2, 1) := by decide +kernel
theorem dX10_setOff_44 : decode cX10_setOff 44 = .ok (.iadd, 1) := by decide +kernel
theorem dX10_setOff_45 : decode cX10_setOff 45 = .ok (.dup2, 1) := by decide +kernel
theorem dX10_setOff_46 : decode cX10_setOff 46 = .ok (.iaload, 1) := by decide +kernel
theorem dX10_setOff_47 : decode cX10_setOff 47 = .ok (.iload_n 3, 1) := by decide +kernel
theorem dX10_setOff_48 : decode cX10_setOff 48 = .ok (.isub, 1) := by decide +kernel
theorem dX10_setOff_49 : decode cX10_setOff 49 = .ok (.iastore, 1) := by decide +kernel
theorem dX10_setOff_50 : decode cX10_setOff 50 = .ok (.aload_n 0, 1) := by decide +kernel
theorem dX10_setOff_51 : decode cX10_setOff 51 = .ok (.getfield 23, 3) := by decide +kernel
theorem dX10_setOff_54 : decode cX10_setOff 54 = .ok (.iconst 5, 1) := by decide +kernel
theorem dX10_setOff_55 : decode cX10_setOff 55 = .ok (.iload_n 2, 1) := by decide +kernel
theorem dX10_setOff_56 : decode cX10_setOff 56 = .ok (.imul, 1) := by decide +kernel
theorem dX10_setOff_57 : decode cX10_setOff 57 = .ok (.iload_n 1, 1) := by decide +kernel
theorem dX10_setOff_58 : decode cX10_setOff 58 = .ok (.iadd, 1) := by decide +kernel
theorem dX10_setOff_59 : decode cX10_setOff 59 = .ok (.dup2, 1) := by decide +kernel
theorem dX10_setOff_60 : decode cX10_setOff 60 = .ok (.iaload, 1) := by decide +kernel
theorem dX10_setOff_61 : decode cX10_setOff 61 = .ok (.iload_n 3, 1) := by decide +kernel
theorem dX10_setOff_62 : decode cX10_setOff 62 = .ok (.isub, 1) := by decide +kernel
theorem dX10_setOff_63 : decode cX10_setOff 63 = .ok (.iastore, 1) := by decide +kernel
theorem dX10_setOff_64 : decode cX10_setOff 64 = .ok (.iload_n 3, 1) := by decide +kernel
theorem dX10_setOff_65 : decode cX10_setOff 65 = .ok (.ireturn, 1) := by decide +kernel
theorem dX10_ring_0 : decode cX10_ring 0 = .ok (.aload_n 0, 1) := by decide +kernel
theorem dX10_ring_1 : decode cX10_ring 1 = .ok (.iload_n 1, 1) := by decide +kernel
theorem dX10_ring_2 : decode cX10_ring 2 = .ok (.iload_n 2, 1) := by decide +kernel
theorem dX10_ring_3 : decode cX10_ring 3 = .ok (.invokevirtual 116, 3) := by decide +kernel
theorem dX10_ring_6 : decode cX10_ring 6 = .ok (.ifCond .eq 21, 3) := by decide +kernel
theorem dX10_ring_9 : decode cX10_ring 9 = .ok (.aload_n 0, 1) := by decide +kernel
theorem dX10_ring_10 : decode cX10_ring 10 = .ok (.iload_n 2, 1) := by decide +kernel
theorem dX10_ring_11 : decode cX10_ring 11 = .ok (.iload_n 3, 1) := by decide +kernel
theorem dX10_ring_12 : decode cX10_ring 12 = .ok (.invokevirtual 116, 3) := by decide +kernel
theorem dX10_ring_15 : decode cX10_ring 15 = .ok (.ifCond .eq 12, 3) := by decide +kernel
theorem dX10_ring_18 : decode cX10_ring 18 = .ok (.aload_n 0, 1) := by decide +kernel
theorem dX10_ring_19 : decode cX10_ring 19 = .ok (.iload_n 1, 1) := by decide +kernel
theorem dX10_ring_20 : decode cX10_ring 20 = .ok (.iload_n 3, 1) := by decide +kernel
theorem dX10_ring_21 : decode cX10_ring 21 = .ok (.invokevirtual 116, 3) := by decide +kernel
theorem dX10_ring_24 : decode cX10_ring 24 = .ok (.ifCond .ne 6, 3) := by decide +kernel
theorem dX10_ring_27 : decode cX10_ring 27 = .ok (.bipush (-101), 2) := by decide +kernel
theorem dX10_ring_29 : decode cX10_ring 29 = .ok (.ireturn, 1) := by decide +kernel
theorem dX10_ring_30 : decode cX10_ring 30 = .ok (.aload_n 0, 1) := by decide +kernel
theorem dX10_ring_31 : decode cX10_ring 31 = .ok (.getfield 23, 3) := by decide +kernel
theorem dX10_ring_34 : decode cX10_ring 34 = .ok (.iconst 5, 1) := by decide +kernel
theorem dX10_ring_35 : decode cX10_ring 35 = .ok (.iload_n 1, 1) := by decide +kernel
theorem dX10_ring_36 : decode cX10_ring 36 = .ok (.imul, 1) := by decide +kernel
theorem dX10_ring_37 : decode cX10_ring 37 = .ok (.iload_n 2, 1) := by decide +kernel
theorem dX10_ring_38 : decode cX10_ring 38 = .ok (.iadd, 1) := by decide +kernel
theorem dX10_ring_39 : decode cX10_ring 39 = .ok (.iaload, 1) := by decide +kernel
theorem dX10_ring_40 : decode cX10_ring 40 = .ok (.aload_n 0, 1) := by decide +kernel
theorem dX10_ring_41 : decode cX10_ring 41 = .ok (.getfield 23, 3) := by decide +kernel
theorem dX10_ring_44 : decode cX10_ring 44 = .ok (.iconst 5, 1) := by decide +kernel
theorem dX10_ring_45 : decode cX10_ring 45 = .ok (.iload_n 2, 1) := by decide +kernel
theorem dX10_ring_46 : decode cX10_ring 46 = .ok (.imul, 1) := by decide +kernel
theorem dX10_ring_47 : decode cX10_ring 47 = .ok (.iload_n 3, 1) := by decide +kernel
theorem dX10_ring_48 : decode cX10_ring 48 = .ok (.iadd, 1) := by decide +kernel
theorem dX10_ring_49 : decode cX10_ring 49 = .ok (.iaload, 1) := by decide +kernel
theorem dX10_ring_50 : decode cX10_ring 50 = .ok (.invokestatic 124, 3) := by decide +kernel
theorem dX10_ring_53 : decode cX10_ring 53 = .ok (.aload_n 0, 1) := by decide +kernel
theorem dX10_ring_54 : decode cX10_ring 54 = .ok (.getfield 23, 3) := by decide +kernel
theorem dX10_ring_57 : decode cX10_ring 57 = .ok (.iconst 5, 1) := by decide +kernel
theorem dX10_ring_58 : decode cX10_ring 58 = .ok (.iload_n 3, 1) := by decide +kernel
theorem dX10_ring_59 : decode cX10_ring 59 = .ok (.imul, 1) := by decide +kernel
theorem dX10_ring_60 : decode cX10_ring 60 = .ok (.iload_n 1, 1) := by decide +kernel
theorem dX10_ring_61 : decode cX10_ring 61 = .ok (.iadd, 1) := by decide +kernel
theorem dX10_ring_62 : decode cX10_ring 62 = .ok (.iaload, 1) := by decide +kernel
theorem dX10_ring_63 : decode cX10_ring 63 = .ok (.invokestatic 124, 3) := by decide +kernel
theorem dX10_ring_66 : decode cX10_ring 66 = .ok (.istore 4, 2) := by decide +kernel
theorem dX10_ring_68 : decode cX10_ring 68 = .ok (.aload_n 0, 1) := by decide +kernel
theorem dX10_ring_69 : decode cX10_ring 69 = .ok (.getfield 23, 3) := by decide +kernel
theorem dX10_ring_72 : decode cX10_ring 72 = .ok (.iconst 5, 1) := by decide +kernel
theorem dX10_ring_73 : decode cX10_ring 73 = .ok (.iload_n 1, 1) := by decide +kernel
theorem dX10_ring_74 : decode cX10_ring 74 = .ok (.imul, 1) := by decide +kernel
theorem dX10_ring_75 : decode cX10_ring 75 = .ok (.iload_n 2, 1) := by decide +kernel
theorem dX10_ring_76 : decode cX10_ring 76 = .ok (.iadd, 1) := by decide +kernel
theorem dX10_ring_77 : decode cX10_ring 77 = .ok (.dup2, 1) := by decide +kernel
theorem dX10_ring_78 : decode cX10_ring 78 = .ok (.iaload, 1) := by decide +kernel
theorem dX10_ring_79 : decode cX10_ring 79 = .ok (.iload 4, 2) := by decide +kernel
theorem dX10_ring_81 : decode cX10_ring 81 = .ok (.isub, 1) := by decide +kernel
theorem dX10_ring_82 : decode cX10_ring 82 = .ok (.iastore, 1) := by decide +kernel
theorem dX10_ring_83 : decode cX10_ring 83 = .ok (.aload_n 0, 1) := by decide +kernel
theorem dX10_ring_84 : decode cX10_ring 84 = .ok (.getfield 23, 3) := by decide +kernel
theorem dX10_ring_87 : decode cX10_ring 87 = .ok (.iconst 5, 1) := by decide +kernel
theorem dX10_ring_88 : decode cX10_ring 88 = .ok (.iload_n 2, 1) := by decide +kernel
theorem dX10_ring_89 : decode cX10_ring 89 = .ok (.imul, 1) := by decide +kernel
theorem dX10_ring_90 : decode cX10_ring 90 = .ok (.iload_n 3, 1) := by decide +kernel
theorem dX10_ring_91 : decode cX10_ring 91 = .ok (.iadd, 1) := by decide +kernel
theorem dX10_ring_92 : decode cX10_ring 92 = .ok (.dup2, 1) := by decide +kernel
theorem dX10_ring_93 : decode cX10_ring 93 = .ok (.iaload, 1) := by decide +kernel
theorem dX10_ring_94 : decode cX10_ring 94 = .ok (.iload 4, 2) := by decide +kernel
theorem dX10_ring_96 : decode cX10_ring 96 = .ok (.isub, 1) := by decide +kernel
theorem dX10_ring_97 : decode cX10_ring 97 = .ok (.iastore, 1) := by decide +kernel
theorem dX10_ring_98 : decode cX10_ring 98 = .ok (.aload_n 0, 1) := by decide +kernel
theorem dX10_ring_99 : decode cX10_ring 99 = .ok (.getfield 23, 3) := by decide +kernel
theorem dX10_ring_102 : decode cX10_ring 102 = .ok (.iconst 5, 1) := by decide +kernel
theorem dX10_ring_103 : decode cX10_ring 103 = .ok (.iload_n 3, 1) := by decide +kernel
theorem dX10_ring_104 : decode cX10_ring 104 = .ok (.imul, 1) := by decide +kernel
theorem dX10_ring_105 : decode cX10_ring 105 = .ok (.iload_n 1, 1) := by decide +kernel
theorem dX10_ring_106 : decode cX10_ring 106 = .ok (.iadd, 1) := by decide +kernel
theorem dX10_ring_107 : decode cX10_ring 107 = .ok (.dup2, 1) := by decide +kernel
theorem dX10_ring_108 : decode cX10_ring 108 = .ok (.iaload, 1) := by decide +kernel
theorem dX10_ring_109 : decode cX10_ring 109 = .ok (.iload 4, 2) := by decide +kernel
theorem dX10_ring_111 : decode cX10_ring 111 = .ok (.isub, 1) := by decide +kernel
theorem dX10_ring_112 : decode cX10_ring 112 = .ok (.iastore, 1) := by decide +kernel
theorem dX10_ring_113 : decode cX10_ring 113 = .ok (.iload 4, 2) := by decide +kernel
theorem dX10_ring_115 : decode cX10_ring 115 = .ok (.ireturn, 1) := by decide +kernel
theorem dX10_forgive_0 : decode cX10_forgive 0 = .ok (.aload_n 0, 1) := by decide +kernel
theorem dX10_forgive_1 : decode cX10_forgive 1 = .ok (.iload_n 1, 1) := by decide +kernel
theorem dX10_forgive_2 : decode cX10_forgive 2 = .ok (.iload_n 2, 1) := by decide +kernel
theorem dX10_forgive_3 : decode cX10_forgive 3 = .ok (.invokevirtual 116, 3) := by decide +kernel
theorem dX10_forgive_6 : decode cX10_forgive 6 = .ok (.ifCond .ne 6, 3) := by decide +kernel
theorem dX10_forgive_9 : decode cX10_forgive 9 = .ok (.bipush (-101), 2) := by decide +kernel
theorem dX10_forgive_11 : decode cX10_forgive 11 = .ok (.ireturn, 1) := by decide +kernel
theorem dX10_forgive_12 : decode cX10_forgive 12 = .ok (.aload_n 0, 1) := by decide +kernel
theorem dX10_forgive_13 : decode cX10_forgive 13 = .ok (.getfield 23, 3) := by decide +kernel
theorem dX10_forgive_16 : decode cX10_forgive 16 = .ok (.iconst 5, 1) := by decide +kernel
theorem dX10_forgive_17 : decode cX10_forgive 17 = .ok (.iload_n 2, 1) := by decide +kernel
theorem dX10_forgive_18 : decode cX10_forgive 18 = .ok (.imul, 1) := by decide +kernel
theorem dX10_forgive_19 : decode cX10_forgive 19 = .ok (.iload_n 1, 1) := by decide +kernel
theorem dX10_forgive_20 : decode cX10_forgive 20 = .ok (.iadd, 1) := by decide +kernel
theorem dX10_forgive_21 : decode cX10_forgive 21 = .ok (.iaload, 1) := by decide +kernel
theorem dX10_forgive_22 : decode cX10_forgive 22 = .ok (.istore_n 3, 1) := by decide +kernel
theorem dX10_forgive_23 : decode cX10_forgive 23 = .ok (.aload_n 0, 1) := by decide +kernel
theorem dX10_forgive_24 : decode cX10_forgive 24 = .ok (.getfield 23, 3) := by decide +kernel
theorem dX10_forgive_27 : decode cX10_forgive 27 = .ok (.iconst 5, 1) := by decide +kernel
theorem dX10_forgive_28 : decode cX10_forgive 28 = .ok (.iload_n 2, 1) := by decide +kernel
theorem dX10_forgive_29 : decode cX10_forgive 29 = .ok (.imul, 1) := by decide +kernel
theorem dX10_forgive_30 : decode cX10_forgive 30 = .ok (.iload_n 1, 1) := by decide +kernel
theorem dX10_forgive_31 : decode cX10_forgive 31 = .ok (.iadd, 1) := by decide +kernel
theorem dX10_forgive_32 : decode cX10_forgive 32 = .ok (.iconst 0, 1) := by decide +kernel
theorem dX10_forgive_33 : decode cX10_forgive 33 = .ok (.iastore, 1) := by decide +kernel
theorem dX10_forgive_34 : decode cX10_forgive 34 = .ok (.iload_n 3, 1) := by decide +kernel
theorem dX10_forgive_35 : decode cX10_forgive 35 = .ok (.ireturn, 1) := by decide +kernel
theorem dX10_bankrupt_0 : decode cX10_bankrupt 0 = .ok (.aload_n 0, 1) := by decide +kernel
theorem dX10_bankrupt_1 : decode cX10_bankrupt 1 = .ok (.iload_n 1, 1) := by decide +kernel
theorem dX10_bankrupt_2 : decode cX10_bankrupt 2 = .ok (.invokevirtual 96, 3) := by decide +kernel
theorem dX10_bankrupt_5 : decode cX10_bankrupt 5 = .ok (.ifCond .ne 6, 3) := by decide +kernel
theorem dX10_bankrupt_8 : decode cX10_bankrupt 8 = .ok (.bipush (-101), 2) := by decide +kernel
theorem dX10_bankrupt_10 : decode cX10_bankrupt 10 = .ok (.ireturn, 1) := by decide +kernel
theorem dX10_bankrupt_11 : decode cX10_bankrupt 11 = .ok (.aload_n 0, 1) := by decide +kernel
theorem dX10_bankrupt_12 : decode cX10_bankrupt 12 = .ok (.iconst 0, 1) := by decide +kernel
theorem dX10_bankrupt_13 : decode cX10_bankrupt 13 = .ok (.iload_n 1, 1) := by decide +kernel
theorem dX10_bankrupt_14 : decode cX10_bankrupt 14 = .ok (.invokevirtual 107, 3) := by decide +kernel
theorem dX10_bankrupt_17 : decode cX10_bankrupt 17 = .ok (.istore_n 2, 1) := by decide +kernel
theorem dX10_bankrupt_18 : decode cX10_bankrupt 18 = .ok (.iload_n 2, 1) := by decide +kernel
theorem dX10_bankrupt_19 : decode cX10_bankrupt 19 = .ok (.ifCond .ne 6, 3) := by decide +kernel
theorem dX10_bankrupt_22 : decode cX10_bankrupt 22 = .ok (.bipush (-103), 2) := by decide +kernel
theorem dX10_bankrupt_24 : decode cX10_bankrupt 24 = .ok (.ireturn, 1) := by decide +kernel
theorem dX10_bankrupt_25 : decode cX10_bankrupt 25 = .ok (.aload_n 0, 1) := by decide +kernel
theorem dX10_bankrupt_26 : decode cX10_bankrupt 26 = .ok (.getfield 20, 3) := by decide +kernel
theorem dX10_bankrupt_29 : decode cX10_bankrupt 29 = .ok (.iload_n 1, 1) := by decide +kernel
theorem dX10_bankrupt_30 : decode cX10_bankrupt 30 = .ok (.iaload, 1) := by decide +kernel
theorem dX10_bankrupt_31 : decode cX10_bankrupt 31 = .ok (.istore_n 3, 1) := by decide +kernel
theorem dX10_bankrupt_32 : decode cX10_bankrupt 32 = .ok (.iconst 0, 1) := by decide +kernel
theorem dX10_bankrupt_33 : decode cX10_bankrupt 33 = .ok (.istore 4, 2) := by decide +kernel
theorem dX10_bankrupt_35 : decode cX10_bankrupt 35 = .ok (.iconst 0, 1) := by decide +kernel
theorem dX10_bankrupt_36 : decode cX10_bankrupt 36 = .ok (.istore 5, 2) := by decide +kernel
theorem dX10_bankrupt_38 : decode cX10_bankrupt 38 = .ok (.iload 5, 2) := by decide +kernel
theorem dX10_bankrupt_40 : decode cX10_bankrupt 40 = .ok (.aload_n 0, 1) := by decide +kernel
theorem dX10_bankrupt_41 : decode cX10_bankrupt 41 = .ok (.getfield 93, 3) := by decide +kernel
theorem dX10_bankrupt_44 : decode cX10_bankrupt 44 = .ok (.if_icmp .ge 94, 3) := by decide +kernel
theorem dX10_bankrupt_47 : decode cX10_bankrupt 47 = .ok (.iconst 5, 1) := by decide +kernel
theorem dX10_bankrupt_48 : decode cX10_bankrupt 48 = .ok (.iload_n 1, 1) := by decide +kernel
theorem dX10_bankrupt_49 : decode cX10_bankrupt 49 = .ok (.imul, 1) := by decide +kernel
theorem dX10_bankrupt_50 : decode cX10_bankrupt 50 = .ok (.iload 5, 2) := by decide +kernel
theorem dX10_bankrupt_52 : decode cX10_bankrupt 52 = .ok (.iadd, 1) := by decide +kernel
theorem dX10_bankrupt_53 : decode cX10_bankrupt 53 = .ok (.istore 6, 2) := by decide +kernel
theorem dX10_bankrupt_55 : decode cX10_bankrupt 55 = .ok (.iload_n 3, 1) := by decide +kernel
theorem dX10_bankrupt_56 : decode cX10_bankrupt 56 = .ok (.aload_n 0, 1) := by decide +kernel
theorem dX10_bankrupt_57 : decode cX10_bankrupt 57 = .ok (.getfield 23, 3) := by decide +kernel
theorem dX10_bankrupt_60 : decode cX10_bankrupt 60 = .ok (.iload 6, 2) := by decide +kernel
theorem dX10_bankrupt_62 : decode cX10_bankrupt 62 = .ok (.iaload, 1) := by decide +kernel
theorem dX10_bankrupt_63 : decode cX10_bankrupt 63 = .ok (.imul, 1) := by decide +kernel
theorem dX10_bankrupt_64 : decode cX10_bankrupt 64 = .ok (.iload_n 2, 1) := by decide +kernel
theorem dX10_bankrupt_65 : decode cX10_bankrupt 65 = .ok (.idiv, 1) := by decide +kernel
theorem dX10_bankrupt_66 : decode cX10_bankrupt 66 = .ok (.aload_n 0, 1) := by decide +kernel
theorem dX10_bankrupt_67 : decode cX10_bankrupt 67 = .ok (.getfield 23, 3) := by decide +kernel
theorem dX10_bankrupt_70 : decode cX10_bankrupt 70 = .ok (.iload 6, 2) := by decide +kernel
theorem dX10_bankrupt_72 : decode cX10_bankrupt 72 = .ok (.iaload, 1) := by decide +kernel
theorem dX10_bankrupt_73 : decode cX10_bankrupt 73 = .ok (.invokestatic 124, 3) := by decide +kernel
theorem dX10_bankrupt_76 : decode cX10_bankrupt 76 = .ok (.istore 7, 2) := by decide +kernel
theorem dX10_bankrupt_78 : decode cX10_bankrupt 78 = .ok (.iload 4, 2) := by decide +kernel
theorem dX10_bankrupt_80 : decode cX10_bankrupt 80 = .ok (.iload 7, 2) := by decide +kernel
theorem dX10_bankrupt_82 : decode cX10_bankrupt 82 = .ok (.iadd, 1) := by decide +kernel
theorem dX10_bankrupt_83 : decode cX10_bankrupt 83 = .ok (.istore 4, 2) := by decide +kernel
theorem dX10_bankrupt_85 : decode cX10_bankrupt 85 = .ok (.aload_n 0, 1) := by decide +kernel
theorem dX10_bankrupt_86 : decode cX10_bankrupt 86 = .ok (.getfield 20, 3) := by decide +kernel
theorem dX10_bankrupt_89 : decode cX10_bankrupt 89 = .ok (.iload 5, 2) := by decide +kernel
theorem dX10_bankrupt_91 : decode cX10_bankrupt 91 = .ok (.iload 5, 2) := by decide +kernel
theorem dX10_bankrupt_93 : decode cX10_bankrupt 93 = .ok (.iload_n 1, 1) := by decide +kernel
theorem dX10_bankrupt_94 : decode cX10_bankrupt 94 = .ok (.if_icmp .ne 13, 3) := by decide +kernel
theorem dX10_bankrupt_97 : decode cX10_bankrupt 97 = .ok (.aload_n 0, 1) := by decide +kernel
theorem dX10_bankrupt_98 : decode cX10_bankrupt 98 = .ok (.getfield 20, 3) := by decide +kernel
theorem dX10_bankrupt_101 : decode cX10_bankrupt 101 = .ok (.iload 5, 2) := by decide +kernel
theorem dX10_bankrupt_103 : decode cX10_bankrupt 103 = .ok (.iaload, 1) := by decide +kernel
theorem dX10_bankrupt_104 : decode cX10_bankrupt 104 = .ok (.goto 19, 3) := by decide +kernel
theorem dX10_bankrupt_107 : decode cX10_bankrupt 107 = .ok (.aload_n 0, 1) := by decide +kernel
theorem dX10_bankrupt_108 : decode cX10_bankrupt 108 = .ok (.getfield 20, 3) := by decide +kernel
theorem dX10_bankrupt_111 : decode cX10_bankrupt 111 = .ok (.iload 5, 2) := by decide +kernel
theorem dX10_bankrupt_113 : decode cX10_bankrupt 113 = .ok (.iaload, 1) := by decide +kernel
theorem dX10_bankrupt_114 : decode cX10_bankrupt 114 = .ok (.iload 7, 2) := by decide +kernel
theorem dX10_bankrupt_116 : decode cX10_bankrupt 116 = .ok (.iadd, 1) := by decide +kernel
theorem dX10_bankrupt_117 : decode cX10_bankrupt 117 = .ok (.sipush 999, 3) := by decide +kernel
theorem dX10_bankrupt_120 : decode cX10_bankrupt 120 = .ok (.invokestatic 124, 3) := by decide +kernel
theorem dX10_bankrupt_123 : decode cX10_bankrupt 123 = .ok (.iastore, 1) := by decide +kernel
theorem dX10_bankrupt_124 : decode cX10_bankrupt 124 = .ok (.aload_n 0, 1) := by decide +kernel
theorem dX10_bankrupt_125 : decode cX10_bankrupt 125 = .ok (.getfield 23, 3) := by decide +kernel
theorem dX10_bankrupt_128 : decode cX10_bankrupt 128 = .ok (.iload 6, 2) := by decide +kernel
theorem dX10_bankrupt_130 : decode cX10_bankrupt 130 = .ok (.iconst 0, 1) := by decide +kernel
theorem dX10_bankrupt_131 : decode cX10_bankrupt 131 = .ok (.iastore, 1) := by decide +kernel
theorem dX10_bankrupt_132 : decode cX10_bankrupt 132 = .ok (.iinc 5 1, 3) := by decide +kernel
theorem dX10_bankrupt_135 : decode cX10_bankrupt 135 = .ok (.goto (-97), 3) := by decide +kernel
theorem dX10_bankrupt_138 : decode cX10_bankrupt 138 = .ok (.aload_n 0, 1) := by decide +kernel
theorem dX10_bankrupt_139 : decode cX10_bankrupt 139 = .ok (.getfield 20, 3) := by decide +kernel
theorem dX10_bankrupt_142 : decode cX10_bankrupt 142 = .ok (.iload_n 1, 1) := by decide +kernel
theorem dX10_bankrupt_143 : decode cX10_bankrupt 143 = .ok (.iload_n 3, 1) := by decide +kernel
theorem dX10_bankrupt_144 : decode cX10_bankrupt 144 = .ok (.iload 4, 2) := by decide +kernel
theorem dX10_bankrupt_146 : decode cX10_bankrupt 146 = .ok (.isub, 1) := by decide +kernel
theorem dX10_bankrupt_147 : decode cX10_bankrupt 147 = .ok (.iastore, 1) := by decide +kernel
theorem dX10_bankrupt_148 : decode cX10_bankrupt 148 = .ok (.iload 4, 2) := by decide +kernel
theorem dX10_bankrupt_150 : decode cX10_bankrupt 150 = .ok (.ireturn, 1) := by decide +kernel
theorem dX10_copy_0 : decode cX10_copy 0 = .ok (.iconst 0, 1) := by decide +kernel
theorem dX10_copy_1 : decode cX10_copy 1 = .ok (.istore_n 1, 1) := by decide +kernel
theorem dX10_copy_2 : decode cX10_copy 2 = .ok (.iload_n 1, 1) := by decide +kernel
theorem dX10_copy_3 : decode cX10_copy 3 = .ok (.iconst 5, 1) := by decide +kernel
theorem dX10_copy_4 : decode cX10_copy 4 = .ok (.if_icmp .ge 23, 3) := by decide +kernel
theorem dX10_copy_7 : decode cX10_copy 7 = .ok (.aload_n 0, 1) := by decide +kernel
theorem dX10_copy_8 : decode cX10_copy 8 = .ok (.getfield 20, 3) := by decide +kernel
theorem dX10_copy_11 : decode cX10_copy 11 = .ok (.iconst 5, 1) := by decide +kernel
theorem dX10_copy_12 : decode cX10_copy 12 = .ok (.iload_n 1, 1) := by decide +kernel
theorem dX10_copy_13 : decode cX10_copy 13 = .ok (.iadd, 1) := by decide +kernel
theorem dX10_copy_14 : decode cX10_copy 14 = .ok (.aload_n 0, 1) := by decide +kernel
theorem dX10_copy_15 : decode cX10_copy 15 = .ok (.getfield 20, 3) := by decide +kernel
theorem dX10_copy_18 : decode cX10_copy 18 = .ok (.iload_n 1, 1) := by decide +kernel
theorem dX10_copy_19 : decode cX10_copy 19 = .ok (.iaload, 1) := by decide +kernel
theorem dX10_copy_20 : decode cX10_copy 20 = .ok (.iastore, 1) := by decide +kernel
theorem dX10_copy_21 : decode cX10_copy 21 = .ok (.iinc 1 1, 3) := by decide +kernel
theorem dX10_copy_24 : decode cX10_copy 24 = .ok (.goto (-22), 3) := by decide +kernel
theorem dX10_copy_27 : decode cX10_copy 27 = .ok (.iconst 0, 1) := by decide +kernel
theorem dX10_copy_28 : decode cX10_copy 28 = .ok (.istore_n 1, 1) := by decide +kernel
theorem dX10_copy_29 : decode cX10_copy 29 = .ok (.iload_n 1, 1) := by decide +kernel
theorem dX10_copy_30 : decode cX10_copy 30 = .ok (.bipush 25, 2) := by decide +kernel
theorem dX10_copy_32 : decode cX10_copy 32 = .ok (.if_icmp .ge 54, 3) := by decide +kernel
theorem dX10_copy_35 : decode cX10_copy 35 = .ok (.aload_n 0, 1) := by decide +kernel
theorem dX10_copy_36 : decode cX10_copy 36 = .ok (.getfield 23, 3) := by decide +kernel
theorem dX10_copy_39 : decode cX10_copy 39 = .ok (.bipush 25, 2) := by decide +kernel
theorem dX10_copy_41 : decode cX10_copy 41 = .ok (.iload_n 1, 1) := by decide +kernel
theorem dX10_copy_42 : decode cX10_copy 42 = .ok (.iadd, 1) := by decide +kernel
theorem dX10_copy_43 : decode cX10_copy 43 = .ok (.aload_n 0, 1) := by decide +kernel
theorem dX10_copy_44 : decode cX10_copy 44 = .ok (.getfield 23, 3) := by decide +kernel
theorem dX10_copy_47 : decode cX10_copy 47 = .ok (.iload_n 1, 1) := by decide +kernel
theorem dX10_copy_48 : decode cX10_copy 48 = .ok (.iaload, 1) := by decide +kernel
theorem dX10_copy_49 : decode cX10_copy 49 = .ok (.iastore, 1) := by decide +kernel
theorem dX10_copy_50 : decode cX10_copy 50 = .ok (.aload_n 0, 1) := by decide +kernel
theorem dX10_copy_51 : decode cX10_copy 51 = .ok (.getfield 26, 3) := by decide +kernel
theorem dX10_copy_54 : decode cX10_copy 54 = .ok (.bipush 25, 2) := by decide +kernel
theorem dX10_copy_56 : decode cX10_copy 56 = .ok (.iload_n 1, 1) := by decide +kernel
theorem dX10_copy_57 : decode cX10_copy 57 = .ok (.iadd, 1) := by decide +kernel
theorem dX10_copy_58 : decode cX10_copy 58 = .ok (.aload_n 0, 1) := by decide +kernel
theorem dX10_copy_59 : decode cX10_copy 59 = .ok (.getfield 26, 3) := by decide +kernel
theorem dX10_copy_62 : decode cX10_copy 62 = .ok (.iload_n 1, 1) := by decide +kernel
theorem dX10_copy_63 : decode cX10_copy 63 = .ok (.iaload, 1) := by decide +kernel
theorem dX10_copy_64 : decode cX10_copy 64 = .ok (.iastore, 1) := by decide +kernel
theorem dX10_copy_65 : decode cX10_copy 65 = .ok (.aload_n 0, 1) := by decide +kernel
theorem dX10_copy_66 : decode cX10_copy 66 = .ok (.getfield 29, 3) := by decide +kernel
theorem dX10_copy_69 : decode cX10_copy 69 = .ok (.bipush 25, 2) := by decide +kernel
theorem dX10_copy_71 : decode cX10_copy 71 = .ok (.iload_n 1, 1) := by decide +kernel
theorem dX10_copy_72 : decode cX10_copy 72 = .ok (.iadd, 1) := by decide +kernel
theorem dX10_copy_73 : decode cX10_copy 73 = .ok (.aload_n 0, 1) := by decide +kernel
theorem dX10_copy_74 : decode cX10_copy 74 = .ok (.getfield 29, 3) := by decide +kernel
theorem dX10_copy_77 : decode cX10_copy 77 = .ok (.iload_n 1, 1) := by decide +kernel
theorem dX10_copy_78 : decode cX10_copy 78 = .ok (.iaload, 1) := by decide +kernel
theorem dX10_copy_79 : decode cX10_copy 79 = .ok (.iastore, 1) := by decide +kernel
theorem dX10_copy_80 : decode cX10_copy 80 = .ok (.iinc 1 1, 3) := by decide +kernel
theorem dX10_copy_83 : decode cX10_copy 83 = .ok (.goto (-54), 3) := by decide +kernel
theorem dX10_copy_86 : decode cX10_copy 86 = .ok (.return_, 1) := by decide +kernel
theorem dX10_ruinNow_0 : decode cX10_ruinNow 0 = .ok (.aload_n 0, 1) := by decide +kernel
theorem dX10_ruinNow_1 : decode cX10_ruinNow 1 = .ok (.invokevirtual 151, 3) := by decide +kernel
theorem dX10_ruinNow_4 : decode cX10_ruinNow 4 = .ok (.iconst 0, 1) := by decide +kernel
theorem dX10_ruinNow_5 : decode cX10_ruinNow 5 = .ok (.istore_n 2, 1) := by decide +kernel
theorem dX10_ruinNow_6 : decode cX10_ruinNow 6 = .ok (.iload_n 2, 1) := by decide +kernel
theorem dX10_ruinNow_7 : decode cX10_ruinNow 7 = .ok (.bipush 40, 2) := by decide +kernel
theorem dX10_ruinNow_9 : decode cX10_ruinNow 9 = .ok (.if_icmp .gt 27, 3) := by decide +kernel
theorem dX10_ruinNow_12 : decode cX10_ruinNow 12 = .ok (.aload_n 0, 1) := by decide +kernel
theorem dX10_ruinNow_13 : decode cX10_ruinNow 13 = .ok (.iconst 1, 1) := by decide +kernel
theorem dX10_ruinNow_14 : decode cX10_ruinNow 14 = .ok (.iload_n 1, 1) := by decide +kernel
theorem dX10_ruinNow_15 : decode cX10_ruinNow 15 = .ok (.invokevirtual 110, 3) := by decide +kernel
theorem dX10_ruinNow_18 : decode cX10_ruinNow 18 = .ok (.ifCond .ge 5, 3) := by decide +kernel
theorem dX10_ruinNow_21 : decode cX10_ruinNow 21 = .ok (.iload_n 2, 1) := by decide +kernel
theorem dX10_ruinNow_22 : decode cX10_ruinNow 22 = .ok (.ireturn, 1) := by decide +kernel
theorem dX10_ruinNow_23 : decode cX10_ruinNow 23 = .ok (.aload_n 0, 1) := by decide +kernel
theorem dX10_ruinNow_24 : decode cX10_ruinNow 24 = .ok (.bipush 25, 2) := by decide +kernel
theorem dX10_ruinNow_26 : decode cX10_ruinNow 26 = .ok (.invokevirtual 147, 3) := by decide +kernel
theorem dX10_ruinNow_29 : decode cX10_ruinNow 29 = .ok (.pop, 1) := by decide +kernel
theorem dX10_ruinNow_30 : decode cX10_ruinNow 30 = .ok (.iinc 2 1, 3) := by decide +kernel
theorem dX10_ruinNow_33 : decode cX10_ruinNow 33 = .ok (.goto (-27), 3) := by decide +kernel
theorem dX10_ruinNow_36 : decode cX10_ruinNow 36 = .ok (.iconst (-1), 1) := by decide +kernel
theorem dX10_ruinNow_37 : decode cX10_ruinNow 37 = .ok (.ireturn, 1) := by decide +kernel
theorem dX10_ruin_0 : decode cX10_ruin 0 = .ok (.aload_n 0, 1) := by decide +kernel
theorem dX10_ruin_1 : decode cX10_ruin 1 = .ok (.iload_n 1, 1) := by decide +kernel
theorem dX10_ruin_2 : decode cX10_ruin 2 = .ok (.invokevirtual 96, 3) := by decide +kernel
theorem dX10_ruin_5 : decode cX10_ruin 5 = .ok (.ifCond .eq 11, 3) := by decide +kernel
theorem dX10_ruin_8 : decode cX10_ruin 8 = .ok (.aload_n 0, 1) := by decide +kernel
theorem dX10_ruin_9 : decode cX10_ruin 9 = .ok (.iload_n 1, 1) := by decide +kernel
theorem dX10_ruin_10 : decode cX10_ruin 10 = .ok (.invokevirtual 154, 3) := by decide +kernel
theorem dX10_ruin_13 : decode cX10_ruin 13 = .ok (.goto 5, 3) := by decide +kernel
theorem dX10_ruin_16 : decode cX10_ruin 16 = .ok (.bipush (-101), 2) := by decide +kernel
theorem dX10_ruin_18 : decode cX10_ruin 18 = .ok (.ireturn, 1) := by decide +kernel
theorem dX10_settlingNow_0 : decode cX10_settlingNow 0 = .ok (.iconst 0, 1) := by decide +kernel
theorem dX10_settlingNow_1 : decode cX10_settlingNow 1 = .ok (.istore_n 1, 1) := by decide +kernel
theorem dX10_settlingNow_2 : decode cX10_settlingNow 2 = .ok (.iconst 0, 1) := by decide +kernel
theorem dX10_settlingNow_3 : decode cX10_settlingNow 3 = .ok (.istore_n 2, 1) := by decide +kernel
theorem dX10_settlingNow_4 : decode cX10_settlingNow 4 = .ok (.iload_n 2, 1) := by decide +kernel
theorem dX10_settlingNow_5 : decode cX10_settlingNow 5 = .ok (.aload_n 0, 1) := by decide +kernel
theorem dX10_settlingNow_6 : decode cX10_settlingNow 6 = .ok (.getfield 93, 3) := by decide +kernel
theorem dX10_settlingNow_9 : decode cX10_settlingNow 9 = .ok (.if_icmp .ge 34, 3) := by decide +kernel
theorem dX10_settlingNow_12 : decode cX10_settlingNow 12 = .ok (.iload_n 1, 1) := by decide +kernel
theorem dX10_settlingNow_13 : decode cX10_settlingNow 13 = .ok (.aload_n 0, 1) := by decide +kernel
theorem dX10_settlingNow_14 : decode cX10_settlingNow 14 = .ok (.iconst 0, 1) := by decide +kernel
theorem dX10_settlingNow_15 : decode cX10_settlingNow 15 = .ok (.iload_n 2, 1) := by decide +kernel
theorem dX10_settlingNow_16 : decode cX10_settlingNow 16 = .ok (.invokevirtual 107, 3) := by decide +kernel
theorem dX10_settlingNow_19 : decode cX10_settlingNow 19 = .ok (.aload_n 0, 1) := by decide +kernel
theorem dX10_settlingNow_20 : decode cX10_settlingNow 20 = .ok (.iconst 0, 1) := by decide +kernel
theorem dX10_settlingNow_21 : decode cX10_settlingNow 21 = .ok (.iload_n 2, 1) := by decide +kernel
theorem dX10_settlingNow_22 : decode cX10_settlingNow 22 = .ok (.invokevirtual 103, 3) := by decide +kernel
theorem dX10_settlingNow_25 : decode cX10_settlingNow 25 = .ok (.if_icmp .ne 7, 3) := by decide +kernel
theorem dX10_settlingNow_28 : decode cX10_settlingNow 28 = .ok (.iconst 0, 1) := by decide +kernel
theorem dX10_settlingNow_29 : decode cX10_settlingNow 29 = .ok (.goto 6, 3) := by decide +kernel
theorem dX10_settlingNow_32 : decode cX10_settlingNow 32 = .ok (.iconst 1, 1) := by decide +kernel
theorem dX10_settlingNow_33 : decode cX10_settlingNow 33 = .ok (.iload_n 2, 1) := by decide +kernel
theorem dX10_settlingNow_34 : decode cX10_settlingNow 34 = .ok (.ishl, 1) := by decide +kernel
theorem dX10_settlingNow_35 : decode cX10_settlingNow 35 = .ok (.iadd, 1) := by decide +kernel
theorem dX10_settlingNow_36 : decode cX10_settlingNow 36 = .ok (.istore_n 1, 1) := by decide +kernel
theorem dX10_settlingNow_37 : decode cX10_settlingNow 37 = .ok (.iinc 2 1, 3) := by decide +kernel
theorem dX10_settlingNow_40 : decode cX10_settlingNow 40 = .ok (.goto (-36), 3) := by decide +kernel
theorem dX10_settlingNow_43 : decode cX10_settlingNow 43 = .ok (.iconst 0, 1) := by decide +kernel
theorem dX10_settlingNow_44 : decode cX10_settlingNow 44 = .ok (.istore_n 2, 1) := by decide +kernel
theorem dX10_settlingNow_45 : decode cX10_settlingNow 45 = .ok (.iload_n 2, 1) := by decide +kernel
theorem dX10_settlingNow_46 : decode cX10_settlingNow 46 = .ok (.iconst 1, 1) := by decide +kernel
theorem dX10_settlingNow_47 : decode cX10_settlingNow 47 = .ok (.aload_n 0, 1) := by decide +kernel
theorem dX10_settlingNow_48 : decode cX10_settlingNow 48 = .ok (.getfield 93, 3) := by decide +kernel
theorem dX10_settlingNow_51 : decode cX10_settlingNow 51 = .ok (.ishl, 1) := by decide +kernel
theorem dX10_settlingNow_52 : decode cX10_settlingNow 52 = .ok (.if_icmp .ge 74, 3) := by decide +kernel
theorem dX10_settlingNow_55 : decode cX10_settlingNow 55 = .ok (.aload_n 0, 1) := by decide +kernel
theorem dX10_settlingNow_56 : decode cX10_settlingNow 56 = .ok (.getfield 45, 3) := by decide +kernel
theorem dX10_settlingNow_59 : decode cX10_settlingNow 59 = .ok (.iload_n 2, 1) := by decide +kernel
theorem dX10_settlingNow_60 : decode cX10_settlingNow 60 = .ok (.iconst 0, 1) := by decide +kernel
theorem dX10_settlingNow_61 : decode cX10_settlingNow 61 = .ok (.iastore, 1) := by decide +kernel
theorem dX10_settlingNow_62 : decode cX10_settlingNow 62 = .ok (.aload_n 0, 1) := by decide +kernel
theorem dX10_settlingNow_63 : decode cX10_settlingNow 63 = .ok (.getfield 48, 3) := by decide +kernel
theorem dX10_settlingNow_66 : decode cX10_settlingNow 66 = .ok (.iload_n 2, 1) := by decide +kernel
theorem dX10_settlingNow_67 : decode cX10_settlingNow 67 = .ok (.iconst 0, 1) := by decide +kernel
theorem dX10_settlingNow_68 : decode cX10_settlingNow 68 = .ok (.iastore, 1) := by decide +kernel
theorem dX10_settlingNow_69 : decode cX10_settlingNow 69 = .ok (.iconst 0, 1) := by decide +kernel
theorem dX10_settlingNow_70 : decode cX10_settlingNow 70 = .ok (.istore_n 3, 1) := by decide +kernel
theorem dX10_settlingNow_71 : decode cX10_settlingNow 71 = .ok (.iload_n 3, 1) := by decide +kernel
theorem dX10_settlingNow_72 : decode cX10_settlingNow 72 = .ok (.aload_n 0, 1) := by decide +kernel
theorem dX10_settlingNow_73 : decode cX10_settlingNow 73 = .ok (.getfield 93, 3) := by decide +kernel
theorem dX10_settlingNow_76 : decode cX10_settlingNow 76 = .ok (.if_icmp .ge 44, 3) := by decide +kernel
theorem dX10_settlingNow_79 : decode cX10_settlingNow 79 = .ok (.aload_n 0, 1) := by decide +kernel
theorem dX10_settlingNow_80 : decode cX10_settlingNow 80 = .ok (.getfield 45, 3) := by decide +kernel
theorem dX10_settlingNow_83 : decode cX10_settlingNow 83 = .ok (.iload_n 2, 1) := by decide +kernel
theorem dX10_settlingNow_84 : decode cX10_settlingNow 84 = .ok (.dup2, 1) := by decide +kernel
theorem dX10_settlingNow_85 : decode cX10_settlingNow 85 = .ok (.iaload, 1) := by decide +kernel
theorem dX10_settlingNow_86 : decode cX10_settlingNow 86 = .ok (.iload_n 2, 1) := by decide +kernel
theorem dX10_settlingNow_87 : decode cX10_settlingNow 87 = .ok (.iload_n 3, 1) := by decide +kernel
theorem dX10_settlingNow_88 : decode cX10_settlingNow 88 = .ok (.ishr, 1) := by decide +kernel
theorem dX10_settlingNow_89 : decode cX10_settlingNow 89 = .ok (.iconst 1, 1) := by decide +kernel
theorem dX10_settlingNow_90 : decode cX10_settlingNow 90 = .ok (.iand, 1) := by decide +kernel
theorem dX10_settlingNow_91 : decode cX10_settlingNow 91 = .ok (.iconst 1, 1) := by decide +kernel
theorem dX10_settlingNow_92 : decode cX10_settlingNow 92 = .ok (.if_icmp .ne 19, 3) := by decide +kernel
theorem dX10_settlingNow_95 : decode cX10_settlingNow 95 = .ok (.aload_n 0, 1) := by decide +kernel
theorem dX10_settlingNow_96 : decode cX10_settlingNow 96 = .ok (.iconst 0, 1) := by decide +kernel
theorem dX10_settlingNow_97 : decode cX10_settlingNow 97 = .ok (.iload_n 3, 1) := by decide +kernel
theorem dX10_settlingNow_98 : decode cX10_settlingNow 98 = .ok (.invokevirtual 107, 3) := by decide +kernel
theorem dX10_settlingNow_101 : decode cX10_settlingNow 101 = .ok (.aload_n 0, 1) := by decide +kernel
theorem dX10_settlingNow_102 : decode cX10_settlingNow 102 = .ok (.iconst 0, 1) := by decide +kernel
theorem dX10_settlingNow_103 : decode cX10_settlingNow 103 = .ok (.iload_n 3, 1) := by decide +kernel
theorem dX10_settlingNow_104 : decode cX10_settlingNow 104 = .ok (.invokevirtual 103, 3) := by decide +kernel
theorem dX10_settlingNow_107 : decode cX10_settlingNow 107 = .ok (.isub, 1) := by decide +kernel
theorem dX10_settlingNow_108 : decode cX10_settlingNow 108 = .ok (.goto 4, 3) := by decide +kernel
theorem dX10_settlingNow_111 : decode cX10_settlingNow 111 = .ok (.iconst 0, 1) := by decide +kernel
theorem dX10_settlingNow_112 : decode cX10_settlingNow 112 = .ok (.iadd, 1) := by decide +kernel
theorem dX10_settlingNow_113 : decode cX10_settlingNow 113 = .ok (.iastore, 1) := by decide +kernel
theorem dX10_settlingNow_114 : decode cX10_settlingNow 114 = .ok (.iinc 3 1, 3) := by decide +kernel
theorem dX10_settlingNow_117 : decode cX10_settlingNow 117 = .ok (.goto (-46), 3) := by decide +kernel
theorem dX10_settlingNow_120 : decode cX10_settlingNow 120 = .ok (.iinc 2 1, 3) := by decide +kernel
theorem dX10_settlingNow_123 : decode cX10_settlingNow 123 = .ok (.goto (-78), 3) := by decide +kernel
theorem dX10_settlingNow_126 : decode cX10_settlingNow 126 = .ok (.iconst 1, 1) := by decide +kernel
theorem dX10_settlingNow_127 : decode cX10_settlingNow 127 = .ok (.istore_n 2, 1) := by decide +kernel
theorem dX10_settlingNow_128 : decode cX10_settlingNow 128 = .ok (.iload_n 2, 1) := by decide +kernel
theorem dX10_settlingNow_129 : decode cX10_settlingNow 129 = .ok (.iconst 1, 1) := by decide +kernel
theorem dX10_settlingNow_130 : decode cX10_settlingNow 130 = .ok (.aload_n 0, 1) := by decide +kernel
theorem dX10_settlingNow_131 : decode cX10_settlingNow 131 = .ok (.getfield 93, 3) := by decide +kernel
theorem dX10_settlingNow_134 : decode cX10_settlingNow 134 = .ok (.ishl, 1) := by decide +kernel
theorem dX10_settlingNow_135 : decode cX10_settlingNow 135 = .ok (.if_icmp .ge 15, 3) := by decide +kernel
theorem dX10_settlingNow_138 : decode cX10_settlingNow 138 = .ok (.aload_n 0, 1) := by decide +kernel
theorem dX10_settlingNow_139 : decode cX10_settlingNow 139 = .ok (.iload_n 2, 1) := by decide +kernel
theorem dX10_settlingNow_140 : decode cX10_settlingNow 140 = .ok (.iload_n 1, 1) := by decide +kernel
theorem dX10_settlingNow_141 : decode cX10_settlingNow 141 = .ok (.invokevirtual 157, 3) := by decide +kernel
theorem dX10_settlingNow_144 : decode cX10_settlingNow 144 = .ok (.iinc 2 1, 3) := by decide +kernel
theorem dX10_settlingNow_147 : decode cX10_settlingNow 147 = .ok (.goto (-19), 3) := by decide +kernel
theorem dX10_settlingNow_150 : decode cX10_settlingNow 150 = .ok (.iload_n 1, 1) := by decide +kernel
theorem dX10_settlingNow_151 : decode cX10_settlingNow 151 = .ok (.invokestatic 161, 3) := by decide +kernel
theorem dX10_settlingNow_154 : decode cX10_settlingNow 154 = .ok (.aload_n 0, 1) := by decide +kernel
theorem dX10_settlingNow_155 : decode cX10_settlingNow 155 = .ok (.getfield 48, 3) := by decide +kernel
theorem dX10_settlingNow_158 : decode cX10_settlingNow 158 = .ok (.iload_n 1, 1) := by decide +kernel
theorem dX10_settlingNow_159 : decode cX10_settlingNow 159 = .ok (.iaload, 1) := by decide +kernel
theorem dX10_settlingNow_160 : decode cX10_settlingNow 160 = .ok (.isub, 1) := by decide +kernel
theorem dX10_settlingNow_161 : decode cX10_settlingNow 161 = .ok (.ireturn, 1) := by decide +kernel
theorem dX10_layGroups_0 : decode cX10_layGroups 0 = .ok (.iconst 1, 1) := by decide +kernel
theorem dX10_layGroups_1 : decode cX10_layGroups 1 = .ok (.istore_n 3, 1) := by decide +kernel
theorem dX10_layGroups_2 : decode cX10_layGroups 2 = .ok (.iload_n 3, 1) := by decide +kernel
theorem dX10_layGroups_3 : decode cX10_layGroups 3 = .ok (.iload_n 1, 1) := by decide +kernel
theorem dX10_layGroups_4 : decode cX10_layGroups 4 = .ok (.if_icmp .gt 82, 3) := by decide +kernel
theorem dX10_layGroups_7 : decode cX10_layGroups 7 = .ok (.iload_n 3, 1) := by decide +kernel
theorem dX10_layGroups_8 : decode cX10_layGroups 8 = .ok (.iload_n 1, 1) := by decide +kernel
theorem dX10_layGroups_9 : decode cX10_layGroups 9 = .ok (.iconst (-1), 1) := by decide +kernel
theorem dX10_layGroups_10 : decode cX10_layGroups 10 = .ok (.ixor, 1) := by decide +kernel
theorem dX10_layGroups_11 : decode cX10_layGroups 11 = .ok (.iand, 1) := by decide +kernel
theorem dX10_layGroups_12 : decode cX10_layGroups 12 = .ok (.ifCond .ne 24, 3) := by decide +kernel
theorem dX10_layGroups_15 : decode cX10_layGroups 15 = .ok (.iload_n 3, 1) := by decide +kernel
theorem dX10_layGroups_16 : decode cX10_layGroups 16 = .ok (.iload_n 2, 1) := by decide +kernel
theorem dX10_layGroups_17 : decode cX10_layGroups 17 = .ok (.iconst (-1), 1) := by decide +kernel
theorem dX10_layGroups_18 : decode cX10_layGroups 18 = .ok (.ixor, 1) := by decide +kernel
theorem dX10_layGroups_19 : decode cX10_layGroups 19 = .ok (.iand, 1) := by decide +kernel
theorem dX10_layGroups_20 : decode cX10_layGroups 20 = .ok (.ifCond .ne 16, 3) := by decide +kernel
theorem dX10_layGroups_23 : decode cX10_layGroups 23 = .ok (.aload_n 0, 1) := by decide +kernel
theorem dX10_layGroups_24 : decode cX10_layGroups 24 = .ok (.getfield 45, 3) := by decide +kernel
theorem dX10_layGroups_27 : decode cX10_layGroups 27 = .ok (.iload_n 3, 1) := by decide +kernel
theorem dX10_layGroups_28 : decode cX10_layGroups 28 = .ok (.iaload, 1) := by decide +kernel
theorem dX10_layGroups_29 : decode cX10_layGroups 29 = .ok (.ifCond .ne 7, 3) := by decide +kernel
theorem dX10_layGroups_32 : decode cX10_layGroups 32 = .ok (.iconst 1, 1) := by decide +kernel
theorem dX10_layGroups_33 : decode cX10_layGroups 33 = .ok (.goto 4, 3) := by decide +kernel
theorem dX10_layGroups_36 : decode cX10_layGroups 36 = .ok (.iconst 0, 1) := by decide +kernel
theorem dX10_layGroups_37 : decode cX10_layGroups 37 = .ok (.istore 4, 2) := by decide +kernel
theorem dX10_layGroups_39 : decode cX10_layGroups 39 = .ok (.aload_n 0, 1) := by decide +kernel
theorem dX10_layGroups_40 : decode cX10_layGroups 40 = .ok (.getfield 48, 3) := by decide +kernel
theorem dX10_layGroups_43 : decode cX10_layGroups 43 = .ok (.iload_n 1, 1) := by decide +kernel
theorem dX10_layGroups_44 : decode cX10_layGroups 44 = .ok (.iload 4, 2) := by decide +kernel
theorem dX10_layGroups_46 : decode cX10_layGroups 46 = .ok (.ifCond .eq 27, 3) := by decide +kernel
theorem dX10_layGroups_49 : decode cX10_layGroups 49 = .ok (.aload_n 0, 1) := by decide +kernel
theorem dX10_layGroups_50 : decode cX10_layGroups 50 = .ok (.getfield 48, 3) := by decide +kernel
theorem dX10_layGroups_53 : decode cX10_layGroups 53 = .ok (.iload_n 1, 1) := by decide +kernel
theorem dX10_layGroups_54 : decode cX10_layGroups 54 = .ok (.iaload, 1) := by decide +kernel
theorem dX10_layGroups_55 : decode cX10_layGroups 55 = .ok (.aload_n 0, 1) := by decide +kernel
theorem dX10_layGroups_56 : decode cX10_layGroups 56 = .ok (.getfield 48, 3) := by decide +kernel
theorem dX10_layGroups_59 : decode cX10_layGroups 59 = .ok (.iload_n 1, 1) := by decide +kernel
theorem dX10_layGroups_60 : decode cX10_layGroups 60 = .ok (.iload_n 3, 1) := by decide +kernel
theorem dX10_layGroups_61 : decode cX10_layGroups 61 = .ok (.iconst (-1), 1) := by decide +kernel
theorem dX10_layGroups_62 : decode cX10_layGroups 62 = .ok (.ixor, 1) := by decide +kernel
theorem dX10_layGroups_63 : decode cX10_layGroups 63 = .ok (.iand, 1) := by decide +kernel
theorem dX10_layGroups_64 : decode cX10_layGroups 64 = .ok (.iaload, 1) := by decide +kernel
theorem dX10_layGroups_65 : decode cX10_layGroups 65 = .ok (.iconst 1, 1) := by decide +kernel
theorem dX10_layGroups_66 : decode cX10_layGroups 66 = .ok (.iadd, 1) := by decide +kernel
theorem dX10_layGroups_67 : decode cX10_layGroups 67 = .ok (.invokestatic 127, 3) := by decide +kernel
theorem dX10_layGroups_70 : decode cX10_layGroups 70 = .ok (.goto 9, 3) := by decide +kernel
theorem dX10_layGroups_73 : decode cX10_layGroups 73 = .ok (.aload_n 0, 1) := by decide +kernel
theorem dX10_layGroups_74 : decode cX10_layGroups 74 = .ok (.getfield 48, 3) := by decide +kernel
theorem dX10_layGroups_77 : decode cX10_layGroups 77 = .ok (.iload_n 1, 1) := by decide +kernel
theorem dX10_layGroups_78 : decode cX10_layGroups 78 = .ok (.iaload, 1) := by decide +kernel
theorem dX10_layGroups_79 : decode cX10_layGroups 79 = .ok (.iastore, 1) := by decide +kernel
theorem dX10_layGroups_80 : decode cX10_layGroups 80 = .ok (.iinc 3 1, 3) := by decide +kernel
theorem dX10_layGroups_83 : decode cX10_layGroups 83 = .ok (.goto (-81), 3) := by decide +kernel
theorem dX10_layGroups_86 : decode cX10_layGroups 86 = .ok (.return_, 1) := by decide +kernel
theorem dX10_settling_0 : decode cX10_settling 0 = .ok (.aload_n 0, 1) := by decide +kernel
theorem dX10_settling_1 : decode cX10_settling 1 = .ok (.invokevirtual 164, 3) := by decide +kernel
theorem dX10_settling_4 : decode cX10_settling 4 = .ok (.ireturn, 1) := by decide +kernel
theorem dX10_ringBy_0 : decode cX10_ringBy 0 = .ok (.iload_n 1, 1) := by decide +kernel
theorem dX10_ringBy_1 : decode cX10_ringBy 1 = .ok (.istore_n 3, 1) := by decide +kernel
theorem dX10_ringBy_2 : decode cX10_ringBy 2 = .ok (.iload_n 2, 1) := by decide +kernel
theorem dX10_ringBy_3 : decode cX10_ringBy 3 = .ok (.iconst 1, 1) := by decide +kernel
theorem dX10_ringBy_4 : decode cX10_ringBy 4 = .ok (.isub, 1) := by decide +kernel
theorem dX10_ringBy_5 : decode cX10_ringBy 5 = .ok (.istore 4, 2) := by decide +kernel
theorem dX10_ringBy_7 : decode cX10_ringBy 7 = .ok (.iload 4, 2) := by decide +kernel
theorem dX10_ringBy_9 : decode cX10_ringBy 9 = .ok (.ifCond .lt 23, 3) := by decide +kernel
theorem dX10_ringBy_12 : decode cX10_ringBy 12 = .ok (.aload_n 0, 1) := by decide +kernel
theorem dX10_ringBy_13 : decode cX10_ringBy 13 = .ok (.getfield 51, 3) := by decide +kernel
theorem dX10_ringBy_16 : decode cX10_ringBy 16 = .ok (.iload 4, 2) := by decide +kernel
theorem dX10_ringBy_18 : decode cX10_ringBy 18 = .ok (.iload_n 3, 1) := by decide +kernel
theorem dX10_ringBy_19 : decode cX10_ringBy 19 = .ok (.iconst 5, 1) := by decide +kernel
theorem dX10_ringBy_20 : decode cX10_ringBy 20 = .ok (.irem, 1) := by decide +kernel
theorem dX10_ringBy_21 : decode cX10_ringBy 21 = .ok (.iastore, 1) := by decide +kernel
theorem dX10_ringBy_22 : decode cX10_ringBy 22 = .ok (.iload_n 3, 1) := by decide +kernel
theorem dX10_ringBy_23 : decode cX10_ringBy 23 = .ok (.iconst 5, 1) := by decide +kernel
theorem dX10_ringBy_24 : decode cX10_ringBy 24 = .ok (.idiv, 1) := by decide +kernel
theorem dX10_ringBy_25 : decode cX10_ringBy 25 = .ok (.istore_n 3, 1) := by decide +kernel
theorem dX10_ringBy_26 : decode cX10_ringBy 26 = .ok (.iinc 4 (-1), 3) := by decide +kernel
theorem dX10_ringBy_29 : decode cX10_ringBy 29 = .ok (.goto (-22), 3) := by decide +kernel
theorem dX10_ringBy_32 : decode cX10_ringBy 32 = .ok (.iconst 1, 1) := by decide +kernel
theorem dX10_ringBy_33 : decode cX10_ringBy 33 = .ok (.istore 4, 2) := by decide +kernel
theorem dX10_ringBy_35 : decode cX10_ringBy 35 = .ok (.iconst 0, 1) := by decide +kernel
theorem dX10_ringBy_36 : decode cX10_ringBy 36 = .ok (.istore 5, 2) := by decide +kernel
theorem dX10_ringBy_38 : decode cX10_ringBy 38 = .ok (.iconst 0, 1) := by decide +kernel
theorem dX10_ringBy_39 : decode cX10_ringBy 39 = .ok (.istore 6, 2) := by decide +kernel
theorem dX10_ringBy_41 : decode cX10_ringBy 41 = .ok (.iload 6, 2) := by decide +kernel
theorem dX10_ringBy_43 : decode cX10_ringBy 43 = .ok (.iload_n 2, 1) := by decide +kernel
theorem dX10_ringBy_44 : decode cX10_ringBy 44 = .ok (.if_icmp .ge 80, 3) := by decide +kernel
theorem dX10_ringBy_47 : decode cX10_ringBy 47 = .ok (.iload 4, 2) := by decide +kernel
theorem dX10_ringBy_49 : decode cX10_ringBy 49 = .ok (.ifCond .eq 52, 3) := by decide +kernel
theorem dX10_ringBy_52 : decode cX10_ringBy 52 = .ok (.aload_n 0, 1) := by decide +kernel
theorem dX10_ringBy_53 : decode cX10_ringBy 53 = .ok (.getfield 51, 3) := by decide +kernel
theorem dX10_ringBy_56 : decode cX10_ringBy 56 = .ok (.iload 6, 2) := by decide +kernel
theorem dX10_ringBy_58 : decode cX10_ringBy 58 = .ok (.iaload, 1) := by decide +kernel
theorem dX10_ringBy_59 : decode cX10_ringBy 59 = .ok (.aload_n 0, 1) := by decide +kernel
theorem dX10_ringBy_60 : decode cX10_ringBy 60 = .ok (.getfield 93, 3) := by decide +kernel
theorem dX10_ringBy_63 : decode cX10_ringBy 63 = .ok (.if_icmp .ge 38, 3) := by decide +kernel
theorem dX10_ringBy_66 : decode cX10_ringBy 66 = .ok (.iload 5, 2) := by decide +kernel
theorem dX10_ringBy_68 : decode cX10_ringBy 68 = .ok (.aload_n 0, 1) := by decide +kernel
theorem dX10_ringBy_69 : decode cX10_ringBy 69 = .ok (.getfield 51, 3) := by decide +kernel
theorem dX10_ringBy_72 : decode cX10_ringBy 72 = .ok (.iload 6, 2) := by decide +kernel
theorem dX10_ringBy_74 : decode cX10_ringBy 74 = .ok (.iaload, 1) := by decide +kernel
theorem dX10_ringBy_75 : decode cX10_ringBy 75 = .ok (.ishr, 1) := by decide +kernel
theorem dX10_ringBy_76 : decode cX10_ringBy 76 = .ok (.iconst 1, 1) := by decide +kernel
theorem dX10_ringBy_77 : decode cX10_ringBy 77 = .ok (.iand, 1) := by decide +kernel
theorem dX10_ringBy_78 : decode cX10_ringBy 78 = .ok (.ifCond .ne 23, 3) := by decide +kernel
theorem dX10_ringBy_81 : decode cX10_ringBy 81 = .ok (.aload_n 0, 1) := by decide +kernel
theorem dX10_ringBy_82 : decode cX10_ringBy 82 = .ok (.getfield 51, 3) := by decide +kernel
theorem dX10_ringBy_85 : decode cX10_ringBy 85 = .ok (.iload 6, 2) := by decide +kernel
theorem dX10_ringBy_87 : decode cX10_ringBy 87 = .ok (.iaload, 1) := by decide +kernel
theorem dX10_ringBy_88 : decode cX10_ringBy 88 = .ok (.aload_n 0, 1) := by decide +kernel
theorem dX10_ringBy_89 : decode cX10_ringBy 89 = .ok (.getfield 51, 3) := by decide +kernel
theorem dX10_ringBy_92 : decode cX10_ringBy 92 = .ok (.iconst 0, 1) := by decide +kernel
theorem dX10_ringBy_93 : decode cX10_ringBy 93 = .ok (.iaload, 1) := by decide +kernel
theorem dX10_ringBy_94 : decode cX10_ringBy 94 = .ok (.if_icmp .lt 7, 3) := by decide +kernel
theorem dX10_ringBy_97 : decode cX10_ringBy 97 = .ok (.iconst 1, 1) := by decide +kernel
theorem dX10_ringBy_98 : decode cX10_ringBy 98 = .ok (.goto 4, 3) := by decide +kernel
theorem dX10_ringBy_101 : decode cX10_ringBy 101 = .ok (.iconst 0, 1) := by decide +kernel
theorem dX10_ringBy_102 : decode cX10_ringBy 102 = .ok (.istore 4, 2) := by decide +kernel
theorem dX10_ringBy_104 : decode cX10_ringBy 104 = .ok (.iload 5, 2) := by decide +kernel
theorem dX10_ringBy_106 : decode cX10_ringBy 106 = .ok (.iconst 1, 1) := by decide +kernel
theorem dX10_ringBy_107 : decode cX10_ringBy 107 = .ok (.aload_n 0, 1) := by decide +kernel
theorem dX10_ringBy_108 : decode cX10_ringBy 108 = .ok (.getfield 51, 3) := by decide +kernel
theorem dX10_ringBy_111 : decode cX10_ringBy 111 = .ok (.iload 6, 2) := by decide +kernel
theorem dX10_ringBy_113 : decode cX10_ringBy 113 = .ok (.iaload, 1) := by decide +kernel
theorem dX10_ringBy_114 : decode cX10_ringBy 114 = .ok (.ishl, 1) := by decide +kernel
theorem dX10_ringBy_115 : decode cX10_ringBy 115 = .ok (.ior, 1) := by decide +kernel
theorem dX10_ringBy_116 : decode cX10_ringBy 116 = .ok (.istore 5, 2) := by decide +kernel
theorem dX10_ringBy_118 : decode cX10_ringBy 118 = .ok (.iinc 6 1, 3) := by decide +kernel
theorem dX10_ringBy_121 : decode cX10_ringBy 121 = .ok (.goto (-80), 3) := by decide +kernel
theorem dX10_ringBy_124 : decode cX10_ringBy 124 = .ok (.ldc 167, 2) := by decide +kernel
theorem dX10_ringBy_126 : decode cX10_ringBy 126 = .ok (.istore 6, 2) := by decide +kernel
theorem dX10_ringBy_128 : decode cX10_ringBy 128 = .ok (.iconst 0, 1) := by decide +kernel
theorem dX10_ringBy_129 : decode cX10_ringBy 129 = .ok (.istore 7, 2) := by decide +kernel
theorem dX10_ringBy_131 : decode cX10_ringBy 131 = .ok (.iload 7, 2) := by decide +kernel
theorem dX10_ringBy_133 : decode cX10_ringBy 133 = .ok (.iload_n 2, 1) := by decide +kernel
theorem dX10_ringBy_134 : decode cX10_ringBy 134 = .ok (.if_icmp .ge 47, 3) := by decide +kernel
theorem dX10_ringBy_137 : decode cX10_ringBy 137 = .ok (.iload 4, 2) := by decide +kernel
theorem dX10_ringBy_139 : decode cX10_ringBy 139 = .ok (.ifCond .eq 42, 3) := by decide +kernel
theorem dX10_ringBy_142 : decode cX10_ringBy 142 = .ok (.iload 6, 2) := by decide +kernel
theorem dX10_ringBy_144 : decode cX10_ringBy 144 = .ok (.aload_n 0, 1) := by decide +kernel
theorem dX10_ringBy_145 : decode cX10_ringBy 145 = .ok (.getfield 23, 3) := by decide +kernel
theorem dX10_ringBy_148 : decode cX10_ringBy 148 = .ok (.iconst 5, 1) := by decide +kernel
theorem dX10_ringBy_149 : decode cX10_ringBy 149 = .ok (.aload_n 0, 1) := by decide +kernel
theorem dX10_ringBy_150 : decode cX10_ringBy 150 = .ok (.getfield 51, 3) := by decide +kernel
theorem dX10_ringBy_153 : decode cX10_ringBy 153 = .ok (.iload 7, 2) := by decide +kernel
theorem dX10_ringBy_155 : decode cX10_ringBy 155 = .ok (.iaload, 1) := by decide +kernel
theorem dX10_ringBy_156 : decode cX10_ringBy 156 = .ok (.imul, 1) := by decide +kernel
theorem dX10_ringBy_157 : decode cX10_ringBy 157 = .ok (.aload_n 0, 1) := by decide +kernel
theorem dX10_ringBy_158 : decode cX10_ringBy 158 = .ok (.getfield 51, 3) := by decide +kernel
theorem dX10_ringBy_161 : decode cX10_ringBy 161 = .ok (.iload 7, 2) := by decide +kernel
theorem dX10_ringBy_163 : decode cX10_ringBy 163 = .ok (.iconst 1, 1) := by decide +kernel
theorem dX10_ringBy_164 : decode cX10_ringBy 164 = .ok (.iadd, 1) := by decide +kernel
theorem dX10_ringBy_165 : decode cX10_ringBy 165 = .ok (.iload_n 2, 1) := by decide +kernel
theorem dX10_ringBy_166 : decode cX10_ringBy 166 = .ok (.irem, 1) := by decide +kernel
theorem dX10_ringBy_167 : decode cX10_ringBy 167 = .ok (.iaload, 1) := by decide +kernel
theorem dX10_ringBy_168 : decode cX10_ringBy 168 = .ok (.iadd, 1) := by decide +kernel
theorem dX10_ringBy_169 : decode cX10_ringBy 169 = .ok (.iaload, 1) := by decide +kernel
theorem dX10_ringBy_170 : decode cX10_ringBy 170 = .ok (.invokestatic 124, 3) := by decide +kernel
theorem dX10_ringBy_173 : decode cX10_ringBy 173 = .ok (.istore 6, 2) := by decide +kernel
theorem dX10_ringBy_175 : decode cX10_ringBy 175 = .ok (.iinc 7 1, 3) := by decide +kernel
theorem dX10_ringBy_178 : decode cX10_ringBy 178 = .ok (.goto (-47), 3) := by decide +kernel
theorem dX10_ringBy_181 : decode cX10_ringBy 181 = .ok (.iload 4, 2) := by decide +kernel
theorem dX10_ringBy_183 : decode cX10_ringBy 183 = .ok (.ifCond .eq 8, 3) := by decide +kernel
theorem dX10_ringBy_186 : decode cX10_ringBy 186 = .ok (.iload 6, 2) := by decide +kernel
theorem dX10_ringBy_188 : decode cX10_ringBy 188 = .ok (.goto 4, 3) := by decide +kernel
theorem dX10_ringBy_191 : decode cX10_ringBy 191 = .ok (.iconst 0, 1) := by decide +kernel
theorem dX10_ringBy_192 : decode cX10_ringBy 192 = .ok (.ireturn, 1) := by decide +kernel
theorem dX10_bestRingNow_0 : decode cX10_bestRingNow 0 = .ok (.iconst 0, 1) := by decide +kernel
theorem dX10_bestRingNow_1 : decode cX10_bestRingNow 1 = .ok (.istore_n 2, 1) := by decide +kernel
theorem dX10_bestRingNow_2 : decode cX10_bestRingNow 2 = .ok (.iconst (-1), 1) := by decide +kernel
theorem dX10_bestRingNow_3 : decode cX10_bestRingNow 3 = .ok (.istore_n 3, 1) := by decide +kernel
theorem dX10_bestRingNow_4 : decode cX10_bestRingNow 4 = .ok (.iconst 0, 1) := by decide +kernel
theorem dX10_bestRingNow_5 : decode cX10_bestRingNow 5 = .ok (.istore 4, 2) := by decide +kernel
theorem dX10_bestRingNow_7 : decode cX10_bestRingNow 7 = .ok (.iconst 5, 1) := by decide +kernel
theorem dX10_bestRingNow_8 : decode cX10_bestRingNow 8 = .ok (.istore 5, 2) := by decide +kernel
theorem dX10_bestRingNow_10 : decode cX10_bestRingNow 10 = .ok (.iconst 2, 1) := by decide +kernel
theorem dX10_bestRingNow_11 : decode cX10_bestRingNow 11 = .ok (.istore 6, 2) := by decide +kernel
theorem dX10_bestRingNow_13 : decode cX10_bestRingNow 13 = .ok (.iload 6, 2) := by decide +kernel
theorem dX10_bestRingNow_15 : decode cX10_bestRingNow 15 = .ok (.iconst 4, 1) := by decide +kernel
theorem dX10_bestRingNow_16 : decode cX10_bestRingNow 16 = .ok (.if_icmp .gt 79, 3) := by decide +kernel
theorem dX10_bestRingNow_19 : decode cX10_bestRingNow 19 = .ok (.iload 5, 2) := by decide +kernel
theorem dX10_bestRingNow_21 : decode cX10_bestRingNow 21 = .ok (.iconst 5, 1) := by decide +kernel
theorem dX10_bestRingNow_22 : decode cX10_bestRingNow 22 = .ok (.imul, 1) := by decide +kernel
theorem dX10_bestRingNow_23 : decode cX10_bestRingNow 23 = .ok (.istore 5, 2) := by decide +kernel
theorem dX10_bestRingNow_25 : decode cX10_bestRingNow 25 = .ok (.iconst 0, 1) := by decide +kernel
theorem dX10_bestRingNow_26 : decode cX10_bestRingNow 26 = .ok (.istore 7, 2) := by decide +kernel
theorem dX10_bestRingNow_28 : decode cX10_bestRingNow 28 = .ok (.iload 7, 2) := by decide +kernel
theorem dX10_bestRingNow_30 : decode cX10_bestRingNow 30 = .ok (.iload 5, 2) := by decide +kernel
theorem dX10_bestRingNow_32 : decode cX10_bestRingNow 32 = .ok (.if_icmp .ge 57, 3) := by decide +kernel
theorem dX10_bestRingNow_35 : decode cX10_bestRingNow 35 = .ok (.iload 6, 2) := by decide +kernel
theorem dX10_bestRingNow_37 : decode cX10_bestRingNow 37 = .ok (.aload_n 0, 1) := by decide +kernel
theorem dX10_bestRingNow_38 : decode cX10_bestRingNow 38 = .ok (.iload 7, 2) := by decide +kernel
theorem dX10_bestRingNow_40 : decode cX10_bestRingNow 40 = .ok (.iload 6, 2) := by decide +kernel
theorem dX10_bestRingNow_42 : decode cX10_bestRingNow 42 = .ok (.invokevirtual 168, 3) := by decide +kernel
theorem dX10_bestRingNow_45 : decode cX10_bestRingNow 45 = .ok (.imul, 1) := by decide +kernel
theorem dX10_bestRingNow_46 : decode cX10_bestRingNow 46 = .ok (.istore 8, 2) := by decide +kernel
theorem dX10_bestRingNow_48 : decode cX10_bestRingNow 48 = .ok (.iload 8, 2) := by decide +kernel
theorem dX10_bestRingNow_50 : decode cX10_bestRingNow 50 = .ok (.iload_n 2, 1) := by decide +kernel
theorem dX10_bestRingNow_51 : decode cX10_bestRingNow 51 = .ok (.if_icmp .le 8, 3) := by decide +kernel
theorem dX10_bestRingNow_54 : decode cX10_bestRingNow 54 = .ok (.iload 7, 2) := by decide +kernel
theorem dX10_bestRingNow_56 : decode cX10_bestRingNow 56 = .ok (.goto 4, 3) := by decide +kernel
theorem dX10_bestRingNow_59 : decode cX10_bestRingNow 59 = .ok (.iload_n 3, 1) := by decide +kernel
theorem dX10_bestRingNow_60 : decode cX10_bestRingNow 60 = .ok (.istore_n 3, 1) := by decide +kernel
theorem dX10_bestRingNow_61 : decode cX10_bestRingNow 61 = .ok (.iload 8, 2) := by decide +kernel
theorem dX10_bestRingNow_63 : decode cX10_bestRingNow 63 = .ok (.iload_n 2, 1) := by decide +kernel
theorem dX10_bestRingNow_64 : decode cX10_bestRingNow 64 = .ok (.if_icmp .le 8, 3) := by decide +kernel
theorem dX10_bestRingNow_67 : decode cX10_bestRingNow 67 = .ok (.iload 6, 2) := by decide +kernel
theorem dX10_bestRingNow_69 : decode cX10_bestRingNow 69 = .ok (.goto 5, 3) := by decide +kernel
theorem dX10_bestRingNow_72 : decode cX10_bestRingNow 72 = .ok (.iload 4, 2) := by decide +kernel
theorem dX10_bestRingNow_74 : decode cX10_bestRingNow 74 = .ok (.istore 4, 2) := by decide +kernel
theorem dX10_bestRingNow_76 : decode cX10_bestRingNow 76 = .ok (.iload_n 2, 1) := by decide +kernel
theorem dX10_bestRingNow_77 : decode cX10_bestRingNow 77 = .ok (.iload 8, 2) := by decide +kernel
theorem dX10_bestRingNow_79 : decode cX10_bestRingNow 79 = .ok (.invokestatic 127, 3) := by decide +kernel
theorem dX10_bestRingNow_82 : decode cX10_bestRingNow 82 = .ok (.istore_n 2, 1) := by decide +kernel
theorem dX10_bestRingNow_83 : decode cX10_bestRingNow 83 = .ok (.iinc 7 1, 3) := by decide +kernel
theorem dX10_bestRingNow_86 : decode cX10_bestRingNow 86 = .ok (.goto (-58), 3) := by decide +kernel
theorem dX10_bestRingNow_89 : decode cX10_bestRingNow 89 = .ok (.iinc 6 1, 3) := by decide +kernel
theorem dX10_bestRingNow_92 : decode cX10_bestRingNow 92 = .ok (.goto (-79), 3) := by decide +kernel
theorem dX10_bestRingNow_95 : decode cX10_bestRingNow 95 = .ok (.iload_n 1, 1) := by decide +kernel
theorem dX10_bestRingNow_96 : decode cX10_bestRingNow 96 = .ok (.iconst 2, 1) := by decide +kernel
theorem dX10_bestRingNow_97 : decode cX10_bestRingNow 97 = .ok (.if_icmp .ge 14, 3) := by decide +kernel
theorem dX10_bestRingNow_100 : decode cX10_bestRingNow 100 = .ok (.iload_n 1, 1) := by decide +kernel
theorem dX10_bestRingNow_101 : decode cX10_bestRingNow 101 = .ok (.ifCond .ne 7, 3) := by decide +kernel
theorem dX10_bestRingNow_104 : decode cX10_bestRingNow 104 = .ok (.iload_n 2, 1) := by decide +kernel
theorem dX10_bestRingNow_105 : decode cX10_bestRingNow 105 = .ok (.goto 5, 3) := by decide +kernel
theorem dX10_bestRingNow_108 : decode cX10_bestRingNow 108 = .ok (.iload 4, 2) := by decide +kernel
theorem dX10_bestRingNow_110 : decode cX10_bestRingNow 110 = .ok (.ireturn, 1) := by decide +kernel
theorem dX10_bestRingNow_111 : decode cX10_bestRingNow 111 = .ok (.iload_n 1, 1) := by decide +kernel
theorem dX10_bestRingNow_112 : decode cX10_bestRingNow 112 = .ok (.bipush 10, 2) := by decide +kernel
theorem dX10_bestRingNow_114 : decode cX10_bestRingNow 114 = .ok (.isub, 1) := by decide +kernel
theorem dX10_bestRingNow_115 : decode cX10_bestRingNow 115 = .ok (.iload 4, 2) := by decide +kernel
theorem dX10_bestRingNow_117 : decode cX10_bestRingNow 117 = .ok (.if_icmp .lt 5, 3) := by decide +kernel
theorem dX10_bestRingNow_120 : decode cX10_bestRingNow 120 = .ok (.iconst (-1), 1) := by decide +kernel
theorem dX10_bestRingNow_121 : decode cX10_bestRingNow 121 = .ok (.ireturn, 1) := by decide +kernel
theorem dX10_bestRingNow_122 : decode cX10_bestRingNow 122 = .ok (.aload_n 0, 1) := by decide +kernel
theorem dX10_bestRingNow_123 : decode cX10_bestRingNow 123 = .ok (.iload_n 3, 1) := by decide +kernel
theorem dX10_bestRingNow_124 : decode cX10_bestRingNow 124 = .ok (.iload 4, 2) := by decide +kernel
theorem dX10_bestRingNow_126 : decode cX10_bestRingNow 126 = .ok (.invokevirtual 168, 3) := by decide +kernel
theorem dX10_bestRingNow_129 : decode cX10_bestRingNow 129 = .ok (.pop, 1) := by decide +kernel
theorem dX10_bestRingNow_130 : decode cX10_bestRingNow 130 = .ok (.aload_n 0, 1) := by decide +kernel
theorem dX10_bestRingNow_131 : decode cX10_bestRingNow 131 = .ok (.getfield 51, 3) := by decide +kernel
theorem dX10_bestRingNow_134 : decode cX10_bestRingNow 134 = .ok (.iload_n 1, 1) := by decide +kernel
theorem dX10_bestRingNow_135 : decode cX10_bestRingNow 135 = .ok (.bipush 10, 2) := by decide +kernel
theorem dX10_bestRingNow_137 : decode cX10_bestRingNow 137 = .ok (.isub, 1) := by decide +kernel
theorem dX10_bestRingNow_138 : decode cX10_bestRingNow 138 = .ok (.iaload, 1) := by decide +kernel
theorem dX10_bestRingNow_139 : decode cX10_bestRingNow 139 = .ok (.ireturn, 1) := by decide +kernel
theorem dX10_bestRing_0 : decode cX10_bestRing 0 = .ok (.iload_n 1, 1) := by decide +kernel
theorem dX10_bestRing_1 : decode cX10_bestRing 1 = .ok (.iconst 0, 1) := by decide +kernel
theorem dX10_bestRing_2 : decode cX10_bestRing 2 = .ok (.iconst 1, 1) := by decide +kernel
theorem dX10_bestRing_3 : decode cX10_bestRing 3 = .ok (.invokestatic 69, 3) := by decide +kernel
theorem dX10_bestRing_6 : decode cX10_bestRing 6 = .ok (.ifCond .ne 14, 3) := by decide +kernel
theorem dX10_bestRing_9 : decode cX10_bestRing 9 = .ok (.iload_n 1, 1) := by decide +kernel
theorem dX10_bestRing_10 : decode cX10_bestRing 10 = .ok (.bipush 10, 2) := by decide +kernel
theorem dX10_bestRing_12 : decode cX10_bestRing 12 = .ok (.bipush 13, 2) := by decide +kernel
theorem dX10_bestRing_14 : decode cX10_bestRing 14 = .ok (.invokestatic 69, 3) := by decide +kernel
theorem dX10_bestRing_17 : decode cX10_bestRing 17 = .ok (.ifCond .eq 11, 3) := by decide +kernel
theorem dX10_bestRing_20 : decode cX10_bestRing 20 = .ok (.aload_n 0, 1) := by decide +kernel
theorem dX10_bestRing_21 : decode cX10_bestRing 21 = .ok (.iload_n 1, 1) := by decide +kernel
theorem dX10_bestRing_22 : decode cX10_bestRing 22 = .ok (.invokevirtual 171, 3) := by decide +kernel
theorem dX10_bestRing_25 : decode cX10_bestRing 25 = .ok (.goto 5, 3) := by decide +kernel
theorem dX10_bestRing_28 : decode cX10_bestRing 28 = .ok (.bipush (-102), 2) := by decide +kernel
theorem dX10_bestRing_30 : decode cX10_bestRing 30 = .ok (.ireturn, 1) := by decide +kernel
theorem dX10_offer_0 : decode cX10_offer 0 = .ok (.aload_n 0, 1) := by decide +kernel
theorem dX10_offer_1 : decode cX10_offer 1 = .ok (.iload_n 1, 1) := by decide +kernel
theorem dX10_offer_2 : decode cX10_offer 2 = .ok (.iload_n 2, 1) := by decide +kernel
theorem dX10_offer_3 : decode cX10_offer 3 = .ok (.invokevirtual 116, 3) := by decide +kernel
theorem dX10_offer_6 : decode cX10_offer 6 = .ok (.ifCond .ne 6, 3) := by decide +kernel
theorem dX10_offer_9 : decode cX10_offer 9 = .ok (.bipush (-101), 2) := by decide +kernel
theorem dX10_offer_11 : decode cX10_offer 11 = .ok (.ireturn, 1) := by decide +kernel
theorem dX10_offer_12 : decode cX10_offer 12 = .ok (.iload_n 3, 1) := by decide +kernel
theorem dX10_offer_13 : decode cX10_offer 13 = .ok (.iconst 1, 1) := by decide +kernel
theorem dX10_offer_14 : decode cX10_offer 14 = .ok (.bipush 99, 2) := by decide +kernel
theorem dX10_offer_16 : decode cX10_offer 16 = .ok (.invokestatic 69, 3) := by decide +kernel
theorem dX10_offer_19 : decode cX10_offer 19 = .ok (.ifCond .ne 6, 3) := by decide +kernel
theorem dX10_offer_22 : decode cX10_offer 22 = .ok (.bipush (-102), 2) := by decide +kernel
theorem dX10_offer_24 : decode cX10_offer 24 = .ok (.ireturn, 1) := by decide +kernel
theorem dX10_offer_25 : decode cX10_offer 25 = .ok (.aload_n 0, 1) := by decide +kernel
theorem dX10_offer_26 : decode cX10_offer 26 = .ok (.getfield 174, 3) := by decide +kernel
theorem dX10_offer_29 : decode cX10_offer 29 = .ok (.bipush 6, 2) := by decide +kernel
theorem dX10_offer_31 : decode cX10_offer 31 = .ok (.if_icmp .ne 6, 3) := by decide +kernel
theorem dX10_offer_34 : decode cX10_offer 34 = .ok (.bipush (-104), 2) := by decide +kernel
theorem dX10_offer_36 : decode cX10_offer 36 = .ok (.ireturn, 1) := by decide +kernel
theorem dX10_offer_37 : decode cX10_offer 37 = .ok (.aload_n 0, 1) := by decide +kernel
theorem dX10_offer_38 : decode cX10_offer 38 = .ok (.getfield 32, 3) := by decide +kernel
theorem dX10_offer_41 : decode cX10_offer 41 = .ok (.aload_n 0, 1) := by decide +kernel
theorem dX10_offer_42 : decode cX10_offer 42 = .ok (.getfield 174, 3) := by decide +kernel
theorem dX10_offer_45 : decode cX10_offer 45 = .ok (.iload_n 1, 1) := by decide +kernel
theorem dX10_offer_46 : decode cX10_offer 46 = .ok (.iastore, 1) := by decide +kernel
theorem dX10_offer_47 : decode cX10_offer 47 = .ok (.aload_n 0, 1) := by decide +kernel
theorem dX10_offer_48 : decode cX10_offer 48 = .ok (.getfield 35, 3) := by decide +kernel
theorem dX10_offer_51 : decode cX10_offer 51 = .ok (.aload_n 0, 1) := by decide +kernel
theorem dX10_offer_52 : decode cX10_offer 52 = .ok (.getfield 174, 3) := by decide +kernel
theorem dX10_offer_55 : decode cX10_offer 55 = .ok (.iload_n 2, 1) := by decide +kernel
theorem dX10_offer_56 : decode cX10_offer 56 = .ok (.iastore, 1) := by decide +kernel
theorem dX10_offer_57 : decode cX10_offer 57 = .ok (.aload_n 0, 1) := by decide +kernel
theorem dX10_offer_58 : decode cX10_offer 58 = .ok (.getfield 38, 3) := by decide +kernel
theorem dX10_offer_61 : decode cX10_offer 61 = .ok (.aload_n 0, 1) := by decide +kernel
theorem dX10_offer_62 : decode cX10_offer 62 = .ok (.getfield 174, 3) := by decide +kernel
theorem dX10_offer_65 : decode cX10_offer 65 = .ok (.iload_n 3, 1) := by decide +kernel
theorem dX10_offer_66 : decode cX10_offer 66 = .ok (.iastore, 1) := by decide +kernel
theorem dX10_offer_67 : decode cX10_offer 67 = .ok (.aload_n 0, 1) := by decide +kernel
theorem dX10_offer_68 : decode cX10_offer 68 = .ok (.dup, 1) := by decide +kernel
theorem dX10_offer_69 : decode cX10_offer 69 = .ok (.getfield 174, 3) := by decide +kernel
theorem dX10_offer_72 : decode cX10_offer 72 = .ok (.iconst 1, 1) := by decide +kernel
theorem dX10_offer_73 : decode cX10_offer 73 = .ok (.iadd, 1) := by decide +kernel
theorem dX10_offer_74 : decode cX10_offer 74 = .ok (.putfield 174, 3) := by decide +kernel
theorem dX10_offer_77 : decode cX10_offer 77 = .ok (.aload_n 0, 1) := by decide +kernel
theorem dX10_offer_78 : decode cX10_offer 78 = .ok (.getfield 174, 3) := by decide +kernel
theorem dX10_offer_81 : decode cX10_offer 81 = .ok (.ireturn, 1) := by decide +kernel
theorem dX10_forget_0 : decode cX10_forget 0 = .ok (.aload_n 0, 1) := by decide +kernel
theorem dX10_forget_1 : decode cX10_forget 1 = .ok (.getfield 174, 3) := by decide +kernel
theorem dX10_forget_4 : decode cX10_forget 4 = .ok (.istore_n 1, 1) := by decide +kernel
theorem dX10_forget_5 : decode cX10_forget 5 = .ok (.aload_n 0, 1) := by decide +kernel
theorem dX10_forget_6 : decode cX10_forget 6 = .ok (.iconst 0, 1) := by decide +kernel
theorem dX10_forget_7 : decode cX10_forget 7 = .ok (.putfield 174, 3) := by decide +kernel
theorem dX10_forget_10 : decode cX10_forget 10 = .ok (.iload_n 1, 1) := by decide +kernel
theorem dX10_forget_11 : decode cX10_forget 11 = .ok (.ireturn, 1) := by decide +kernel
theorem dX10_owesBy_0 : decode cX10_owesBy 0 = .ok (.aload_n 0, 1) := by decide +kernel
theorem dX10_owesBy_1 : decode cX10_owesBy 1 = .ok (.invokevirtual 151, 3) := by decide +kernel
theorem dX10_owesBy_4 : decode cX10_owesBy 4 = .ok (.iconst 0, 1) := by decide +kernel
theorem dX10_owesBy_5 : decode cX10_owesBy 5 = .ok (.istore 5, 2) := by decide +kernel
theorem dX10_owesBy_7 : decode cX10_owesBy 7 = .ok (.iconst 1, 1) := by decide +kernel
theorem dX10_owesBy_8 : decode cX10_owesBy 8 = .ok (.istore 6, 2) := by decide +kernel
theorem dX10_owesBy_10 : decode cX10_owesBy 10 = .ok (.iconst 0, 1) := by decide +kernel
theorem dX10_owesBy_11 : decode cX10_owesBy 11 = .ok (.istore 7, 2) := by decide +kernel
theorem dX10_owesBy_13 : decode cX10_owesBy 13 = .ok (.iload 7, 2) := by decide +kernel
theorem dX10_owesBy_15 : decode cX10_owesBy 15 = .ok (.aload_n 0, 1) := by decide +kernel
theorem dX10_owesBy_16 : decode cX10_owesBy 16 = .ok (.getfield 174, 3) := by decide +kernel
theorem dX10_owesBy_19 : decode cX10_owesBy 19 = .ok (.if_icmp .ge 81, 3) := by decide +kernel
theorem dX10_owesBy_22 : decode cX10_owesBy 22 = .ok (.iload_n 2, 1) := by decide +kernel
theorem dX10_owesBy_23 : decode cX10_owesBy 23 = .ok (.iload 7, 2) := by decide +kernel
theorem dX10_owesBy_25 : decode cX10_owesBy 25 = .ok (.ishr, 1) := by decide +kernel
theorem dX10_owesBy_26 : decode cX10_owesBy 26 = .ok (.iconst 1, 1) := by decide +kernel
theorem dX10_owesBy_27 : decode cX10_owesBy 27 = .ok (.iand, 1) := by decide +kernel
theorem dX10_owesBy_28 : decode cX10_owesBy 28 = .ok (.iconst 1, 1) := by decide +kernel
theorem dX10_owesBy_29 : decode cX10_owesBy 29 = .ok (.if_icmp .ne 65, 3) := by decide +kernel
theorem dX10_owesBy_32 : decode cX10_owesBy 32 = .ok (.iload 6, 2) := by decide +kernel
theorem dX10_owesBy_34 : decode cX10_owesBy 34 = .ok (.ifCond .eq 18, 3) := by decide +kernel
theorem dX10_owesBy_37 : decode cX10_owesBy 37 = .ok (.aload_n 0, 1) := by decide +kernel
theorem dX10_owesBy_38 : decode cX10_owesBy 38 = .ok (.getfield 35, 3) := by decide +kernel
theorem dX10_owesBy_41 : decode cX10_owesBy 41 = .ok (.iload 7, 2) := by decide +kernel
theorem dX10_owesBy_43 : decode cX10_owesBy 43 = .ok (.iaload, 1) := by decide +kernel
theorem dX10_owesBy_44 : decode cX10_owesBy 44 = .ok (.iload_n 1, 1) := by decide +kernel
theorem dX10_owesBy_45 : decode cX10_owesBy 45 = .ok (.if_icmp .ne 7, 3) := by decide +kernel
theorem dX10_owesBy_48 : decode cX10_owesBy 48 = .ok (.iconst 1, 1) := by decide +kernel
theorem dX10_owesBy_49 : decode cX10_owesBy 49 = .ok (.goto 4, 3) := by decide +kernel
theorem dX10_owesBy_52 : decode cX10_owesBy 52 = .ok (.iconst 0, 1) := by decide +kernel
theorem dX10_owesBy_53 : decode cX10_owesBy 53 = .ok (.istore 6, 2) := by decide +kernel
theorem dX10_owesBy_55 : decode cX10_owesBy 55 = .ok (.iload 5, 2) := by decide +kernel
theorem dX10_owesBy_57 : decode cX10_owesBy 57 = .ok (.aload_n 0, 1) := by decide +kernel
theorem dX10_owesBy_58 : decode cX10_owesBy 58 = .ok (.getfield 38, 3) := by decide +kernel
theorem dX10_owesBy_61 : decode cX10_owesBy 61 = .ok (.iload 7, 2) := by decide +kernel
theorem dX10_owesBy_63 : decode cX10_owesBy 63 = .ok (.iaload, 1) := by decide +kernel
theorem dX10_owesBy_64 : decode cX10_owesBy 64 = .ok (.iadd, 1) := by decide +kernel
theorem dX10_owesBy_65 : decode cX10_owesBy 65 = .ok (.istore 5, 2) := by decide +kernel
theorem dX10_owesBy_67 : decode cX10_owesBy 67 = .ok (.aload_n 0, 1) := by decide +kernel
theorem dX10_owesBy_68 : decode cX10_owesBy 68 = .ok (.bipush 25, 2) := by decide +kernel
theorem dX10_owesBy_70 : decode cX10_owesBy 70 = .ok (.aload_n 0, 1) := by decide +kernel
theorem dX10_owesBy_71 : decode cX10_owesBy 71 = .ok (.getfield 35, 3) := by decide +kernel
theorem dX10_owesBy_74 : decode cX10_owesBy 74 = .ok (.iload 7, 2) := by decide +kernel
theorem dX10_owesBy_76 : decode cX10_owesBy 76 = .ok (.iaload, 1) := by decide +kernel
theorem dX10_owesBy_77 : decode cX10_owesBy 77 = .ok (.aload_n 0, 1) := by decide +kernel
theorem dX10_owesBy_78 : decode cX10_owesBy 78 = .ok (.getfield 32, 3) := by decide +kernel
theorem dX10_owesBy_81 : decode cX10_owesBy 81 = .ok (.iload 7, 2) := by decide +kernel
theorem dX10_owesBy_83 : decode cX10_owesBy 83 = .ok (.iaload, 1) := by decide +kernel
theorem dX10_owesBy_84 : decode cX10_owesBy 84 = .ok (.aload_n 0, 1) := by decide +kernel
theorem dX10_owesBy_85 : decode cX10_owesBy 85 = .ok (.getfield 38, 3) := by decide +kernel
theorem dX10_owesBy_88 : decode cX10_owesBy 88 = .ok (.iload 7, 2) := by decide +kernel
theorem dX10_owesBy_90 : decode cX10_owesBy 90 = .ok (.iaload, 1) := by decide +kernel
theorem dX10_owesBy_91 : decode cX10_owesBy 91 = .ok (.invokevirtual 133, 3) := by decide +kernel
theorem dX10_owesBy_94 : decode cX10_owesBy 94 = .ok (.iinc 7 1, 3) := by decide +kernel
theorem dX10_owesBy_97 : decode cX10_owesBy 97 = .ok (.goto (-84), 3) := by decide +kernel
theorem dX10_owesBy_100 : decode cX10_owesBy 100 = .ok (.iload 6, 2) := by decide +kernel
theorem dX10_owesBy_102 : decode cX10_owesBy 102 = .ok (.ifCond .eq 9, 3) := by decide +kernel
theorem dX10_owesBy_105 : decode cX10_owesBy 105 = .ok (.iload 5, 2) := by decide +kernel
theorem dX10_owesBy_107 : decode cX10_owesBy 107 = .ok (.iload_n 3, 1) := by decide +kernel
theorem dX10_owesBy_108 : decode cX10_owesBy 108 = .ok (.if_icmp .ge 6, 3) := by decide +kernel
theorem dX10_owesBy_111 : decode cX10_owesBy 111 = .ok (.ldc 167, 2) := by decide +kernel
theorem dX10_owesBy_113 : decode cX10_owesBy 113 = .ok (.ireturn, 1) := by decide +kernel
theorem dX10_owesBy_114 : decode cX10_owesBy 114 = .ok (.iconst 0, 1) := by decide +kernel
theorem dX10_owesBy_115 : decode cX10_owesBy 115 = .ok (.istore 7, 2) := by decide +kernel
theorem dX10_owesBy_117 : decode cX10_owesBy 117 = .ok (.iload 7, 2) := by decide +kernel
theorem dX10_owesBy_119 : decode cX10_owesBy 119 = .ok (.iload 4, 2) := by decide +kernel
theorem dX10_owesBy_121 : decode cX10_owesBy 121 = .ok (.if_icmp .ge 16, 3) := by decide +kernel
theorem dX10_owesBy_124 : decode cX10_owesBy 124 = .ok (.aload_n 0, 1) := by decide +kernel
theorem dX10_owesBy_125 : decode cX10_owesBy 125 = .ok (.bipush 25, 2) := by decide +kernel
theorem dX10_owesBy_127 : decode cX10_owesBy 127 = .ok (.invokevirtual 147, 3) := by decide +kernel
theorem dX10_owesBy_130 : decode cX10_owesBy 130 = .ok (.pop, 1) := by decide +kernel
theorem dX10_owesBy_131 : decode cX10_owesBy 131 = .ok (.iinc 7 1, 3) := by decide +kernel
theorem dX10_owesBy_134 : decode cX10_owesBy 134 = .ok (.goto (-17), 3) := by decide +kernel
theorem dX10_owesBy_137 : decode cX10_owesBy 137 = .ok (.aload_n 0, 1) := by decide +kernel
theorem dX10_owesBy_138 : decode cX10_owesBy 138 = .ok (.bipush 25, 2) := by decide +kernel
theorem dX10_owesBy_140 : decode cX10_owesBy 140 = .ok (.iload_n 1, 1) := by decide +kernel
theorem dX10_owesBy_141 : decode cX10_owesBy 141 = .ok (.invokevirtual 107, 3) := by decide +kernel
theorem dX10_owesBy_144 : decode cX10_owesBy 144 = .ok (.ireturn, 1) := by decide +kernel
theorem dX10_acceptNow_0 : decode cX10_acceptNow 0 = .ok (.iconst (-1), 1) := by decide +kernel
theorem dX10_acceptNow_1 : decode cX10_acceptNow 1 = .ok (.istore 5, 2) := by decide +kernel
theorem dX10_acceptNow_3 : decode cX10_acceptNow 3 = .ok (.ldc 167, 2) := by decide +kernel
theorem dX10_acceptNow_5 : decode cX10_acceptNow 5 = .ok (.istore 6, 2) := by decide +kernel
theorem dX10_acceptNow_7 : decode cX10_acceptNow 7 = .ok (.iconst 0, 1) := by decide +kernel
theorem dX10_acceptNow_8 : decode cX10_acceptNow 8 = .ok (.istore 7, 2) := by decide +kernel
theorem dX10_acceptNow_10 : decode cX10_acceptNow 10 = .ok (.iload 7, 2) := by decide +kernel
theorem dX10_acceptNow_12 : decode cX10_acceptNow 12 = .ok (.iconst 1, 1) := by decide +kernel
theorem dX10_acceptNow_13 : decode cX10_acceptNow 13 = .ok (.aload_n 0, 1) := by decide +kernel
theorem dX10_acceptNow_14 : decode cX10_acceptNow 14 = .ok (.getfield 174, 3) := by decide +kernel
theorem dX10_acceptNow_17 : decode cX10_acceptNow 17 = .ok (.ishl, 1) := by decide +kernel
theorem dX10_acceptNow_18 : decode cX10_acceptNow 18 = .ok (.if_icmp .ge 83, 3) := by decide +kernel
theorem dX10_acceptNow_21 : decode cX10_acceptNow 21 = .ok (.aload_n 0, 1) := by decide +kernel
theorem dX10_acceptNow_22 : decode cX10_acceptNow 22 = .ok (.iload_n 1, 1) := by decide +kernel
theorem dX10_acceptNow_23 : decode cX10_acceptNow 23 = .ok (.iload 7, 2) := by decide +kernel
theorem dX10_acceptNow_25 : decode cX10_acceptNow 25 = .ok (.iload_n 2, 1) := by decide +kernel
theorem dX10_acceptNow_26 : decode cX10_acceptNow 26 = .ok (.iload_n 3, 1) := by decide +kernel
theorem dX10_acceptNow_27 : decode cX10_acceptNow 27 = .ok (.invokevirtual 177, 3) := by decide +kernel
theorem dX10_acceptNow_30 : decode cX10_acceptNow 30 = .ok (.istore 8, 2) := by decide +kernel
theorem dX10_acceptNow_32 : decode cX10_acceptNow 32 = .ok (.iload 8, 2) := by decide +kernel
theorem dX10_acceptNow_34 : decode cX10_acceptNow 34 = .ok (.iload 6, 2) := by decide +kernel
theorem dX10_acceptNow_36 : decode cX10_acceptNow 36 = .ok (.if_icmp .ne 26, 3) := by decide +kernel
theorem dX10_acceptNow_39 : decode cX10_acceptNow 39 = .ok (.iload 5, 2) := by decide +kernel
theorem dX10_acceptNow_41 : decode cX10_acceptNow 41 = .ok (.iconst (-1), 1) := by decide +kernel
theorem dX10_acceptNow_42 : decode cX10_acceptNow 42 = .ok (.if_icmp .eq 20, 3) := by decide +kernel
theorem dX10_acceptNow_45 : decode cX10_acceptNow 45 = .ok (.iload 7, 2) := by decide +kernel
theorem dX10_acceptNow_47 : decode cX10_acceptNow 47 = .ok (.invokestatic 161, 3) := by decide +kernel
theorem dX10_acceptNow_50 : decode cX10_acceptNow 50 = .ok (.iload 5, 2) := by decide +kernel
theorem dX10_acceptNow_52 : decode cX10_acceptNow 52 = .ok (.invokestatic 161, 3) := by decide +kernel
theorem dX10_acceptNow_55 : decode cX10_acceptNow 55 = .ok (.if_icmp .ge 7, 3) := by decide +kernel
theorem dX10_acceptNow_58 : decode cX10_acceptNow 58 = .ok (.iconst 1, 1) := by decide +kernel
theorem dX10_acceptNow_59 : decode cX10_acceptNow 59 = .ok (.goto 4, 3) := by decide +kernel
theorem dX10_acceptNow_62 : decode cX10_acceptNow 62 = .ok (.iconst 0, 1) := by decide +kernel
theorem dX10_acceptNow_63 : decode cX10_acceptNow 63 = .ok (.istore 9, 2) := by decide +kernel
theorem dX10_acceptNow_65 : decode cX10_acceptNow 65 = .ok (.iload 8, 2) := by decide +kernel
theorem dX10_acceptNow_67 : decode cX10_acceptNow 67 = .ok (.iload 6, 2) := by decide +kernel
theorem dX10_acceptNow_69 : decode cX10_acceptNow 69 = .ok (.if_icmp .lt 8, 3) := by decide +kernel
theorem dX10_acceptNow_72 : decode cX10_acceptNow 72 = .ok (.iload 9, 2) := by decide +kernel
theorem dX10_acceptNow_74 : decode cX10_acceptNow 74 = .ok (.ifCond .eq 8, 3) := by decide +kernel
theorem dX10_acceptNow_77 : decode cX10_acceptNow 77 = .ok (.iload 7, 2) := by decide +kernel
theorem dX10_acceptNow_79 : decode cX10_acceptNow 79 = .ok (.goto 5, 3) := by decide +kernel
theorem dX10_acceptNow_82 : decode cX10_acceptNow 82 = .ok (.iload 5, 2) := by decide +kernel
theorem dX10_acceptNow_84 : decode cX10_acceptNow 84 = .ok (.istore 5, 2) := by decide +kernel
theorem dX10_acceptNow_86 : decode cX10_acceptNow 86 = .ok (.iload 6, 2) := by decide +kernel
theorem dX10_acceptNow_88 : decode cX10_acceptNow 88 = .ok (.iload 8, 2) := by decide +kernel
theorem dX10_acceptNow_90 : decode cX10_acceptNow 90 = .ok (.invokestatic 124, 3) := by decide +kernel
theorem dX10_acceptNow_93 : decode cX10_acceptNow 93 = .ok (.istore 6, 2) := by decide +kernel
theorem dX10_acceptNow_95 : decode cX10_acceptNow 95 = .ok (.iinc 7 1, 3) := by decide +kernel
theorem dX10_acceptNow_98 : decode cX10_acceptNow 98 = .ok (.goto (-88), 3) := by decide +kernel
theorem dX10_acceptNow_101 : decode cX10_acceptNow 101 = .ok (.iload 5, 2) := by decide +kernel
theorem dX10_acceptNow_103 : decode cX10_acceptNow 103 = .ok (.iconst (-1), 1) := by decide +kernel
theorem dX10_acceptNow_104 : decode cX10_acceptNow 104 = .ok (.if_icmp .eq 8, 3) := by decide +kernel
theorem dX10_acceptNow_107 : decode cX10_acceptNow 107 = .ok (.iload 4, 2) := by decide +kernel
theorem dX10_acceptNow_109 : decode cX10_acceptNow 109 = .ok (.ifCond .ne 8, 3) := by decide +kernel
theorem dX10_acceptNow_112 : decode cX10_acceptNow 112 = .ok (.iload 5, 2) := by decide +kernel
theorem dX10_acceptNow_114 : decode cX10_acceptNow 114 = .ok (.goto 5, 3) := by decide +kernel
theorem dX10_acceptNow_117 : decode cX10_acceptNow 117 = .ok (.iload 6, 2) := by decide +kernel
theorem dX10_acceptNow_119 : decode cX10_acceptNow 119 = .ok (.ireturn, 1) := by decide +kernel
theorem dX10_accept_0 : decode cX10_accept 0 = .ok (.aload_n 0, 1) := by decide +kernel
theorem dX10_accept_1 : decode cX10_accept 1 = .ok (.iload_n 1, 1) := by decide +kernel
theorem dX10_accept_2 : decode cX10_accept 2 = .ok (.invokevirtual 96, 3) := by decide +kernel
theorem dX10_accept_5 : decode cX10_accept 5 = .ok (.ifCond .ne 6, 3) := by decide +kernel
theorem dX10_accept_8 : decode cX10_accept 8 = .ok (.bipush (-101), 2) := by decide +kernel
theorem dX10_accept_10 : decode cX10_accept 10 = .ok (.ireturn, 1) := by decide +kernel
theorem dX10_accept_11 : decode cX10_accept 11 = .ok (.iload_n 2, 1) := by decide +kernel
theorem dX10_accept_12 : decode cX10_accept 12 = .ok (.iconst 1, 1) := by decide +kernel
theorem dX10_accept_13 : decode cX10_accept 13 = .ok (.sipush 500, 3) := by decide +kernel
theorem dX10_accept_16 : decode cX10_accept 16 = .ok (.invokestatic 69, 3) := by decide +kernel
theorem dX10_accept_19 : decode cX10_accept 19 = .ok (.ifCond .eq 35, 3) := by decide +kernel
theorem dX10_accept_22 : decode cX10_accept 22 = .ok (.iload_n 3, 1) := by decide +kernel
theorem dX10_accept_23 : decode cX10_accept 23 = .ok (.iconst 0, 1) := by decide +kernel
theorem dX10_accept_24 : decode cX10_accept 24 = .ok (.bipush 20, 2) := by decide +kernel
theorem dX10_accept_26 : decode cX10_accept 26 = .ok (.invokestatic 69, 3) := by decide +kernel
theorem dX10_accept_29 : decode cX10_accept 29 = .ok (.ifCond .eq 25, 3) := by decide +kernel
theorem dX10_accept_32 : decode cX10_accept 32 = .ok (.iload 4, 2) := by decide +kernel
theorem dX10_accept_34 : decode cX10_accept 34 = .ok (.iconst 0, 1) := by decide +kernel
theorem dX10_accept_35 : decode cX10_accept 35 = .ok (.iconst 1, 1) := by decide +kernel
theorem dX10_accept_36 : decode cX10_accept 36 = .ok (.invokestatic 69, 3) := by decide +kernel
theorem dX10_accept_39 : decode cX10_accept 39 = .ok (.ifCond .eq 15, 3) := by decide +kernel
theorem dX10_accept_42 : decode cX10_accept 42 = .ok (.aload_n 0, 1) := by decide +kernel
theorem dX10_accept_43 : decode cX10_accept 43 = .ok (.iload_n 1, 1) := by decide +kernel
theorem dX10_accept_44 : decode cX10_accept 44 = .ok (.iload_n 2, 1) := by decide +kernel
theorem dX10_accept_45 : decode cX10_accept 45 = .ok (.iload_n 3, 1) := by decide +kernel
theorem dX10_accept_46 : decode cX10_accept 46 = .ok (.iload 4, 2) := by decide +kernel
theorem dX10_accept_48 : decode cX10_accept 48 = .ok (.invokevirtual 181, 3) := by decide +kernel
theorem dX10_accept_51 : decode cX10_accept 51 = .ok (.goto 5, 3) := by decide +kernel
theorem dX10_accept_54 : decode cX10_accept 54 = .ok (.bipush (-102), 2) := by decide +kernel
theorem dX10_accept_56 : decode cX10_accept 56 = .ok (.ireturn, 1) := by decide +kernel
theorem dX10_grownNow_0 : decode cX10_grownNow 0 = .ok (.iconst 0, 1) := by decide +kernel
theorem dX10_grownNow_1 : decode cX10_grownNow 1 = .ok (.istore 6, 2) := by decide +kernel
theorem dX10_grownNow_3 : decode cX10_grownNow 3 = .ok (.iconst (-1), 1) := by decide +kernel
theorem dX10_grownNow_4 : decode cX10_grownNow 4 = .ok (.istore 7, 2) := by decide +kernel
theorem dX10_grownNow_6 : decode cX10_grownNow 6 = .ok (.bipush 99, 2) := by decide +kernel
theorem dX10_grownNow_8 : decode cX10_grownNow 8 = .ok (.istore 8, 2) := by decide +kernel
theorem dX10_grownNow_10 : decode cX10_grownNow 10 = .ok (.iload 8, 2) := by decide +kernel
theorem dX10_grownNow_12 : decode cX10_grownNow 12 = .ok (.iconst 1, 1) := by decide +kernel
theorem dX10_grownNow_13 : decode cX10_grownNow 13 = .ok (.if_icmp .lt 76, 3) := by decide +kernel
theorem dX10_grownNow_16 : decode cX10_grownNow 16 = .ok (.iload 8, 2) := by decide +kernel
theorem dX10_grownNow_18 : decode cX10_grownNow 18 = .ok (.istore 9, 2) := by decide +kernel
theorem dX10_grownNow_20 : decode cX10_grownNow 20 = .ok (.aload_n 0, 1) := by decide +kernel
theorem dX10_grownNow_21 : decode cX10_grownNow 21 = .ok (.getfield 84, 3) := by decide +kernel
theorem dX10_grownNow_24 : decode cX10_grownNow 24 = .ok (.istore 10, 2) := by decide +kernel
theorem dX10_grownNow_26 : decode cX10_grownNow 26 = .ok (.iload 10, 2) := by decide +kernel
theorem dX10_grownNow_28 : decode cX10_grownNow 28 = .ok (.iload_n 2, 1) := by decide +kernel
theorem dX10_grownNow_29 : decode cX10_grownNow 29 = .ok (.if_icmp .ge 23, 3) := by decide +kernel
theorem dX10_grownNow_32 : decode cX10_grownNow 32 = .ok (.iload 9, 2) := by decide +kernel
theorem dX10_grownNow_34 : decode cX10_grownNow 34 = .ok (.aload_n 0, 1) := by decide +kernel
theorem dX10_grownNow_35 : decode cX10_grownNow 35 = .ok (.iload 9, 2) := by decide +kernel
theorem dX10_grownNow_37 : decode cX10_grownNow 37 = .ok (.iload_n 3, 1) := by decide +kernel
theorem dX10_grownNow_38 : decode cX10_grownNow 38 = .ok (.iload 4, 2) := by decide +kernel
theorem dX10_grownNow_40 : decode cX10_grownNow 40 = .ok (.invokevirtual 141, 3) := by decide +kernel
theorem dX10_grownNow_43 : decode cX10_grownNow 43 = .ok (.iadd, 1) := by decide +kernel
theorem dX10_grownNow_44 : decode cX10_grownNow 44 = .ok (.istore 9, 2) := by decide +kernel
theorem dX10_grownNow_46 : decode cX10_grownNow 46 = .ok (.iinc 10 1, 3) := by decide +kernel
theorem dX10_grownNow_49 : decode cX10_grownNow 49 = .ok (.goto (-23), 3) := by decide +kernel
theorem dX10_grownNow_52 : decode cX10_grownNow 52 = .ok (.iload 6, 2) := by decide +kernel
theorem dX10_grownNow_54 : decode cX10_grownNow 54 = .ok (.iload 9, 2) := by decide +kernel
theorem dX10_grownNow_56 : decode cX10_grownNow 56 = .ok (.iload_n 1, 1) := by decide +kernel
theorem dX10_grownNow_57 : decode cX10_grownNow 57 = .ok (.if_icmp .ne 7, 3) := by decide +kernel
theorem dX10_grownNow_60 : decode cX10_grownNow 60 = .ok (.iconst 1, 1) := by decide +kernel
theorem dX10_grownNow_61 : decode cX10_grownNow 61 = .ok (.goto 4, 3) := by decide +kernel
theorem dX10_grownNow_64 : decode cX10_grownNow 64 = .ok (.iconst 0, 1) := by decide +kernel
theorem dX10_grownNow_65 : decode cX10_grownNow 65 = .ok (.iadd, 1) := by decide +kernel
theorem dX10_grownNow_66 : decode cX10_grownNow 66 = .ok (.istore 6, 2) := by decide +kernel
theorem dX10_grownNow_68 : decode cX10_grownNow 68 = .ok (.iload 9, 2) := by decide +kernel
theorem dX10_grownNow_70 : decode cX10_grownNow 70 = .ok (.iload_n 1, 1) := by decide +kernel
theorem dX10_grownNow_71 : decode cX10_grownNow 71 = .ok (.if_icmp .ne 8, 3) := by decide +kernel
theorem dX10_grownNow_74 : decode cX10_grownNow 74 = .ok (.iload 8, 2) := by decide +kernel
theorem dX10_grownNow_76 : decode cX10_grownNow 76 = .ok (.goto 5, 3) := by decide +kernel
theorem dX10_grownNow_79 : decode cX10_grownNow 79 = .ok (.iload 7, 2) := by decide +kernel
theorem dX10_grownNow_81 : decode cX10_grownNow 81 = .ok (.istore 7, 2) := by decide +kernel
theorem dX10_grownNow_83 : decode cX10_grownNow 83 = .ok (.iinc 8 (-1), 3) := by decide +kernel
theorem dX10_grownNow_86 : decode cX10_grownNow 86 = .ok (.goto (-76), 3) := by decide +kernel
theorem dX10_grownNow_89 : decode cX10_grownNow 89 = .ok (.iload 5, 2) := by decide +kernel
theorem dX10_grownNow_91 : decode cX10_grownNow 91 = .ok (.ifCond .ne 8, 3) := by decide +kernel
theorem dX10_grownNow_94 : decode cX10_grownNow 94 = .ok (.iload 6, 2) := by decide +kernel
theorem dX10_grownNow_96 : decode cX10_grownNow 96 = .ok (.goto 5, 3) := by decide +kernel
theorem dX10_grownNow_99 : decode cX10_grownNow 99 = .ok (.iload 7, 2) := by decide +kernel
theorem dX10_grownNow_101 : decode cX10_grownNow 101 = .ok (.ireturn, 1) := by decide +kernel
theorem dX10_grown_0 : decode cX10_grown 0 = .ok (.iload_n 1, 1) := by decide +kernel
theorem dX10_grown_1 : decode cX10_grown 1 = .ok (.iconst 0, 1) := by decide +kernel
theorem dX10_grown_2 : decode cX10_grown 2 = .ok (.sipush 9999, 3) := by decide +kernel
theorem dX10_grown_5 : decode cX10_grown 5 = .ok (.invokestatic 69, 3) := by decide +kernel
theorem dX10_grown_8 : decode cX10_grown 8 = .ok (.ifCond .eq 42, 3) := by decide +kernel
theorem dX10_grown_11 : decode cX10_grown 11 = .ok (.iload_n 2, 1) := by decide +kernel
theorem dX10_grown_12 : decode cX10_grown 12 = .ok (.iconst 0, 1) := by decide +kernel
theorem dX10_grown_13 : decode cX10_grown 13 = .ok (.bipush 40, 2) := by decide +kernel
theorem dX10_grown_15 : decode cX10_grown 15 = .ok (.invokestatic 69, 3) := by decide +kernel
theorem dX10_grown_18 : decode cX10_grown 18 = .ok (.ifCond .eq 32, 3) := by decide +kernel
theorem dX10_grown_21 : decode cX10_grown 21 = .ok (.iload_n 3, 1) := by decide +kernel
theorem dX10_grown_22 : decode cX10_grown 22 = .ok (.iconst 0, 1) := by decide +kernel
theorem dX10_grown_23 : decode cX10_grown 23 = .ok (.iconst 4, 1) := by decide +kernel
theorem dX10_grown_24 : decode cX10_grown 24 = .ok (.invokestatic 69, 3) := by decide +kernel
theorem dX10_grown_27 : decode cX10_grown 27 = .ok (.ifCond .eq 23, 3) := by decide +kernel
theorem dX10_grown_30 : decode cX10_grown 30 = .ok (.iload 4, 2) := by decide +kernel
theorem dX10_grown_32 : decode cX10_grown 32 = .ok (.iconst 0, 1) := by decide +kernel
theorem dX10_grown_33 : decode cX10_grown 33 = .ok (.iconst 4, 1) := by decide +kernel
theorem dX10_grown_34 : decode cX10_grown 34 = .ok (.invokestatic 69, 3) := by decide +kernel
theorem dX10_grown_37 : decode cX10_grown 37 = .ok (.ifCond .eq 13, 3) := by decide +kernel
theorem dX10_grown_40 : decode cX10_grown 40 = .ok (.iload 5, 2) := by decide +kernel
theorem dX10_grown_42 : decode cX10_grown 42 = .ok (.iconst 0, 1) := by decide +kernel
theorem dX10_grown_43 : decode cX10_grown 43 = .ok (.iconst 1, 1) := by decide +kernel
theorem dX10_grown_44 : decode cX10_grown 44 = .ok (.invokestatic 69, 3) := by decide +kernel
theorem dX10_grown_47 : decode cX10_grown 47 = .ok (.ifCond .ne 6, 3) := by decide +kernel
theorem dX10_grown_50 : decode cX10_grown 50 = .ok (.bipush (-102), 2) := by decide +kernel
theorem dX10_grown_52 : decode cX10_grown 52 = .ok (.ireturn, 1) := by decide +kernel
theorem dX10_grown_53 : decode cX10_grown 53 = .ok (.aload_n 0, 1) := by decide +kernel
theorem dX10_grown_54 : decode cX10_grown 54 = .ok (.iload_n 1, 1) := by decide +kernel
theorem dX10_grown_55 : decode cX10_grown 55 = .ok (.iload_n 2, 1) := by decide +kernel
theorem dX10_grown_56 : decode cX10_grown 56 = .ok (.iload_n 3, 1) := by decide +kernel
theorem dX10_grown_57 : decode cX10_grown 57 = .ok (.iload 4, 2) := by decide +kernel
theorem dX10_grown_59 : decode cX10_grown 59 = .ok (.iload 5, 2) := by decide +kernel
theorem dX10_grown_61 : decode cX10_grown 61 = .ok (.invokevirtual 184, 3) := by decide +kernel
theorem dX10_grown_64 : decode cX10_grown 64 = .ok (.ireturn, 1) := by decide +kernel
theorem dX10_draw_0 : decode cX10_draw 0 = .ok (.aload_n 0, 1) := by decide +kernel
theorem dX10_draw_1 : decode cX10_draw 1 = .ok (.ldc2_w 188, 3) := by decide +kernel
theorem dX10_draw_4 : decode cX10_draw 4 = .ok (.aload_n 0, 1) := by decide +kernel
theorem dX10_draw_5 : decode cX10_draw 5 = .ok (.getfield 190, 3) := by decide +kernel
theorem dX10_draw_8 : decode cX10_draw 8 = .ok (.lmul, 1) := by decide +kernel
theorem dX10_draw_9 : decode cX10_draw 9 = .ok (.ldc2_w 194, 3) := by decide +kernel
theorem dX10_draw_12 : decode cX10_draw 12 = .ok (.ladd, 1) := by decide +kernel
theorem dX10_draw_13 : decode cX10_draw 13 = .ok (.ldc2_w 196, 3) := by decide +kernel
theorem dX10_draw_16 : decode cX10_draw 16 = .ok (.land, 1) := by decide +kernel
theorem dX10_draw_17 : decode cX10_draw 17 = .ok (.putfield 190, 3) := by decide +kernel
theorem dX10_draw_20 : decode cX10_draw 20 = .ok (.aload_n 0, 1) := by decide +kernel
theorem dX10_draw_21 : decode cX10_draw 21 = .ok (.getfield 190, 3) := by decide +kernel
theorem dX10_draw_24 : decode cX10_draw 24 = .ok (.ldc2_w 198, 3) := by decide +kernel
theorem dX10_draw_27 : decode cX10_draw 27 = .ok (.ldiv, 1) := by decide +kernel
theorem dX10_draw_28 : decode cX10_draw 28 = .ok (.iload_n 1, 1) := by decide +kernel
theorem dX10_draw_29 : decode cX10_draw 29 = .ok (.i2l, 1) := by decide +kernel
theorem dX10_draw_30 : decode cX10_draw 30 = .ok (.lrem, 1) := by decide +kernel
theorem dX10_draw_31 : decode cX10_draw 31 = .ok (.l2i, 1) := by decide +kernel
theorem dX10_draw_32 : decode cX10_draw 32 = .ok (.ireturn, 1) := by decide +kernel
theorem dX10_goYear_0 : decode cX10_goYear 0 = .ok (.aload_n 0, 1) := by decide +kernel
theorem dX10_goYear_1 : decode cX10_goYear 1 = .ok (.aload_n 0, 1) := by decide +kernel
theorem dX10_goYear_2 : decode cX10_goYear 2 = .ok (.getfield 93, 3) := by decide +kernel
theorem dX10_goYear_5 : decode cX10_goYear 5 = .ok (.invokevirtual 200, 3) := by decide +kernel
theorem dX10_goYear_8 : decode cX10_goYear 8 = .ok (.istore_n 1, 1) := by decide +kernel
theorem dX10_goYear_9 : decode cX10_goYear 9 = .ok (.aload_n 0, 1) := by decide +kernel
theorem dX10_goYear_10 : decode cX10_goYear 10 = .ok (.aload_n 0, 1) := by decide +kernel
theorem dX10_goYear_11 : decode cX10_goYear 11 = .ok (.getfield 93, 3) := by decide +kernel
theorem dX10_goYear_14 : decode cX10_goYear 14 = .ok (.invokevirtual 200, 3) := by decide +kernel
theorem dX10_goYear_17 : decode cX10_goYear 17 = .ok (.istore_n 2, 1) := by decide +kernel
theorem dX10_goYear_18 : decode cX10_goYear 18 = .ok (.iconst 1, 1) := by decide +kernel
theorem dX10_goYear_19 : decode cX10_goYear 19 = .ok (.aload_n 0, 1) := by decide +kernel
theorem dX10_goYear_20 : decode cX10_goYear 20 = .ok (.bipush 9, 2) := by decide +kernel
theorem dX10_goYear_22 : decode cX10_goYear 22 = .ok (.invokevirtual 200, 3) := by decide +kernel
theorem dX10_goYear_25 : decode cX10_goYear 25 = .ok (.iadd, 1) := by decide +kernel
theorem dX10_goYear_26 : decode cX10_goYear 26 = .ok (.istore_n 3, 1) := by decide +kernel
theorem dX10_goYear_27 : decode cX10_goYear 27 = .ok (.iload_n 1, 1) := by decide +kernel
theorem dX10_goYear_28 : decode cX10_goYear 28 = .ok (.iload_n 2, 1) := by decide +kernel
theorem dX10_goYear_29 : decode cX10_goYear 29 = .ok (.if_icmp .eq 68, 3) := by decide +kernel
theorem dX10_goYear_32 : decode cX10_goYear 32 = .ok (.aload_n 0, 1) := by decide +kernel
theorem dX10_goYear_33 : decode cX10_goYear 33 = .ok (.getfield 29, 3) := by decide +kernel
theorem dX10_goYear_36 : decode cX10_goYear 36 = .ok (.bipush 25, 2) := by decide +kernel
theorem dX10_goYear_38 : decode cX10_goYear 38 = .ok (.iconst 5, 1) := by decide +kernel
theorem dX10_goYear_39 : decode cX10_goYear 39 = .ok (.iload_n 1, 1) := by decide +kernel
theorem dX10_goYear_40 : decode cX10_goYear 40 = .ok (.imul, 1) := by decide +kernel
theorem dX10_goYear_41 : decode cX10_goYear 41 = .ok (.iadd, 1) := by decide +kernel
theorem dX10_goYear_42 : decode cX10_goYear 42 = .ok (.iload_n 2, 1) := by decide +kernel
theorem dX10_goYear_43 : decode cX10_goYear 43 = .ok (.iadd, 1) := by decide +kernel
theorem dX10_goYear_44 : decode cX10_goYear 44 = .ok (.iaload, 1) := by decide +kernel
theorem dX10_goYear_45 : decode cX10_goYear 45 = .ok (.ifCond .ne 52, 3) := by decide +kernel
theorem dX10_goYear_48 : decode cX10_goYear 48 = .ok (.aload_n 0, 1) := by decide +kernel
theorem dX10_goYear_49 : decode cX10_goYear 49 = .ok (.iload_n 2, 1) := by decide +kernel
theorem dX10_goYear_50 : decode cX10_goYear 50 = .ok (.invokevirtual 130, 3) := by decide +kernel
theorem dX10_goYear_53 : decode cX10_goYear 53 = .ok (.ifCond .ne 16, 3) := by decide +kernel
theorem dX10_goYear_56 : decode cX10_goYear 56 = .ok (.aload_n 0, 1) := by decide +kernel
theorem dX10_goYear_57 : decode cX10_goYear 57 = .ok (.iconst 2, 1) := by decide +kernel
theorem dX10_goYear_58 : decode cX10_goYear 58 = .ok (.invokevirtual 200, 3) := by decide +kernel
theorem dX10_goYear_61 : decode cX10_goYear 61 = .ok (.iconst 1, 1) := by decide +kernel
theorem dX10_goYear_62 : decode cX10_goYear 62 = .ok (.if_icmp .ne 7, 3) := by decide +kernel
theorem dX10_goYear_65 : decode cX10_goYear 65 = .ok (.iconst 1, 1) := by decide +kernel
theorem dX10_goYear_66 : decode cX10_goYear 66 = .ok (.goto 4, 3) := by decide +kernel
theorem dX10_goYear_69 : decode cX10_goYear 69 = .ok (.iconst 0, 1) := by decide +kernel
theorem dX10_goYear_70 : decode cX10_goYear 70 = .ok (.istore 4, 2) := by decide +kernel
theorem dX10_goYear_72 : decode cX10_goYear 72 = .ok (.iload 4, 2) := by decide +kernel
theorem dX10_goYear_74 : decode cX10_goYear 74 = .ok (.ifCond .eq 15, 3) := by decide +kernel
theorem dX10_goYear_77 : decode cX10_goYear 77 = .ok (.aload_n 0, 1) := by decide +kernel
theorem dX10_goYear_78 : decode cX10_goYear 78 = .ok (.bipush 25, 2) := by decide +kernel
theorem dX10_goYear_80 : decode cX10_goYear 80 = .ok (.iload_n 2, 1) := by decide +kernel
theorem dX10_goYear_81 : decode cX10_goYear 81 = .ok (.iload_n 1, 1) := by decide +kernel
theorem dX10_goYear_82 : decode cX10_goYear 82 = .ok (.iload_n 3, 1) := by decide +kernel
theorem dX10_goYear_83 : decode cX10_goYear 83 = .ok (.invokevirtual 133, 3) := by decide +kernel
theorem dX10_goYear_86 : decode cX10_goYear 86 = .ok (.goto 11, 3) := by decide +kernel
theorem dX10_goYear_89 : decode cX10_goYear 89 = .ok (.aload_n 0, 1) := by decide +kernel
theorem dX10_goYear_90 : decode cX10_goYear 90 = .ok (.bipush 25, 2) := by decide +kernel
theorem dX10_goYear_92 : decode cX10_goYear 92 = .ok (.iload_n 2, 1) := by decide +kernel
theorem dX10_goYear_93 : decode cX10_goYear 93 = .ok (.iload_n 1, 1) := by decide +kernel
theorem dX10_goYear_94 : decode cX10_goYear 94 = .ok (.invokevirtual 137, 3) := by decide +kernel
theorem dX10_goYear_97 : decode cX10_goYear 97 = .ok (.aload_n 0, 1) := by decide +kernel
theorem dX10_goYear_98 : decode cX10_goYear 98 = .ok (.bipush 25, 2) := by decide +kernel
theorem dX10_goYear_100 : decode cX10_goYear 100 = .ok (.invokevirtual 147, 3) := by decide +kernel
theorem dX10_goYear_103 : decode cX10_goYear 103 = .ok (.pop, 1) := by decide +kernel
theorem dX10_goYear_104 : decode cX10_goYear 104 = .ok (.return_, 1) := by decide +kernel
theorem dX10_yearsNow_0 : decode cX10_yearsNow 0 = .ok (.aload_n 0, 1) := by decide +kernel
theorem dX10_yearsNow_1 : decode cX10_yearsNow 1 = .ok (.invokevirtual 151, 3) := by decide +kernel
theorem dX10_yearsNow_4 : decode cX10_yearsNow 4 = .ok (.aload_n 0, 1) := by decide +kernel
theorem dX10_yearsNow_5 : decode cX10_yearsNow 5 = .ok (.iload_n 2, 1) := by decide +kernel
theorem dX10_yearsNow_6 : decode cX10_yearsNow 6 = .ok (.i2l, 1) := by decide +kernel
theorem dX10_yearsNow_7 : decode cX10_yearsNow 7 = .ok (.putfield 190, 3) := by decide +kernel
theorem dX10_yearsNow_10 : decode cX10_yearsNow 10 = .ok (.iconst 0, 1) := by decide +kernel
theorem dX10_yearsNow_11 : decode cX10_yearsNow 11 = .ok (.istore 4, 2) := by decide +kernel
theorem dX10_yearsNow_13 : decode cX10_yearsNow 13 = .ok (.iload 4, 2) := by decide +kernel
theorem dX10_yearsNow_15 : decode cX10_yearsNow 15 = .ok (.iload_n 1, 1) := by decide +kernel
theorem dX10_yearsNow_16 : decode cX10_yearsNow 16 = .ok (.if_icmp .ge 13, 3) := by decide +kernel
theorem dX10_yearsNow_19 : decode cX10_yearsNow 19 = .ok (.aload_n 0, 1) := by decide +kernel
theorem dX10_yearsNow_20 : decode cX10_yearsNow 20 = .ok (.invokevirtual 203, 3) := by decide +kernel
theorem dX10_yearsNow_23 : decode cX10_yearsNow 23 = .ok (.iinc 4 1, 3) := by decide +kernel
theorem dX10_yearsNow_26 : decode cX10_yearsNow 26 = .ok (.goto (-13), 3) := by decide +kernel
theorem dX10_yearsNow_29 : decode cX10_yearsNow 29 = .ok (.iconst 0, 1) := by decide +kernel
theorem dX10_yearsNow_30 : decode cX10_yearsNow 30 = .ok (.istore 4, 2) := by decide +kernel
theorem dX10_yearsNow_32 : decode cX10_yearsNow 32 = .ok (.iconst 0, 1) := by decide +kernel
theorem dX10_yearsNow_33 : decode cX10_yearsNow 33 = .ok (.istore 5, 2) := by decide +kernel
theorem dX10_yearsNow_35 : decode cX10_yearsNow 35 = .ok (.iconst 0, 1) := by decide +kernel
theorem dX10_yearsNow_36 : decode cX10_yearsNow 36 = .ok (.istore 6, 2) := by decide +kernel
theorem dX10_yearsNow_38 : decode cX10_yearsNow 38 = .ok (.iload 6, 2) := by decide +kernel
theorem dX10_yearsNow_40 : decode cX10_yearsNow 40 = .ok (.aload_n 0, 1) := by decide +kernel
theorem dX10_yearsNow_41 : decode cX10_yearsNow 41 = .ok (.getfield 93, 3) := by decide +kernel
theorem dX10_yearsNow_44 : decode cX10_yearsNow 44 = .ok (.if_icmp .ge 42, 3) := by decide +kernel
theorem dX10_yearsNow_47 : decode cX10_yearsNow 47 = .ok (.iload 4, 2) := by decide +kernel
theorem dX10_yearsNow_49 : decode cX10_yearsNow 49 = .ok (.aload_n 0, 1) := by decide +kernel
theorem dX10_yearsNow_50 : decode cX10_yearsNow 50 = .ok (.bipush 25, 2) := by decide +kernel
theorem dX10_yearsNow_52 : decode cX10_yearsNow 52 = .ok (.iload 6, 2) := by decide +kernel
theorem dX10_yearsNow_54 : decode cX10_yearsNow 54 = .ok (.invokevirtual 107, 3) := by decide +kernel
theorem dX10_yearsNow_57 : decode cX10_yearsNow 57 = .ok (.iadd, 1) := by decide +kernel
theorem dX10_yearsNow_58 : decode cX10_yearsNow 58 = .ok (.istore 4, 2) := by decide +kernel
theorem dX10_yearsNow_60 : decode cX10_yearsNow 60 = .ok (.iload 5, 2) := by decide +kernel
theorem dX10_yearsNow_62 : decode cX10_yearsNow 62 = .ok (.aload_n 0, 1) := by decide +kernel
theorem dX10_yearsNow_63 : decode cX10_yearsNow 63 = .ok (.iconst 1, 1) := by decide +kernel
theorem dX10_yearsNow_64 : decode cX10_yearsNow 64 = .ok (.iload 6, 2) := by decide +kernel
theorem dX10_yearsNow_66 : decode cX10_yearsNow 66 = .ok (.invokevirtual 110, 3) := by decide +kernel
theorem dX10_yearsNow_69 : decode cX10_yearsNow 69 = .ok (.ifCond .ge 7, 3) := by decide +kernel
theorem dX10_yearsNow_72 : decode cX10_yearsNow 72 = .ok (.iconst 1, 1) := by decide +kernel
theorem dX10_yearsNow_73 : decode cX10_yearsNow 73 = .ok (.goto 4, 3) := by decide +kernel
theorem dX10_yearsNow_76 : decode cX10_yearsNow 76 = .ok (.iconst 0, 1) := by decide +kernel
theorem dX10_yearsNow_77 : decode cX10_yearsNow 77 = .ok (.iadd, 1) := by decide +kernel
theorem dX10_yearsNow_78 : decode cX10_yearsNow 78 = .ok (.istore 5, 2) := by decide +kernel
theorem dX10_yearsNow_80 : decode cX10_yearsNow 80 = .ok (.iinc 6 1, 3) := by decide +kernel
theorem dX10_yearsNow_83 : decode cX10_yearsNow 83 = .ok (.goto (-45), 3) := by decide +kernel
theorem dX10_yearsNow_86 : decode cX10_yearsNow 86 = .ok (.iload_n 3, 1) := by decide +kernel
theorem dX10_yearsNow_87 : decode cX10_yearsNow 87 = .ok (.ifCond .ne 8, 3) := by decide +kernel
theorem dX10_yearsNow_90 : decode cX10_yearsNow 90 = .ok (.iload 4, 2) := by decide +kernel
theorem dX10_yearsNow_92 : decode cX10_yearsNow 92 = .ok (.goto 18, 3) := by decide +kernel
theorem dX10_yearsNow_95 : decode cX10_yearsNow 95 = .ok (.iload_n 3, 1) := by decide +kernel
theorem dX10_yearsNow_96 : decode cX10_yearsNow 96 = .ok (.iconst 1, 1) := by decide +kernel
theorem dX10_yearsNow_97 : decode cX10_yearsNow 97 = .ok (.if_icmp .ne 8, 3) := by decide +kernel
theorem dX10_yearsNow_100 : decode cX10_yearsNow 100 = .ok (.iload 5, 2) := by decide +kernel
theorem dX10_yearsNow_102 : decode cX10_yearsNow 102 = .ok (.goto 8, 3) := by decide +kernel
theorem dX10_yearsNow_105 : decode cX10_yearsNow 105 = .ok (.aload_n 0, 1) := by decide +kernel
theorem dX10_yearsNow_106 : decode cX10_yearsNow 106 = .ok (.getfield 190, 3) := by decide +kernel
theorem dX10_yearsNow_109 : decode cX10_yearsNow 109 = .ok (.l2i, 1) := by decide +kernel
theorem dX10_yearsNow_110 : decode cX10_yearsNow 110 = .ok (.ireturn, 1) := by decide +kernel
theorem dX10_years_0 : decode cX10_years 0 = .ok (.iload_n 1, 1) := by decide +kernel
theorem dX10_years_1 : decode cX10_years 1 = .ok (.iconst 1, 1) := by decide +kernel
theorem dX10_years_2 : decode cX10_years 2 = .ok (.bipush 60, 2) := by decide +kernel
theorem dX10_years_4 : decode cX10_years 4 = .ok (.invokestatic 69, 3) := by decide +kernel
theorem dX10_years_7 : decode cX10_years 7 = .ok (.ifCond .eq 16, 3) := by decide +kernel
theorem dX10_years_10 : decode cX10_years 10 = .ok (.iload_n 2, 1) := by decide +kernel
theorem dX10_years_11 : decode cX10_years 11 = .ok (.ifCond .lt 12, 3) := by decide +kernel
theorem dX10_years_14 : decode cX10_years 14 = .ok (.iload_n 3, 1) := by decide +kernel
theorem dX10_years_15 : decode cX10_years 15 = .ok (.iconst 0, 1) := by decide +kernel
theorem dX10_years_16 : decode cX10_years 16 = .ok (.iconst 2, 1) := by decide +kernel
theorem dX10_years_17 : decode cX10_years 17 = .ok (.invokestatic 69, 3) := by decide +kernel
theorem dX10_years_20 : decode cX10_years 20 = .ok (.ifCond .ne 6, 3) := by decide +kernel
theorem dX10_years_23 : decode cX10_years 23 = .ok (.bipush (-102), 2) := by decide +kernel
theorem dX10_years_25 : decode cX10_years 25 = .ok (.ireturn, 1) := by decide +kernel
theorem dX10_years_26 : decode cX10_years 26 = .ok (.aload_n 0, 1) := by decide +kernel
theorem dX10_years_27 : decode cX10_years 27 = .ok (.getfield 93, 3) := by decide +kernel
theorem dX10_years_30 : decode cX10_years 30 = .ok (.ifCond .ne 8, 3) := by decide +kernel
theorem dX10_years_33 : decode cX10_years 33 = .ok (.bipush (-103), 2) := by decide +kernel
theorem dX10_years_35 : decode cX10_years 35 = .ok (.goto 10, 3) := by decide +kernel
theorem dX10_years_38 : decode cX10_years 38 = .ok (.aload_n 0, 1) := by decide +kernel
theorem dX10_years_39 : decode cX10_years 39 = .ok (.iload_n 1, 1) := by decide +kernel
theorem dX10_years_40 : decode cX10_years 40 = .ok (.iload_n 2, 1) := by decide +kernel
theorem dX10_years_41 : decode cX10_years 41 = .ok (.iload_n 3, 1) := by decide +kernel
theorem dX10_years_42 : decode cX10_years 42 = .ok (.invokevirtual 206, 3) := by decide +kernel
theorem dX10_years_45 : decode cX10_years 45 = .ok (.ireturn, 1) := by decide +kernel
theorem dX10_image_0 : decode cX10_image 0 = .ok (.aload_n 0, 1) := by decide +kernel
theorem dX10_image_1 : decode cX10_image 1 = .ok (.iconst 1, 1) := by decide +kernel
theorem dX10_image_2 : decode cX10_image 2 = .ok (.putfield 209, 3) := by decide +kernel
theorem dX10_image_5 : decode cX10_image 5 = .ok (.aload_n 0, 1) := by decide +kernel
theorem dX10_image_6 : decode cX10_image 6 = .ok (.aload_n 0, 1) := by decide +kernel
theorem dX10_image_7 : decode cX10_image 7 = .ok (.getfield 7, 3) := by decide +kernel
theorem dX10_image_10 : decode cX10_image 10 = .ok (.putfield 213, 3) := by decide +kernel
theorem dX10_image_13 : decode cX10_image 13 = .ok (.aload_n 0, 1) := by decide +kernel
theorem dX10_image_14 : decode cX10_image 14 = .ok (.aload_n 0, 1) := by decide +kernel
theorem dX10_image_15 : decode cX10_image 15 = .ok (.getfield 13, 3) := by decide +kernel
theorem dX10_image_18 : decode cX10_image 18 = .ok (.putfield 216, 3) := by decide +kernel
theorem dX10_image_21 : decode cX10_image 21 = .ok (.aload_n 0, 1) := by decide +kernel
theorem dX10_image_22 : decode cX10_image 22 = .ok (.aload_n 0, 1) := by decide +kernel
theorem dX10_image_23 : decode cX10_image 23 = .ok (.getfield 84, 3) := by decide +kernel
theorem dX10_image_26 : decode cX10_image 26 = .ok (.putfield 219, 3) := by decide +kernel
theorem dX10_image_29 : decode cX10_image 29 = .ok (.aload_n 0, 1) := by decide +kernel
theorem dX10_image_30 : decode cX10_image 30 = .ok (.aload_n 0, 1) := by decide +kernel
theorem dX10_image_31 : decode cX10_image 31 = .ok (.getfield 87, 3) := by decide +kernel
theorem dX10_image_34 : decode cX10_image 34 = .ok (.putfield 222, 3) := by decide +kernel
theorem dX10_image_37 : decode cX10_image 37 = .ok (.aload_n 0, 1) := by decide +kernel
theorem dX10_image_38 : decode cX10_image 38 = .ok (.aload_n 0, 1) := by decide +kernel
theorem dX10_image_39 : decode cX10_image 39 = .ok (.getfield 93, 3) := by decide +kernel
theorem dX10_image_42 : decode cX10_image 42 = .ok (.putfield 225, 3) := by decide +kernel
theorem dX10_image_45 : decode cX10_image 45 = .ok (.aload_n 0, 1) := by decide +kernel
theorem dX10_image_46 : decode cX10_image 46 = .ok (.aload_n 0, 1) := by decide +kernel
theorem dX10_image_47 : decode cX10_image 47 = .ok (.getfield 144, 3) := by decide +kernel
theorem dX10_image_50 : decode cX10_image 50 = .ok (.putfield 228, 3) := by decide +kernel
theorem dX10_image_53 : decode cX10_image 53 = .ok (.aload_n 0, 1) := by decide +kernel
theorem dX10_image_54 : decode cX10_image 54 = .ok (.aload_n 0, 1) := by decide +kernel
theorem dX10_image_55 : decode cX10_image 55 = .ok (.getfield 174, 3) := by decide +kernel
theorem dX10_image_58 : decode cX10_image 58 = .ok (.putfield 231, 3) := by decide +kernel
theorem dX10_image_61 : decode cX10_image 61 = .ok (.iconst 0, 1) := by decide +kernel
theorem dX10_image_62 : decode cX10_image 62 = .ok (.istore_n 1, 1) := by decide +kernel
theorem dX10_image_63 : decode cX10_image 63 = .ok (.iload_n 1, 1) := by decide +kernel
theorem dX10_image_64 : decode cX10_image 64 = .ok (.iconst 5, 1) := by decide +kernel
theorem dX10_image_65 : decode cX10_image 65 = .ok (.if_icmp .ge 21, 3) := by decide +kernel
theorem dX10_image_68 : decode cX10_image 68 = .ok (.aload_n 0, 1) := by decide +kernel
theorem dX10_image_69 : decode cX10_image 69 = .ok (.getfield 54, 3) := by decide +kernel
theorem dX10_image_72 : decode cX10_image 72 = .ok (.iload_n 1, 1) := by decide +kernel
theorem dX10_image_73 : decode cX10_image 73 = .ok (.aload_n 0, 1) := by decide +kernel
theorem dX10_image_74 : decode cX10_image 74 = .ok (.getfield 20, 3) := by decide +kernel
theorem dX10_image_77 : decode cX10_image 77 = .ok (.iload_n 1, 1) := by decide +kernel
theorem dX10_image_78 : decode cX10_image 78 = .ok (.iaload, 1) := by decide +kernel
theorem dX10_image_79 : decode cX10_image 79 = .ok (.iastore, 1) := by decide +kernel
theorem dX10_image_80 : decode cX10_image 80 = .ok (.iinc 1 1, 3) := by decide +kernel
theorem dX10_image_83 : decode cX10_image 83 = .ok (.goto (-20), 3) := by decide +kernel
theorem dX10_image_86 : decode cX10_image 86 = .ok (.iconst 0, 1) := by decide +kernel
theorem dX10_image_87 : decode cX10_image 87 = .ok (.istore_n 1, 1) := by decide +kernel
theorem dX10_image_88 : decode cX10_image 88 = .ok (.iload_n 1, 1) := by decide +kernel
theorem dX10_image_89 : decode cX10_image 89 = .ok (.bipush 25, 2) := by decide +kernel
theorem dX10_image_91 : decode cX10_image 91 = .ok (.if_icmp .ge 45, 3) := by decide +kernel
theorem dX10_image_94 : decode cX10_image 94 = .ok (.aload_n 0, 1) := by decide +kernel
theorem dX10_image_95 : decode cX10_image 95 = .ok (.getfield 57, 3) := by decide +kernel
theorem dX10_image_98 : decode cX10_image 98 = .ok (.iload_n 1, 1) := by decide +kernel
theorem dX10_image_99 : decode cX10_image 99 = .ok (.aload_n 0, 1) := by decide +kernel
theorem dX10_image_100 : decode cX10_image 100 = .ok (.getfield 23, 3) := by decide +kernel
theorem dX10_image_103 : decode cX10_image 103 = .ok (.iload_n 1, 1) := by decide +kernel
theorem dX10_image_104 : decode cX10_image 104 = .ok (.iaload, 1) := by decide +kernel
theorem dX10_image_105 : decode cX10_image 105 = .ok (.iastore, 1) := by decide +kernel
theorem dX10_image_106 : decode cX10_image 106 = .ok (.aload_n 0, 1) := by decide +kernel
theorem dX10_image_107 : decode cX10_image 107 = .ok (.getfield 60, 3) := by decide +kernel
theorem dX10_image_110 : decode cX10_image 110 = .ok (.iload_n 1, 1) := by decide +kernel
theorem dX10_image_111 : decode cX10_image 111 = .ok (.aload_n 0, 1) := by decide +kernel
theorem dX10_image_112 : decode cX10_image 112 = .ok (.getfield 26, 3) := by decide +kernel
theorem dX10_image_115 : decode cX10_image 115 = .ok (.iload_n 1, 1) := by decide +kernel
theorem dX10_image_116 : decode cX10_image 116 = .ok (.iaload, 1) := by decide +kernel
theorem dX10_image_117 : decode cX10_image 117 = .ok (.iastore, 1) := by decide +kernel
theorem dX10_image_118 : decode cX10_image 118 = .ok (.aload_n 0, 1) := by decide +kernel
theorem dX10_image_119 : decode cX10_image 119 = .ok (.getfield 63, 3) := by decide +kernel
theorem dX10_image_122 : decode cX10_image 122 = .ok (.iload_n 1, 1) := by decide +kernel
theorem dX10_image_123 : decode cX10_image 123 = .ok (.aload_n 0, 1) := by decide +kernel
theorem dX10_image_124 : decode cX10_image 124 = .ok (.getfield 29, 3) := by decide +kernel
theorem dX10_image_127 : decode cX10_image 127 = .ok (.iload_n 1, 1) := by decide +kernel
theorem dX10_image_128 : decode cX10_image 128 = .ok (.iaload, 1) := by decide +kernel
theorem dX10_image_129 : decode cX10_image 129 = .ok (.iastore, 1) := by decide +kernel
theorem dX10_image_130 : decode cX10_image 130 = .ok (.iinc 1 1, 3) := by decide +kernel
theorem dX10_image_133 : decode cX10_image 133 = .ok (.goto (-45), 3) := by decide +kernel
theorem dX10_image_136 : decode cX10_image 136 = .ok (.iconst 0, 1) := by decide +kernel
theorem dX10_image_137 : decode cX10_image 137 = .ok (.istore_n 1, 1) := by decide +kernel
theorem dX10_image_138 : decode cX10_image 138 = .ok (.iload_n 1, 1) := by decide +kernel
theorem dX10_image_139 : decode cX10_image 139 = .ok (.bipush 6, 2) := by decide +kernel
theorem dX10_image_141 : decode cX10_image 141 = .ok (.if_icmp .ge 55, 3) := by decide +kernel
theorem dX10_image_144 : decode cX10_image 144 = .ok (.aload_n 0, 1) := by decide +kernel
theorem dX10_image_145 : decode cX10_image 145 = .ok (.getfield 66, 3) := by decide +kernel
theorem dX10_image_148 : decode cX10_image 148 = .ok (.iconst 3, 1) := by decide +kernel
theorem dX10_image_149 : decode cX10_image 149 = .ok (.iload_n 1, 1) := by decide +kernel
theorem dX10_image_150 : decode cX10_image 150 = .ok (.imul, 1) := by decide +kernel
theorem dX10_image_151 : decode cX10_image 151 = .ok (.aload_n 0, 1) := by decide +kernel
theorem dX10_image_152 : decode cX10_image 152 = .ok (.getfield 32, 3) := by decide +kernel
theorem dX10_image_155 : decode cX10_image 155 = .ok (.iload_n 1, 1) := by decide +kernel
theorem dX10_image_156 : decode cX10_image 156 = .ok (.iaload, 1) := by decide +kernel
theorem dX10_image_157 : decode cX10_image 157 = .ok (.iastore, 1) := by decide +kernel
theorem dX10_image_158 : decode cX10_image 158 = .ok (.aload_n 0, 1) := by decide +kernel
theorem dX10_image_159 : decode cX10_image 159 = .ok (.getfield 66, 3) := by decide +kernel
theorem dX10_image_162 : decode cX10_image 162 = .ok (.iconst 3, 1) := by decide +kernel
theorem dX10_image_163 : decode cX10_image 163 = .ok (.iload_n 1, 1) := by decide +kernel
theorem dX10_image_164 : decode cX10_image 164 = .ok (.imul, 1) := by decide +kernel
theorem dX10_image_165 : decode cX10_image 165 = .ok (.iconst 1, 1) := by decide +kernel
theorem dX10_image_166 : decode cX10_image 166 = .ok (.iadd, 1) := by decide +kernel
theorem dX10_image_167 : decode cX10_image 167 = .ok (.aload_n 0, 1) := by decide +kernel
theorem dX10_image_168 : decode cX10_image 168 = .ok (.getfield 35, 3) := by decide +kernel
theorem dX10_image_171 : decode cX10_image 171 = .ok (.iload_n 1, 1) := by decide +kernel
theorem dX10_image_172 : decode cX10_image 172 = .ok (.iaload, 1) := by decide +kernel
theorem dX10_image_173 : decode cX10_image 173 = .ok (.iastore, 1) := by decide +kernel
theorem dX10_image_174 : decode cX10_image 174 = .ok (.aload_n 0, 1) := by decide +kernel
theorem dX10_image_175 : decode cX10_image 175 = .ok (.getfield 66, 3) := by decide +kernel
theorem dX10_image_178 : decode cX10_image 178 = .ok (.iconst 3, 1) := by decide +kernel
theorem dX10_image_179 : decode cX10_image 179 = .ok (.iload_n 1, 1) := by decide +kernel
theorem dX10_image_180 : decode cX10_image 180 = .ok (.imul, 1) := by decide +kernel
theorem dX10_image_181 : decode cX10_image 181 = .ok (.iconst 2, 1) := by decide +kernel
theorem dX10_image_182 : decode cX10_image 182 = .ok (.iadd, 1) := by decide +kernel
theorem dX10_image_183 : decode cX10_image 183 = .ok (.aload_n 0, 1) := by decide +kernel
theorem dX10_image_184 : decode cX10_image 184 = .ok (.getfield 38, 3) := by decide +kernel
theorem dX10_image_187 : decode cX10_image 187 = .ok (.iload_n 1, 1) := by decide +kernel
theorem dX10_image_188 : decode cX10_image 188 = .ok (.iaload, 1) := by decide +kernel
theorem dX10_image_189 : decode cX10_image 189 = .ok (.iastore, 1) := by decide +kernel
theorem dX10_image_190 : decode cX10_image 190 = .ok (.iinc 1 1, 3) := by decide +kernel
theorem dX10_image_193 : decode cX10_image 193 = .ok (.goto (-55), 3) := by decide +kernel
theorem dX10_image_196 : decode cX10_image 196 = .ok (.aload_n 0, 1) := by decide +kernel
theorem dX10_image_197 : decode cX10_image 197 = .ok (.getfield 144, 3) := by decide +kernel
theorem dX10_image_200 : decode cX10_image 200 = .ok (.ireturn, 1) := by decide +kernel
theorem dX10_restore_0 : decode cX10_restore 0 = .ok (.aload_n 0, 1) := by decide +kernel
theorem dX10_restore_1 : decode cX10_restore 1 = .ok (.getfield 209, 3) := by decide +kernel
theorem dX10_restore_4 : decode cX10_restore 4 = .ok (.ifCond .ne 6, 3) := by decide +kernel
theorem dX10_restore_7 : decode cX10_restore 7 = .ok (.bipush (-103), 2) := by decide +kernel
theorem dX10_restore_9 : decode cX10_restore 9 = .ok (.ireturn, 1) := by decide +kernel
theorem dX10_restore_10 : decode cX10_restore 10 = .ok (.aload_n 0, 1) := by decide +kernel
theorem dX10_restore_11 : decode cX10_restore 11 = .ok (.aload_n 0, 1) := by decide +kernel
theorem dX10_restore_12 : decode cX10_restore 12 = .ok (.getfield 213, 3) := by decide +kernel
theorem dX10_restore_15 : decode cX10_restore 15 = .ok (.putfield 7, 3) := by decide +kernel
theorem dX10_restore_18 : decode cX10_restore 18 = .ok (.aload_n 0, 1) := by decide +kernel
theorem dX10_restore_19 : decode cX10_restore 19 = .ok (.aload_n 0, 1) := by decide +kernel
theorem dX10_restore_20 : decode cX10_restore 20 = .ok (.getfield 216, 3) := by decide +kernel
theorem dX10_restore_23 : decode cX10_restore 23 = .ok (.putfield 13, 3) := by decide +kernel
theorem dX10_restore_26 : decode cX10_restore 26 = .ok (.aload_n 0, 1) := by decide +kernel
theorem dX10_restore_27 : decode cX10_restore 27 = .ok (.aload_n 0, 1) := by decide +kernel
theorem dX10_restore_28 : decode cX10_restore 28 = .ok (.getfield 219, 3) := by decide +kernel
theorem dX10_restore_31 : decode cX10_restore 31 = .ok (.putfield 84, 3) := by decide +kernel
theorem dX10_restore_34 : decode cX10_restore 34 = .ok (.aload_n 0, 1) := by decide +kernel
theorem dX10_restore_35 : decode cX10_restore 35 = .ok (.aload_n 0, 1) := by decide +kernel
theorem dX10_restore_36 : decode cX10_restore 36 = .ok (.getfield 222, 3) := by decide +kernel
theorem dX10_restore_39 : decode cX10_restore 39 = .ok (.putfield 87, 3) := by decide +kernel
theorem dX10_restore_42 : decode cX10_restore 42 = .ok (.aload_n 0, 1) := by decide +kernel
theorem dX10_restore_43 : decode cX10_restore 43 = .ok (.aload_n 0, 1) := by decide +kernel
theorem dX10_restore_44 : decode cX10_restore 44 = .ok (.getfield 225, 3) := by decide +kernel
theorem dX10_restore_47 : decode cX10_restore 47 = .ok (.putfield 93, 3) := by decide +kernel
theorem dX10_restore_50 : decode cX10_restore 50 = .ok (.aload_n 0, 1) := by decide +kernel
theorem dX10_restore_51 : decode cX10_restore 51 = .ok (.aload_n 0, 1) := by decide +kernel
theorem dX10_restore_52 : decode cX10_restore 52 = .ok (.getfield 228, 3) := by decide +kernel
theorem dX10_restore_55 : decode cX10_restore 55 = .ok (.putfield 144, 3) := by decide +kernel
theorem dX10_restore_58 : decode cX10_restore 58 = .ok (.aload_n 0, 1) := by decide +kernel
theorem dX10_restore_59 : decode cX10_restore 59 = .ok (.aload_n 0, 1) := by decide +kernel
theorem dX10_restore_60 : decode cX10_restore 60 = .ok (.getfield 231, 3) := by decide +kernel
theorem dX10_restore_63 : decode cX10_restore 63 = .ok (.putfield 174, 3) := by decide +kernel
theorem dX10_restore_66 : decode cX10_restore 66 = .ok (.iconst 0, 1) := by decide +kernel
theorem dX10_restore_67 : decode cX10_restore 67 = .ok (.istore_n 1, 1) := by decide +kernel
theorem dX10_restore_68 : decode cX10_restore 68 = .ok (.iload_n 1, 1) := by decide +kernel
theorem dX10_restore_69 : decode cX10_restore 69 = .ok (.iconst 5, 1) := by decide +kernel
theorem dX10_restore_70 : decode cX10_restore 70 = .ok (.if_icmp .ge 21, 3) := by decide +kernel
theorem dX10_restore_73 : decode cX10_restore 73 = .ok (.aload_n 0, 1) := by decide +kernel
theorem dX10_restore_74 : decode cX10_restore 74 = .ok (.getfield 20, 3) := by decide +kernel
theorem dX10_restore_77 : decode cX10_restore 77 = .ok (.iload_n 1, 1) := by decide +kernel
theorem dX10_restore_78 : decode cX10_restore 78 = .ok (.aload_n 0, 1) := by decide +kernel
theorem dX10_restore_79 : decode cX10_restore 79 = .ok (.getfield 54, 3) := by decide +kernel
theorem dX10_restore_82 : decode cX10_restore 82 = .ok (.iload_n 1, 1) := by decide +kernel
theorem dX10_restore_83 : decode cX10_restore 83 = .ok (.iaload, 1) := by decide +kernel
theorem dX10_restore_84 : decode cX10_restore 84 = .ok (.iastore, 1) := by decide +kernel
theorem dX10_restore_85 : decode cX10_restore 85 = .ok (.iinc 1 1, 3) := by decide +kernel
theorem dX10_restore_88 : decode cX10_restore 88 = .ok (.goto (-20), 3) := by decide +kernel
theorem dX10_restore_91 : decode cX10_restore 91 = .ok (.iconst 0, 1) := by decide +kernel
theorem dX10_restore_92 : decode cX10_restore 92 = .ok (.istore_n 1, 1) := by decide +kernel
theorem dX10_restore_93 : decode cX10_restore 93 = .ok (.iload_n 1, 1) := by decide +kernel
theorem dX10_restore_94 : decode cX10_restore 94 = .ok (.bipush 25, 2) := by decide +kernel
theorem dX10_restore_96 : decode cX10_restore 96 = .ok (.if_icmp .ge 45, 3) := by decide +kernel
theorem dX10_restore_99 : decode cX10_restore 99 = .ok (.aload_n 0, 1) := by decide +kernel
theorem dX10_restore_100 : decode cX10_restore 100 = .ok (.getfield 23, 3) := by decide +kernel
theorem dX10_restore_103 : decode cX10_restore 103 = .ok (.iload_n 1, 1) := by decide +kernel
theorem dX10_restore_104 : decode cX10_restore 104 = .ok (.aload_n 0, 1) := by decide +kernel
theorem dX10_restore_105 : decode cX10_restore 105 = .ok (.getfield 57, 3) := by decide +kernel
theorem dX10_restore_108 : decode cX10_restore 108 = .ok (.iload_n 1, 1) := by decide +kernel
theorem dX10_restore_109 : decode cX10_restore 109 = .ok (.iaload, 1) := by decide +kernel
theorem dX10_restore_110 : decode cX10_restore 110 = .ok (.iastore, 1) := by decide +kernel
theorem dX10_restore_111 : decode cX10_restore 111 = .ok (.aload_n 0, 1) := by decide +kernel
theorem dX10_restore_112 : decode cX10_restore 112 = .ok (.getfield 26, 3) := by decide +kernel
theorem dX10_restore_115 : decode cX10_restore 115 = .ok (.iload_n 1, 1) := by decide +kernel
theorem dX10_restore_116 : decode cX10_restore 116 = .ok (.aload_n 0, 1) := by decide +kernel
theorem dX10_restore_117 : decode cX10_restore 117 = .ok (.getfield 60, 3) := by decide +kernel
theorem dX10_restore_120 : decode cX10_restore 120 = .ok (.iload_n 1, 1) := by decide +kernel
theorem dX10_restore_121 : decode cX10_restore 121 = .ok (.iaload, 1) := by decide +kernel
theorem dX10_restore_122 : decode cX10_restore 122 = .ok (.iastore, 1) := by decide +kernel
theorem dX10_restore_123 : decode cX10_restore 123 = .ok (.aload_n 0, 1) := by decide +kernel
theorem dX10_restore_124 : decode cX10_restore 124 = .ok (.getfield 29, 3) := by decide +kernel
theorem dX10_restore_127 : decode cX10_restore 127 = .ok (.iload_n 1, 1) := by decide +kernel
theorem dX10_restore_128 : decode cX10_restore 128 = .ok (.aload_n 0, 1) := by decide +kernel
theorem dX10_restore_129 : decode cX10_restore 129 = .ok (.getfield 63, 3) := by decide +kernel
theorem dX10_restore_132 : decode cX10_restore 132 = .ok (.iload_n 1, 1) := by decide +kernel
theorem dX10_restore_133 : decode cX10_restore 133 = .ok (.iaload, 1) := by decide +kernel
theorem dX10_restore_134 : decode cX10_restore 134 = .ok (.iastore, 1) := by decide +kernel
theorem dX10_restore_135 : decode cX10_restore 135 = .ok (.iinc 1 1, 3) := by decide +kernel
theorem dX10_restore_138 : decode cX10_restore 138 = .ok (.goto (-45), 3) := by decide +kernel
theorem dX10_restore_141 : decode cX10_restore 141 = .ok (.iconst 0, 1) := by decide +kernel
theorem dX10_restore_142 : decode cX10_restore 142 = .ok (.istore_n 1, 1) := by decide +kernel
theorem dX10_restore_143 : decode cX10_restore 143 = .ok (.iload_n 1, 1) := by decide +kernel
theorem dX10_restore_144 : decode cX10_restore 144 = .ok (.bipush 6, 2) := by decide +kernel
theorem dX10_restore_146 : decode cX10_restore 146 = .ok (.if_icmp .ge 55, 3) := by decide +kernel
theorem dX10_restore_149 : decode cX10_restore 149 = .ok (.aload_n 0, 1) := by decide +kernel
theorem dX10_restore_150 : decode cX10_restore 150 = .ok (.getfield 32, 3) := by decide +kernel
theorem dX10_restore_153 : decode cX10_restore 153 = .ok (.iload_n 1, 1) := by decide +kernel
theorem dX10_restore_154 : decode cX10_restore 154 = .ok (.aload_n 0, 1) := by decide +kernel
theorem dX10_restore_155 : decode cX10_restore 155 = .ok (.getfield 66, 3) := by decide +kernel
theorem dX10_restore_158 : decode cX10_restore 158 = .ok (.iconst 3, 1) := by decide +kernel
theorem dX10_restore_159 : decode cX10_restore 159 = .ok (.iload_n 1, 1) := by decide +kernel
theorem dX10_restore_160 : decode cX10_restore 160 = .ok (.imul, 1) := by decide +kernel
theorem dX10_restore_161 : decode cX10_restore 161 = .ok (.iaload, 1) := by decide +kernel
theorem dX10_restore_162 : decode cX10_restore 162 = .ok (.iastore, 1) := by decide +kernel
theorem dX10_restore_163 : decode cX10_restore 163 = .ok (.aload_n 0, 1) := by decide +kernel
theorem dX10_restore_164 : decode cX10_restore 164 = .ok (.getfield 35, 3) := by decide +kernel
theorem dX10_restore_167 : decode cX10_restore 167 = .ok (.iload_n 1, 1) := by decide +kernel
theorem dX10_restore_168 : decode cX10_restore 168 = .ok (.aload_n 0, 1) := by decide +kernel
theorem dX10_restore_169 : decode cX10_restore 169 = .ok (.getfield 66, 3) := by decide +kernel
theorem dX10_restore_172 : decode cX10_restore 172 = .ok (.iconst 3, 1) := by decide +kernel
theorem dX10_restore_173 : decode cX10_restore 173 = .ok (.iload_n 1, 1) := by decide +kernel
theorem dX10_restore_174 : decode cX10_restore 174 = .ok (.imul, 1) := by decide +kernel
theorem dX10_restore_175 : decode cX10_restore 175 = .ok (.iconst 1, 1) := by decide +kernel
theorem dX10_restore_176 : decode cX10_restore 176 = .ok (.iadd, 1) := by decide +kernel
theorem dX10_restore_177 : decode cX10_restore 177 = .ok (.iaload, 1) := by decide +kernel
theorem dX10_restore_178 : decode cX10_restore 178 = .ok (.iastore, 1) := by decide +kernel
theorem dX10_restore_179 : decode cX10_restore 179 = .ok (.aload_n 0, 1) := by decide +kernel
theorem dX10_restore_180 : decode cX10_restore 180 = .ok (.getfield 38, 3) := by decide +kernel
theorem dX10_restore_183 : decode cX10_restore 183 = .ok (.iload_n 1, 1) := by decide +kernel
theorem dX10_restore_184 : decode cX10_restore 184 = .ok (.aload_n 0, 1) := by decide +kernel
theorem dX10_restore_185 : decode cX10_restore 185 = .ok (.getfield 66, 3) := by decide +kernel
theorem dX10_restore_188 : decode cX10_restore 188 = .ok (.iconst 3, 1) := by decide +kernel
theorem dX10_restore_189 : decode cX10_restore 189 = .ok (.iload_n 1, 1) := by decide +kernel
theorem dX10_restore_190 : decode cX10_restore 190 = .ok (.imul, 1) := by decide +kernel
theorem dX10_restore_191 : decode cX10_restore 191 = .ok (.iconst 2, 1) := by decide +kernel
theorem dX10_restore_192 : decode cX10_restore 192 = .ok (.iadd, 1) := by decide +kernel
theorem dX10_restore_193 : decode cX10_restore 193 = .ok (.iaload, 1) := by decide +kernel
theorem dX10_restore_194 : decode cX10_restore 194 = .ok (.iastore, 1) := by decide +kernel
theorem dX10_restore_195 : decode cX10_restore 195 = .ok (.iinc 1 1, 3) := by decide +kernel
theorem dX10_restore_198 : decode cX10_restore 198 = .ok (.goto (-55), 3) := by decide +kernel
theorem dX10_restore_201 : decode cX10_restore 201 = .ok (.aload_n 0, 1) := by decide +kernel
theorem dX10_restore_202 : decode cX10_restore 202 = .ok (.getfield 144, 3) := by decide +kernel
theorem dX10_restore_205 : decode cX10_restore 205 = .ok (.ireturn, 1) := by decide +kernel
theorem dX10_owedAll_0 : decode cX10_owedAll 0 = .ok (.iconst 0, 1) := by decide +kernel
theorem dX10_owedAll_1 : decode cX10_owedAll 1 = .ok (.istore_n 1, 1) := by decide +kernel
theorem dX10_owedAll_2 : decode cX10_owedAll 2 = .ok (.iconst 0, 1) := by decide +kernel
theorem dX10_owedAll_3 : decode cX10_owedAll 3 = .ok (.istore_n 2, 1) := by decide +kernel
theorem dX10_owedAll_4 : decode cX10_owedAll 4 = .ok (.iload_n 2, 1) := by decide +kernel
theorem dX10_owedAll_5 : decode cX10_owedAll 5 = .ok (.aload_n 0, 1) := by decide +kernel
theorem dX10_owedAll_6 : decode cX10_owedAll 6 = .ok (.getfield 93, 3) := by decide +kernel
theorem dX10_owedAll_9 : decode cX10_owedAll 9 = .ok (.if_icmp .ge 18, 3) := by decide +kernel
theorem dX10_owedAll_12 : decode cX10_owedAll 12 = .ok (.iload_n 1, 1) := by decide +kernel
theorem dX10_owedAll_13 : decode cX10_owedAll 13 = .ok (.aload_n 0, 1) := by decide +kernel
theorem dX10_owedAll_14 : decode cX10_owedAll 14 = .ok (.iconst 0, 1) := by decide +kernel
theorem dX10_owedAll_15 : decode cX10_owedAll 15 = .ok (.iload_n 2, 1) := by decide +kernel
theorem dX10_owedAll_16 : decode cX10_owedAll 16 = .ok (.invokevirtual 107, 3) := by decide +kernel
theorem dX10_owedAll_19 : decode cX10_owedAll 19 = .ok (.iadd, 1) := by decide +kernel
theorem dX10_owedAll_20 : decode cX10_owedAll 20 = .ok (.istore_n 1, 1) := by decide +kernel
theorem dX10_owedAll_21 : decode cX10_owedAll 21 = .ok (.iinc 2 1, 3) := by decide +kernel
theorem dX10_owedAll_24 : decode cX10_owedAll 24 = .ok (.goto (-20), 3) := by decide +kernel
theorem dX10_owedAll_27 : decode cX10_owedAll 27 = .ok (.iload_n 1, 1) := by decide +kernel
theorem dX10_owedAll_28 : decode cX10_owedAll 28 = .ok (.ireturn, 1) := by decide +kernel
theorem dX10_ruinedMany_0 : decode cX10_ruinedMany 0 = .ok (.iconst 0, 1) := by decide +kernel
theorem dX10_ruinedMany_1 : decode cX10_ruinedMany 1 = .ok (.istore_n 1, 1) := by decide +kernel
theorem dX10_ruinedMany_2 : decode cX10_ruinedMany 2 = .ok (.iconst 0, 1) := by decide +kernel
theorem dX10_ruinedMany_3 : decode cX10_ruinedMany 3 = .ok (.istore_n 2, 1) := by decide +kernel
theorem dX10_ruinedMany_4 : decode cX10_ruinedMany 4 = .ok (.iload_n 2, 1) := by decide +kernel
theorem dX10_ruinedMany_5 : decode cX10_ruinedMany 5 = .ok (.aload_n 0, 1) := by decide +kernel
theorem dX10_ruinedMany_6 : decode cX10_ruinedMany 6 = .ok (.getfield 93, 3) := by decide +kernel
theorem dX10_ruinedMany_9 : decode cX10_ruinedMany 9 = .ok (.if_icmp .ge 26, 3) := by decide +kernel
theorem dX10_ruinedMany_12 : decode cX10_ruinedMany 12 = .ok (.iload_n 1, 1) := by decide +kernel
theorem dX10_ruinedMany_13 : decode cX10_ruinedMany 13 = .ok (.aload_n 0, 1) := by decide +kernel
theorem dX10_ruinedMany_14 : decode cX10_ruinedMany 14 = .ok (.iconst 0, 1) := by decide +kernel
theorem dX10_ruinedMany_15 : decode cX10_ruinedMany 15 = .ok (.iload_n 2, 1) := by decide +kernel
theorem dX10_ruinedMany_16 : decode cX10_ruinedMany 16 = .ok (.invokevirtual 110, 3) := by decide +kernel
theorem dX10_ruinedMany_19 : decode cX10_ruinedMany 19 = .ok (.ifCond .ge 7, 3) := by decide +kernel
theorem dX10_ruinedMany_22 : decode cX10_ruinedMany 22 = .ok (.iconst 1, 1) := by decide +kernel
theorem dX10_ruinedMany_23 : decode cX10_ruinedMany 23 = .ok (.goto 4, 3) := by decide +kernel
theorem dX10_ruinedMany_26 : decode cX10_ruinedMany 26 = .ok (.iconst 0, 1) := by decide +kernel
theorem dX10_ruinedMany_27 : decode cX10_ruinedMany 27 = .ok (.iadd, 1) := by decide +kernel
theorem dX10_ruinedMany_28 : decode cX10_ruinedMany 28 = .ok (.istore_n 1, 1) := by decide +kernel
theorem dX10_ruinedMany_29 : decode cX10_ruinedMany 29 = .ok (.iinc 2 1, 3) := by decide +kernel
theorem dX10_ruinedMany_32 : decode cX10_ruinedMany 32 = .ok (.goto (-28), 3) := by decide +kernel
theorem dX10_ruinedMany_35 : decode cX10_ruinedMany 35 = .ok (.iload_n 1, 1) := by decide +kernel
theorem dX10_ruinedMany_36 : decode cX10_ruinedMany 36 = .ok (.ireturn, 1) := by decide +kernel
theorem dX10_howMany_0 : decode cX10_howMany 0 = .ok (.iload_n 1, 1) := by decide +kernel
theorem dX10_howMany_1 : decode cX10_howMany 1 = .ok (.tableswitch 114 0 10 #[59, 64, 69, 74, 79, 84, 89, 94, 99, 104, 109], 59) := by decide +kernel
theorem dX10_howMany_60 : decode cX10_howMany 60 = .ok (.aload_n 0, 1) := by decide +kernel
theorem dX10_howMany_61 : decode cX10_howMany 61 = .ok (.getfield 7, 3) := by decide +kernel
theorem dX10_howMany_64 : decode cX10_howMany 64 = .ok (.ireturn, 1) := by decide +kernel
theorem dX10_howMany_65 : decode cX10_howMany 65 = .ok (.aload_n 0, 1) := by decide +kernel
theorem dX10_howMany_66 : decode cX10_howMany 66 = .ok (.getfield 13, 3) := by decide +kernel
theorem dX10_howMany_69 : decode cX10_howMany 69 = .ok (.ireturn, 1) := by decide +kernel
theorem dX10_howMany_70 : decode cX10_howMany 70 = .ok (.aload_n 0, 1) := by decide +kernel
theorem dX10_howMany_71 : decode cX10_howMany 71 = .ok (.getfield 84, 3) := by decide +kernel
theorem dX10_howMany_74 : decode cX10_howMany 74 = .ok (.ireturn, 1) := by decide +kernel
theorem dX10_howMany_75 : decode cX10_howMany 75 = .ok (.aload_n 0, 1) := by decide +kernel
theorem dX10_howMany_76 : decode cX10_howMany 76 = .ok (.getfield 87, 3) := by decide +kernel
theorem dX10_howMany_79 : decode cX10_howMany 79 = .ok (.ireturn, 1) := by decide +kernel
theorem dX10_howMany_80 : decode cX10_howMany 80 = .ok (.aload_n 0, 1) := by decide +kernel
theorem dX10_howMany_81 : decode cX10_howMany 81 = .ok (.getfield 93, 3) := by decide +kernel
theorem dX10_howMany_84 : decode cX10_howMany 84 = .ok (.ireturn, 1) := by decide +kernel
theorem dX10_howMany_85 : decode cX10_howMany 85 = .ok (.aload_n 0, 1) := by decide +kernel
theorem dX10_howMany_86 : decode cX10_howMany 86 = .ok (.invokevirtual 234, 3) := by decide +kernel
theorem dX10_howMany_89 : decode cX10_howMany 89 = .ok (.ireturn, 1) := by decide +kernel
theorem dX10_howMany_90 : decode cX10_howMany 90 = .ok (.aload_n 0, 1) := by decide +kernel
theorem dX10_howMany_91 : decode cX10_howMany 91 = .ok (.getfield 144, 3) := by decide +kernel
theorem dX10_howMany_94 : decode cX10_howMany 94 = .ok (.ireturn, 1) := by decide +kernel
theorem dX10_howMany_95 : decode cX10_howMany 95 = .ok (.aload_n 0, 1) := by decide +kernel
theorem dX10_howMany_96 : decode cX10_howMany 96 = .ok (.getfield 174, 3) := by decide +kernel
theorem dX10_howMany_99 : decode cX10_howMany 99 = .ok (.ireturn, 1) := by decide +kernel
theorem dX10_howMany_100 : decode cX10_howMany 100 = .ok (.aload_n 0, 1) := by decide +kernel
theorem dX10_howMany_101 : decode cX10_howMany 101 = .ok (.invokevirtual 237, 3) := by decide +kernel
theorem dX10_howMany_104 : decode cX10_howMany 104 = .ok (.ireturn, 1) := by decide +kernel
theorem dX10_howMany_105 : decode cX10_howMany 105 = .ok (.aload_n 0, 1) := by decide +kernel
theorem dX10_howMany_106 : decode cX10_howMany 106 = .ok (.getfield 73, 3) := by decide +kernel
theorem dX10_howMany_109 : decode cX10_howMany 109 = .ok (.ireturn, 1) := by decide +kernel
theorem dX10_howMany_110 : decode cX10_howMany 110 = .ok (.aload_n 0, 1) := by decide +kernel
theorem dX10_howMany_111 : decode cX10_howMany 111 = .ok (.getfield 90, 3) := by decide +kernel
theorem dX10_howMany_114 : decode cX10_howMany 114 = .ok (.ireturn, 1) := by decide +kernel
theorem dX10_howMany_115 : decode cX10_howMany 115 = .ok (.bipush (-102), 2) := by decide +kernel
theorem dX10_howMany_117 : decode cX10_howMany 117 = .ok (.ireturn, 1) := by decide +kernel
theorem dX10_count_0 : decode cX10_count 0 = .ok (.aload_n 0, 1) := by decide +kernel
theorem dX10_count_1 : decode cX10_count 1 = .ok (.iload_n 1, 1) := by decide +kernel
theorem dX10_count_2 : decode cX10_count 2 = .ok (.invokevirtual 240, 3) := by decide +kernel
theorem dX10_count_5 : decode cX10_count 5 = .ok (.ireturn, 1) := by decide +kernel
theorem dX10_mix_0 : decode cX10_mix 0 = .ok (.aload_n 0, 1) := by decide +kernel
theorem dX10_mix_1 : decode cX10_mix 1 = .ok (.ldc2_w 243, 3) := by decide +kernel
theorem dX10_mix_4 : decode cX10_mix 4 = .ok (.aload_n 0, 1) := by decide +kernel
theorem dX10_mix_5 : decode cX10_mix 5 = .ok (.getfield 245, 3) := by decide +kernel
theorem dX10_mix_8 : decode cX10_mix 8 = .ok (.lmul, 1) := by decide +kernel
theorem dX10_mix_9 : decode cX10_mix 9 = .ok (.lload_n 1, 1) := by decide +kernel
theorem dX10_mix_10 : decode cX10_mix 10 = .ok (.ladd, 1) := by decide +kernel
theorem dX10_mix_11 : decode cX10_mix 11 = .ok (.putfield 245, 3) := by decide +kernel
theorem dX10_mix_14 : decode cX10_mix 14 = .ok (.return_, 1) := by decide +kernel
theorem dX10_mixPerson_0 : decode cX10_mixPerson 0 = .ok (.iconst 0, 1) := by decide +kernel
theorem dX10_mixPerson_1 : decode cX10_mixPerson 1 = .ok (.istore_n 2, 1) := by decide +kernel
theorem dX10_mixPerson_2 : decode cX10_mixPerson 2 = .ok (.iload_n 2, 1) := by decide +kernel
theorem dX10_mixPerson_3 : decode cX10_mixPerson 3 = .ok (.bipush 6, 2) := by decide +kernel
theorem dX10_mixPerson_5 : decode cX10_mixPerson 5 = .ok (.if_icmp .ge 20, 3) := by decide +kernel
theorem dX10_mixPerson_8 : decode cX10_mixPerson 8 = .ok (.aload_n 0, 1) := by decide +kernel
theorem dX10_mixPerson_9 : decode cX10_mixPerson 9 = .ok (.aload_n 0, 1) := by decide +kernel
theorem dX10_mixPerson_10 : decode cX10_mixPerson 10 = .ok (.iload_n 1, 1) := by decide +kernel
theorem dX10_mixPerson_11 : decode cX10_mixPerson 11 = .ok (.iload_n 2, 1) := by decide +kernel
theorem dX10_mixPerson_12 : decode cX10_mixPerson 12 = .ok (.invokevirtual 113, 3) := by decide +kernel
theorem dX10_mixPerson_15 : decode cX10_mixPerson 15 = .ok (.i2l, 1) := by decide +kernel
theorem dX10_mixPerson_16 : decode cX10_mixPerson 16 = .ok (.invokevirtual 248, 3) := by decide +kernel
theorem dX10_mixPerson_19 : decode cX10_mixPerson 19 = .ok (.iinc 2 1, 3) := by decide +kernel
theorem dX10_mixPerson_22 : decode cX10_mixPerson 22 = .ok (.goto (-20), 3) := by decide +kernel
theorem dX10_mixPerson_25 : decode cX10_mixPerson 25 = .ok (.aload_n 0, 1) := by decide +kernel
theorem dX10_mixPerson_26 : decode cX10_mixPerson 26 = .ok (.aload_n 0, 1) := by decide +kernel
theorem dX10_mixPerson_27 : decode cX10_mixPerson 27 = .ok (.iload_n 1, 1) := by decide +kernel
theorem dX10_mixPerson_28 : decode cX10_mixPerson 28 = .ok (.invokevirtual 154, 3) := by decide +kernel
theorem dX10_mixPerson_31 : decode cX10_mixPerson 31 = .ok (.i2l, 1) := by decide +kernel
theorem dX10_mixPerson_32 : decode cX10_mixPerson 32 = .ok (.invokevirtual 248, 3) := by decide +kernel
theorem dX10_mixPerson_35 : decode cX10_mixPerson 35 = .ok (.iconst 0, 1) := by decide +kernel
theorem dX10_mixPerson_36 : decode cX10_mixPerson 36 = .ok (.istore_n 2, 1) := by decide +kernel
theorem dX10_mixPerson_37 : decode cX10_mixPerson 37 = .ok (.iload_n 2, 1) := by decide +kernel
theorem dX10_mixPerson_38 : decode cX10_mixPerson 38 = .ok (.aload_n 0, 1) := by decide +kernel
theorem dX10_mixPerson_39 : decode cX10_mixPerson 39 = .ok (.getfield 93, 3) := by decide +kernel
theorem dX10_mixPerson_42 : decode cX10_mixPerson 42 = .ok (.if_icmp .ge 39, 3) := by decide +kernel
theorem dX10_mixPerson_45 : decode cX10_mixPerson 45 = .ok (.iconst 0, 1) := by decide +kernel
theorem dX10_mixPerson_46 : decode cX10_mixPerson 46 = .ok (.istore_n 3, 1) := by decide +kernel
theorem dX10_mixPerson_47 : decode cX10_mixPerson 47 = .ok (.iload_n 3, 1) := by decide +kernel
theorem dX10_mixPerson_48 : decode cX10_mixPerson 48 = .ok (.iconst 3, 1) := by decide +kernel
theorem dX10_mixPerson_49 : decode cX10_mixPerson 49 = .ok (.if_icmp .ge 26, 3) := by decide +kernel
theorem dX10_mixPerson_52 : decode cX10_mixPerson 52 = .ok (.iload_n 1, 1) := by decide +kernel
theorem dX10_mixPerson_53 : decode cX10_mixPerson 53 = .ok (.iload_n 2, 1) := by decide +kernel
theorem dX10_mixPerson_54 : decode cX10_mixPerson 54 = .ok (.if_icmp .eq 21, 3) := by decide +kernel
theorem dX10_mixPerson_57 : decode cX10_mixPerson 57 = .ok (.aload_n 0, 1) := by decide +kernel
theorem dX10_mixPerson_58 : decode cX10_mixPerson 58 = .ok (.aload_n 0, 1) := by decide +kernel
theorem dX10_mixPerson_59 : decode cX10_mixPerson 59 = .ok (.iload_n 1, 1) := by decide +kernel
theorem dX10_mixPerson_60 : decode cX10_mixPerson 60 = .ok (.iload_n 2, 1) := by decide +kernel
theorem dX10_mixPerson_61 : decode cX10_mixPerson 61 = .ok (.iload_n 3, 1) := by decide +kernel
theorem dX10_mixPerson_62 : decode cX10_mixPerson 62 = .ok (.invokevirtual 120, 3) := by decide +kernel
theorem dX10_mixPerson_65 : decode cX10_mixPerson 65 = .ok (.i2l, 1) := by decide +kernel
theorem dX10_mixPerson_66 : decode cX10_mixPerson 66 = .ok (.invokevirtual 248, 3) := by decide +kernel
theorem dX10_mixPerson_69 : decode cX10_mixPerson 69 = .ok (.iinc 3 1, 3) := by decide +kernel
theorem dX10_mixPerson_72 : decode cX10_mixPerson 72 = .ok (.goto (-25), 3) := by decide +kernel
theorem dX10_mixPerson_75 : decode cX10_mixPerson 75 = .ok (.iinc 2 1, 3) := by decide +kernel
theorem dX10_mixPerson_78 : decode cX10_mixPerson 78 = .ok (.goto (-41), 3) := by decide +kernel
theorem dX10_mixPerson_81 : decode cX10_mixPerson 81 = .ok (.return_, 1) := by decide +kernel
theorem dX10_digest_0 : decode cX10_digest 0 = .ok (.aload_n 0, 1) := by decide +kernel
theorem dX10_digest_1 : decode cX10_digest 1 = .ok (.ldc2_w 252, 3) := by decide +kernel
theorem dX10_digest_4 : decode cX10_digest 4 = .ok (.putfield 245, 3) := by decide +kernel
theorem dX10_digest_7 : decode cX10_digest 7 = .ok (.iconst 0, 1) := by decide +kernel
theorem dX10_digest_8 : decode cX10_digest 8 = .ok (.istore_n 1, 1) := by decide +kernel
theorem dX10_digest_9 : decode cX10_digest 9 = .ok (.iload_n 1, 1) := by decide +kernel
theorem dX10_digest_10 : decode cX10_digest 10 = .ok (.aload_n 0, 1) := by decide +kernel
theorem dX10_digest_11 : decode cX10_digest 11 = .ok (.getfield 93, 3) := by decide +kernel
theorem dX10_digest_14 : decode cX10_digest 14 = .ok (.if_icmp .ge 14, 3) := by decide +kernel
theorem dX10_digest_17 : decode cX10_digest 17 = .ok (.aload_n 0, 1) := by decide +kernel
theorem dX10_digest_18 : decode cX10_digest 18 = .ok (.iload_n 1, 1) := by decide +kernel
theorem dX10_digest_19 : decode cX10_digest 19 = .ok (.invokevirtual 254, 3) := by decide +kernel
theorem dX10_digest_22 : decode cX10_digest 22 = .ok (.iinc 1 1, 3) := by decide +kernel
theorem dX10_digest_25 : decode cX10_digest 25 = .ok (.goto (-16), 3) := by decide +kernel
theorem dX10_digest_28 : decode cX10_digest 28 = .ok (.aload_n 0, 1) := by decide +kernel
theorem dX10_digest_29 : decode cX10_digest 29 = .ok (.aload_n 0, 1) := by decide +kernel
theorem dX10_digest_30 : decode cX10_digest 30 = .ok (.invokevirtual 164, 3) := by decide +kernel
theorem dX10_digest_33 : decode cX10_digest 33 = .ok (.i2l, 1) := by decide +kernel
theorem dX10_digest_34 : decode cX10_digest 34 = .ok (.invokevirtual 248, 3) := by decide +kernel
theorem dX10_digest_37 : decode cX10_digest 37 = .ok (.aload_n 0, 1) := by decide +kernel
theorem dX10_digest_38 : decode cX10_digest 38 = .ok (.aload_n 0, 1) := by decide +kernel
theorem dX10_digest_39 : decode cX10_digest 39 = .ok (.iconst 0, 1) := by decide +kernel
theorem dX10_digest_40 : decode cX10_digest 40 = .ok (.invokevirtual 171, 3) := by decide +kernel
theorem dX10_digest_43 : decode cX10_digest 43 = .ok (.i2l, 1) := by decide +kernel
theorem dX10_digest_44 : decode cX10_digest 44 = .ok (.invokevirtual 248, 3) := by decide +kernel
theorem dX10_digest_47 : decode cX10_digest 47 = .ok (.aload_n 0, 1) := by decide +kernel
theorem dX10_digest_48 : decode cX10_digest 48 = .ok (.aload_n 0, 1) := by decide +kernel
theorem dX10_digest_49 : decode cX10_digest 49 = .ok (.iconst 1, 1) := by decide +kernel
theorem dX10_digest_50 : decode cX10_digest 50 = .ok (.invokevirtual 171, 3) := by decide +kernel
theorem dX10_digest_53 : decode cX10_digest 53 = .ok (.i2l, 1) := by decide +kernel
theorem dX10_digest_54 : decode cX10_digest 54 = .ok (.invokevirtual 248, 3) := by decide +kernel
theorem dX10_digest_57 : decode cX10_digest 57 = .ok (.bipush 10, 2) := by decide +kernel
theorem dX10_digest_59 : decode cX10_digest 59 = .ok (.istore_n 1, 1) := by decide +kernel
theorem dX10_digest_60 : decode cX10_digest 60 = .ok (.iload_n 1, 1) := by decide +kernel
theorem dX10_digest_61 : decode cX10_digest 61 = .ok (.bipush 14, 2) := by decide +kernel
theorem dX10_digest_63 : decode cX10_digest 63 = .ok (.if_icmp .ge 19, 3) := by decide +kernel
theorem dX10_digest_66 : decode cX10_digest 66 = .ok (.aload_n 0, 1) := by decide +kernel
theorem dX10_digest_67 : decode cX10_digest 67 = .ok (.aload_n 0, 1) := by decide +kernel
theorem dX10_digest_68 : decode cX10_digest 68 = .ok (.iload_n 1, 1) := by decide +kernel
theorem dX10_digest_69 : decode cX10_digest 69 = .ok (.invokevirtual 171, 3) := by decide +kernel
theorem dX10_digest_72 : decode cX10_digest 72 = .ok (.i2l, 1) := by decide +kernel
theorem dX10_digest_73 : decode cX10_digest 73 = .ok (.invokevirtual 248, 3) := by decide +kernel
theorem dX10_digest_76 : decode cX10_digest 76 = .ok (.iinc 1 1, 3) := by decide +kernel
theorem dX10_digest_79 : decode cX10_digest 79 = .ok (.goto (-19), 3) := by decide +kernel
theorem dX10_digest_82 : decode cX10_digest 82 = .ok (.iconst 0, 1) := by decide +kernel
theorem dX10_digest_83 : decode cX10_digest 83 = .ok (.istore_n 1, 1) := by decide +kernel
theorem dX10_digest_84 : decode cX10_digest 84 = .ok (.iload_n 1, 1) := by decide +kernel
theorem dX10_digest_85 : decode cX10_digest 85 = .ok (.aload_n 0, 1) := by decide +kernel
theorem dX10_digest_86 : decode cX10_digest 86 = .ok (.getfield 73, 3) := by decide +kernel
theorem dX10_digest_89 : decode cX10_digest 89 = .ok (.if_icmp .ge 20, 3) := by decide +kernel
theorem dX10_digest_92 : decode cX10_digest 92 = .ok (.aload_n 0, 1) := by decide +kernel
theorem dX10_digest_93 : decode cX10_digest 93 = .ok (.aload_n 0, 1) := by decide +kernel
theorem dX10_digest_94 : decode cX10_digest 94 = .ok (.getfield 41, 3) := by decide +kernel
theorem dX10_digest_97 : decode cX10_digest 97 = .ok (.iload_n 1, 1) := by decide +kernel
theorem dX10_digest_98 : decode cX10_digest 98 = .ok (.baload, 1) := by decide +kernel
theorem dX10_digest_99 : decode cX10_digest 99 = .ok (.i2l, 1) := by decide +kernel
theorem dX10_digest_100 : decode cX10_digest 100 = .ok (.invokevirtual 248, 3) := by decide +kernel
theorem dX10_digest_103 : decode cX10_digest 103 = .ok (.iinc 1 1, 3) := by decide +kernel
theorem dX10_digest_106 : decode cX10_digest 106 = .ok (.goto (-22), 3) := by decide +kernel
theorem dX10_digest_109 : decode cX10_digest 109 = .ok (.iconst 0, 1) := by decide +kernel
theorem dX10_digest_110 : decode cX10_digest 110 = .ok (.istore_n 1, 1) := by decide +kernel
theorem dX10_digest_111 : decode cX10_digest 111 = .ok (.iload_n 1, 1) := by decide +kernel
theorem dX10_digest_112 : decode cX10_digest 112 = .ok (.bipush 11, 2) := by decide +kernel
theorem dX10_digest_114 : decode cX10_digest 114 = .ok (.if_icmp .ge 19, 3) := by decide +kernel
theorem dX10_digest_117 : decode cX10_digest 117 = .ok (.aload_n 0, 1) := by decide +kernel
theorem dX10_digest_118 : decode cX10_digest 118 = .ok (.aload_n 0, 1) := by decide +kernel
theorem dX10_digest_119 : decode cX10_digest 119 = .ok (.iload_n 1, 1) := by decide +kernel
theorem dX10_digest_120 : decode cX10_digest 120 = .ok (.invokevirtual 240, 3) := by decide +kernel
theorem dX10_digest_123 : decode cX10_digest 123 = .ok (.i2l, 1) := by decide +kernel
theorem dX10_digest_124 : decode cX10_digest 124 = .ok (.invokevirtual 248, 3) := by decide +kernel
theorem dX10_digest_127 : decode cX10_digest 127 = .ok (.iinc 1 1, 3) := by decide +kernel
theorem dX10_digest_130 : decode cX10_digest 130 = .ok (.goto (-19), 3) := by decide +kernel
theorem dX10_digest_133 : decode cX10_digest 133 = .ok (.aload_n 0, 1) := by decide +kernel
theorem dX10_digest_134 : decode cX10_digest 134 = .ok (.getfield 245, 3) := by decide +kernel
theorem dX10_digest_137 : decode cX10_digest 137 = .ok (.lreturn, 1) := by decide +kernel
theorem dJ6_numberOfTrailingZeros_0f7a4_0 : decode cJ6_numberOfTrailingZeros_0f7a4 0 = .ok (.iload_n 0, 1) := by decide +kernel
theorem dJ6_numberOfTrailingZeros_0f7a4_1 : decode cJ6_numberOfTrailingZeros_0f7a4 1 = .ok (.iconst (-1), 1) := by decide +kernel
theorem dJ6_numberOfTrailingZeros_0f7a4_2 : decode cJ6_numberOfTrailingZeros_0f7a4 2 = .ok (.ixor, 1) := by decide +kernel
theorem dJ6_numberOfTrailingZeros_0f7a4_3 : decode cJ6_numberOfTrailingZeros_0f7a4 3 = .ok (.iload_n 0, 1) := by decide +kernel
theorem dJ6_numberOfTrailingZeros_0f7a4_4 : decode cJ6_numberOfTrailingZeros_0f7a4 4 = .ok (.iconst 1, 1) := by decide +kernel
theorem dJ6_numberOfTrailingZeros_0f7a4_5 : decode cJ6_numberOfTrailingZeros_0f7a4 5 = .ok (.isub, 1) := by decide +kernel
theorem dJ6_numberOfTrailingZeros_0f7a4_6 : decode cJ6_numberOfTrailingZeros_0f7a4 6 = .ok (.iand, 1) := by decide +kernel
theorem dJ6_numberOfTrailingZeros_0f7a4_7 : decode cJ6_numberOfTrailingZeros_0f7a4 7 = .ok (.istore_n 0, 1) := by decide +kernel
theorem dJ6_numberOfTrailingZeros_0f7a4_8 : decode cJ6_numberOfTrailingZeros_0f7a4 8 = .ok (.iload_n 0, 1) := by decide +kernel
theorem dJ6_numberOfTrailingZeros_0f7a4_9 : decode cJ6_numberOfTrailingZeros_0f7a4 9 = .ok (.ifCond .gt 8, 3) := by decide +kernel
theorem dJ6_numberOfTrailingZeros_0f7a4_12 : decode cJ6_numberOfTrailingZeros_0f7a4 12 = .ok (.iload_n 0, 1) := by decide +kernel
theorem dJ6_numberOfTrailingZeros_0f7a4_13 : decode cJ6_numberOfTrailingZeros_0f7a4 13 = .ok (.bipush 32, 2) := by decide +kernel
theorem dJ6_numberOfTrailingZeros_0f7a4_15 : decode cJ6_numberOfTrailingZeros_0f7a4 15 = .ok (.iand, 1) := by decide +kernel
theorem dJ6_numberOfTrailingZeros_0f7a4_16 : decode cJ6_numberOfTrailingZeros_0f7a4 16 = .ok (.ireturn, 1) := by decide +kernel
theorem dJ6_numberOfTrailingZeros_0f7a4_17 : decode cJ6_numberOfTrailingZeros_0f7a4 17 = .ok (.iconst 1, 1) := by decide +kernel
theorem dJ6_numberOfTrailingZeros_0f7a4_18 : decode cJ6_numberOfTrailingZeros_0f7a4 18 = .ok (.istore_n 1, 1) := by decide +kernel
theorem dJ6_numberOfTrailingZeros_0f7a4_19 : decode cJ6_numberOfTrailingZeros_0f7a4 19 = .ok (.iload_n 0, 1) := by decide +kernel
theorem dJ6_numberOfTrailingZeros_0f7a4_20 : decode cJ6_numberOfTrailingZeros_0f7a4 20 = .ok (.ldc_w 264, 3) := by decide +kernel
theorem dJ6_numberOfTrailingZeros_0f7a4_23 : decode cJ6_numberOfTrailingZeros_0f7a4 23 = .ok (.if_icmp .le 11, 3) := by decide +kernel
theorem dJ6_numberOfTrailingZeros_0f7a4_26 : decode cJ6_numberOfTrailingZeros_0f7a4 26 = .ok (.iinc 1 16, 3) := by decide +kernel
theorem dJ6_numberOfTrailingZeros_0f7a4_29 : decode cJ6_numberOfTrailingZeros_0f7a4 29 = .ok (.iload_n 0, 1) := by decide +kernel
theorem dJ6_numberOfTrailingZeros_0f7a4_30 : decode cJ6_numberOfTrailingZeros_0f7a4 30 = .ok (.bipush 16, 2) := by decide +kernel
theorem dJ6_numberOfTrailingZeros_0f7a4_32 : decode cJ6_numberOfTrailingZeros_0f7a4 32 = .ok (.iushr, 1) := by decide +kernel
theorem dJ6_numberOfTrailingZeros_0f7a4_33 : decode cJ6_numberOfTrailingZeros_0f7a4 33 = .ok (.istore_n 0, 1) := by decide +kernel
theorem dJ6_numberOfTrailingZeros_0f7a4_34 : decode cJ6_numberOfTrailingZeros_0f7a4 34 = .ok (.iload_n 0, 1) := by decide +kernel
theorem dJ6_numberOfTrailingZeros_0f7a4_35 : decode cJ6_numberOfTrailingZeros_0f7a4 35 = .ok (.sipush 256, 3) := by decide +kernel
theorem dJ6_numberOfTrailingZeros_0f7a4_38 : decode cJ6_numberOfTrailingZeros_0f7a4 38 = .ok (.if_icmp .le 11, 3) := by decide +kernel
theorem dJ6_numberOfTrailingZeros_0f7a4_41 : decode cJ6_numberOfTrailingZeros_0f7a4 41 = .ok (.iinc 1 8, 3) := by decide +kernel
theorem dJ6_numberOfTrailingZeros_0f7a4_44 : decode cJ6_numberOfTrailingZeros_0f7a4 44 = .ok (.iload_n 0, 1) := by decide +kernel
theorem dJ6_numberOfTrailingZeros_0f7a4_45 : decode cJ6_numberOfTrailingZeros_0f7a4 45 = .ok (.bipush 8, 2) := by decide +kernel
theorem dJ6_numberOfTrailingZeros_0f7a4_47 : decode cJ6_numberOfTrailingZeros_0f7a4 47 = .ok (.iushr, 1) := by decide +kernel
theorem dJ6_numberOfTrailingZeros_0f7a4_48 : decode cJ6_numberOfTrailingZeros_0f7a4 48 = .ok (.istore_n 0, 1) := by decide +kernel
theorem dJ6_numberOfTrailingZeros_0f7a4_49 : decode cJ6_numberOfTrailingZeros_0f7a4 49 = .ok (.iload_n 0, 1) := by decide +kernel
theorem dJ6_numberOfTrailingZeros_0f7a4_50 : decode cJ6_numberOfTrailingZeros_0f7a4 50 = .ok (.bipush 16, 2) := by decide +kernel
theorem dJ6_numberOfTrailingZeros_0f7a4_52 : decode cJ6_numberOfTrailingZeros_0f7a4 52 = .ok (.if_icmp .le 10, 3) := by decide +kernel
theorem dJ6_numberOfTrailingZeros_0f7a4_55 : decode cJ6_numberOfTrailingZeros_0f7a4 55 = .ok (.iinc 1 4, 3) := by decide +kernel
theorem dJ6_numberOfTrailingZeros_0f7a4_58 : decode cJ6_numberOfTrailingZeros_0f7a4 58 = .ok (.iload_n 0, 1) := by decide +kernel
theorem dJ6_numberOfTrailingZeros_0f7a4_59 : decode cJ6_numberOfTrailingZeros_0f7a4 59 = .ok (.iconst 4, 1) := by decide +kernel
theorem dJ6_numberOfTrailingZeros_0f7a4_60 : decode cJ6_numberOfTrailingZeros_0f7a4 60 = .ok (.iushr, 1) := by decide +kernel
theorem dJ6_numberOfTrailingZeros_0f7a4_61 : decode cJ6_numberOfTrailingZeros_0f7a4 61 = .ok (.istore_n 0, 1) := by decide +kernel
theorem dJ6_numberOfTrailingZeros_0f7a4_62 : decode cJ6_numberOfTrailingZeros_0f7a4 62 = .ok (.iload_n 0, 1) := by decide +kernel
theorem dJ6_numberOfTrailingZeros_0f7a4_63 : decode cJ6_numberOfTrailingZeros_0f7a4 63 = .ok (.iconst 4, 1) := by decide +kernel
theorem dJ6_numberOfTrailingZeros_0f7a4_64 : decode cJ6_numberOfTrailingZeros_0f7a4 64 = .ok (.if_icmp .le 10, 3) := by decide +kernel
theorem dJ6_numberOfTrailingZeros_0f7a4_67 : decode cJ6_numberOfTrailingZeros_0f7a4 67 = .ok (.iinc 1 2, 3) := by decide +kernel
theorem dJ6_numberOfTrailingZeros_0f7a4_70 : decode cJ6_numberOfTrailingZeros_0f7a4 70 = .ok (.iload_n 0, 1) := by decide +kernel
theorem dJ6_numberOfTrailingZeros_0f7a4_71 : decode cJ6_numberOfTrailingZeros_0f7a4 71 = .ok (.iconst 2, 1) := by decide +kernel
theorem dJ6_numberOfTrailingZeros_0f7a4_72 : decode cJ6_numberOfTrailingZeros_0f7a4 72 = .ok (.iushr, 1) := by decide +kernel
theorem dJ6_numberOfTrailingZeros_0f7a4_73 : decode cJ6_numberOfTrailingZeros_0f7a4 73 = .ok (.istore_n 0, 1) := by decide +kernel
theorem dJ6_numberOfTrailingZeros_0f7a4_74 : decode cJ6_numberOfTrailingZeros_0f7a4 74 = .ok (.iload_n 1, 1) := by decide +kernel
theorem dJ6_numberOfTrailingZeros_0f7a4_75 : decode cJ6_numberOfTrailingZeros_0f7a4 75 = .ok (.iload_n 0, 1) := by decide +kernel
theorem dJ6_numberOfTrailingZeros_0f7a4_76 : decode cJ6_numberOfTrailingZeros_0f7a4 76 = .ok (.iconst 1, 1) := by decide +kernel
theorem dJ6_numberOfTrailingZeros_0f7a4_77 : decode cJ6_numberOfTrailingZeros_0f7a4 77 = .ok (.iushr, 1) := by decide +kernel
theorem dJ6_numberOfTrailingZeros_0f7a4_78 : decode cJ6_numberOfTrailingZeros_0f7a4 78 = .ok (.iadd, 1) := by decide +kernel
theorem dJ6_numberOfTrailingZeros_0f7a4_79 : decode cJ6_numberOfTrailingZeros_0f7a4 79 = .ok (.ireturn, 1) := by decide +kernel
theorem dJ6_bitCount_0f7a4_0 : decode cJ6_bitCount_0f7a4 0 = .ok (.iload_n 0, 1) := by decide +kernel
theorem dJ6_bitCount_0f7a4_1 : decode cJ6_bitCount_0f7a4 1 = .ok (.iload_n 0, 1) := by decide +kernel
theorem dJ6_bitCount_0f7a4_2 : decode cJ6_bitCount_0f7a4 2 = .ok (.iconst 1, 1) := by decide +kernel
theorem dJ6_bitCount_0f7a4_3 : decode cJ6_bitCount_0f7a4 3 = .ok (.iushr, 1) := by decide +kernel
theorem dJ6_bitCount_0f7a4_4 : decode cJ6_bitCount_0f7a4 4 = .ok (.ldc_w 265, 3) := by decide +kernel
theorem dJ6_bitCount_0f7a4_7 : decode cJ6_bitCount_0f7a4 7 = .ok (.iand, 1) := by decide +kernel
theorem dJ6_bitCount_0f7a4_8 : decode cJ6_bitCount_0f7a4 8 = .ok (.isub, 1) := by decide +kernel
theorem dJ6_bitCount_0f7a4_9 : decode cJ6_bitCount_0f7a4 9 = .ok (.istore_n 0, 1) := by decide +kernel
theorem dJ6_bitCount_0f7a4_10 : decode cJ6_bitCount_0f7a4 10 = .ok (.iload_n 0, 1) := by decide +kernel
theorem dJ6_bitCount_0f7a4_11 : decode cJ6_bitCount_0f7a4 11 = .ok (.ldc_w 266, 3) := by decide +kernel
theorem dJ6_bitCount_0f7a4_14 : decode cJ6_bitCount_0f7a4 14 = .ok (.iand, 1) := by decide +kernel
theorem dJ6_bitCount_0f7a4_15 : decode cJ6_bitCount_0f7a4 15 = .ok (.iload_n 0, 1) := by decide +kernel
theorem dJ6_bitCount_0f7a4_16 : decode cJ6_bitCount_0f7a4 16 = .ok (.iconst 2, 1) := by decide +kernel
theorem dJ6_bitCount_0f7a4_17 : decode cJ6_bitCount_0f7a4 17 = .ok (.iushr, 1) := by decide +kernel
theorem dJ6_bitCount_0f7a4_18 : decode cJ6_bitCount_0f7a4 18 = .ok (.ldc_w 266, 3) := by decide +kernel
theorem dJ6_bitCount_0f7a4_21 : decode cJ6_bitCount_0f7a4 21 = .ok (.iand, 1) := by decide +kernel
theorem dJ6_bitCount_0f7a4_22 : decode cJ6_bitCount_0f7a4 22 = .ok (.iadd, 1) := by decide +kernel
theorem dJ6_bitCount_0f7a4_23 : decode cJ6_bitCount_0f7a4 23 = .ok (.istore_n 0, 1) := by decide +kernel
theorem dJ6_bitCount_0f7a4_24 : decode cJ6_bitCount_0f7a4 24 = .ok (.iload_n 0, 1) := by decide +kernel
theorem dJ6_bitCount_0f7a4_25 : decode cJ6_bitCount_0f7a4 25 = .ok (.iload_n 0, 1) := by decide +kernel
theorem dJ6_bitCount_0f7a4_26 : decode cJ6_bitCount_0f7a4 26 = .ok (.iconst 4, 1) := by decide +kernel
theorem dJ6_bitCount_0f7a4_27 : decode cJ6_bitCount_0f7a4 27 = .ok (.iushr, 1) := by decide +kernel
theorem dJ6_bitCount_0f7a4_28 : decode cJ6_bitCount_0f7a4 28 = .ok (.iadd, 1) := by decide +kernel
theorem dJ6_bitCount_0f7a4_29 : decode cJ6_bitCount_0f7a4 29 = .ok (.ldc_w 267, 3) := by decide +kernel
theorem dJ6_bitCount_0f7a4_32 : decode cJ6_bitCount_0f7a4 32 = .ok (.iand, 1) := by decide +kernel
theorem dJ6_bitCount_0f7a4_33 : decode cJ6_bitCount_0f7a4 33 = .ok (.istore_n 0, 1) := by decide +kernel
theorem dJ6_bitCount_0f7a4_34 : decode cJ6_bitCount_0f7a4 34 = .ok (.iload_n 0, 1) := by decide +kernel
theorem dJ6_bitCount_0f7a4_35 : decode cJ6_bitCount_0f7a4 35 = .ok (.iload_n 0, 1) := by decide +kernel
theorem dJ6_bitCount_0f7a4_36 : decode cJ6_bitCount_0f7a4 36 = .ok (.bipush 8, 2) := by decide +kernel
theorem dJ6_bitCount_0f7a4_38 : decode cJ6_bitCount_0f7a4 38 = .ok (.iushr, 1) := by decide +kernel
theorem dJ6_bitCount_0f7a4_39 : decode cJ6_bitCount_0f7a4 39 = .ok (.iadd, 1) := by decide +kernel
theorem dJ6_bitCount_0f7a4_40 : decode cJ6_bitCount_0f7a4 40 = .ok (.istore_n 0, 1) := by decide +kernel
theorem dJ6_bitCount_0f7a4_41 : decode cJ6_bitCount_0f7a4 41 = .ok (.iload_n 0, 1) := by decide +kernel
theorem dJ6_bitCount_0f7a4_42 : decode cJ6_bitCount_0f7a4 42 = .ok (.iload_n 0, 1) := by decide +kernel
theorem dJ6_bitCount_0f7a4_43 : decode cJ6_bitCount_0f7a4 43 = .ok (.bipush 16, 2) := by decide +kernel
theorem dJ6_bitCount_0f7a4_45 : decode cJ6_bitCount_0f7a4 45 = .ok (.iushr, 1) := by decide +kernel
theorem dJ6_bitCount_0f7a4_46 : decode cJ6_bitCount_0f7a4 46 = .ok (.iadd, 1) := by decide +kernel
theorem dJ6_bitCount_0f7a4_47 : decode cJ6_bitCount_0f7a4 47 = .ok (.istore_n 0, 1) := by decide +kernel
theorem dJ6_bitCount_0f7a4_48 : decode cJ6_bitCount_0f7a4 48 = .ok (.iload_n 0, 1) := by decide +kernel
theorem dJ6_bitCount_0f7a4_49 : decode cJ6_bitCount_0f7a4 49 = .ok (.bipush 63, 2) := by decide +kernel
theorem dJ6_bitCount_0f7a4_51 : decode cJ6_bitCount_0f7a4 51 = .ok (.iand, 1) := by decide +kernel
theorem dJ6_bitCount_0f7a4_52 : decode cJ6_bitCount_0f7a4 52 = .ok (.ireturn, 1) := by decide +kernel
theorem dJ9_max_7cf53_0 : decode cJ9_max_7cf53 0 = .ok (.iload_n 0, 1) := by decide +kernel
theorem dJ9_max_7cf53_1 : decode cJ9_max_7cf53 1 = .ok (.iload_n 1, 1) := by decide +kernel
theorem dJ9_max_7cf53_2 : decode cJ9_max_7cf53 2 = .ok (.if_icmp .lt 7, 3) := by decide +kernel
theorem dJ9_max_7cf53_5 : decode cJ9_max_7cf53 5 = .ok (.iload_n 0, 1) := by decide +kernel
theorem dJ9_max_7cf53_6 : decode cJ9_max_7cf53 6 = .ok (.goto 4, 3) := by decide +kernel
theorem dJ9_max_7cf53_9 : decode cJ9_max_7cf53 9 = .ok (.iload_n 1, 1) := by decide +kernel
theorem dJ9_max_7cf53_10 : decode cJ9_max_7cf53 10 = .ok (.ireturn, 1) := by decide +kernel
theorem dJ9_min_7cf53_0 : decode cJ9_min_7cf53 0 = .ok (.iload_n 0, 1) := by decide +kernel
theorem dJ9_min_7cf53_1 : decode cJ9_min_7cf53 1 = .ok (.iload_n 1, 1) := by decide +kernel
theorem dJ9_min_7cf53_2 : decode cJ9_min_7cf53 2 = .ok (.if_icmp .gt 7, 3) := by decide +kernel
theorem dJ9_min_7cf53_5 : decode cJ9_min_7cf53 5 = .ok (.iload_n 0, 1) := by decide +kernel
theorem dJ9_min_7cf53_6 : decode cJ9_min_7cf53 6 = .ok (.goto 4, 3) := by decide +kernel
theorem dJ9_min_7cf53_9 : decode cJ9_min_7cf53 9 = .ok (.iload_n 1, 1) := by decide +kernel
theorem dJ9_min_7cf53_10 : decode cJ9_min_7cf53 10 = .ok (.ireturn, 1) := by decide +kernel
theorem dL_law_0 : decode cL_law 0 = .ok (.new 7, 3) := by decide +kernel
theorem dL_law_3 : decode cL_law 3 = .ok (.dup, 1) := by decide +kernel
theorem dL_law_4 : decode cL_law 4 = .ok (.invokespecial 9, 3) := by decide +kernel
theorem dL_law_7 : decode cL_law 7 = .ok (.astore_n 1, 1) := by decide +kernel
theorem dL_law_8 : decode cL_law 8 = .ok (.new 10, 3) := by decide +kernel
theorem dL_law_11 : decode cL_law 11 = .ok (.dup, 1) := by decide +kernel
theorem dL_law_12 : decode cL_law 12 = .ok (.invokespecial 12, 3) := by decide +kernel
theorem dL_law_15 : decode cL_law 15 = .ok (.astore_n 2, 1) := by decide +kernel
theorem dL_law_16 : decode cL_law 16 = .ok (.iconst 0, 1) := by decide +kernel
theorem dL_law_17 : decode cL_law 17 = .ok (.istore_n 3, 1) := by decide +kernel
theorem dL_law_18 : decode cL_law 18 = .ok (.iload_n 3, 1) := by decide +kernel
theorem dL_law_19 : decode cL_law 19 = .ok (.aload_n 0, 1) := by decide +kernel
theorem dL_law_20 : decode cL_law 20 = .ok (.arraylength, 1) := by decide +kernel
theorem dL_law_21 : decode cL_law 21 = .ok (.bipush 6, 2) := by decide +kernel
theorem dL_law_23 : decode cL_law 23 = .ok (.isub, 1) := by decide +kernel
theorem dL_law_24 : decode cL_law 24 = .ok (.if_icmp .gt 936, 3) := by decide +kernel
theorem dL_law_27 : decode cL_law 27 = .ok (.aload_n 0, 1) := by decide +kernel
theorem dL_law_28 : decode cL_law 28 = .ok (.iload_n 3, 1) := by decide +kernel
theorem dL_law_29 : decode cL_law 29 = .ok (.iaload, 1) := by decide +kernel
theorem dL_law_30 : decode cL_law 30 = .ok (.bipush 31, 2) := by decide +kernel
theorem dL_law_32 : decode cL_law 32 = .ok (.iand, 1) := by decide +kernel
theorem dL_law_33 : decode cL_law 33 = .ok (.tableswitch 921 0 26 #[123, 146, 159, 172, 185, 218, 251, 284, 327, 396, 409, 452, 485, 528, 561, 584, 607, 620, 643, 686, 699, 752, 815, 858, 871, 884, 907], 123) := by decide +kernel
theorem dL_law_156 : decode cL_law 156 = .ok (.aload_n 1, 1) := by decide +kernel
theorem dL_law_157 : decode cL_law 157 = .ok (.aload_n 0, 1) := by decide +kernel
theorem dL_law_158 : decode cL_law 158 = .ok (.iload_n 3, 1) := by decide +kernel
theorem dL_law_159 : decode cL_law 159 = .ok (.iconst 1, 1) := by decide +kernel
theorem dL_law_160 : decode cL_law 160 = .ok (.iadd, 1) := by decide +kernel
theorem dL_law_161 : decode cL_law 161 = .ok (.iaload, 1) := by decide +kernel
theorem dL_law_162 : decode cL_law 162 = .ok (.invokevirtual 13, 3) := by decide +kernel
theorem dL_law_165 : decode cL_law 165 = .ok (.aload_n 2, 1) := by decide +kernel
theorem dL_law_166 : decode cL_law 166 = .ok (.aload_n 0, 1) := by decide +kernel
theorem dL_law_167 : decode cL_law 167 = .ok (.iload_n 3, 1) := by decide +kernel
theorem dL_law_168 : decode cL_law 168 = .ok (.iconst 1, 1) := by decide +kernel
theorem dL_law_169 : decode cL_law 169 = .ok (.iadd, 1) := by decide +kernel
theorem dL_law_170 : decode cL_law 170 = .ok (.iaload, 1) := by decide +kernel
theorem dL_law_171 : decode cL_law 171 = .ok (.invokevirtual 17, 3) := by decide +kernel
theorem dL_law_174 : decode cL_law 174 = .ok (.if_icmp .eq 780, 3) := by decide +kernel
theorem dL_law_177 : decode cL_law 177 = .ok (.iconst 0, 1) := by decide +kernel
theorem dL_law_178 : decode cL_law 178 = .ok (.ireturn, 1) := by decide +kernel
theorem dL_law_179 : decode cL_law 179 = .ok (.aload_n 1, 1) := by decide +kernel
theorem dL_law_180 : decode cL_law 180 = .ok (.invokevirtual 18, 3) := by decide +kernel
theorem dL_law_183 : decode cL_law 183 = .ok (.aload_n 2, 1) := by decide +kernel
theorem dL_law_184 : decode cL_law 184 = .ok (.invokevirtual 22, 3) := by decide +kernel
theorem dL_law_187 : decode cL_law 187 = .ok (.if_icmp .eq 767, 3) := by decide +kernel
theorem dL_law_190 : decode cL_law 190 = .ok (.iconst 0, 1) := by decide +kernel
theorem dL_law_191 : decode cL_law 191 = .ok (.ireturn, 1) := by decide +kernel
theorem dL_law_192 : decode cL_law 192 = .ok (.aload_n 1, 1) := by decide +kernel
theorem dL_law_193 : decode cL_law 193 = .ok (.invokevirtual 23, 3) := by decide +kernel
theorem dL_law_196 : decode cL_law 196 = .ok (.aload_n 2, 1) := by decide +kernel
theorem dL_law_197 : decode cL_law 197 = .ok (.invokevirtual 26, 3) := by decide +kernel
theorem dL_law_200 : decode cL_law 200 = .ok (.if_icmp .eq 754, 3) := by decide +kernel
theorem dL_law_203 : decode cL_law 203 = .ok (.iconst 0, 1) := by decide +kernel
theorem dL_law_204 : decode cL_law 204 = .ok (.ireturn, 1) := by decide +kernel
theorem dL_law_205 : decode cL_law 205 = .ok (.aload_n 1, 1) := by decide +kernel
theorem dL_law_206 : decode cL_law 206 = .ok (.invokevirtual 27, 3) := by decide +kernel
theorem dL_law_209 : decode cL_law 209 = .ok (.aload_n 2, 1) := by decide +kernel
theorem dL_law_210 : decode cL_law 210 = .ok (.invokevirtual 30, 3) := by decide +kernel
theorem dL_law_213 : decode cL_law 213 = .ok (.if_icmp .eq 741, 3) := by decide +kernel
theorem dL_law_216 : decode cL_law 216 = .ok (.iconst 0, 1) := by decide +kernel
theorem dL_law_217 : decode cL_law 217 = .ok (.ireturn, 1) := by decide +kernel
theorem dL_law_218 : decode cL_law 218 = .ok (.aload_n 1, 1) := by decide +kernel
theorem dL_law_219 : decode cL_law 219 = .ok (.aload_n 0, 1) := by decide +kernel
theorem dL_law_220 : decode cL_law 220 = .ok (.iload_n 3, 1) := by decide +kernel
theorem dL_law_221 : decode cL_law 221 = .ok (.iconst 1, 1) := by decide +kernel
theorem dL_law_222 : decode cL_law 222 = .ok (.iadd, 1) := by decide +kernel
theorem dL_law_223 : decode cL_law 223 = .ok (.iaload, 1) := by decide +kernel
theorem dL_law_224 : decode cL_law 224 = .ok (.aload_n 0, 1) := by decide +kernel
theorem dL_law_225 : decode cL_law 225 = .ok (.iload_n 3, 1) := by decide +kernel
theorem dL_law_226 : decode cL_law 226 = .ok (.iconst 2, 1) := by decide +kernel
theorem dL_law_227 : decode cL_law 227 = .ok (.iadd, 1) := by decide +kernel
theorem dL_law_228 : decode cL_law 228 = .ok (.iaload, 1) := by decide +kernel
theorem dL_law_229 : decode cL_law 229 = .ok (.invokevirtual 31, 3) := by decide +kernel
theorem dL_law_232 : decode cL_law 232 = .ok (.aload_n 2, 1) := by decide +kernel
theorem dL_law_233 : decode cL_law 233 = .ok (.aload_n 0, 1) := by decide +kernel
theorem dL_law_234 : decode cL_law 234 = .ok (.iload_n 3, 1) := by decide +kernel
theorem dL_law_235 : decode cL_law 235 = .ok (.iconst 1, 1) := by decide +kernel
theorem dL_law_236 : decode cL_law 236 = .ok (.iadd, 1) := by decide +kernel
theorem dL_law_237 : decode cL_law 237 = .ok (.iaload, 1) := by decide +kernel
theorem dL_law_238 : decode cL_law 238 = .ok (.aload_n 0, 1) := by decide +kernel
theorem dL_law_239 : decode cL_law 239 = .ok (.iload_n 3, 1) := by decide +kernel
theorem dL_law_240 : decode cL_law 240 = .ok (.iconst 2, 1) := by decide +kernel
theorem dL_law_241 : decode cL_law 241 = .ok (.iadd, 1) := by decide +kernel
theorem dL_law_242 : decode cL_law 242 = .ok (.iaload, 1) := by decide +kernel
theorem dL_law_243 : decode cL_law 243 = .ok (.invokevirtual 35, 3) := by decide +kernel
theorem dL_law_246 : decode cL_law 246 = .ok (.if_icmp .eq 708, 3) := by decide +kernel
theorem dL_law_249 : decode cL_law 249 = .ok (.iconst 0, 1) := by decide +kernel
theorem dL_law_250 : decode cL_law 250 = .ok (.ireturn, 1) := by decide +kernel
theorem dL_law_251 : decode cL_law 251 = .ok (.aload_n 1, 1) := by decide +kernel
theorem dL_law_252 : decode cL_law 252 = .ok (.aload_n 0, 1) := by decide +kernel
theorem dL_law_253 : decode cL_law 253 = .ok (.iload_n 3, 1) := by decide +kernel
theorem dL_law_254 : decode cL_law 254 = .ok (.iconst 1, 1) := by decide +kernel
theorem dL_law_255 : decode cL_law 255 = .ok (.iadd, 1) := by decide +kernel
theorem dL_law_256 : decode cL_law 256 = .ok (.iaload, 1) := by decide +kernel
theorem dL_law_257 : decode cL_law 257 = .ok (.aload_n 0, 1) := by decide +kernel
theorem dL_law_258 : decode cL_law 258 = .ok (.iload_n 3, 1) := by decide +kernel
theorem dL_law_259 : decode cL_law 259 = .ok (.iconst 2, 1) := by decide +kernel
theorem dL_law_260 : decode cL_law 260 = .ok (.iadd, 1) := by decide +kernel
theorem dL_law_261 : decode cL_law 261 = .ok (.iaload, 1) := by decide +kernel
theorem dL_law_262 : decode cL_law 262 = .ok (.invokevirtual 36, 3) := by decide +kernel
theorem dL_law_265 : decode cL_law 265 = .ok (.aload_n 2, 1) := by decide +kernel
theorem dL_law_266 : decode cL_law 266 = .ok (.aload_n 0, 1) := by decide +kernel
theorem dL_law_267 : decode cL_law 267 = .ok (.iload_n 3, 1) := by decide +kernel
theorem dL_law_268 : decode cL_law 268 = .ok (.iconst 1, 1) := by decide +kernel
theorem dL_law_269 : decode cL_law 269 = .ok (.iadd, 1) := by decide +kernel
theorem dL_law_270 : decode cL_law 270 = .ok (.iaload, 1) := by decide +kernel
theorem dL_law_271 : decode cL_law 271 = .ok (.aload_n 0, 1) := by decide +kernel
theorem dL_law_272 : decode cL_law 272 = .ok (.iload_n 3, 1) := by decide +kernel
theorem dL_law_273 : decode cL_law 273 = .ok (.iconst 2, 1) := by decide +kernel
theorem dL_law_274 : decode cL_law 274 = .ok (.iadd, 1) := by decide +kernel
theorem dL_law_275 : decode cL_law 275 = .ok (.iaload, 1) := by decide +kernel
theorem dL_law_276 : decode cL_law 276 = .ok (.invokevirtual 39, 3) := by decide +kernel
theorem dL_law_279 : decode cL_law 279 = .ok (.if_icmp .eq 675, 3) := by decide +kernel
theorem dL_law_282 : decode cL_law 282 = .ok (.iconst 0, 1) := by decide +kernel
theorem dL_law_283 : decode cL_law 283 = .ok (.ireturn, 1) := by decide +kernel
theorem dL_law_284 : decode cL_law 284 = .ok (.aload_n 1, 1) := by decide +kernel
theorem dL_law_285 : decode cL_law 285 = .ok (.aload_n 0, 1) := by decide +kernel
theorem dL_law_286 : decode cL_law 286 = .ok (.iload_n 3, 1) := by decide +kernel
theorem dL_law_287 : decode cL_law 287 = .ok (.iconst 1, 1) := by decide +kernel
theorem dL_law_288 : decode cL_law 288 = .ok (.iadd, 1) := by decide +kernel
theorem dL_law_289 : decode cL_law 289 = .ok (.iaload, 1) := by decide +kernel
theorem dL_law_290 : decode cL_law 290 = .ok (.aload_n 0, 1) := by decide +kernel
theorem dL_law_291 : decode cL_law 291 = .ok (.iload_n 3, 1) := by decide +kernel
theorem dL_law_292 : decode cL_law 292 = .ok (.iconst 2, 1) := by decide +kernel
theorem dL_law_293 : decode cL_law 293 = .ok (.iadd, 1) := by decide +kernel
theorem dL_law_294 : decode cL_law 294 = .ok (.iaload, 1) := by decide +kernel
theorem dL_law_295 : decode cL_law 295 = .ok (.invokevirtual 40, 3) := by decide +kernel
theorem dL_law_298 : decode cL_law 298 = .ok (.aload_n 2, 1) := by decide +kernel
theorem dL_law_299 : decode cL_law 299 = .ok (.aload_n 0, 1) := by decide +kernel
theorem dL_law_300 : decode cL_law 300 = .ok (.iload_n 3, 1) := by decide +kernel
theorem dL_law_301 : decode cL_law 301 = .ok (.iconst 1, 1) := by decide +kernel
theorem dL_law_302 : decode cL_law 302 = .ok (.iadd, 1) := by decide +kernel
theorem dL_law_303 : decode cL_law 303 = .ok (.iaload, 1) := by decide +kernel
theorem dL_law_304 : decode cL_law 304 = .ok (.aload_n 0, 1) := by decide +kernel
theorem dL_law_305 : decode cL_law 305 = .ok (.iload_n 3, 1) := by decide +kernel
theorem dL_law_306 : decode cL_law 306 = .ok (.iconst 2, 1) := by decide +kernel
theorem dL_law_307 : decode cL_law 307 = .ok (.iadd, 1) := by decide +kernel
theorem dL_law_308 : decode cL_law 308 = .ok (.iaload, 1) := by decide +kernel
theorem dL_law_309 : decode cL_law 309 = .ok (.invokevirtual 43, 3) := by decide +kernel
theorem dL_law_312 : decode cL_law 312 = .ok (.if_icmp .eq 642, 3) := by decide +kernel
theorem dL_law_315 : decode cL_law 315 = .ok (.iconst 0, 1) := by decide +kernel
theorem dL_law_316 : decode cL_law 316 = .ok (.ireturn, 1) := by decide +kernel
theorem dL_law_317 : decode cL_law 317 = .ok (.aload_n 1, 1) := by decide +kernel
theorem dL_law_318 : decode cL_law 318 = .ok (.aload_n 0, 1) := by decide +kernel
theorem dL_law_319 : decode cL_law 319 = .ok (.iload_n 3, 1) := by decide +kernel
theorem dL_law_320 : decode cL_law 320 = .ok (.iconst 1, 1) := by decide +kernel
theorem dL_law_321 : decode cL_law 321 = .ok (.iadd, 1) := by decide +kernel
theorem dL_law_322 : decode cL_law 322 = .ok (.iaload, 1) := by decide +kernel
theorem dL_law_323 : decode cL_law 323 = .ok (.aload_n 0, 1) := by decide +kernel
theorem dL_law_324 : decode cL_law 324 = .ok (.iload_n 3, 1) := by decide +kernel
theorem dL_law_325 : decode cL_law 325 = .ok (.iconst 2, 1) := by decide +kernel
theorem dL_law_326 : decode cL_law 326 = .ok (.iadd, 1) := by decide +kernel
theorem dL_law_327 : decode cL_law 327 = .ok (.iaload, 1) := by decide +kernel
theorem dL_law_328 : decode cL_law 328 = .ok (.aload_n 0, 1) := by decide +kernel
theorem dL_law_329 : decode cL_law 329 = .ok (.iload_n 3, 1) := by decide +kernel
theorem dL_law_330 : decode cL_law 330 = .ok (.iconst 3, 1) := by decide +kernel
theorem dL_law_331 : decode cL_law 331 = .ok (.iadd, 1) := by decide +kernel
theorem dL_law_332 : decode cL_law 332 = .ok (.iaload, 1) := by decide +kernel
theorem dL_law_333 : decode cL_law 333 = .ok (.invokevirtual 44, 3) := by decide +kernel
theorem dL_law_336 : decode cL_law 336 = .ok (.aload_n 2, 1) := by decide +kernel
theorem dL_law_337 : decode cL_law 337 = .ok (.aload_n 0, 1) := by decide +kernel
theorem dL_law_338 : decode cL_law 338 = .ok (.iload_n 3, 1) := by decide +kernel
theorem dL_law_339 : decode cL_law 339 = .ok (.iconst 1, 1) := by decide +kernel
theorem dL_law_340 : decode cL_law 340 = .ok (.iadd, 1) := by decide +kernel
theorem dL_law_341 : decode cL_law 341 = .ok (.iaload, 1) := by decide +kernel
theorem dL_law_342 : decode cL_law 342 = .ok (.aload_n 0, 1) := by decide +kernel
theorem dL_law_343 : decode cL_law 343 = .ok (.iload_n 3, 1) := by decide +kernel
theorem dL_law_344 : decode cL_law 344 = .ok (.iconst 2, 1) := by decide +kernel
theorem dL_law_345 : decode cL_law 345 = .ok (.iadd, 1) := by decide +kernel
theorem dL_law_346 : decode cL_law 346 = .ok (.iaload, 1) := by decide +kernel
theorem dL_law_347 : decode cL_law 347 = .ok (.aload_n 0, 1) := by decide +kernel
theorem dL_law_348 : decode cL_law 348 = .ok (.iload_n 3, 1) := by decide +kernel
theorem dL_law_349 : decode cL_law 349 = .ok (.iconst 3, 1) := by decide +kernel
theorem dL_law_350 : decode cL_law 350 = .ok (.iadd, 1) := by decide +kernel
theorem dL_law_351 : decode cL_law 351 = .ok (.iaload, 1) := by decide +kernel
theorem dL_law_352 : decode cL_law 352 = .ok (.invokevirtual 48, 3) := by decide +kernel
theorem dL_law_355 : decode cL_law 355 = .ok (.if_icmp .eq 599, 3) := by decide +kernel
theorem dL_law_358 : decode cL_law 358 = .ok (.iconst 0, 1) := by decide +kernel
theorem dL_law_359 : decode cL_law 359 = .ok (.ireturn, 1) := by decide +kernel
theorem dL_law_360 : decode cL_law 360 = .ok (.aload_n 1, 1) := by decide +kernel
theorem dL_law_361 : decode cL_law 361 = .ok (.aload_n 0, 1) := by decide +kernel
theorem dL_law_362 : decode cL_law 362 = .ok (.iload_n 3, 1) := by decide +kernel
theorem dL_law_363 : decode cL_law 363 = .ok (.iconst 1, 1) := by decide +kernel
theorem dL_law_364 : decode cL_law 364 = .ok (.iadd, 1) := by decide +kernel
theorem dL_law_365 : decode cL_law 365 = .ok (.iaload, 1) := by decide +kernel
theorem dL_law_366 : decode cL_law 366 = .ok (.aload_n 0, 1) := by decide +kernel
theorem dL_law_367 : decode cL_law 367 = .ok (.iload_n 3, 1) := by decide +kernel
theorem dL_law_368 : decode cL_law 368 = .ok (.iconst 2, 1) := by decide +kernel
theorem dL_law_369 : decode cL_law 369 = .ok (.iadd, 1) := by decide +kernel
theorem dL_law_370 : decode cL_law 370 = .ok (.iaload, 1) := by decide +kernel
theorem dL_law_371 : decode cL_law 371 = .ok (.aload_n 0, 1) := by decide +kernel
theorem dL_law_372 : decode cL_law 372 = .ok (.iload_n 3, 1) := by decide +kernel
theorem dL_law_373 : decode cL_law 373 = .ok (.iconst 3, 1) := by decide +kernel
theorem dL_law_374 : decode cL_law 374 = .ok (.iadd, 1) := by decide +kernel
theorem dL_law_375 : decode cL_law 375 = .ok (.iaload, 1) := by decide +kernel
theorem dL_law_376 : decode cL_law 376 = .ok (.aload_n 0, 1) := by decide +kernel
theorem dL_law_377 : decode cL_law 377 = .ok (.iload_n 3, 1) := by decide +kernel
theorem dL_law_378 : decode cL_law 378 = .ok (.iconst 4, 1) := by decide +kernel
theorem dL_law_379 : decode cL_law 379 = .ok (.iadd, 1) := by decide +kernel
theorem dL_law_380 : decode cL_law 380 = .ok (.iaload, 1) := by decide +kernel
theorem dL_law_381 : decode cL_law 381 = .ok (.ifCond .eq 7, 3) := by decide +kernel
theorem dL_law_384 : decode cL_law 384 = .ok (.iconst 1, 1) := by decide +kernel
theorem dL_law_385 : decode cL_law 385 = .ok (.goto 4, 3) := by decide +kernel
theorem dL_law_388 : decode cL_law 388 = .ok (.iconst 0, 1) := by decide +kernel
theorem dL_law_389 : decode cL_law 389 = .ok (.invokevirtual 49, 3) := by decide +kernel
theorem dL_law_392 : decode cL_law 392 = .ok (.aload_n 2, 1) := by decide +kernel
theorem dL_law_393 : decode cL_law 393 = .ok (.aload_n 0, 1) := by decide +kernel
theorem dL_law_394 : decode cL_law 394 = .ok (.iload_n 3, 1) := by decide +kernel
theorem dL_law_395 : decode cL_law 395 = .ok (.iconst 1, 1) := by decide +kernel
theorem dL_law_396 : decode cL_law 396 = .ok (.iadd, 1) := by decide +kernel
theorem dL_law_397 : decode cL_law 397 = .ok (.iaload, 1) := by decide +kernel
theorem dL_law_398 : decode cL_law 398 = .ok (.aload_n 0, 1) := by decide +kernel
theorem dL_law_399 : decode cL_law 399 = .ok (.iload_n 3, 1) := by decide +kernel
theorem dL_law_400 : decode cL_law 400 = .ok (.iconst 2, 1) := by decide +kernel
theorem dL_law_401 : decode cL_law 401 = .ok (.iadd, 1) := by decide +kernel
theorem dL_law_402 : decode cL_law 402 = .ok (.iaload, 1) := by decide +kernel
theorem dL_law_403 : decode cL_law 403 = .ok (.aload_n 0, 1) := by decide +kernel
theorem dL_law_404 : decode cL_law 404 = .ok (.iload_n 3, 1) := by decide +kernel
theorem dL_law_405 : decode cL_law 405 = .ok (.iconst 3, 1) := by decide +kernel
theorem dL_law_406 : decode cL_law 406 = .ok (.iadd, 1) := by decide +kernel
theorem dL_law_407 : decode cL_law 407 = .ok (.iaload, 1) := by decide +kernel
theorem dL_law_408 : decode cL_law 408 = .ok (.aload_n 0, 1) := by decide +kernel
theorem dL_law_409 : decode cL_law 409 = .ok (.iload_n 3, 1) := by decide +kernel
theorem dL_law_410 : decode cL_law 410 = .ok (.iconst 4, 1) := by decide +kernel
theorem dL_law_411 : decode cL_law 411 = .ok (.iadd, 1) := by decide +kernel
theorem dL_law_412 : decode cL_law 412 = .ok (.iaload, 1) := by decide +kernel
theorem dL_law_413 : decode cL_law 413 = .ok (.ifCond .eq 7, 3) := by decide +kernel
theorem dL_law_416 : decode cL_law 416 = .ok (.iconst 1, 1) := by decide +kernel
theorem dL_law_417 : decode cL_law 417 = .ok (.goto 4, 3) := by decide +kernel
theorem dL_law_420 : decode cL_law 420 = .ok (.iconst 0, 1) := by decide +kernel
theorem dL_law_421 : decode cL_law 421 = .ok (.invokevirtual 53, 3) := by decide +kernel
theorem dL_law_424 : decode cL_law 424 = .ok (.if_icmp .eq 530, 3) := by decide +kernel
theorem dL_law_427 : decode cL_law 427 = .ok (.iconst 0, 1) := by decide +kernel
theorem dL_law_428 : decode cL_law 428 = .ok (.ireturn, 1) := by decide +kernel
theorem dL_law_429 : decode cL_law 429 = .ok (.aload_n 1, 1) := by decide +kernel
theorem dL_law_430 : decode cL_law 430 = .ok (.invokevirtual 54, 3) := by decide +kernel
theorem dL_law_433 : decode cL_law 433 = .ok (.aload_n 2, 1) := by decide +kernel
theorem dL_law_434 : decode cL_law 434 = .ok (.invokevirtual 57, 3) := by decide +kernel
theorem dL_law_437 : decode cL_law 437 = .ok (.if_icmp .eq 517, 3) := by decide +kernel
theorem dL_law_440 : decode cL_law 440 = .ok (.iconst 0, 1) := by decide +kernel
theorem dL_law_441 : decode cL_law 441 = .ok (.ireturn, 1) := by decide +kernel
theorem dL_law_442 : decode cL_law 442 = .ok (.aload_n 1, 1) := by decide +kernel
theorem dL_law_443 : decode cL_law 443 = .ok (.aload_n 0, 1) := by decide +kernel
theorem dL_law_444 : decode cL_law 444 = .ok (.iload_n 3, 1) := by decide +kernel
theorem dL_law_445 : decode cL_law 445 = .ok (.iconst 1, 1) := by decide +kernel
theorem dL_law_446 : decode cL_law 446 = .ok (.iadd, 1) := by decide +kernel
theorem dL_law_447 : decode cL_law 447 = .ok (.iaload, 1) := by decide +kernel
theorem dL_law_448 : decode cL_law 448 = .ok (.aload_n 0, 1) := by decide +kernel
theorem dL_law_449 : decode cL_law 449 = .ok (.iload_n 3, 1) := by decide +kernel
theorem dL_law_450 : decode cL_law 450 = .ok (.iconst 2, 1) := by decide +kernel
theorem dL_law_451 : decode cL_law 451 = .ok (.iadd, 1) := by decide +kernel
theorem dL_law_452 : decode cL_law 452 = .ok (.iaload, 1) := by decide +kernel
theorem dL_law_453 : decode cL_law 453 = .ok (.aload_n 0, 1) := by decide +kernel
theorem dL_law_454 : decode cL_law 454 = .ok (.iload_n 3, 1) := by decide +kernel
theorem dL_law_455 : decode cL_law 455 = .ok (.iconst 3, 1) := by decide +kernel
theorem dL_law_456 : decode cL_law 456 = .ok (.iadd, 1) := by decide +kernel
theorem dL_law_457 : decode cL_law 457 = .ok (.iaload, 1) := by decide +kernel
theorem dL_law_458 : decode cL_law 458 = .ok (.invokevirtual 58, 3) := by decide +kernel
theorem dL_law_461 : decode cL_law 461 = .ok (.aload_n 2, 1) := by decide +kernel
theorem dL_law_462 : decode cL_law 462 = .ok (.aload_n 0, 1) := by decide +kernel
theorem dL_law_463 : decode cL_law 463 = .ok (.iload_n 3, 1) := by decide +kernel
theorem dL_law_464 : decode cL_law 464 = .ok (.iconst 1, 1) := by decide +kernel
theorem dL_law_465 : decode cL_law 465 = .ok (.iadd, 1) := by decide +kernel
theorem dL_law_466 : decode cL_law 466 = .ok (.iaload, 1) := by decide +kernel
theorem dL_law_467 : decode cL_law 467 = .ok (.aload_n 0, 1) := by decide +kernel
theorem dL_law_468 : decode cL_law 468 = .ok (.iload_n 3, 1) := by decide +kernel
theorem dL_law_469 : decode cL_law 469 = .ok (.iconst 2, 1) := by decide +kernel
theorem dL_law_470 : decode cL_law 470 = .ok (.iadd, 1) := by decide +kernel
theorem dL_law_471 : decode cL_law 471 = .ok (.iaload, 1) := by decide +kernel
theorem dL_law_472 : decode cL_law 472 = .ok (.aload_n 0, 1) := by decide +kernel
theorem dL_law_473 : decode cL_law 473 = .ok (.iload_n 3, 1) := by decide +kernel
theorem dL_law_474 : decode cL_law 474 = .ok (.iconst 3, 1) := by decide +kernel
theorem dL_law_475 : decode cL_law 475 = .ok (.iadd, 1) := by decide +kernel
theorem dL_law_476 : decode cL_law 476 = .ok (.iaload, 1) := by decide +kernel
theorem dL_law_477 : decode cL_law 477 = .ok (.invokevirtual 61, 3) := by decide +kernel
theorem dL_law_480 : decode cL_law 480 = .ok (.if_icmp .eq 474, 3) := by decide +kernel
theorem dL_law_483 : decode cL_law 483 = .ok (.iconst 0, 1) := by decide +kernel
theorem dL_law_484 : decode cL_law 484 = .ok (.ireturn, 1) := by decide +kernel
theorem dL_law_485 : decode cL_law 485 = .ok (.aload_n 1, 1) := by decide +kernel
theorem dL_law_486 : decode cL_law 486 = .ok (.aload_n 0, 1) := by decide +kernel
theorem dL_law_487 : decode cL_law 487 = .ok (.iload_n 3, 1) := by decide +kernel
theorem dL_law_488 : decode cL_law 488 = .ok (.iconst 1, 1) := by decide +kernel
theorem dL_law_489 : decode cL_law 489 = .ok (.iadd, 1) := by decide +kernel
theorem dL_law_490 : decode cL_law 490 = .ok (.iaload, 1) := by decide +kernel
theorem dL_law_491 : decode cL_law 491 = .ok (.aload_n 0, 1) := by decide +kernel
theorem dL_law_492 : decode cL_law 492 = .ok (.iload_n 3, 1) := by decide +kernel
theorem dL_law_493 : decode cL_law 493 = .ok (.iconst 2, 1) := by decide +kernel
theorem dL_law_494 : decode cL_law 494 = .ok (.iadd, 1) := by decide +kernel
theorem dL_law_495 : decode cL_law 495 = .ok (.iaload, 1) := by decide +kernel
theorem dL_law_496 : decode cL_law 496 = .ok (.invokevirtual 62, 3) := by decide +kernel
theorem dL_law_499 : decode cL_law 499 = .ok (.aload_n 2, 1) := by decide +kernel
theorem dL_law_500 : decode cL_law 500 = .ok (.aload_n 0, 1) := by decide +kernel
theorem dL_law_501 : decode cL_law 501 = .ok (.iload_n 3, 1) := by decide +kernel
theorem dL_law_502 : decode cL_law 502 = .ok (.iconst 1, 1) := by decide +kernel
theorem dL_law_503 : decode cL_law 503 = .ok (.iadd, 1) := by decide +kernel
theorem dL_law_504 : decode cL_law 504 = .ok (.iaload, 1) := by decide +kernel
theorem dL_law_505 : decode cL_law 505 = .ok (.aload_n 0, 1) := by decide +kernel
theorem dL_law_506 : decode cL_law 506 = .ok (.iload_n 3, 1) := by decide +kernel
theorem dL_law_507 : decode cL_law 507 = .ok (.iconst 2, 1) := by decide +kernel
theorem dL_law_508 : decode cL_law 508 = .ok (.iadd, 1) := by decide +kernel
theorem dL_law_509 : decode cL_law 509 = .ok (.iaload, 1) := by decide +kernel
theorem dL_law_510 : decode cL_law 510 = .ok (.invokevirtual 65, 3) := by decide +kernel
theorem dL_law_513 : decode cL_law 513 = .ok (.if_icmp .eq 441, 3) := by decide +kernel
theorem dL_law_516 : decode cL_law 516 = .ok (.iconst 0, 1) := by decide +kernel
theorem dL_law_517 : decode cL_law 517 = .ok (.ireturn, 1) := by decide +kernel
theorem dL_law_518 : decode cL_law 518 = .ok (.aload_n 1, 1) := by decide +kernel
theorem dL_law_519 : decode cL_law 519 = .ok (.aload_n 0, 1) := by decide +kernel
theorem dL_law_520 : decode cL_law 520 = .ok (.iload_n 3, 1) := by decide +kernel
theorem dL_law_521 : decode cL_law 521 = .ok (.iconst 1, 1) := by decide +kernel
theorem dL_law_522 : decode cL_law 522 = .ok (.iadd, 1) := by decide +kernel
theorem dL_law_523 : decode cL_law 523 = .ok (.iaload, 1) := by decide +kernel
theorem dL_law_524 : decode cL_law 524 = .ok (.aload_n 0, 1) := by decide +kernel
theorem dL_law_525 : decode cL_law 525 = .ok (.iload_n 3, 1) := by decide +kernel
theorem dL_law_526 : decode cL_law 526 = .ok (.iconst 2, 1) := by decide +kernel
theorem dL_law_527 : decode cL_law 527 = .ok (.iadd, 1) := by decide +kernel
theorem dL_law_528 : decode cL_law 528 = .ok (.iaload, 1) := by decide +kernel
theorem dL_law_529 : decode cL_law 529 = .ok (.aload_n 0, 1) := by decide +kernel
theorem dL_law_530 : decode cL_law 530 = .ok (.iload_n 3, 1) := by decide +kernel
theorem dL_law_531 : decode cL_law 531 = .ok (.iconst 3, 1) := by decide +kernel
theorem dL_law_532 : decode cL_law 532 = .ok (.iadd, 1) := by decide +kernel
theorem dL_law_533 : decode cL_law 533 = .ok (.iaload, 1) := by decide +kernel
theorem dL_law_534 : decode cL_law 534 = .ok (.invokevirtual 66, 3) := by decide +kernel
theorem dL_law_537 : decode cL_law 537 = .ok (.aload_n 2, 1) := by decide +kernel
theorem dL_law_538 : decode cL_law 538 = .ok (.aload_n 0, 1) := by decide +kernel
theorem dL_law_539 : decode cL_law 539 = .ok (.iload_n 3, 1) := by decide +kernel
theorem dL_law_540 : decode cL_law 540 = .ok (.iconst 1, 1) := by decide +kernel
theorem dL_law_541 : decode cL_law 541 = .ok (.iadd, 1) := by decide +kernel
theorem dL_law_542 : decode cL_law 542 = .ok (.iaload, 1) := by decide +kernel
theorem dL_law_543 : decode cL_law 543 = .ok (.aload_n 0, 1) := by decide +kernel
theorem dL_law_544 : decode cL_law 544 = .ok (.iload_n 3, 1) := by decide +kernel
theorem dL_law_545 : decode cL_law 545 = .ok (.iconst 2, 1) := by decide +kernel
theorem dL_law_546 : decode cL_law 546 = .ok (.iadd, 1) := by decide +kernel
theorem dL_law_547 : decode cL_law 547 = .ok (.iaload, 1) := by decide +kernel
theorem dL_law_548 : decode cL_law 548 = .ok (.aload_n 0, 1) := by decide +kernel
theorem dL_law_549 : decode cL_law 549 = .ok (.iload_n 3, 1) := by decide +kernel
theorem dL_law_550 : decode cL_law 550 = .ok (.iconst 3, 1) := by decide +kernel
theorem dL_law_551 : decode cL_law 551 = .ok (.iadd, 1) := by decide +kernel
theorem dL_law_552 : decode cL_law 552 = .ok (.iaload, 1) := by decide +kernel
theorem dL_law_553 : decode cL_law 553 = .ok (.invokevirtual 69, 3) := by decide +kernel
theorem dL_law_556 : decode cL_law 556 = .ok (.if_icmp .eq 398, 3) := by decide +kernel
theorem dL_law_559 : decode cL_law 559 = .ok (.iconst 0, 1) := by decide +kernel
theorem dL_law_560 : decode cL_law 560 = .ok (.ireturn, 1) := by decide +kernel
theorem dL_law_561 : decode cL_law 561 = .ok (.aload_n 1, 1) := by decide +kernel
theorem dL_law_562 : decode cL_law 562 = .ok (.aload_n 0, 1) := by decide +kernel
theorem dL_law_563 : decode cL_law 563 = .ok (.iload_n 3, 1) := by decide +kernel
theorem dL_law_564 : decode cL_law 564 = .ok (.iconst 1, 1) := by decide +kernel
theorem dL_law_565 : decode cL_law 565 = .ok (.iadd, 1) := by decide +kernel
theorem dL_law_566 : decode cL_law 566 = .ok (.iaload, 1) := by decide +kernel
theorem dL_law_567 : decode cL_law 567 = .ok (.aload_n 0, 1) := by decide +kernel
theorem dL_law_568 : decode cL_law 568 = .ok (.iload_n 3, 1) := by decide +kernel
theorem dL_law_569 : decode cL_law 569 = .ok (.iconst 2, 1) := by decide +kernel
theorem dL_law_570 : decode cL_law 570 = .ok (.iadd, 1) := by decide +kernel
theorem dL_law_571 : decode cL_law 571 = .ok (.iaload, 1) := by decide +kernel
theorem dL_law_572 : decode cL_law 572 = .ok (.invokevirtual 70, 3) := by decide +kernel
theorem dL_law_575 : decode cL_law 575 = .ok (.aload_n 2, 1) := by decide +kernel
theorem dL_law_576 : decode cL_law 576 = .ok (.aload_n 0, 1) := by decide +kernel
theorem dL_law_577 : decode cL_law 577 = .ok (.iload_n 3, 1) := by decide +kernel
theorem dL_law_578 : decode cL_law 578 = .ok (.iconst 1, 1) := by decide +kernel
theorem dL_law_579 : decode cL_law 579 = .ok (.iadd, 1) := by decide +kernel
theorem dL_law_580 : decode cL_law 580 = .ok (.iaload, 1) := by decide +kernel
theorem dL_law_581 : decode cL_law 581 = .ok (.aload_n 0, 1) := by decide +kernel
theorem dL_law_582 : decode cL_law 582 = .ok (.iload_n 3, 1) := by decide +kernel
theorem dL_law_583 : decode cL_law 583 = .ok (.iconst 2, 1) := by decide +kernel
theorem dL_law_584 : decode cL_law 584 = .ok (.iadd, 1) := by decide +kernel
theorem dL_law_585 : decode cL_law 585 = .ok (.iaload, 1) := by decide +kernel
theorem dL_law_586 : decode cL_law 586 = .ok (.invokevirtual 73, 3) := by decide +kernel
theorem dL_law_589 : decode cL_law 589 = .ok (.if_icmp .eq 365, 3) := by decide +kernel
theorem dL_law_592 : decode cL_law 592 = .ok (.iconst 0, 1) := by decide +kernel
theorem dL_law_593 : decode cL_law 593 = .ok (.ireturn, 1) := by decide +kernel
theorem dL_law_594 : decode cL_law 594 = .ok (.aload_n 1, 1) := by decide +kernel
theorem dL_law_595 : decode cL_law 595 = .ok (.aload_n 0, 1) := by decide +kernel
theorem dL_law_596 : decode cL_law 596 = .ok (.iload_n 3, 1) := by decide +kernel
theorem dL_law_597 : decode cL_law 597 = .ok (.iconst 1, 1) := by decide +kernel
theorem dL_law_598 : decode cL_law 598 = .ok (.iadd, 1) := by decide +kernel
theorem dL_law_599 : decode cL_law 599 = .ok (.iaload, 1) := by decide +kernel
theorem dL_law_600 : decode cL_law 600 = .ok (.invokevirtual 74, 3) := by decide +kernel
theorem dL_law_603 : decode cL_law 603 = .ok (.aload_n 2, 1) := by decide +kernel
theorem dL_law_604 : decode cL_law 604 = .ok (.aload_n 0, 1) := by decide +kernel
theorem dL_law_605 : decode cL_law 605 = .ok (.iload_n 3, 1) := by decide +kernel
theorem dL_law_606 : decode cL_law 606 = .ok (.iconst 1, 1) := by decide +kernel
theorem dL_law_607 : decode cL_law 607 = .ok (.iadd, 1) := by decide +kernel
theorem dL_law_608 : decode cL_law 608 = .ok (.iaload, 1) := by decide +kernel
theorem dL_law_609 : decode cL_law 609 = .ok (.invokevirtual 77, 3) := by decide +kernel
theorem dL_law_612 : decode cL_law 612 = .ok (.if_icmp .eq 342, 3) := by decide +kernel
theorem dL_law_615 : decode cL_law 615 = .ok (.iconst 0, 1) := by decide +kernel
theorem dL_law_616 : decode cL_law 616 = .ok (.ireturn, 1) := by decide +kernel
theorem dL_law_617 : decode cL_law 617 = .ok (.aload_n 1, 1) := by decide +kernel
theorem dL_law_618 : decode cL_law 618 = .ok (.aload_n 0, 1) := by decide +kernel
theorem dL_law_619 : decode cL_law 619 = .ok (.iload_n 3, 1) := by decide +kernel
theorem dL_law_620 : decode cL_law 620 = .ok (.iconst 1, 1) := by decide +kernel
theorem dL_law_621 : decode cL_law 621 = .ok (.iadd, 1) := by decide +kernel
theorem dL_law_622 : decode cL_law 622 = .ok (.iaload, 1) := by decide +kernel
theorem dL_law_623 : decode cL_law 623 = .ok (.invokevirtual 78, 3) := by decide +kernel
theorem dL_law_626 : decode cL_law 626 = .ok (.aload_n 2, 1) := by decide +kernel
theorem dL_law_627 : decode cL_law 627 = .ok (.aload_n 0, 1) := by decide +kernel
theorem dL_law_628 : decode cL_law 628 = .ok (.iload_n 3, 1) := by decide +kernel
theorem dL_law_629 : decode cL_law 629 = .ok (.iconst 1, 1) := by decide +kernel
theorem dL_law_630 : decode cL_law 630 = .ok (.iadd, 1) := by decide +kernel
theorem dL_law_631 : decode cL_law 631 = .ok (.iaload, 1) := by decide +kernel
theorem dL_law_632 : decode cL_law 632 = .ok (.invokevirtual 81, 3) := by decide +kernel
theorem dL_law_635 : decode cL_law 635 = .ok (.if_icmp .eq 319, 3) := by decide +kernel
theorem dL_law_638 : decode cL_law 638 = .ok (.iconst 0, 1) := by decide +kernel
theorem dL_law_639 : decode cL_law 639 = .ok (.ireturn, 1) := by decide +kernel
theorem dL_law_640 : decode cL_law 640 = .ok (.aload_n 1, 1) := by decide +kernel
theorem dL_law_641 : decode cL_law 641 = .ok (.invokevirtual 82, 3) := by decide +kernel
theorem dL_law_644 : decode cL_law 644 = .ok (.aload_n 2, 1) := by decide +kernel
theorem dL_law_645 : decode cL_law 645 = .ok (.invokevirtual 85, 3) := by decide +kernel
theorem dL_law_648 : decode cL_law 648 = .ok (.if_icmp .eq 306, 3) := by decide +kernel
theorem dL_law_651 : decode cL_law 651 = .ok (.iconst 0, 1) := by decide +kernel
theorem dL_law_652 : decode cL_law 652 = .ok (.ireturn, 1) := by decide +kernel
theorem dL_law_653 : decode cL_law 653 = .ok (.aload_n 1, 1) := by decide +kernel
theorem dL_law_654 : decode cL_law 654 = .ok (.aload_n 0, 1) := by decide +kernel
theorem dL_law_655 : decode cL_law 655 = .ok (.iload_n 3, 1) := by decide +kernel
theorem dL_law_656 : decode cL_law 656 = .ok (.iconst 1, 1) := by decide +kernel
theorem dL_law_657 : decode cL_law 657 = .ok (.iadd, 1) := by decide +kernel
theorem dL_law_658 : decode cL_law 658 = .ok (.iaload, 1) := by decide +kernel
theorem dL_law_659 : decode cL_law 659 = .ok (.invokevirtual 86, 3) := by decide +kernel
theorem dL_law_662 : decode cL_law 662 = .ok (.aload_n 2, 1) := by decide +kernel
theorem dL_law_663 : decode cL_law 663 = .ok (.aload_n 0, 1) := by decide +kernel
theorem dL_law_664 : decode cL_law 664 = .ok (.iload_n 3, 1) := by decide +kernel
theorem dL_law_665 : decode cL_law 665 = .ok (.iconst 1, 1) := by decide +kernel
theorem dL_law_666 : decode cL_law 666 = .ok (.iadd, 1) := by decide +kernel
theorem dL_law_667 : decode cL_law 667 = .ok (.iaload, 1) := by decide +kernel
theorem dL_law_668 : decode cL_law 668 = .ok (.invokevirtual 89, 3) := by decide +kernel
theorem dL_law_671 : decode cL_law 671 = .ok (.if_icmp .eq 283, 3) := by decide +kernel
theorem dL_law_674 : decode cL_law 674 = .ok (.iconst 0, 1) := by decide +kernel
theorem dL_law_675 : decode cL_law 675 = .ok (.ireturn, 1) := by decide +kernel
theorem dL_law_676 : decode cL_law 676 = .ok (.aload_n 1, 1) := by decide +kernel
theorem dL_law_677 : decode cL_law 677 = .ok (.aload_n 0, 1) := by decide +kernel
theorem dL_law_678 : decode cL_law 678 = .ok (.iload_n 3, 1) := by decide +kernel
theorem dL_law_679 : decode cL_law 679 = .ok (.iconst 1, 1) := by decide +kernel
theorem dL_law_680 : decode cL_law 680 = .ok (.iadd, 1) := by decide +kernel
theorem dL_law_681 : decode cL_law 681 = .ok (.iaload, 1) := by decide +kernel
theorem dL_law_682 : decode cL_law 682 = .ok (.aload_n 0, 1) := by decide +kernel
theorem dL_law_683 : decode cL_law 683 = .ok (.iload_n 3, 1) := by decide +kernel
theorem dL_law_684 : decode cL_law 684 = .ok (.iconst 2, 1) := by decide +kernel
theorem dL_law_685 : decode cL_law 685 = .ok (.iadd, 1) := by decide +kernel
theorem dL_law_686 : decode cL_law 686 = .ok (.iaload, 1) := by decide +kernel
theorem dL_law_687 : decode cL_law 687 = .ok (.aload_n 0, 1) := by decide +kernel
theorem dL_law_688 : decode cL_law 688 = .ok (.iload_n 3, 1) := by decide +kernel
theorem dL_law_689 : decode cL_law 689 = .ok (.iconst 3, 1) := by decide +kernel
theorem dL_law_690 : decode cL_law 690 = .ok (.iadd, 1) := by decide +kernel
theorem dL_law_691 : decode cL_law 691 = .ok (.iaload, 1) := by decide +kernel
theorem dL_law_692 : decode cL_law 692 = .ok (.invokevirtual 90, 3) := by decide +kernel
theorem dL_law_695 : decode cL_law 695 = .ok (.aload_n 2, 1) := by decide +kernel
theorem dL_law_696 : decode cL_law 696 = .ok (.aload_n 0, 1) := by decide +kernel
theorem dL_law_697 : decode cL_law 697 = .ok (.iload_n 3, 1) := by decide +kernel
theorem dL_law_698 : decode cL_law 698 = .ok (.iconst 1, 1) := by decide +kernel
theorem dL_law_699 : decode cL_law 699 = .ok (.iadd, 1) := by decide +kernel
theorem dL_law_700 : decode cL_law 700 = .ok (.iaload, 1) := by decide +kernel
theorem dL_law_701 : decode cL_law 701 = .ok (.aload_n 0, 1) := by decide +kernel
theorem dL_law_702 : decode cL_law 702 = .ok (.iload_n 3, 1) := by decide +kernel
theorem dL_law_703 : decode cL_law 703 = .ok (.iconst 2, 1) := by decide +kernel
theorem dL_law_704 : decode cL_law 704 = .ok (.iadd, 1) := by decide +kernel
theorem dL_law_705 : decode cL_law 705 = .ok (.iaload, 1) := by decide +kernel
theorem dL_law_706 : decode cL_law 706 = .ok (.aload_n 0, 1) := by decide +kernel
theorem dL_law_707 : decode cL_law 707 = .ok (.iload_n 3, 1) := by decide +kernel
theorem dL_law_708 : decode cL_law 708 = .ok (.iconst 3, 1) := by decide +kernel
theorem dL_law_709 : decode cL_law 709 = .ok (.iadd, 1) := by decide +kernel
theorem dL_law_710 : decode cL_law 710 = .ok (.iaload, 1) := by decide +kernel
theorem dL_law_711 : decode cL_law 711 = .ok (.invokevirtual 93, 3) := by decide +kernel
theorem dL_law_714 : decode cL_law 714 = .ok (.if_icmp .eq 240, 3) := by decide +kernel
theorem dL_law_717 : decode cL_law 717 = .ok (.iconst 0, 1) := by decide +kernel
theorem dL_law_718 : decode cL_law 718 = .ok (.ireturn, 1) := by decide +kernel
theorem dL_law_719 : decode cL_law 719 = .ok (.aload_n 1, 1) := by decide +kernel
theorem dL_law_720 : decode cL_law 720 = .ok (.invokevirtual 94, 3) := by decide +kernel
theorem dL_law_723 : decode cL_law 723 = .ok (.aload_n 2, 1) := by decide +kernel
theorem dL_law_724 : decode cL_law 724 = .ok (.invokevirtual 97, 3) := by decide +kernel
theorem dL_law_727 : decode cL_law 727 = .ok (.if_icmp .eq 227, 3) := by decide +kernel
theorem dL_law_730 : decode cL_law 730 = .ok (.iconst 0, 1) := by decide +kernel
theorem dL_law_731 : decode cL_law 731 = .ok (.ireturn, 1) := by decide +kernel
theorem dL_law_732 : decode cL_law 732 = .ok (.aload_n 1, 1) := by decide +kernel
theorem dL_law_733 : decode cL_law 733 = .ok (.aload_n 0, 1) := by decide +kernel
theorem dL_law_734 : decode cL_law 734 = .ok (.iload_n 3, 1) := by decide +kernel
theorem dL_law_735 : decode cL_law 735 = .ok (.iconst 1, 1) := by decide +kernel
theorem dL_law_736 : decode cL_law 736 = .ok (.iadd, 1) := by decide +kernel
theorem dL_law_737 : decode cL_law 737 = .ok (.iaload, 1) := by decide +kernel
theorem dL_law_738 : decode cL_law 738 = .ok (.aload_n 0, 1) := by decide +kernel
theorem dL_law_739 : decode cL_law 739 = .ok (.iload_n 3, 1) := by decide +kernel
theorem dL_law_740 : decode cL_law 740 = .ok (.iconst 2, 1) := by decide +kernel
theorem dL_law_741 : decode cL_law 741 = .ok (.iadd, 1) := by decide +kernel
theorem dL_law_742 : decode cL_law 742 = .ok (.iaload, 1) := by decide +kernel
theorem dL_law_743 : decode cL_law 743 = .ok (.aload_n 0, 1) := by decide +kernel
theorem dL_law_744 : decode cL_law 744 = .ok (.iload_n 3, 1) := by decide +kernel
theorem dL_law_745 : decode cL_law 745 = .ok (.iconst 3, 1) := by decide +kernel
theorem dL_law_746 : decode cL_law 746 = .ok (.iadd, 1) := by decide +kernel
theorem dL_law_747 : decode cL_law 747 = .ok (.iaload, 1) := by decide +kernel
theorem dL_law_748 : decode cL_law 748 = .ok (.aload_n 0, 1) := by decide +kernel
theorem dL_law_749 : decode cL_law 749 = .ok (.iload_n 3, 1) := by decide +kernel
theorem dL_law_750 : decode cL_law 750 = .ok (.iconst 4, 1) := by decide +kernel
theorem dL_law_751 : decode cL_law 751 = .ok (.iadd, 1) := by decide +kernel
theorem dL_law_752 : decode cL_law 752 = .ok (.iaload, 1) := by decide +kernel
theorem dL_law_753 : decode cL_law 753 = .ok (.invokevirtual 98, 3) := by decide +kernel
theorem dL_law_756 : decode cL_law 756 = .ok (.aload_n 2, 1) := by decide +kernel
theorem dL_law_757 : decode cL_law 757 = .ok (.aload_n 0, 1) := by decide +kernel
theorem dL_law_758 : decode cL_law 758 = .ok (.iload_n 3, 1) := by decide +kernel
theorem dL_law_759 : decode cL_law 759 = .ok (.iconst 1, 1) := by decide +kernel
theorem dL_law_760 : decode cL_law 760 = .ok (.iadd, 1) := by decide +kernel
theorem dL_law_761 : decode cL_law 761 = .ok (.iaload, 1) := by decide +kernel
theorem dL_law_762 : decode cL_law 762 = .ok (.aload_n 0, 1) := by decide +kernel
theorem dL_law_763 : decode cL_law 763 = .ok (.iload_n 3, 1) := by decide +kernel
theorem dL_law_764 : decode cL_law 764 = .ok (.iconst 2, 1) := by decide +kernel
theorem dL_law_765 : decode cL_law 765 = .ok (.iadd, 1) := by decide +kernel
theorem dL_law_766 : decode cL_law 766 = .ok (.iaload, 1) := by decide +kernel
theorem dL_law_767 : decode cL_law 767 = .ok (.aload_n 0, 1) := by decide +kernel
theorem dL_law_768 : decode cL_law 768 = .ok (.iload_n 3, 1) := by decide +kernel
theorem dL_law_769 : decode cL_law 769 = .ok (.iconst 3, 1) := by decide +kernel
theorem dL_law_770 : decode cL_law 770 = .ok (.iadd, 1) := by decide +kernel
theorem dL_law_771 : decode cL_law 771 = .ok (.iaload, 1) := by decide +kernel
theorem dL_law_772 : decode cL_law 772 = .ok (.aload_n 0, 1) := by decide +kernel
theorem dL_law_773 : decode cL_law 773 = .ok (.iload_n 3, 1) := by decide +kernel
theorem dL_law_774 : decode cL_law 774 = .ok (.iconst 4, 1) := by decide +kernel
theorem dL_law_775 : decode cL_law 775 = .ok (.iadd, 1) := by decide +kernel
theorem dL_law_776 : decode cL_law 776 = .ok (.iaload, 1) := by decide +kernel
theorem dL_law_777 : decode cL_law 777 = .ok (.invokevirtual 102, 3) := by decide +kernel
theorem dL_law_780 : decode cL_law 780 = .ok (.if_icmp .eq 174, 3) := by decide +kernel
theorem dL_law_783 : decode cL_law 783 = .ok (.iconst 0, 1) := by decide +kernel
theorem dL_law_784 : decode cL_law 784 = .ok (.ireturn, 1) := by decide +kernel
theorem dL_law_785 : decode cL_law 785 = .ok (.aload_n 1, 1) := by decide +kernel
theorem dL_law_786 : decode cL_law 786 = .ok (.aload_n 0, 1) := by decide +kernel
theorem dL_law_787 : decode cL_law 787 = .ok (.iload_n 3, 1) := by decide +kernel
theorem dL_law_788 : decode cL_law 788 = .ok (.iconst 1, 1) := by decide +kernel
theorem dL_law_789 : decode cL_law 789 = .ok (.iadd, 1) := by decide +kernel
theorem dL_law_790 : decode cL_law 790 = .ok (.iaload, 1) := by decide +kernel
theorem dL_law_791 : decode cL_law 791 = .ok (.aload_n 0, 1) := by decide +kernel
theorem dL_law_792 : decode cL_law 792 = .ok (.iload_n 3, 1) := by decide +kernel
theorem dL_law_793 : decode cL_law 793 = .ok (.iconst 2, 1) := by decide +kernel
theorem dL_law_794 : decode cL_law 794 = .ok (.iadd, 1) := by decide +kernel
theorem dL_law_795 : decode cL_law 795 = .ok (.iaload, 1) := by decide +kernel
theorem dL_law_796 : decode cL_law 796 = .ok (.aload_n 0, 1) := by decide +kernel
theorem dL_law_797 : decode cL_law 797 = .ok (.iload_n 3, 1) := by decide +kernel
theorem dL_law_798 : decode cL_law 798 = .ok (.iconst 3, 1) := by decide +kernel
theorem dL_law_799 : decode cL_law 799 = .ok (.iadd, 1) := by decide +kernel
theorem dL_law_800 : decode cL_law 800 = .ok (.iaload, 1) := by decide +kernel
theorem dL_law_801 : decode cL_law 801 = .ok (.aload_n 0, 1) := by decide +kernel
theorem dL_law_802 : decode cL_law 802 = .ok (.iload_n 3, 1) := by decide +kernel
theorem dL_law_803 : decode cL_law 803 = .ok (.iconst 4, 1) := by decide +kernel
theorem dL_law_804 : decode cL_law 804 = .ok (.iadd, 1) := by decide +kernel
theorem dL_law_805 : decode cL_law 805 = .ok (.iaload, 1) := by decide +kernel
theorem dL_law_806 : decode cL_law 806 = .ok (.aload_n 0, 1) := by decide +kernel
theorem dL_law_807 : decode cL_law 807 = .ok (.iload_n 3, 1) := by decide +kernel
theorem dL_law_808 : decode cL_law 808 = .ok (.iconst 5, 1) := by decide +kernel
theorem dL_law_809 : decode cL_law 809 = .ok (.iadd, 1) := by decide +kernel
theorem dL_law_810 : decode cL_law 810 = .ok (.iaload, 1) := by decide +kernel
theorem dL_law_811 : decode cL_law 811 = .ok (.invokevirtual 103, 3) := by decide +kernel
theorem dL_law_814 : decode cL_law 814 = .ok (.aload_n 2, 1) := by decide +kernel
theorem dL_law_815 : decode cL_law 815 = .ok (.aload_n 0, 1) := by decide +kernel
theorem dL_law_816 : decode cL_law 816 = .ok (.iload_n 3, 1) := by decide +kernel
theorem dL_law_817 : decode cL_law 817 = .ok (.iconst 1, 1) := by decide +kernel
theorem dL_law_818 : decode cL_law 818 = .ok (.iadd, 1) := by decide +kernel
theorem dL_law_819 : decode cL_law 819 = .ok (.iaload, 1) := by decide +kernel
theorem dL_law_820 : decode cL_law 820 = .ok (.aload_n 0, 1) := by decide +kernel
theorem dL_law_821 : decode cL_law 821 = .ok (.iload_n 3, 1) := by decide +kernel
theorem dL_law_822 : decode cL_law 822 = .ok (.iconst 2, 1) := by decide +kernel
theorem dL_law_823 : decode cL_law 823 = .ok (.iadd, 1) := by decide +kernel
theorem dL_law_824 : decode cL_law 824 = .ok (.iaload, 1) := by decide +kernel
theorem dL_law_825 : decode cL_law 825 = .ok (.aload_n 0, 1) := by decide +kernel
theorem dL_law_826 : decode cL_law 826 = .ok (.iload_n 3, 1) := by decide +kernel
theorem dL_law_827 : decode cL_law 827 = .ok (.iconst 3, 1) := by decide +kernel
theorem dL_law_828 : decode cL_law 828 = .ok (.iadd, 1) := by decide +kernel
theorem dL_law_829 : decode cL_law 829 = .ok (.iaload, 1) := by decide +kernel
theorem dL_law_830 : decode cL_law 830 = .ok (.aload_n 0, 1) := by decide +kernel
theorem dL_law_831 : decode cL_law 831 = .ok (.iload_n 3, 1) := by decide +kernel
theorem dL_law_832 : decode cL_law 832 = .ok (.iconst 4, 1) := by decide +kernel
theorem dL_law_833 : decode cL_law 833 = .ok (.iadd, 1) := by decide +kernel
theorem dL_law_834 : decode cL_law 834 = .ok (.iaload, 1) := by decide +kernel
theorem dL_law_835 : decode cL_law 835 = .ok (.aload_n 0, 1) := by decide +kernel
theorem dL_law_836 : decode cL_law 836 = .ok (.iload_n 3, 1) := by decide +kernel
theorem dL_law_837 : decode cL_law 837 = .ok (.iconst 5, 1) := by decide +kernel
theorem dL_law_838 : decode cL_law 838 = .ok (.iadd, 1) := by decide +kernel
theorem dL_law_839 : decode cL_law 839 = .ok (.iaload, 1) := by decide +kernel
theorem dL_law_840 : decode cL_law 840 = .ok (.invokevirtual 107, 3) := by decide +kernel
theorem dL_law_843 : decode cL_law 843 = .ok (.if_icmp .eq 111, 3) := by decide +kernel
theorem dL_law_846 : decode cL_law 846 = .ok (.iconst 0, 1) := by decide +kernel
theorem dL_law_847 : decode cL_law 847 = .ok (.ireturn, 1) := by decide +kernel
theorem dL_law_848 : decode cL_law 848 = .ok (.aload_n 1, 1) := by decide +kernel
theorem dL_law_849 : decode cL_law 849 = .ok (.aload_n 0, 1) := by decide +kernel
theorem dL_law_850 : decode cL_law 850 = .ok (.iload_n 3, 1) := by decide +kernel
theorem dL_law_851 : decode cL_law 851 = .ok (.iconst 1, 1) := by decide +kernel
theorem dL_law_852 : decode cL_law 852 = .ok (.iadd, 1) := by decide +kernel
theorem dL_law_853 : decode cL_law 853 = .ok (.iaload, 1) := by decide +kernel
theorem dL_law_854 : decode cL_law 854 = .ok (.aload_n 0, 1) := by decide +kernel
theorem dL_law_855 : decode cL_law 855 = .ok (.iload_n 3, 1) := by decide +kernel
theorem dL_law_856 : decode cL_law 856 = .ok (.iconst 2, 1) := by decide +kernel
theorem dL_law_857 : decode cL_law 857 = .ok (.iadd, 1) := by decide +kernel
theorem dL_law_858 : decode cL_law 858 = .ok (.iaload, 1) := by decide +kernel
theorem dL_law_859 : decode cL_law 859 = .ok (.aload_n 0, 1) := by decide +kernel
theorem dL_law_860 : decode cL_law 860 = .ok (.iload_n 3, 1) := by decide +kernel
theorem dL_law_861 : decode cL_law 861 = .ok (.iconst 3, 1) := by decide +kernel
theorem dL_law_862 : decode cL_law 862 = .ok (.iadd, 1) := by decide +kernel
theorem dL_law_863 : decode cL_law 863 = .ok (.iaload, 1) := by decide +kernel
theorem dL_law_864 : decode cL_law 864 = .ok (.invokevirtual 108, 3) := by decide +kernel
theorem dL_law_867 : decode cL_law 867 = .ok (.aload_n 2, 1) := by decide +kernel
theorem dL_law_868 : decode cL_law 868 = .ok (.aload_n 0, 1) := by decide +kernel
theorem dL_law_869 : decode cL_law 869 = .ok (.iload_n 3, 1) := by decide +kernel
theorem dL_law_870 : decode cL_law 870 = .ok (.iconst 1, 1) := by decide +kernel
theorem dL_law_871 : decode cL_law 871 = .ok (.iadd, 1) := by decide +kernel
theorem dL_law_872 : decode cL_law 872 = .ok (.iaload, 1) := by decide +kernel
theorem dL_law_873 : decode cL_law 873 = .ok (.aload_n 0, 1) := by decide +kernel
theorem dL_law_874 : decode cL_law 874 = .ok (.iload_n 3, 1) := by decide +kernel
theorem dL_law_875 : decode cL_law 875 = .ok (.iconst 2, 1) := by decide +kernel
theorem dL_law_876 : decode cL_law 876 = .ok (.iadd, 1) := by decide +kernel
theorem dL_law_877 : decode cL_law 877 = .ok (.iaload, 1) := by decide +kernel
theorem dL_law_878 : decode cL_law 878 = .ok (.aload_n 0, 1) := by decide +kernel
theorem dL_law_879 : decode cL_law 879 = .ok (.iload_n 3, 1) := by decide +kernel
theorem dL_law_880 : decode cL_law 880 = .ok (.iconst 3, 1) := by decide +kernel
theorem dL_law_881 : decode cL_law 881 = .ok (.iadd, 1) := by decide +kernel
theorem dL_law_882 : decode cL_law 882 = .ok (.iaload, 1) := by decide +kernel
theorem dL_law_883 : decode cL_law 883 = .ok (.invokevirtual 111, 3) := by decide +kernel
theorem dL_law_886 : decode cL_law 886 = .ok (.if_icmp .eq 68, 3) := by decide +kernel
theorem dL_law_889 : decode cL_law 889 = .ok (.iconst 0, 1) := by decide +kernel
theorem dL_law_890 : decode cL_law 890 = .ok (.ireturn, 1) := by decide +kernel
theorem dL_law_891 : decode cL_law 891 = .ok (.aload_n 1, 1) := by decide +kernel
theorem dL_law_892 : decode cL_law 892 = .ok (.invokevirtual 112, 3) := by decide +kernel
theorem dL_law_895 : decode cL_law 895 = .ok (.aload_n 2, 1) := by decide +kernel
theorem dL_law_896 : decode cL_law 896 = .ok (.invokevirtual 115, 3) := by decide +kernel
theorem dL_law_899 : decode cL_law 899 = .ok (.if_icmp .eq 55, 3) := by decide +kernel
theorem dL_law_902 : decode cL_law 902 = .ok (.iconst 0, 1) := by decide +kernel
theorem dL_law_903 : decode cL_law 903 = .ok (.ireturn, 1) := by decide +kernel
theorem dL_law_904 : decode cL_law 904 = .ok (.aload_n 1, 1) := by decide +kernel
theorem dL_law_905 : decode cL_law 905 = .ok (.invokevirtual 116, 3) := by decide +kernel
theorem dL_law_908 : decode cL_law 908 = .ok (.aload_n 2, 1) := by decide +kernel
theorem dL_law_909 : decode cL_law 909 = .ok (.invokevirtual 119, 3) := by decide +kernel
theorem dL_law_912 : decode cL_law 912 = .ok (.if_icmp .eq 42, 3) := by decide +kernel
theorem dL_law_915 : decode cL_law 915 = .ok (.iconst 0, 1) := by decide +kernel
theorem dL_law_916 : decode cL_law 916 = .ok (.ireturn, 1) := by decide +kernel
theorem dL_law_917 : decode cL_law 917 = .ok (.aload_n 1, 1) := by decide +kernel
theorem dL_law_918 : decode cL_law 918 = .ok (.aload_n 0, 1) := by decide +kernel
theorem dL_law_919 : decode cL_law 919 = .ok (.iload_n 3, 1) := by decide +kernel
theorem dL_law_920 : decode cL_law 920 = .ok (.iconst 1, 1) := by decide +kernel
theorem dL_law_921 : decode cL_law 921 = .ok (.iadd, 1) := by decide +kernel
theorem dL_law_922 : decode cL_law 922 = .ok (.iaload, 1) := by decide +kernel
theorem dL_law_923 : decode cL_law 923 = .ok (.invokevirtual 120, 3) := by decide +kernel
theorem dL_law_926 : decode cL_law 926 = .ok (.aload_n 2, 1) := by decide +kernel
theorem dL_law_927 : decode cL_law 927 = .ok (.aload_n 0, 1) := by decide +kernel
theorem dL_law_928 : decode cL_law 928 = .ok (.iload_n 3, 1) := by decide +kernel
theorem dL_law_929 : decode cL_law 929 = .ok (.iconst 1, 1) := by decide +kernel
theorem dL_law_930 : decode cL_law 930 = .ok (.iadd, 1) := by decide +kernel
theorem dL_law_931 : decode cL_law 931 = .ok (.iaload, 1) := by decide +kernel
theorem dL_law_932 : decode cL_law 932 = .ok (.invokevirtual 123, 3) := by decide +kernel
theorem dL_law_935 : decode cL_law 935 = .ok (.if_icmp .eq 19, 3) := by decide +kernel
theorem dL_law_938 : decode cL_law 938 = .ok (.iconst 0, 1) := by decide +kernel
theorem dL_law_939 : decode cL_law 939 = .ok (.ireturn, 1) := by decide +kernel
theorem dL_law_940 : decode cL_law 940 = .ok (.aload_n 1, 1) := by decide +kernel
theorem dL_law_941 : decode cL_law 941 = .ok (.invokevirtual 124, 3) := by decide +kernel
theorem dL_law_944 : decode cL_law 944 = .ok (.aload_n 2, 1) := by decide +kernel
theorem dL_law_945 : decode cL_law 945 = .ok (.invokevirtual 128, 3) := by decide +kernel
theorem dL_law_948 : decode cL_law 948 = .ok (.lcmp, 1) := by decide +kernel
theorem dL_law_949 : decode cL_law 949 = .ok (.ifCond .eq 5, 3) := by decide +kernel
theorem dL_law_952 : decode cL_law 952 = .ok (.iconst 0, 1) := by decide +kernel
theorem dL_law_953 : decode cL_law 953 = .ok (.ireturn, 1) := by decide +kernel
theorem dL_law_954 : decode cL_law 954 = .ok (.iinc 3 6, 3) := by decide +kernel
theorem dL_law_957 : decode cL_law 957 = .ok (.goto (-939), 3) := by decide +kernel
theorem dL_law_960 : decode cL_law 960 = .ok (.iconst 1, 1) := by decide +kernel
theorem dL_law_961 : decode cL_law 961 = .ok (.ireturn, 1) := by decide +kernel
