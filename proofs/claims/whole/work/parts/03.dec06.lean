theorem dX2_broken_9 : decode cX2_broken 9 = .ok (.i2l, 1) := by decide +kernel
theorem dX2_broken_10 : decode cX2_broken 10 = .ok (.lconst 0, 1) := by decide +kernel
theorem dX2_broken_11 : decode cX2_broken 11 = .ok (.ldc2_w 91, 3) := by decide +kernel
theorem dX2_broken_14 : decode cX2_broken 14 = .ok (.invokestatic 117, 3) := by decide +kernel
theorem dX2_broken_17 : decode cX2_broken 17 = .ok (.ifCond .eq 14, 3) := by decide +kernel
theorem dX2_broken_20 : decode cX2_broken 20 = .ok (.iload 4, 2) := by decide +kernel
theorem dX2_broken_22 : decode cX2_broken 22 = .ok (.i2l, 1) := by decide +kernel
theorem dX2_broken_23 : decode cX2_broken 23 = .ok (.lconst 0, 1) := by decide +kernel
theorem dX2_broken_24 : decode cX2_broken 24 = .ok (.lconst 1, 1) := by decide +kernel
theorem dX2_broken_25 : decode cX2_broken 25 = .ok (.invokestatic 117, 3) := by decide +kernel
theorem dX2_broken_28 : decode cX2_broken 28 = .ok (.ifCond .ne 6, 3) := by decide +kernel
theorem dX2_broken_31 : decode cX2_broken 31 = .ok (.bipush (-102), 2) := by decide +kernel
theorem dX2_broken_33 : decode cX2_broken 33 = .ok (.ireturn, 1) := by decide +kernel
theorem dX2_broken_34 : decode cX2_broken 34 = .ok (.iload_n 3, 1) := by decide +kernel
theorem dX2_broken_35 : decode cX2_broken 35 = .ok (.istore 5, 2) := by decide +kernel
theorem dX2_broken_37 : decode cX2_broken 37 = .ok (.iconst 0, 1) := by decide +kernel
theorem dX2_broken_38 : decode cX2_broken 38 = .ok (.istore 6, 2) := by decide +kernel
theorem dX2_broken_40 : decode cX2_broken 40 = .ok (.iload 6, 2) := by decide +kernel
theorem dX2_broken_42 : decode cX2_broken 42 = .ok (.aload_n 0, 1) := by decide +kernel
theorem dX2_broken_43 : decode cX2_broken 43 = .ok (.getfield 79, 3) := by decide +kernel
theorem dX2_broken_46 : decode cX2_broken 46 = .ok (.if_icmp .ge 85, 3) := by decide +kernel
theorem dX2_broken_49 : decode cX2_broken 49 = .ok (.iload_n 3, 1) := by decide +kernel
theorem dX2_broken_50 : decode cX2_broken 50 = .ok (.ifCond .lt 81, 3) := by decide +kernel
theorem dX2_broken_53 : decode cX2_broken 53 = .ok (.iconst 0, 1) := by decide +kernel
theorem dX2_broken_54 : decode cX2_broken 54 = .ok (.istore 7, 2) := by decide +kernel
theorem dX2_broken_56 : decode cX2_broken 56 = .ok (.iload 7, 2) := by decide +kernel
theorem dX2_broken_58 : decode cX2_broken 58 = .ok (.aload_n 0, 1) := by decide +kernel
theorem dX2_broken_59 : decode cX2_broken 59 = .ok (.getfield 79, 3) := by decide +kernel
theorem dX2_broken_62 : decode cX2_broken 62 = .ok (.if_icmp .ge 63, 3) := by decide +kernel
theorem dX2_broken_65 : decode cX2_broken 65 = .ok (.aload_n 0, 1) := by decide +kernel
theorem dX2_broken_66 : decode cX2_broken 66 = .ok (.getfield 30, 3) := by decide +kernel
theorem dX2_broken_69 : decode cX2_broken 69 = .ok (.iload 6, 2) := by decide +kernel
theorem dX2_broken_71 : decode cX2_broken 71 = .ok (.iaload, 1) := by decide +kernel
theorem dX2_broken_72 : decode cX2_broken 72 = .ok (.iload_n 1, 1) := by decide +kernel
theorem dX2_broken_73 : decode cX2_broken 73 = .ok (.if_icmp .ne 52, 3) := by decide +kernel
theorem dX2_broken_76 : decode cX2_broken 76 = .ok (.aload_n 0, 1) := by decide +kernel
theorem dX2_broken_77 : decode cX2_broken 77 = .ok (.iload_n 1, 1) := by decide +kernel
theorem dX2_broken_78 : decode cX2_broken 78 = .ok (.iload_n 2, 1) := by decide +kernel
theorem dX2_broken_79 : decode cX2_broken 79 = .ok (.iload 6, 2) := by decide +kernel
theorem dX2_broken_81 : decode cX2_broken 81 = .ok (.iload 7, 2) := by decide +kernel
theorem dX2_broken_83 : decode cX2_broken 83 = .ok (.invokevirtual 178, 3) := by decide +kernel
theorem dX2_broken_86 : decode cX2_broken 86 = .ok (.ifCond .eq 33, 3) := by decide +kernel
theorem dX2_broken_89 : decode cX2_broken 89 = .ok (.iload 5, 2) := by decide +kernel
theorem dX2_broken_91 : decode cX2_broken 91 = .ok (.ifCond .ne 25, 3) := by decide +kernel
theorem dX2_broken_94 : decode cX2_broken 94 = .ok (.iload 4, 2) := by decide +kernel
theorem dX2_broken_96 : decode cX2_broken 96 = .ok (.ifCond .ne 8, 3) := by decide +kernel
theorem dX2_broken_99 : decode cX2_broken 99 = .ok (.iload 6, 2) := by decide +kernel
theorem dX2_broken_101 : decode cX2_broken 101 = .ok (.goto 14, 3) := by decide +kernel
theorem dX2_broken_104 : decode cX2_broken 104 = .ok (.iload_n 2, 1) := by decide +kernel
theorem dX2_broken_105 : decode cX2_broken 105 = .ok (.iconst 2, 1) := by decide +kernel
theorem dX2_broken_106 : decode cX2_broken 106 = .ok (.if_icmp .ne 7, 3) := by decide +kernel
theorem dX2_broken_109 : decode cX2_broken 109 = .ok (.iconst (-1), 1) := by decide +kernel
theorem dX2_broken_110 : decode cX2_broken 110 = .ok (.goto 5, 3) := by decide +kernel
theorem dX2_broken_113 : decode cX2_broken 113 = .ok (.iload 7, 2) := by decide +kernel
theorem dX2_broken_115 : decode cX2_broken 115 = .ok (.ireturn, 1) := by decide +kernel
theorem dX2_broken_116 : decode cX2_broken 116 = .ok (.iinc 5 (-1), 3) := by decide +kernel
theorem dX2_broken_119 : decode cX2_broken 119 = .ok (.iinc 7 1, 3) := by decide +kernel
theorem dX2_broken_122 : decode cX2_broken 122 = .ok (.goto (-66), 3) := by decide +kernel
theorem dX2_broken_125 : decode cX2_broken 125 = .ok (.iinc 6 1, 3) := by decide +kernel
theorem dX2_broken_128 : decode cX2_broken 128 = .ok (.goto (-88), 3) := by decide +kernel
theorem dX2_broken_131 : decode cX2_broken 131 = .ok (.iconst (-1), 1) := by decide +kernel
theorem dX2_broken_132 : decode cX2_broken 132 = .ok (.ireturn, 1) := by decide +kernel
set_option maxRecDepth 20000 in
theorem ggX2_named_X2_isHeight : GoodIn wsX2_named wsX2_isHeight := goodIn_r _ [8, 9, 53, 54, 55, 56, 57, 58, 59, 60, 61, 62, 63, 64, 65, 66, 67, 68, 69, 70, 71, 72, 73, 74, 75, 76, 77, 78, 79] (by decide +kernel) (by decide +kernel)
set_option maxRecDepth 20000 in
theorem gX2_named_X2_isHeight : GoodIn wsX2_named (wsV RX2 172 RX2 yX2_isHeight wsX2_isHeight) := goodIn_app (goodIn_of _ (by decide +kernel)) ggX2_named_X2_isHeight
set_option maxRecDepth 20000 in
theorem ggX2_named_X2_counts : GoodIn wsX2_named wsX2_counts := goodIn_r _ [13, 2, 14, 15, 16, 7, 17, 18, 19, 20, 21, 3, 22, 23, 24, 25, 26, 27, 28, 29, 30, 31, 32, 33, 34, 35, 36, 37, 38, 39, 40, 41, 42, 43, 44, 45, 46, 47, 48, 49, 50, 51, 52, 53, 54, 55, 56, 57, 58, 59, 60, 61, 62, 63, 64, 65, 66, 67, 68, 69, 70, 71, 72, 73, 74, 75, 76, 77, 78, 79] (by decide +kernel) (by decide +kernel)
set_option maxRecDepth 20000 in
theorem gX2_named_X2_counts : GoodIn wsX2_named (wsV RX2 178 RX2 yX2_counts wsX2_counts) := goodIn_app (goodIn_of _ (by decide +kernel)) ggX2_named_X2_counts
theorem dX2_named_0 : decode cX2_named 0 = .ok (.aload_n 0, 1) := by decide +kernel
theorem dX2_named_1 : decode cX2_named 1 = .ok (.iload_n 1, 1) := by decide +kernel
theorem dX2_named_2 : decode cX2_named 2 = .ok (.invokevirtual 172, 3) := by decide +kernel
theorem dX2_named_5 : decode cX2_named 5 = .ok (.ifCond .ne 6, 3) := by decide +kernel
theorem dX2_named_8 : decode cX2_named 8 = .ok (.bipush (-102), 2) := by decide +kernel
theorem dX2_named_10 : decode cX2_named 10 = .ok (.ireturn, 1) := by decide +kernel
theorem dX2_named_11 : decode cX2_named 11 = .ok (.iconst 0, 1) := by decide +kernel
theorem dX2_named_12 : decode cX2_named 12 = .ok (.istore_n 2, 1) := by decide +kernel
theorem dX2_named_13 : decode cX2_named 13 = .ok (.iconst 0, 1) := by decide +kernel
theorem dX2_named_14 : decode cX2_named 14 = .ok (.istore_n 3, 1) := by decide +kernel
theorem dX2_named_15 : decode cX2_named 15 = .ok (.iload_n 3, 1) := by decide +kernel
theorem dX2_named_16 : decode cX2_named 16 = .ok (.aload_n 0, 1) := by decide +kernel
theorem dX2_named_17 : decode cX2_named 17 = .ok (.getfield 79, 3) := by decide +kernel
theorem dX2_named_20 : decode cX2_named 20 = .ok (.if_icmp .ge 93, 3) := by decide +kernel
theorem dX2_named_23 : decode cX2_named 23 = .ok (.iconst 0, 1) := by decide +kernel
theorem dX2_named_24 : decode cX2_named 24 = .ok (.istore 4, 2) := by decide +kernel
theorem dX2_named_26 : decode cX2_named 26 = .ok (.iload 4, 2) := by decide +kernel
theorem dX2_named_28 : decode cX2_named 28 = .ok (.aload_n 0, 1) := by decide +kernel
theorem dX2_named_29 : decode cX2_named 29 = .ok (.getfield 79, 3) := by decide +kernel
theorem dX2_named_32 : decode cX2_named 32 = .ok (.if_icmp .ge 75, 3) := by decide +kernel
theorem dX2_named_35 : decode cX2_named 35 = .ok (.aload_n 0, 1) := by decide +kernel
theorem dX2_named_36 : decode cX2_named 36 = .ok (.getfield 30, 3) := by decide +kernel
theorem dX2_named_39 : decode cX2_named 39 = .ok (.iload_n 3, 1) := by decide +kernel
theorem dX2_named_40 : decode cX2_named 40 = .ok (.iaload, 1) := by decide +kernel
theorem dX2_named_41 : decode cX2_named 41 = .ok (.iload_n 1, 1) := by decide +kernel
theorem dX2_named_42 : decode cX2_named 42 = .ok (.if_icmp .ne 65, 3) := by decide +kernel
theorem dX2_named_45 : decode cX2_named 45 = .ok (.iconst 0, 1) := by decide +kernel
theorem dX2_named_46 : decode cX2_named 46 = .ok (.istore 5, 2) := by decide +kernel
theorem dX2_named_48 : decode cX2_named 48 = .ok (.iload 5, 2) := by decide +kernel
theorem dX2_named_50 : decode cX2_named 50 = .ok (.iconst 3, 1) := by decide +kernel
theorem dX2_named_51 : decode cX2_named 51 = .ok (.if_icmp .ge 50, 3) := by decide +kernel
theorem dX2_named_54 : decode cX2_named 54 = .ok (.iload_n 2, 1) := by decide +kernel
theorem dX2_named_55 : decode cX2_named 55 = .ok (.aload_n 0, 1) := by decide +kernel
theorem dX2_named_56 : decode cX2_named 56 = .ok (.getfield 26, 3) := by decide +kernel
theorem dX2_named_59 : decode cX2_named 59 = .ok (.iload_n 3, 1) := by decide +kernel
theorem dX2_named_60 : decode cX2_named 60 = .ok (.iaload, 1) := by decide +kernel
theorem dX2_named_61 : decode cX2_named 61 = .ok (.ishr, 1) := by decide +kernel
theorem dX2_named_62 : decode cX2_named 62 = .ok (.iconst 1, 1) := by decide +kernel
theorem dX2_named_63 : decode cX2_named 63 = .ok (.iand, 1) := by decide +kernel
theorem dX2_named_64 : decode cX2_named 64 = .ok (.ifCond .ne 37, 3) := by decide +kernel
theorem dX2_named_67 : decode cX2_named 67 = .ok (.iload_n 2, 1) := by decide +kernel
theorem dX2_named_68 : decode cX2_named 68 = .ok (.aload_n 0, 1) := by decide +kernel
theorem dX2_named_69 : decode cX2_named 69 = .ok (.iload_n 1, 1) := by decide +kernel
theorem dX2_named_70 : decode cX2_named 70 = .ok (.iload 5, 2) := by decide +kernel
theorem dX2_named_72 : decode cX2_named 72 = .ok (.iload_n 3, 1) := by decide +kernel
theorem dX2_named_73 : decode cX2_named 73 = .ok (.iload 4, 2) := by decide +kernel
theorem dX2_named_75 : decode cX2_named 75 = .ok (.invokevirtual 178, 3) := by decide +kernel
theorem dX2_named_78 : decode cX2_named 78 = .ok (.ifCond .eq 14, 3) := by decide +kernel
theorem dX2_named_81 : decode cX2_named 81 = .ok (.iconst 1, 1) := by decide +kernel
theorem dX2_named_82 : decode cX2_named 82 = .ok (.aload_n 0, 1) := by decide +kernel
theorem dX2_named_83 : decode cX2_named 83 = .ok (.getfield 26, 3) := by decide +kernel
theorem dX2_named_86 : decode cX2_named 86 = .ok (.iload_n 3, 1) := by decide +kernel
theorem dX2_named_87 : decode cX2_named 87 = .ok (.iaload, 1) := by decide +kernel
theorem dX2_named_88 : decode cX2_named 88 = .ok (.ishl, 1) := by decide +kernel
theorem dX2_named_89 : decode cX2_named 89 = .ok (.goto 4, 3) := by decide +kernel
theorem dX2_named_92 : decode cX2_named 92 = .ok (.iconst 0, 1) := by decide +kernel
theorem dX2_named_93 : decode cX2_named 93 = .ok (.ior, 1) := by decide +kernel
theorem dX2_named_94 : decode cX2_named 94 = .ok (.istore_n 2, 1) := by decide +kernel
theorem dX2_named_95 : decode cX2_named 95 = .ok (.iinc 5 1, 3) := by decide +kernel
theorem dX2_named_98 : decode cX2_named 98 = .ok (.goto (-50), 3) := by decide +kernel
theorem dX2_named_101 : decode cX2_named 101 = .ok (.iinc 4 1, 3) := by decide +kernel
theorem dX2_named_104 : decode cX2_named 104 = .ok (.goto (-78), 3) := by decide +kernel
theorem dX2_named_107 : decode cX2_named 107 = .ok (.iinc 3 1, 3) := by decide +kernel
theorem dX2_named_110 : decode cX2_named 110 = .ok (.goto (-95), 3) := by decide +kernel
theorem dX2_named_113 : decode cX2_named 113 = .ok (.iload_n 2, 1) := by decide +kernel
theorem dX2_named_114 : decode cX2_named 114 = .ok (.ireturn, 1) := by decide +kernel
theorem dX2_taken_0 : decode cX2_taken 0 = .ok (.iload_n 1, 1) := by decide +kernel
theorem dX2_taken_1 : decode cX2_taken 1 = .ok (.ifCond .lt 11, 3) := by decide +kernel
theorem dX2_taken_4 : decode cX2_taken 4 = .ok (.iload_n 1, 1) := by decide +kernel
theorem dX2_taken_5 : decode cX2_taken 5 = .ok (.aload_n 0, 1) := by decide +kernel
theorem dX2_taken_6 : decode cX2_taken 6 = .ok (.getfield 169, 3) := by decide +kernel
theorem dX2_taken_9 : decode cX2_taken 9 = .ok (.if_icmp .lt 7, 3) := by decide +kernel
theorem dX2_taken_12 : decode cX2_taken 12 = .ok (.ldc2_w 124, 3) := by decide +kernel
theorem dX2_taken_15 : decode cX2_taken 15 = .ok (.lreturn, 1) := by decide +kernel
theorem dX2_taken_16 : decode cX2_taken 16 = .ok (.iload_n 2, 1) := by decide +kernel
theorem dX2_taken_17 : decode cX2_taken 17 = .ok (.tableswitch 97 0 6 #[43, 51, 59, 67, 75, 83, 90], 43) := by decide +kernel
theorem dX2_taken_60 : decode cX2_taken 60 = .ok (.aload_n 0, 1) := by decide +kernel
theorem dX2_taken_61 : decode cX2_taken 61 = .ok (.getfield 52, 3) := by decide +kernel
theorem dX2_taken_64 : decode cX2_taken 64 = .ok (.iload_n 1, 1) := by decide +kernel
theorem dX2_taken_65 : decode cX2_taken 65 = .ok (.iaload, 1) := by decide +kernel
theorem dX2_taken_66 : decode cX2_taken 66 = .ok (.i2l, 1) := by decide +kernel
theorem dX2_taken_67 : decode cX2_taken 67 = .ok (.lreturn, 1) := by decide +kernel
theorem dX2_taken_68 : decode cX2_taken 68 = .ok (.aload_n 0, 1) := by decide +kernel
theorem dX2_taken_69 : decode cX2_taken 69 = .ok (.getfield 55, 3) := by decide +kernel
theorem dX2_taken_72 : decode cX2_taken 72 = .ok (.iload_n 1, 1) := by decide +kernel
theorem dX2_taken_73 : decode cX2_taken 73 = .ok (.iaload, 1) := by decide +kernel
theorem dX2_taken_74 : decode cX2_taken 74 = .ok (.i2l, 1) := by decide +kernel
theorem dX2_taken_75 : decode cX2_taken 75 = .ok (.lreturn, 1) := by decide +kernel
theorem dX2_taken_76 : decode cX2_taken 76 = .ok (.aload_n 0, 1) := by decide +kernel
theorem dX2_taken_77 : decode cX2_taken 77 = .ok (.getfield 58, 3) := by decide +kernel
theorem dX2_taken_80 : decode cX2_taken 80 = .ok (.iload_n 1, 1) := by decide +kernel
theorem dX2_taken_81 : decode cX2_taken 81 = .ok (.iaload, 1) := by decide +kernel
theorem dX2_taken_82 : decode cX2_taken 82 = .ok (.i2l, 1) := by decide +kernel
theorem dX2_taken_83 : decode cX2_taken 83 = .ok (.lreturn, 1) := by decide +kernel
theorem dX2_taken_84 : decode cX2_taken 84 = .ok (.aload_n 0, 1) := by decide +kernel
theorem dX2_taken_85 : decode cX2_taken 85 = .ok (.getfield 61, 3) := by decide +kernel
theorem dX2_taken_88 : decode cX2_taken 88 = .ok (.iload_n 1, 1) := by decide +kernel
theorem dX2_taken_89 : decode cX2_taken 89 = .ok (.iaload, 1) := by decide +kernel
theorem dX2_taken_90 : decode cX2_taken 90 = .ok (.i2l, 1) := by decide +kernel
theorem dX2_taken_91 : decode cX2_taken 91 = .ok (.lreturn, 1) := by decide +kernel
theorem dX2_taken_92 : decode cX2_taken 92 = .ok (.aload_n 0, 1) := by decide +kernel
theorem dX2_taken_93 : decode cX2_taken 93 = .ok (.getfield 64, 3) := by decide +kernel
theorem dX2_taken_96 : decode cX2_taken 96 = .ok (.iload_n 1, 1) := by decide +kernel
theorem dX2_taken_97 : decode cX2_taken 97 = .ok (.iaload, 1) := by decide +kernel
theorem dX2_taken_98 : decode cX2_taken 98 = .ok (.i2l, 1) := by decide +kernel
theorem dX2_taken_99 : decode cX2_taken 99 = .ok (.lreturn, 1) := by decide +kernel
theorem dX2_taken_100 : decode cX2_taken 100 = .ok (.aload_n 0, 1) := by decide +kernel
theorem dX2_taken_101 : decode cX2_taken 101 = .ok (.getfield 67, 3) := by decide +kernel
theorem dX2_taken_104 : decode cX2_taken 104 = .ok (.iload_n 1, 1) := by decide +kernel
theorem dX2_taken_105 : decode cX2_taken 105 = .ok (.laload, 1) := by decide +kernel
theorem dX2_taken_106 : decode cX2_taken 106 = .ok (.lreturn, 1) := by decide +kernel
theorem dX2_taken_107 : decode cX2_taken 107 = .ok (.aload_n 0, 1) := by decide +kernel
theorem dX2_taken_108 : decode cX2_taken 108 = .ok (.getfield 70, 3) := by decide +kernel
theorem dX2_taken_111 : decode cX2_taken 111 = .ok (.iload_n 1, 1) := by decide +kernel
theorem dX2_taken_112 : decode cX2_taken 112 = .ok (.laload, 1) := by decide +kernel
theorem dX2_taken_113 : decode cX2_taken 113 = .ok (.lreturn, 1) := by decide +kernel
theorem dX2_taken_114 : decode cX2_taken 114 = .ok (.ldc2_w 126, 3) := by decide +kernel
theorem dX2_taken_117 : decode cX2_taken 117 = .ok (.lreturn, 1) := by decide +kernel
theorem dJ9_max_7cf53_0 : decode cJ9_max_7cf53 0 = .ok (.iload_n 0, 1) := by decide +kernel
theorem dJ9_max_7cf53_1 : decode cJ9_max_7cf53 1 = .ok (.iload_n 1, 1) := by decide +kernel
theorem dJ9_max_7cf53_2 : decode cJ9_max_7cf53 2 = .ok (.if_icmp .lt 7, 3) := by decide +kernel
theorem dJ9_max_7cf53_5 : decode cJ9_max_7cf53 5 = .ok (.iload_n 0, 1) := by decide +kernel
theorem dJ9_max_7cf53_6 : decode cJ9_max_7cf53 6 = .ok (.goto 4, 3) := by decide +kernel
theorem dJ9_max_7cf53_9 : decode cJ9_max_7cf53 9 = .ok (.iload_n 1, 1) := by decide +kernel
theorem dJ9_max_7cf53_10 : decode cJ9_max_7cf53 10 = .ok (.ireturn, 1) := by decide +kernel
theorem dJ9_min_7cf53_0 : decode cJ9_min_7cf53 0 = .ok (.iload_n 0, 1) := by decide +kernel
theorem dJ9_min_7cf53_1 : decode cJ9_min_7cf53 1 = .ok (.iload_n 1, 1) := by decide +kernel
theorem dJ9_min_7cf53_2 : decode cJ9_min_7cf53 2 = .ok (.if_icmp .gt 7, 3) := by decide +kernel
theorem dJ9_min_7cf53_5 : decode cJ9_min_7cf53 5 = .ok (.iload_n 0, 1) := by decide +kernel
theorem dJ9_min_7cf53_6 : decode cJ9_min_7cf53 6 = .ok (.goto 4, 3) := by decide +kernel
theorem dJ9_min_7cf53_9 : decode cJ9_min_7cf53 9 = .ok (.iload_n 1, 1) := by decide +kernel
theorem dJ9_min_7cf53_10 : decode cJ9_min_7cf53 10 = .ok (.ireturn, 1) := by decide +kernel
theorem dJxa1e45_init_da8c8_0 : decode cJxa1e45_init_da8c8 0 = .ok (.aload_n 0, 1) := by decide +kernel
theorem dJxa1e45_init_da8c8_1 : decode cJxa1e45_init_da8c8 1 = .ok (.invokespecial 1, 3) := by decide +kernel
theorem dJxa1e45_init_da8c8_4 : decode cJxa1e45_init_da8c8 4 = .ok (.return_, 1) := by decide +kernel
set_option maxRecDepth 20000 in
theorem ggJxc12de_init_da8c8_Jxa1e45_init_da8c8 : GoodIn wsJxc12de_init_da8c8 wsJxa1e45_init_da8c8 := goodIn_r _ [5, 6, 7, 8] (by decide +kernel) (by decide +kernel)
set_option maxRecDepth 20000 in
theorem gJxc12de_init_da8c8_Jxa1e45_init_da8c8 : GoodIn wsJxc12de_init_da8c8 (wsJxa1e45_init_da8c8) := ggJxc12de_init_da8c8_Jxa1e45_init_da8c8
theorem dJxc12de_init_da8c8_0 : decode cJxc12de_init_da8c8 0 = .ok (.aload_n 0, 1) := by decide +kernel
theorem dJxc12de_init_da8c8_1 : decode cJxc12de_init_da8c8 1 = .ok (.invokespecial 1, 3) := by decide +kernel
theorem dJxc12de_init_da8c8_4 : decode cJxc12de_init_da8c8 4 = .ok (.aload_n 0, 1) := by decide +kernel
theorem dJxc12de_init_da8c8_5 : decode cJxc12de_init_da8c8 5 = .ok (.iconst 0, 1) := by decide +kernel
theorem dJxc12de_init_da8c8_6 : decode cJxc12de_init_da8c8 6 = .ok (.putfield 7, 3) := by decide +kernel
theorem dJxc12de_init_da8c8_9 : decode cJxc12de_init_da8c8 9 = .ok (.return_, 1) := by decide +kernel
set_option maxRecDepth 20000 in
theorem ggJx4a65c_init_da8c8_Jxc12de_init_da8c8 : GoodIn wsJx4a65c_init_da8c8 wsJxc12de_init_da8c8 := goodIn_r _ [6, 7, 8, 9, 10, 11, 12, 13, 14, 15, 16, 17] (by decide +kernel) (by decide +kernel)
set_option maxRecDepth 20000 in
theorem gJx4a65c_init_da8c8_Jxc12de_init_da8c8 : GoodIn wsJx4a65c_init_da8c8 (wsJxc12de_init_da8c8) := ggJx4a65c_init_da8c8_Jxc12de_init_da8c8
theorem dJx4a65c_init_da8c8_0 : decode cJx4a65c_init_da8c8 0 = .ok (.aload_n 0, 1) := by decide +kernel
theorem dJx4a65c_init_da8c8_1 : decode cJx4a65c_init_da8c8 1 = .ok (.invokespecial 1, 3) := by decide +kernel
theorem dJx4a65c_init_da8c8_4 : decode cJx4a65c_init_da8c8 4 = .ok (.aload_n 0, 1) := by decide +kernel
theorem dJx4a65c_init_da8c8_5 : decode cJx4a65c_init_da8c8 5 = .ok (.getstatic 39, 3) := by decide +kernel
theorem dJx4a65c_init_da8c8_8 : decode cJx4a65c_init_da8c8 8 = .ok (.putfield 9, 3) := by decide +kernel
theorem dJx4a65c_init_da8c8_11 : decode cJx4a65c_init_da8c8 11 = .ok (.return_, 1) := by decide +kernel
set_option maxRecDepth 20000 in
theorem ggJx4a65c_grow_92f84_J8_newLength_cabcc : GoodIn wsJx4a65c_grow_92f84 wsJ8_newLength_cabcc := goodIn_r _ [11, 12, 4, 5, 6, 13, 14, 15, 10, 16] (by decide +kernel) (by decide +kernel)
set_option maxRecDepth 20000 in
theorem gJx4a65c_grow_92f84_J8_newLength_cabcc : GoodIn wsJx4a65c_grow_92f84 (va_wsS RJx4a65c 73 yJ8_newLength_cabcc wsJ8_newLength_cabcc) := goodIn_app (goodIn_of _ (by decide +kernel)) ggJx4a65c_grow_92f84_J8_newLength_cabcc
set_option maxRecDepth 20000 in
theorem ggJx4a65c_grow_92f84_J7_copyOf_1904c : GoodIn wsJx4a65c_grow_92f84 wsJ7_copyOf_1904c := goodIn_r _ [20, 21, 22, 23, 24, 25, 26, 19, 27, 28, 29, 30, 31, 5, 32, 33, 34, 35, 36] (by decide +kernel) (by decide +kernel)
set_option maxRecDepth 20000 in
theorem gJx4a65c_grow_92f84_J7_copyOf_1904c : GoodIn wsJx4a65c_grow_92f84 (va_wsS RJx4a65c 66 yJ7_copyOf_1904c wsJ7_copyOf_1904c) := goodIn_app (goodIn_of _ (by decide +kernel)) ggJx4a65c_grow_92f84_J7_copyOf_1904c
theorem dJx4a65c_grow_92f84_0 : decode cJx4a65c_grow_92f84 0 = .ok (.aload_n 0, 1) := by decide +kernel
theorem dJx4a65c_grow_92f84_1 : decode cJx4a65c_grow_92f84 1 = .ok (.getfield 9, 3) := by decide +kernel
theorem dJx4a65c_grow_92f84_4 : decode cJx4a65c_grow_92f84 4 = .ok (.arraylength, 1) := by decide +kernel
theorem dJx4a65c_grow_92f84_5 : decode cJx4a65c_grow_92f84 5 = .ok (.istore_n 2, 1) := by decide +kernel
theorem dJx4a65c_grow_92f84_6 : decode cJx4a65c_grow_92f84 6 = .ok (.iload_n 2, 1) := by decide +kernel
theorem dJx4a65c_grow_92f84_7 : decode cJx4a65c_grow_92f84 7 = .ok (.ifCond .gt 13, 3) := by decide +kernel
theorem dJx4a65c_grow_92f84_10 : decode cJx4a65c_grow_92f84 10 = .ok (.aload_n 0, 1) := by decide +kernel
theorem dJx4a65c_grow_92f84_11 : decode cJx4a65c_grow_92f84 11 = .ok (.getfield 9, 3) := by decide +kernel
theorem dJx4a65c_grow_92f84_14 : decode cJx4a65c_grow_92f84 14 = .ok (.getstatic 39, 3) := by decide +kernel
theorem dJx4a65c_grow_92f84_17 : decode cJx4a65c_grow_92f84 17 = .ok (.if_acmp .eq 28, 3) := by decide +kernel
theorem dJx4a65c_grow_92f84_20 : decode cJx4a65c_grow_92f84 20 = .ok (.iload_n 2, 1) := by decide +kernel
theorem dJx4a65c_grow_92f84_21 : decode cJx4a65c_grow_92f84 21 = .ok (.iload_n 1, 1) := by decide +kernel
theorem dJx4a65c_grow_92f84_22 : decode cJx4a65c_grow_92f84 22 = .ok (.iload_n 2, 1) := by decide +kernel
theorem dJx4a65c_grow_92f84_23 : decode cJx4a65c_grow_92f84 23 = .ok (.isub, 1) := by decide +kernel
theorem dJx4a65c_grow_92f84_24 : decode cJx4a65c_grow_92f84 24 = .ok (.iload_n 2, 1) := by decide +kernel
theorem dJx4a65c_grow_92f84_25 : decode cJx4a65c_grow_92f84 25 = .ok (.iconst 1, 1) := by decide +kernel
theorem dJx4a65c_grow_92f84_26 : decode cJx4a65c_grow_92f84 26 = .ok (.ishr, 1) := by decide +kernel
theorem dJx4a65c_grow_92f84_27 : decode cJx4a65c_grow_92f84 27 = .ok (.invokestatic 73, 3) := by decide +kernel
theorem dJx4a65c_grow_92f84_30 : decode cJx4a65c_grow_92f84 30 = .ok (.istore_n 3, 1) := by decide +kernel
theorem dJx4a65c_grow_92f84_31 : decode cJx4a65c_grow_92f84 31 = .ok (.aload_n 0, 1) := by decide +kernel
theorem dJx4a65c_grow_92f84_32 : decode cJx4a65c_grow_92f84 32 = .ok (.aload_n 0, 1) := by decide +kernel
theorem dJx4a65c_grow_92f84_33 : decode cJx4a65c_grow_92f84 33 = .ok (.getfield 9, 3) := by decide +kernel
theorem dJx4a65c_grow_92f84_36 : decode cJx4a65c_grow_92f84 36 = .ok (.iload_n 3, 1) := by decide +kernel
theorem dJx4a65c_grow_92f84_37 : decode cJx4a65c_grow_92f84 37 = .ok (.invokestatic 66, 3) := by decide +kernel
theorem dJx4a65c_grow_92f84_40 : decode cJx4a65c_grow_92f84 40 = .ok (.dup_x1, 1) := by decide +kernel
theorem dJx4a65c_grow_92f84_41 : decode cJx4a65c_grow_92f84 41 = .ok (.putfield 9, 3) := by decide +kernel
theorem dJx4a65c_grow_92f84_44 : decode cJx4a65c_grow_92f84 44 = .ok (.areturn, 1) := by decide +kernel
theorem dJx4a65c_grow_92f84_45 : decode cJx4a65c_grow_92f84 45 = .ok (.aload_n 0, 1) := by decide +kernel
theorem dJx4a65c_grow_92f84_46 : decode cJx4a65c_grow_92f84 46 = .ok (.bipush 10, 2) := by decide +kernel
theorem dJx4a65c_grow_92f84_48 : decode cJx4a65c_grow_92f84 48 = .ok (.iload_n 1, 1) := by decide +kernel
theorem dJx4a65c_grow_92f84_49 : decode cJx4a65c_grow_92f84 49 = .ok (.invokestatic 79, 3) := by decide +kernel
theorem dJx4a65c_grow_92f84_52 : decode cJx4a65c_grow_92f84 52 = .ok (.anewarray 7, 3) := by decide +kernel
theorem dJx4a65c_grow_92f84_55 : decode cJx4a65c_grow_92f84 55 = .ok (.dup_x1, 1) := by decide +kernel
theorem dJx4a65c_grow_92f84_56 : decode cJx4a65c_grow_92f84 56 = .ok (.putfield 9, 3) := by decide +kernel
theorem dJx4a65c_grow_92f84_59 : decode cJx4a65c_grow_92f84 59 = .ok (.areturn, 1) := by decide +kernel
set_option maxRecDepth 20000 in
theorem ggJx4a65c_grow_d5877_Jx4a65c_grow_92f84 : GoodIn wsJx4a65c_grow_d5877 wsJx4a65c_grow_92f84 := goodIn_r _ [6, 7, 8, 9, 10, 11, 12, 13, 14, 15, 16, 17, 18, 19, 20, 21, 22, 23, 24, 25, 26, 27, 28, 29, 30, 31, 32, 33, 34, 35, 36, 37, 38, 39, 40, 41, 42, 43, 44, 45] (by decide +kernel) (by decide +kernel)
set_option maxRecDepth 20000 in
theorem gJx4a65c_grow_d5877_Jx4a65c_grow_92f84 : GoodIn wsJx4a65c_grow_d5877 (wsV RJx4a65c 69 RJx4a65c yJx4a65c_grow_92f84 wsJx4a65c_grow_92f84) := goodIn_app (goodIn_of _ (by decide +kernel)) ggJx4a65c_grow_d5877_Jx4a65c_grow_92f84
theorem dJx4a65c_grow_d5877_0 : decode cJx4a65c_grow_d5877 0 = .ok (.aload_n 0, 1) := by decide +kernel
theorem dJx4a65c_grow_d5877_1 : decode cJx4a65c_grow_d5877 1 = .ok (.aload_n 0, 1) := by decide +kernel
theorem dJx4a65c_grow_d5877_2 : decode cJx4a65c_grow_d5877 2 = .ok (.getfield 48, 3) := by decide +kernel
theorem dJx4a65c_grow_d5877_5 : decode cJx4a65c_grow_d5877 5 = .ok (.iconst 1, 1) := by decide +kernel
theorem dJx4a65c_grow_d5877_6 : decode cJx4a65c_grow_d5877 6 = .ok (.iadd, 1) := by decide +kernel
theorem dJx4a65c_grow_d5877_7 : decode cJx4a65c_grow_d5877 7 = .ok (.invokevirtual 69, 3) := by decide +kernel
theorem dJx4a65c_grow_d5877_10 : decode cJx4a65c_grow_d5877 10 = .ok (.areturn, 1) := by decide +kernel
theorem dJx4a65c_size_8abf5_0 : decode cJx4a65c_size_8abf5 0 = .ok (.aload_n 0, 1) := by decide +kernel
theorem dJx4a65c_size_8abf5_1 : decode cJx4a65c_size_8abf5 1 = .ok (.getfield 48, 3) := by decide +kernel
theorem dJx4a65c_size_8abf5_4 : decode cJx4a65c_size_8abf5 4 = .ok (.ireturn, 1) := by decide +kernel
theorem dJx4a65c_elementData_915e3_0 : decode cJx4a65c_elementData_915e3 0 = .ok (.aload_n 0, 1) := by decide +kernel
theorem dJx4a65c_elementData_915e3_1 : decode cJx4a65c_elementData_915e3 1 = .ok (.getfield 9, 3) := by decide +kernel
theorem dJx4a65c_elementData_915e3_4 : decode cJx4a65c_elementData_915e3 4 = .ok (.iload_n 1, 1) := by decide +kernel
theorem dJx4a65c_elementData_915e3_5 : decode cJx4a65c_elementData_915e3 5 = .ok (.aaload, 1) := by decide +kernel
theorem dJx4a65c_elementData_915e3_6 : decode cJx4a65c_elementData_915e3 6 = .ok (.areturn, 1) := by decide +kernel
set_option maxRecDepth 20000 in
theorem ggJx4a65c_get_915e3_J15_checkIndex_7cf53 : GoodIn wsJx4a65c_get_915e3 wsJ15_checkIndex_7cf53 := goodIn_r _ [5, 6, 7, 8, 9] (by decide +kernel) (by decide +kernel)
set_option maxRecDepth 20000 in
theorem gJx4a65c_get_915e3_J15_checkIndex_7cf53 : GoodIn wsJx4a65c_get_915e3 (va_wsS RJx4a65c 118 yJ15_checkIndex_7cf53 wsJ15_checkIndex_7cf53) := goodIn_app (goodIn_of _ (by decide +kernel)) ggJx4a65c_get_915e3_J15_checkIndex_7cf53
set_option maxRecDepth 20000 in
theorem ggJx4a65c_get_915e3_Jx4a65c_elementData_915e3 : GoodIn wsJx4a65c_get_915e3 wsJx4a65c_elementData_915e3 := goodIn_r _ [14, 15, 16, 17, 18] (by decide +kernel) (by decide +kernel)
set_option maxRecDepth 20000 in
theorem gJx4a65c_get_915e3_Jx4a65c_elementData_915e3 : GoodIn wsJx4a65c_get_915e3 (wsV RJx4a65c 123 RJx4a65c yJx4a65c_elementData_915e3 wsJx4a65c_elementData_915e3) := goodIn_app (goodIn_of _ (by decide +kernel)) ggJx4a65c_get_915e3_Jx4a65c_elementData_915e3
theorem dJx4a65c_get_915e3_0 : decode cJx4a65c_get_915e3 0 = .ok (.iload_n 1, 1) := by decide +kernel
theorem dJx4a65c_get_915e3_1 : decode cJx4a65c_get_915e3 1 = .ok (.aload_n 0, 1) := by decide +kernel
theorem dJx4a65c_get_915e3_2 : decode cJx4a65c_get_915e3 2 = .ok (.getfield 48, 3) := by decide +kernel
theorem dJx4a65c_get_915e3_5 : decode cJx4a65c_get_915e3 5 = .ok (.invokestatic 118, 3) := by decide +kernel
theorem dJx4a65c_get_915e3_8 : decode cJx4a65c_get_915e3 8 = .ok (.pop, 1) := by decide +kernel
theorem dJx4a65c_get_915e3_9 : decode cJx4a65c_get_915e3 9 = .ok (.aload_n 0, 1) := by decide +kernel
theorem dJx4a65c_get_915e3_10 : decode cJx4a65c_get_915e3 10 = .ok (.iload_n 1, 1) := by decide +kernel
theorem dJx4a65c_get_915e3_11 : decode cJx4a65c_get_915e3 11 = .ok (.invokevirtual 123, 3) := by decide +kernel
theorem dJx4a65c_get_915e3_14 : decode cJx4a65c_get_915e3 14 = .ok (.areturn, 1) := by decide +kernel
set_option maxRecDepth 20000 in
theorem ggJx4a65c_add_72be8_Jx4a65c_grow_d5877 : GoodIn wsJx4a65c_add_72be8 wsJx4a65c_grow_d5877 := goodIn_r _ [6, 1, 7, 8, 9, 5, 10, 11, 12, 13, 14, 15, 16, 17, 18, 19, 20, 21, 22, 23, 24, 25, 26, 27, 28, 29, 30, 31, 32, 33, 34, 35, 36, 37, 38, 39, 40, 41, 42, 43, 44, 45, 46, 47, 48, 49] (by decide +kernel) (by decide +kernel)
set_option maxRecDepth 20000 in
theorem gJx4a65c_add_72be8_Jx4a65c_grow_d5877 : GoodIn wsJx4a65c_add_72be8 (wsV RJx4a65c 129 RJx4a65c yJx4a65c_grow_d5877 wsJx4a65c_grow_d5877) := goodIn_app (goodIn_of _ (by decide +kernel)) ggJx4a65c_add_72be8_Jx4a65c_grow_d5877
theorem dJx4a65c_add_72be8_0 : decode cJx4a65c_add_72be8 0 = .ok (.iload_n 3, 1) := by decide +kernel
theorem dJx4a65c_add_72be8_1 : decode cJx4a65c_add_72be8 1 = .ok (.aload_n 2, 1) := by decide +kernel
theorem dJx4a65c_add_72be8_2 : decode cJx4a65c_add_72be8 2 = .ok (.arraylength, 1) := by decide +kernel
theorem dJx4a65c_add_72be8_3 : decode cJx4a65c_add_72be8 3 = .ok (.if_icmp .ne 8, 3) := by decide +kernel
theorem dJx4a65c_add_72be8_6 : decode cJx4a65c_add_72be8 6 = .ok (.aload_n 0, 1) := by decide +kernel
theorem dJx4a65c_add_72be8_7 : decode cJx4a65c_add_72be8 7 = .ok (.invokevirtual 129, 3) := by decide +kernel
theorem dJx4a65c_add_72be8_10 : decode cJx4a65c_add_72be8 10 = .ok (.astore_n 2, 1) := by decide +kernel
theorem dJx4a65c_add_72be8_11 : decode cJx4a65c_add_72be8 11 = .ok (.aload_n 2, 1) := by decide +kernel
theorem dJx4a65c_add_72be8_12 : decode cJx4a65c_add_72be8 12 = .ok (.iload_n 3, 1) := by decide +kernel
theorem dJx4a65c_add_72be8_13 : decode cJx4a65c_add_72be8 13 = .ok (.aload_n 1, 1) := by decide +kernel
theorem dJx4a65c_add_72be8_14 : decode cJx4a65c_add_72be8 14 = .ok (.aastore, 1) := by decide +kernel
theorem dJx4a65c_add_72be8_15 : decode cJx4a65c_add_72be8 15 = .ok (.aload_n 0, 1) := by decide +kernel
theorem dJx4a65c_add_72be8_16 : decode cJx4a65c_add_72be8 16 = .ok (.iload_n 3, 1) := by decide +kernel
theorem dJx4a65c_add_72be8_17 : decode cJx4a65c_add_72be8 17 = .ok (.iconst 1, 1) := by decide +kernel
theorem dJx4a65c_add_72be8_18 : decode cJx4a65c_add_72be8 18 = .ok (.iadd, 1) := by decide +kernel
theorem dJx4a65c_add_72be8_19 : decode cJx4a65c_add_72be8 19 = .ok (.putfield 48, 3) := by decide +kernel
theorem dJx4a65c_add_72be8_22 : decode cJx4a65c_add_72be8 22 = .ok (.return_, 1) := by decide +kernel
set_option maxRecDepth 20000 in
theorem ggJx4a65c_add_9ea2d_Jx4a65c_add_72be8 : GoodIn wsJx4a65c_add_9ea2d wsJx4a65c_add_72be8 := goodIn_r _ [9, 4, 10, 11, 12, 8, 13, 14, 15, 16, 17, 3, 18, 19, 20, 21, 22, 23, 24, 25, 26, 27, 28, 29, 30, 31, 32, 33, 34, 35, 36, 37, 38, 39, 40, 41, 42, 43, 44, 45, 46, 47, 48, 49, 50, 51, 52, 53, 54, 55] (by decide +kernel) (by decide +kernel)
set_option maxRecDepth 20000 in
theorem gJx4a65c_add_9ea2d_Jx4a65c_add_72be8 : GoodIn wsJx4a65c_add_9ea2d (wsV RJx4a65c 131 RJx4a65c yJx4a65c_add_72be8 wsJx4a65c_add_72be8) := goodIn_app (goodIn_of _ (by decide +kernel)) ggJx4a65c_add_9ea2d_Jx4a65c_add_72be8
theorem dJx4a65c_add_9ea2d_0 : decode cJx4a65c_add_9ea2d 0 = .ok (.aload_n 0, 1) := by decide +kernel
theorem dJx4a65c_add_9ea2d_1 : decode cJx4a65c_add_9ea2d 1 = .ok (.dup, 1) := by decide +kernel
theorem dJx4a65c_add_9ea2d_2 : decode cJx4a65c_add_9ea2d 2 = .ok (.getfield 63, 3) := by decide +kernel
theorem dJx4a65c_add_9ea2d_5 : decode cJx4a65c_add_9ea2d 5 = .ok (.iconst 1, 1) := by decide +kernel
theorem dJx4a65c_add_9ea2d_6 : decode cJx4a65c_add_9ea2d 6 = .ok (.iadd, 1) := by decide +kernel
theorem dJx4a65c_add_9ea2d_7 : decode cJx4a65c_add_9ea2d 7 = .ok (.putfield 63, 3) := by decide +kernel
theorem dJx4a65c_add_9ea2d_10 : decode cJx4a65c_add_9ea2d 10 = .ok (.aload_n 0, 1) := by decide +kernel
theorem dJx4a65c_add_9ea2d_11 : decode cJx4a65c_add_9ea2d 11 = .ok (.aload_n 1, 1) := by decide +kernel
theorem dJx4a65c_add_9ea2d_12 : decode cJx4a65c_add_9ea2d 12 = .ok (.aload_n 0, 1) := by decide +kernel
theorem dJx4a65c_add_9ea2d_13 : decode cJx4a65c_add_9ea2d 13 = .ok (.getfield 9, 3) := by decide +kernel
theorem dJx4a65c_add_9ea2d_16 : decode cJx4a65c_add_9ea2d 16 = .ok (.aload_n 0, 1) := by decide +kernel
theorem dJx4a65c_add_9ea2d_17 : decode cJx4a65c_add_9ea2d 17 = .ok (.getfield 48, 3) := by decide +kernel
theorem dJx4a65c_add_9ea2d_20 : decode cJx4a65c_add_9ea2d 20 = .ok (.invokevirtual 131, 3) := by decide +kernel
theorem dJx4a65c_add_9ea2d_23 : decode cJx4a65c_add_9ea2d 23 = .ok (.iconst 1, 1) := by decide +kernel
theorem dJx4a65c_add_9ea2d_24 : decode cJx4a65c_add_9ea2d 24 = .ok (.ireturn, 1) := by decide +kernel
set_option maxRecDepth 20000 in
theorem ggJ7_copyOf_1904c_J7_copyOf_6403c : GoodIn wsJ7_copyOf_1904c wsJ7_copyOf_6403c := goodIn_r _ [8, 9, 10, 11, 12, 13, 14, 15, 16, 17, 18] (by decide +kernel) (by decide +kernel)
set_option maxRecDepth 20000 in
theorem gJ7_copyOf_1904c_J7_copyOf_6403c : GoodIn wsJ7_copyOf_1904c (va_wsS RJ7 300 yJ7_copyOf_6403c wsJ7_copyOf_6403c) := goodIn_app (goodIn_of _ (by decide +kernel)) ggJ7_copyOf_1904c_J7_copyOf_6403c
theorem dJ7_copyOf_1904c_0 : decode cJ7_copyOf_1904c 0 = .ok (.aload_n 0, 1) := by decide +kernel
theorem dJ7_copyOf_1904c_1 : decode cJ7_copyOf_1904c 1 = .ok (.iload_n 1, 1) := by decide +kernel
theorem dJ7_copyOf_1904c_2 : decode cJ7_copyOf_1904c 2 = .ok (.aload_n 0, 1) := by decide +kernel
theorem dJ7_copyOf_1904c_3 : decode cJ7_copyOf_1904c 3 = .ok (.invokevirtual 86, 3) := by decide +kernel
theorem dJ7_copyOf_1904c_6 : decode cJ7_copyOf_1904c 6 = .ok (.invokestatic 300, 3) := by decide +kernel
theorem dJ7_copyOf_1904c_9 : decode cJ7_copyOf_1904c 9 = .ok (.areturn, 1) := by decide +kernel
theorem dJ7_copyOf_6403c_0 : decode cJ7_copyOf_6403c 0 = .ok (.aload_n 2, 1) := by decide +kernel
theorem dJ7_copyOf_6403c_1 : decode cJ7_copyOf_6403c 1 = .ok (.ldc 110, 2) := by decide +kernel
theorem dJ7_copyOf_6403c_3 : decode cJ7_copyOf_6403c 3 = .ok (.if_acmp .ne 10, 3) := by decide +kernel
theorem dJ7_copyOf_6403c_6 : decode cJ7_copyOf_6403c 6 = .ok (.iload_n 1, 1) := by decide +kernel
theorem dJ7_copyOf_6403c_7 : decode cJ7_copyOf_6403c 7 = .ok (.anewarray 2, 3) := by decide +kernel
theorem dJ7_copyOf_6403c_10 : decode cJ7_copyOf_6403c 10 = .ok (.goto 14, 3) := by decide +kernel
theorem dJ7_copyOf_6403c_13 : decode cJ7_copyOf_6403c 13 = .ok (.aload_n 2, 1) := by decide +kernel
theorem dJ7_copyOf_6403c_14 : decode cJ7_copyOf_6403c 14 = .ok (.invokevirtual 90, 3) := by decide +kernel
theorem dJ7_copyOf_6403c_17 : decode cJ7_copyOf_6403c 17 = .ok (.iload_n 1, 1) := by decide +kernel
theorem dJ7_copyOf_6403c_18 : decode cJ7_copyOf_6403c 18 = .ok (.invokestatic 95, 3) := by decide +kernel
theorem dJ7_copyOf_6403c_21 : decode cJ7_copyOf_6403c 21 = .ok (.checkcast 110, 3) := by decide +kernel
theorem dJ7_copyOf_6403c_24 : decode cJ7_copyOf_6403c 24 = .ok (.astore_n 3, 1) := by decide +kernel
theorem dJ7_copyOf_6403c_25 : decode cJ7_copyOf_6403c 25 = .ok (.aload_n 0, 1) := by decide +kernel
theorem dJ7_copyOf_6403c_26 : decode cJ7_copyOf_6403c 26 = .ok (.iconst 0, 1) := by decide +kernel
theorem dJ7_copyOf_6403c_27 : decode cJ7_copyOf_6403c 27 = .ok (.aload_n 3, 1) := by decide +kernel
theorem dJ7_copyOf_6403c_28 : decode cJ7_copyOf_6403c 28 = .ok (.iconst 0, 1) := by decide +kernel
theorem dJ7_copyOf_6403c_29 : decode cJ7_copyOf_6403c 29 = .ok (.aload_n 0, 1) := by decide +kernel
theorem dJ7_copyOf_6403c_30 : decode cJ7_copyOf_6403c 30 = .ok (.arraylength, 1) := by decide +kernel
theorem dJ7_copyOf_6403c_31 : decode cJ7_copyOf_6403c 31 = .ok (.iload_n 1, 1) := by decide +kernel
theorem dJ7_copyOf_6403c_32 : decode cJ7_copyOf_6403c 32 = .ok (.invokestatic 304, 3) := by decide +kernel
theorem dJ7_copyOf_6403c_35 : decode cJ7_copyOf_6403c 35 = .ok (.invokestatic 150, 3) := by decide +kernel
theorem dJ7_copyOf_6403c_38 : decode cJ7_copyOf_6403c 38 = .ok (.aload_n 3, 1) := by decide +kernel
theorem dJ7_copyOf_6403c_39 : decode cJ7_copyOf_6403c 39 = .ok (.areturn, 1) := by decide +kernel
set_option maxRecDepth 20000 in
theorem ggJ15_checkIndex_7cf53_J3_checkIndex_8e157 : GoodIn wsJ15_checkIndex_7cf53 wsJ3_checkIndex_8e157 := goodIn_r _ [4] (by decide +kernel) (by decide +kernel)
set_option maxRecDepth 20000 in
theorem gJ15_checkIndex_7cf53_J3_checkIndex_8e157 : GoodIn wsJ15_checkIndex_7cf53 (va_wsS RJ15 105 yJ3_checkIndex_8e157 wsJ3_checkIndex_8e157) := goodIn_app (goodIn_of _ (by decide +kernel)) ggJ15_checkIndex_7cf53_J3_checkIndex_8e157
theorem dJ15_checkIndex_7cf53_0 : decode cJ15_checkIndex_7cf53 0 = .ok (.iload_n 0, 1) := by decide +kernel
theorem dJ15_checkIndex_7cf53_1 : decode cJ15_checkIndex_7cf53 1 = .ok (.iload_n 1, 1) := by decide +kernel
theorem dJ15_checkIndex_7cf53_2 : decode cJ15_checkIndex_7cf53 2 = .ok (.aconst_null, 1) := by decide +kernel
theorem dJ15_checkIndex_7cf53_3 : decode cJ15_checkIndex_7cf53 3 = .ok (.invokestatic 105, 3) := by decide +kernel
theorem dJ15_checkIndex_7cf53_6 : decode cJ15_checkIndex_7cf53 6 = .ok (.ireturn, 1) := by decide +kernel
set_option maxRecDepth 20000 in
theorem ggJ8_newLength_cabcc_J8_hugeLength_7cf53 : GoodIn wsJ8_newLength_cabcc wsJ8_hugeLength_7cf53 := goodIn_r _ [9, 5] (by decide +kernel) (by decide +kernel)
set_option maxRecDepth 20000 in
theorem gJ8_newLength_cabcc_J8_hugeLength_7cf53 : GoodIn wsJ8_newLength_cabcc (va_wsS RJ8 201 yJ8_hugeLength_7cf53 wsJ8_hugeLength_7cf53) := goodIn_app (goodIn_of _ (by decide +kernel)) ggJ8_newLength_cabcc_J8_hugeLength_7cf53
theorem dJ8_newLength_cabcc_0 : decode cJ8_newLength_cabcc 0 = .ok (.iload_n 0, 1) := by decide +kernel
theorem dJ8_newLength_cabcc_1 : decode cJ8_newLength_cabcc 1 = .ok (.iload_n 1, 1) := by decide +kernel
theorem dJ8_newLength_cabcc_2 : decode cJ8_newLength_cabcc 2 = .ok (.iload_n 2, 1) := by decide +kernel
theorem dJ8_newLength_cabcc_3 : decode cJ8_newLength_cabcc 3 = .ok (.invokestatic 194, 3) := by decide +kernel
theorem dJ8_newLength_cabcc_6 : decode cJ8_newLength_cabcc 6 = .ok (.iadd, 1) := by decide +kernel
theorem dJ8_newLength_cabcc_7 : decode cJ8_newLength_cabcc 7 = .ok (.istore_n 3, 1) := by decide +kernel
theorem dJ8_newLength_cabcc_8 : decode cJ8_newLength_cabcc 8 = .ok (.iconst 0, 1) := by decide +kernel
theorem dJ8_newLength_cabcc_9 : decode cJ8_newLength_cabcc 9 = .ok (.iload_n 3, 1) := by decide +kernel
theorem dJ8_newLength_cabcc_10 : decode cJ8_newLength_cabcc 10 = .ok (.if_icmp .ge 11, 3) := by decide +kernel
theorem dJ8_newLength_cabcc_13 : decode cJ8_newLength_cabcc 13 = .ok (.iload_n 3, 1) := by decide +kernel
theorem dJ8_newLength_cabcc_14 : decode cJ8_newLength_cabcc 14 = .ok (.ldc 200, 2) := by decide +kernel
theorem dJ8_newLength_cabcc_16 : decode cJ8_newLength_cabcc 16 = .ok (.if_icmp .gt 5, 3) := by decide +kernel
theorem dJ8_newLength_cabcc_19 : decode cJ8_newLength_cabcc 19 = .ok (.iload_n 3, 1) := by decide +kernel
theorem dJ8_newLength_cabcc_20 : decode cJ8_newLength_cabcc 20 = .ok (.ireturn, 1) := by decide +kernel
theorem dJ8_newLength_cabcc_21 : decode cJ8_newLength_cabcc 21 = .ok (.iload_n 0, 1) := by decide +kernel
theorem dJ8_newLength_cabcc_22 : decode cJ8_newLength_cabcc 22 = .ok (.iload_n 1, 1) := by decide +kernel
theorem dJ8_newLength_cabcc_23 : decode cJ8_newLength_cabcc 23 = .ok (.invokestatic 201, 3) := by decide +kernel
theorem dJ8_newLength_cabcc_26 : decode cJ8_newLength_cabcc 26 = .ok (.ireturn, 1) := by decide +kernel
theorem dJ8_hugeLength_7cf53_0 : decode cJ8_hugeLength_7cf53 0 = .ok (.iload_n 0, 1) := by decide +kernel
theorem dJ8_hugeLength_7cf53_1 : decode cJ8_hugeLength_7cf53 1 = .ok (.iload_n 1, 1) := by decide +kernel
theorem dJ8_hugeLength_7cf53_2 : decode cJ8_hugeLength_7cf53 2 = .ok (.iadd, 1) := by decide +kernel
theorem dJ8_hugeLength_7cf53_3 : decode cJ8_hugeLength_7cf53 3 = .ok (.istore_n 2, 1) := by decide +kernel
theorem dJ8_hugeLength_7cf53_4 : decode cJ8_hugeLength_7cf53 4 = .ok (.iload_n 2, 1) := by decide +kernel
theorem dJ8_hugeLength_7cf53_5 : decode cJ8_hugeLength_7cf53 5 = .ok (.ifCond .ge 44, 3) := by decide +kernel
theorem dJ8_hugeLength_7cf53_8 : decode cJ8_hugeLength_7cf53 8 = .ok (.new 204, 3) := by decide +kernel
theorem dJ8_hugeLength_7cf53_11 : decode cJ8_hugeLength_7cf53 11 = .ok (.dup, 1) := by decide +kernel
theorem dJ8_hugeLength_7cf53_12 : decode cJ8_hugeLength_7cf53 12 = .ok (.new 89, 3) := by decide +kernel
theorem dJ8_hugeLength_7cf53_15 : decode cJ8_hugeLength_7cf53 15 = .ok (.dup, 1) := by decide +kernel
theorem dJ8_hugeLength_7cf53_16 : decode cJ8_hugeLength_7cf53 16 = .ok (.invokespecial 91, 3) := by decide +kernel
theorem dJ8_hugeLength_7cf53_19 : decode cJ8_hugeLength_7cf53 19 = .ok (.ldc 206, 2) := by decide +kernel
theorem dJ8_hugeLength_7cf53_21 : decode cJ8_hugeLength_7cf53 21 = .ok (.invokevirtual 94, 3) := by decide +kernel
theorem dJ8_hugeLength_7cf53_24 : decode cJ8_hugeLength_7cf53 24 = .ok (.iload_n 0, 1) := by decide +kernel
theorem dJ8_hugeLength_7cf53_25 : decode cJ8_hugeLength_7cf53 25 = .ok (.invokevirtual 98, 3) := by decide +kernel
theorem dJ8_hugeLength_7cf53_28 : decode cJ8_hugeLength_7cf53 28 = .ok (.ldc 208, 2) := by decide +kernel
theorem dJ8_hugeLength_7cf53_30 : decode cJ8_hugeLength_7cf53 30 = .ok (.invokevirtual 94, 3) := by decide +kernel
theorem dJ8_hugeLength_7cf53_33 : decode cJ8_hugeLength_7cf53 33 = .ok (.iload_n 1, 1) := by decide +kernel
theorem dJ8_hugeLength_7cf53_34 : decode cJ8_hugeLength_7cf53 34 = .ok (.invokevirtual 98, 3) := by decide +kernel
theorem dJ8_hugeLength_7cf53_37 : decode cJ8_hugeLength_7cf53 37 = .ok (.ldc 210, 2) := by decide +kernel
theorem dJ8_hugeLength_7cf53_39 : decode cJ8_hugeLength_7cf53 39 = .ok (.invokevirtual 94, 3) := by decide +kernel
theorem dJ8_hugeLength_7cf53_42 : decode cJ8_hugeLength_7cf53 42 = .ok (.invokevirtual 101, 3) := by decide +kernel
theorem dJ8_hugeLength_7cf53_45 : decode cJ8_hugeLength_7cf53 45 = .ok (.invokespecial 212, 3) := by decide +kernel
theorem dJ8_hugeLength_7cf53_48 : decode cJ8_hugeLength_7cf53 48 = .ok (.athrow, 1) := by decide +kernel
theorem dJ8_hugeLength_7cf53_49 : decode cJ8_hugeLength_7cf53 49 = .ok (.iload_n 2, 1) := by decide +kernel
theorem dJ8_hugeLength_7cf53_50 : decode cJ8_hugeLength_7cf53 50 = .ok (.ldc 200, 2) := by decide +kernel
theorem dJ8_hugeLength_7cf53_52 : decode cJ8_hugeLength_7cf53 52 = .ok (.if_icmp .gt 6, 3) := by decide +kernel
theorem dJ8_hugeLength_7cf53_55 : decode cJ8_hugeLength_7cf53 55 = .ok (.ldc 200, 2) := by decide +kernel
theorem dJ8_hugeLength_7cf53_57 : decode cJ8_hugeLength_7cf53 57 = .ok (.ireturn, 1) := by decide +kernel
theorem dJ8_hugeLength_7cf53_58 : decode cJ8_hugeLength_7cf53 58 = .ok (.iload_n 2, 1) := by decide +kernel
theorem dJ8_hugeLength_7cf53_59 : decode cJ8_hugeLength_7cf53 59 = .ok (.ireturn, 1) := by decide +kernel
theorem dJ3_checkIndex_8e157_0 : decode cJ3_checkIndex_8e157 0 = .ok (.iload_n 0, 1) := by decide +kernel
theorem dJ3_checkIndex_8e157_1 : decode cJ3_checkIndex_8e157 1 = .ok (.ifCond .lt 8, 3) := by decide +kernel
theorem dJ3_checkIndex_8e157_4 : decode cJ3_checkIndex_8e157 4 = .ok (.iload_n 0, 1) := by decide +kernel
theorem dJ3_checkIndex_8e157_5 : decode cJ3_checkIndex_8e157 5 = .ok (.iload_n 1, 1) := by decide +kernel
theorem dJ3_checkIndex_8e157_6 : decode cJ3_checkIndex_8e157 6 = .ok (.if_icmp .lt 10, 3) := by decide +kernel
theorem dJ3_checkIndex_8e157_9 : decode cJ3_checkIndex_8e157 9 = .ok (.aload_n 2, 1) := by decide +kernel
theorem dJ3_checkIndex_8e157_10 : decode cJ3_checkIndex_8e157 10 = .ok (.iload_n 0, 1) := by decide +kernel
theorem dJ3_checkIndex_8e157_11 : decode cJ3_checkIndex_8e157 11 = .ok (.iload_n 1, 1) := by decide +kernel
theorem dJ3_checkIndex_8e157_12 : decode cJ3_checkIndex_8e157 12 = .ok (.invokestatic 95, 3) := by decide +kernel
theorem dJ3_checkIndex_8e157_15 : decode cJ3_checkIndex_8e157 15 = .ok (.athrow, 1) := by decide +kernel
theorem dJ3_checkIndex_8e157_16 : decode cJ3_checkIndex_8e157 16 = .ok (.iload_n 0, 1) := by decide +kernel
theorem dJ3_checkIndex_8e157_17 : decode cJ3_checkIndex_8e157 17 = .ok (.ireturn, 1) := by decide +kernel
set_option maxRecDepth 20000 in
theorem ggL_law_X1_init : GoodIn wsL_law wsX1_init := goodIn_r _ [9, 10, 11, 12, 13, 14, 15, 16, 17, 18, 19, 20, 21, 22, 23, 24, 25, 26, 27, 28, 29, 30, 31, 32, 33, 34, 35, 36, 37, 38, 39, 40, 41, 42, 43, 44, 45, 46, 47, 48, 49, 50, 51, 538, 539, 540, 541, 542, 543, 544, 545, 546, 547, 548, 549, 550, 551, 579, 580, 581] (by decide +kernel) (by decide +kernel)
set_option maxRecDepth 20000 in
theorem gL_law_X1_init : GoodIn wsL_law (wsX1_init) := ggL_law_X1_init
set_option maxRecDepth 20000 in
theorem ggL_law_X2_init : GoodIn wsL_law wsX2_init := goodIn_r _ [54, 55, 11, 12, 13, 56, 57, 21, 58, 59, 60, 27, 61, 62, 63, 64, 65, 66, 67, 68, 69, 70, 71, 72, 73, 74, 75, 76, 552, 553, 554, 555, 556, 557, 558, 559, 560, 561, 562, 563, 564, 565, 566, 567, 568, 569, 570, 571, 572, 573, 574, 575, 576, 577, 578] (by decide +kernel) (by decide +kernel)
set_option maxRecDepth 20000 in
theorem gL_law_X2_init : GoodIn wsL_law (wsX2_init) := ggL_law_X2_init
set_option maxRecDepth 20000 in
theorem ggL_law_X1_node : GoodIn wsL_law wsX1_node := goodIn_r _ [80, 81, 23, 19, 538, 539, 540, 541, 542, 543, 544, 545, 546, 547, 548, 549, 550, 551] (by decide +kernel) (by decide +kernel)
set_option maxRecDepth 20000 in
theorem gL_law_X1_node : GoodIn wsL_law (wsV RL 15 RX1 yX1_node wsX1_node) := goodIn_app (goodIn_of _ (by decide +kernel)) ggL_law_X1_node
set_option maxRecDepth 20000 in
theorem ggL_law_X2_node : GoodIn wsL_law wsX2_node := goodIn_r _ [85, 86, 87, 56, 88, 89, 5, 90, 552, 553, 554, 555, 556, 557, 558, 559, 560, 561, 562, 563, 564, 565, 566, 567, 568, 569, 570, 571, 572, 573, 574, 575, 576, 577, 578] (by decide +kernel) (by decide +kernel)
set_option maxRecDepth 20000 in
theorem gL_law_X2_node : GoodIn wsL_law (wsV RL 19 RX2 yX2_node wsX2_node) := goodIn_app (goodIn_of _ (by decide +kernel)) ggL_law_X2_node
set_option maxRecDepth 20000 in
theorem ggL_law_X1_add : GoodIn wsL_law wsX1_add := goodIn_r _ [94, 95, 81, 19, 96, 97, 98, 99, 2, 100, 23, 538, 539, 540, 541, 542, 543, 544, 545, 546, 547, 548, 549, 550, 551] (by decide +kernel) (by decide +kernel)
set_option maxRecDepth 20000 in
theorem gL_law_X1_add : GoodIn wsL_law (wsV RL 20 RX1 yX1_add wsX1_add) := goodIn_app (goodIn_of _ (by decide +kernel)) ggL_law_X1_add
set_option maxRecDepth 20000 in
theorem ggL_law_X2_add : GoodIn wsL_law wsX2_add := goodIn_r _ [104, 105, 86, 56, 106, 107, 108, 109, 5, 110, 87, 88, 89, 90, 552, 553, 554, 555, 556, 557, 558, 559, 560, 561, 562, 563, 564, 565, 566, 567, 568, 569, 570, 571, 572, 573, 574, 575, 576, 577, 578] (by decide +kernel) (by decide +kernel)
set_option maxRecDepth 20000 in
theorem gL_law_X2_add : GoodIn wsL_law (wsV RL 24 RX2 yX2_add wsX2_add) := goodIn_app (goodIn_of _ (by decide +kernel)) ggL_law_X2_add
set_option maxRecDepth 20000 in
theorem ggL_law_X1_next : GoodIn wsL_law wsX1_next := goodIn_r _ [114, 24, 115, 116, 117, 2, 118, 23, 22, 19, 25, 26, 119, 120, 121, 538, 539, 540, 541, 542, 543, 544, 545, 546, 547, 548, 549, 550, 551] (by decide +kernel) (by decide +kernel)
set_option maxRecDepth 20000 in
theorem gL_law_X1_next : GoodIn wsL_law (wsV RL 25 RX1 yX1_next wsX1_next) := goodIn_app (goodIn_of _ (by decide +kernel)) ggL_law_X1_next
set_option maxRecDepth 20000 in
theorem ggL_law_X2_next : GoodIn wsL_law wsX2_next := goodIn_r _ [125, 126, 87, 58, 56, 59, 60, 552, 553, 554, 555, 556, 557, 558, 559, 560, 561, 562, 563, 564, 565, 566, 567, 568, 569, 570, 571, 572, 573, 574, 575, 576, 577, 578] (by decide +kernel) (by decide +kernel)
set_option maxRecDepth 20000 in
theorem gL_law_X2_next : GoodIn wsL_law (wsV RL 29 RX2 yX2_next wsX2_next) := goodIn_app (goodIn_of _ (by decide +kernel)) ggL_law_X2_next
set_option maxRecDepth 20000 in
theorem ggL_law_X1_set : GoodIn wsL_law wsX1_set := goodIn_r _ [130, 131, 132, 96, 18, 538, 539, 540, 541, 542, 543, 544, 545, 546, 547, 548, 549, 550, 551] (by decide +kernel) (by decide +kernel)
set_option maxRecDepth 20000 in
theorem gL_law_X1_set : GoodIn wsL_law (wsV RL 30 RX1 yX1_set wsX1_set) := goodIn_app (goodIn_of _ (by decide +kernel)) ggL_law_X1_set
set_option maxRecDepth 20000 in
theorem ggL_law_X2_set : GoodIn wsL_law wsX2_set := goodIn_r _ [136, 106, 137, 67, 138, 139, 68, 86, 140, 88, 89, 5, 90, 552, 553, 554, 555, 556, 557, 558, 559, 560, 561, 562, 563, 564, 565, 566, 567, 568, 569, 570, 571, 572, 573, 574, 575, 576, 577, 578] (by decide +kernel) (by decide +kernel)
set_option maxRecDepth 20000 in
theorem gL_law_X2_set : GoodIn wsL_law (wsV RL 33 RX2 yX2_set wsX2_set) := goodIn_app (goodIn_of _ (by decide +kernel)) ggL_law_X2_set
set_option maxRecDepth 20000 in
theorem ggL_law_X1_vote : GoodIn wsL_law wsX1_vote := goodIn_r _ [144, 29, 145, 146, 147, 2, 148, 25, 97, 98, 99, 100, 23, 149, 150, 151, 152, 24, 153, 154, 155, 156, 157, 158, 159, 119, 120, 121, 160, 161, 162, 163, 164, 165, 166, 28, 167, 168, 169, 170, 171, 172, 173, 174, 175, 176, 177, 178, 179, 180, 181, 182, 183, 184, 185, 186, 187, 188, 189, 26, 190, 191, 192, 193, 30, 31, 194, 195, 196, 197, 198, 199, 538, 539, 540, 541, 542, 543, 544, 545, 546, 547, 548, 549, 550, 551] (by decide +kernel) (by decide +kernel)
set_option maxRecDepth 20000 in
theorem gL_law_X1_vote : GoodIn wsL_law (wsV RL 34 RX1 yX1_vote wsX1_vote) := goodIn_app (goodIn_of _ (by decide +kernel)) ggL_law_X1_vote
set_option maxRecDepth 20000 in
theorem ggL_law_X2_vote : GoodIn wsL_law wsX2_vote := goodIn_r _ [203, 204, 61, 62, 63, 64, 65, 66, 205, 206, 207, 5, 208, 126, 209, 210, 59, 107, 108, 109, 110, 87, 88, 89, 90, 211, 212, 213, 214, 215, 216, 217, 552, 553, 554, 555, 556, 557, 558, 559, 560, 561, 562, 563, 564, 565, 566, 567, 568, 569, 570, 571, 572, 573, 574, 575, 576, 577, 578] (by decide +kernel) (by decide +kernel)
set_option maxRecDepth 20000 in
theorem gL_law_X2_vote : GoodIn wsL_law (wsV RL 38 RX2 yX2_vote wsX2_vote) := goodIn_app (goodIn_of _ (by decide +kernel)) ggL_law_X2_vote
set_option maxRecDepth 20000 in
theorem ggL_law_X1_may : GoodIn wsL_law wsX1_may := goodIn_r _ [221, 145, 146, 147, 2, 148, 25, 97, 98, 99, 100, 23, 149, 150, 151, 152, 24, 153, 154, 155, 156, 157, 158, 159, 119, 120, 121, 160, 161, 162, 222, 223, 224, 225, 29, 28, 226, 227, 228, 229, 230, 231, 232, 194, 195, 196, 171, 172, 173, 174, 175, 176, 197, 198, 199, 233, 234, 235, 236, 30, 237, 238, 239, 240, 241, 242, 243, 244, 245, 246, 247, 248, 249, 250, 251, 252, 253, 254, 255, 256, 257, 538, 539, 540, 541, 542, 543, 544, 545, 546, 547, 548, 549, 550, 551] (by decide +kernel) (by decide +kernel)
set_option maxRecDepth 20000 in
theorem gL_law_X1_may : GoodIn wsL_law (wsV RL 39 RX1 yX1_may wsX1_may) := goodIn_app (goodIn_of _ (by decide +kernel)) ggL_law_X1_may
set_option maxRecDepth 20000 in
theorem ggL_law_X2_may : GoodIn wsL_law wsX2_may := goodIn_r _ [261, 205, 206, 207, 5, 208, 126, 209, 210, 59, 107, 108, 109, 110, 87, 88, 89, 90, 262, 263, 264, 265, 66, 215, 216, 217, 266, 267, 268, 269, 270, 271, 272, 273, 274, 138, 60, 275, 276, 277, 278, 552, 553, 554, 555, 556, 557, 558, 559, 560, 561, 562, 563, 564, 565, 566, 567, 568, 569, 570, 571, 572, 573, 574, 575, 576, 577, 578] (by decide +kernel) (by decide +kernel)
set_option maxRecDepth 20000 in
theorem gL_law_X2_may : GoodIn wsL_law (wsV RL 42 RX2 yX2_may wsX2_may) := goodIn_app (goodIn_of _ (by decide +kernel)) ggL_law_X2_may
set_option maxRecDepth 20000 in
theorem ggL_law_X1_accuse : GoodIn wsL_law wsX1_accuse := goodIn_r _ [282, 283, 284, 285, 286, 287, 288, 289, 290, 291, 292, 2, 293, 28, 24, 18, 294, 295, 296, 297, 29, 298, 299, 300, 301, 97, 98, 99, 100, 23, 302, 303, 304, 226, 227, 228, 229, 230, 231, 232, 194, 195, 196, 171, 172, 173, 174, 175, 176, 197, 198, 199, 233, 234, 235, 236, 30, 237, 238, 239, 305, 306, 307, 308, 247, 248, 249, 250, 251, 252, 253, 240, 241, 242, 254, 255, 256, 257, 149, 150, 151, 152, 153, 154, 155, 156, 309, 310, 311, 312, 35, 313, 314, 315, 316, 34, 317, 318, 319, 320, 321, 322, 323, 324, 325, 326, 327, 328, 329, 330, 331, 332, 333, 334, 41, 335, 336, 337, 338, 19, 339, 17, 36, 20, 22, 340, 341, 342, 181, 182, 183, 343, 344, 345, 11, 12, 346, 347, 348, 349, 350, 351, 352, 353, 354, 355, 356, 357, 358, 359, 360, 361, 362, 363, 364, 365, 366, 367, 368, 369, 370, 40, 371, 372, 373, 374, 375, 376, 377, 378, 379, 380, 381, 382, 383, 384, 385, 386, 387, 388, 389, 390, 391, 392, 393, 394, 395, 396, 397, 398, 399, 538, 539, 540, 541, 542, 543, 544, 545, 546, 547, 548, 549, 550, 551, 582, 583, 584, 585, 586, 587, 588, 579, 580, 581] (by decide +kernel) (by decide +kernel)
set_option maxRecDepth 20000 in
theorem gL_law_X1_accuse : GoodIn wsL_law (wsV RL 43 RX1 yX1_accuse wsX1_accuse) := goodIn_app (goodIn_of _ (by decide +kernel)) ggL_law_X1_accuse
set_option maxRecDepth 20000 in
theorem ggL_law_X2_accuse : GoodIn wsL_law wsX2_accuse := goodIn_r _ [403, 105, 138, 106, 404, 62, 126, 405, 68, 406, 61, 76, 407, 56, 67, 137, 408, 57, 409, 58, 140, 69, 410, 70, 71, 72, 73, 74, 75, 411, 412, 413, 5, 414, 204, 107, 108, 109, 110, 87, 88, 89, 90, 415, 416, 417, 418, 419, 420, 421, 422, 63, 64, 65, 423, 424, 425, 426, 266, 267, 268, 269, 66, 215, 216, 217, 270, 271, 272, 273, 274, 60, 275, 276, 277, 278, 59, 427, 428, 429, 430, 552, 553, 554, 555, 556, 557, 558, 559, 560, 561, 562, 563, 564, 565, 566, 567, 568, 569, 570, 571, 572, 573, 574, 575, 576, 577, 578] (by decide +kernel) (by decide +kernel)
set_option maxRecDepth 20000 in
theorem gL_law_X2_accuse : GoodIn wsL_law (wsV RL 47 RX2 yX2_accuse wsX2_accuse) := goodIn_app (goodIn_of _ (by decide +kernel)) ggL_law_X2_accuse
set_option maxRecDepth 20000 in
theorem ggL_law_X1_about : GoodIn wsL_law wsX1_about := goodIn_r _ [434, 24, 23, 29, 35, 36, 18, 96, 314, 315, 316, 34, 317, 318, 538, 539, 540, 541, 542, 543, 544, 545, 546, 547, 548, 549, 550, 551, 579, 580, 581] (by decide +kernel) (by decide +kernel)
set_option maxRecDepth 20000 in
theorem gL_law_X1_about : GoodIn wsL_law (wsV RL 48 RX1 yX1_about wsX1_about) := goodIn_app (goodIn_of _ (by decide +kernel)) ggL_law_X1_about
set_option maxRecDepth 20000 in
theorem ggL_law_X2_about : GoodIn wsL_law wsX2_about := goodIn_r _ [438, 126, 87, 204, 410, 409, 68, 140, 67, 106, 552, 553, 554, 555, 556, 557, 558, 559, 560, 561, 562, 563, 564, 565, 566, 567, 568, 569, 570, 571, 572, 573, 574, 575, 576, 577, 578] (by decide +kernel) (by decide +kernel)
set_option maxRecDepth 20000 in
theorem gL_law_X2_about : GoodIn wsL_law (wsV RL 52 RX2 yX2_about wsX2_about) := goodIn_app (goodIn_of _ (by decide +kernel)) ggL_law_X2_about
set_option maxRecDepth 20000 in
theorem ggL_law_X1_holds : GoodIn wsL_law wsX1_holds := goodIn_r _ [442, 95, 19, 20, 22, 96, 97, 98, 99, 2, 100, 23, 443, 444, 445, 446, 35, 28, 313, 314, 315, 316, 34, 317, 318, 319, 320, 321, 322, 323, 324, 325, 326, 327, 328, 329, 330, 331, 332, 333, 334, 41, 181, 182, 183, 538, 539, 540, 541, 542, 543, 544, 545, 546, 547, 548, 549, 550, 551, 582, 583, 584, 585, 586, 587, 588, 579, 580, 581] (by decide +kernel) (by decide +kernel)
set_option maxRecDepth 20000 in
theorem gL_law_X1_holds : GoodIn wsL_law (wsV RL 53 RX1 yX1_holds wsX1_holds) := goodIn_app (goodIn_of _ (by decide +kernel)) ggL_law_X1_holds
set_option maxRecDepth 20000 in
theorem ggL_law_X2_holds : GoodIn wsL_law wsX2_holds := goodIn_r _ [450, 105, 56, 57, 58, 106, 410, 61, 70, 107, 108, 109, 5, 110, 87, 552, 553, 554, 555, 556, 557, 558, 559, 560, 561, 562, 563, 564, 565, 566, 567, 568, 569, 570, 571, 572, 573, 574, 575, 576, 577, 578] (by decide +kernel) (by decide +kernel)
set_option maxRecDepth 20000 in
theorem gL_law_X2_holds : GoodIn wsL_law (wsV RL 57 RX2 yX2_holds wsX2_holds) := goodIn_app (goodIn_of _ (by decide +kernel)) ggL_law_X2_holds
set_option maxRecDepth 20000 in
theorem ggL_law_X1_said : GoodIn wsL_law wsX1_said := goodIn_r _ [454, 28, 294, 295, 296, 2, 297, 29, 181, 182, 183, 174, 175, 176, 197, 198, 199, 194, 195, 196, 171, 172, 173, 538, 539, 540, 541, 542, 543, 544, 545, 546, 547, 548, 549, 550, 551] (by decide +kernel) (by decide +kernel)
set_option maxRecDepth 20000 in
theorem gL_law_X1_said : GoodIn wsL_law (wsV RL 58 RX1 yX1_said wsX1_said) := goodIn_app (goodIn_of _ (by decide +kernel)) ggL_law_X1_said
set_option maxRecDepth 20000 in
theorem ggL_law_X2_said : GoodIn wsL_law wsX2_said := goodIn_r _ [458, 61, 62, 63, 64, 65, 411, 412, 413, 5, 414, 204, 552, 553, 554, 555, 556, 557, 558, 559, 560, 561, 562, 563, 564, 565, 566, 567, 568, 569, 570, 571, 572, 573, 574, 575, 576, 577, 578] (by decide +kernel) (by decide +kernel)
set_option maxRecDepth 20000 in
theorem gL_law_X2_said : GoodIn wsL_law (wsV RL 62 RX2 yX2_said wsX2_said) := goodIn_app (goodIn_of _ (by decide +kernel)) ggL_law_X2_said
set_option maxRecDepth 20000 in
theorem ggL_law_X1_weight : GoodIn wsL_law wsX1_weight := goodIn_r _ [462, 95, 96, 26, 25, 298, 299, 300, 2, 301, 97, 98, 99, 100, 23, 153, 154, 155, 156, 24, 119, 120, 121, 538, 539, 540, 541, 542, 543, 544, 545, 546, 547, 548, 549, 550, 551] (by decide +kernel) (by decide +kernel)
set_option maxRecDepth 20000 in
theorem gL_law_X1_weight : GoodIn wsL_law (wsV RL 63 RX1 yX1_weight wsX1_weight) := goodIn_app (goodIn_of _ (by decide +kernel)) ggL_law_X1_weight
set_option maxRecDepth 20000 in
theorem ggL_law_X2_weight : GoodIn wsL_law wsX2_weight := goodIn_r _ [466, 105, 106, 60, 59, 107, 108, 109, 5, 110, 87, 467, 468, 469, 470, 126, 552, 553, 554, 555, 556, 557, 558, 559, 560, 561, 562, 563, 564, 565, 566, 567, 568, 569, 570, 571, 572, 573, 574, 575, 576, 577, 578] (by decide +kernel) (by decide +kernel)
set_option maxRecDepth 20000 in
theorem gL_law_X2_weight : GoodIn wsL_law (wsV RL 66 RX2 yX2_weight wsX2_weight) := goodIn_app (goodIn_of _ (by decide +kernel)) ggL_law_X2_weight
set_option maxRecDepth 20000 in
theorem ggL_law_X1_backed : GoodIn wsL_law wsX1_backed := goodIn_r _ [474, 96, 153, 154, 155, 2, 156, 24, 157, 158, 159, 160, 161, 162, 177, 178, 179, 180, 29, 28, 25, 174, 175, 176, 181, 182, 183, 119, 120, 121, 538, 539, 540, 541, 542, 543, 544, 545, 546, 547, 548, 549, 550, 551] (by decide +kernel) (by decide +kernel)
set_option maxRecDepth 20000 in
theorem gL_law_X1_backed : GoodIn wsL_law (wsV RL 67 RX1 yX1_backed wsX1_backed) := goodIn_app (goodIn_of _ (by decide +kernel)) ggL_law_X1_backed
set_option maxRecDepth 20000 in
theorem ggL_law_X2_backed : GoodIn wsL_law wsX2_backed := goodIn_r _ [478, 209, 210, 106, 66, 467, 468, 469, 5, 470, 126, 88, 89, 90, 215, 216, 217, 275, 276, 277, 278, 59, 552, 553, 554, 555, 556, 557, 558, 559, 560, 561, 562, 563, 564, 565, 566, 567, 568, 569, 570, 571, 572, 573, 574, 575, 576, 577, 578] (by decide +kernel) (by decide +kernel)
set_option maxRecDepth 20000 in
theorem gL_law_X2_backed : GoodIn wsL_law (wsV RL 70 RX2 yX2_backed wsX2_backed) := goodIn_app (goodIn_of _ (by decide +kernel)) ggL_law_X2_backed
set_option maxRecDepth 20000 in
theorem ggL_law_X1_certain : GoodIn wsL_law wsX1_certain := goodIn_r _ [482, 31, 153, 154, 155, 2, 156, 24, 237, 238, 239, 538, 539, 540, 541, 542, 543, 544, 545, 546, 547, 548, 549, 550, 551] (by decide +kernel) (by decide +kernel)
set_option maxRecDepth 20000 in
theorem gL_law_X1_certain : GoodIn wsL_law (wsV RL 71 RX1 yX1_certain wsX1_certain) := goodIn_app (goodIn_of _ (by decide +kernel)) ggL_law_X1_certain
set_option maxRecDepth 20000 in
theorem ggL_law_X2_certain : GoodIn wsL_law wsX2_certain := goodIn_r _ [486, 467, 468, 469, 5, 470, 126, 487, 488, 489, 490, 66, 215, 216, 217, 270, 271, 272, 273, 274, 138, 60, 275, 276, 277, 278, 59, 552, 553, 554, 555, 556, 557, 558, 559, 560, 561, 562, 563, 564, 565, 566, 567, 568, 569, 570, 571, 572, 573, 574, 575, 576, 577, 578] (by decide +kernel) (by decide +kernel)
set_option maxRecDepth 20000 in
theorem gL_law_X2_certain : GoodIn wsL_law (wsV RL 74 RX2 yX2_certain wsX2_certain) := goodIn_app (goodIn_of _ (by decide +kernel)) ggL_law_X2_certain
set_option maxRecDepth 20000 in
theorem ggL_law_X1_breaks : GoodIn wsL_law wsX1_breaks := goodIn_r _ [494, 29, 28, 153, 154, 155, 2, 156, 24, 302, 303, 304, 174, 175, 176, 495, 496, 497, 498, 226, 227, 228, 229, 230, 231, 232, 194, 195, 196, 171, 172, 173, 197, 198, 199, 233, 234, 235, 236, 30, 237, 238, 239, 240, 241, 242, 499, 500, 501, 305, 306, 307, 308, 247, 248, 249, 250, 251, 252, 253, 254, 255, 256, 257, 538, 539, 540, 541, 542, 543, 544, 545, 546, 547, 548, 549, 550, 551] (by decide +kernel) (by decide +kernel)
set_option maxRecDepth 20000 in
theorem gL_law_X1_breaks : GoodIn wsL_law (wsV RL 75 RX1 yX1_breaks wsX1_breaks) := goodIn_app (goodIn_of _ (by decide +kernel)) ggL_law_X1_breaks
set_option maxRecDepth 20000 in
theorem ggL_law_X2_breaks : GoodIn wsL_law wsX2_breaks := goodIn_r _ [505, 138, 204, 62, 467, 468, 469, 5, 470, 126, 88, 89, 90, 506, 507, 508, 509, 415, 416, 417, 418, 419, 420, 421, 422, 61, 63, 64, 65, 423, 424, 425, 426, 266, 267, 268, 269, 66, 215, 216, 217, 270, 271, 272, 273, 274, 60, 275, 276, 277, 278, 59, 427, 428, 429, 430, 552, 553, 554, 555, 556, 557, 558, 559, 560, 561, 562, 563, 564, 565, 566, 567, 568, 569, 570, 571, 572, 573, 574, 575, 576, 577, 578] (by decide +kernel) (by decide +kernel)
set_option maxRecDepth 20000 in
theorem gL_law_X2_breaks : GoodIn wsL_law (wsV RL 78 RX2 yX2_breaks wsX2_breaks) := goodIn_app (goodIn_of _ (by decide +kernel)) ggL_law_X2_breaks
set_option maxRecDepth 20000 in
theorem ggL_law_X1_broken : GoodIn wsL_law wsX1_broken := goodIn_r _ [513, 29, 28, 153, 154, 155, 2, 156, 24, 302, 303, 304, 174, 175, 176, 495, 496, 497, 498, 226, 227, 228, 229, 230, 231, 232, 194, 195, 196, 171, 172, 173, 197, 198, 199, 233, 234, 235, 236, 30, 237, 238, 239, 240, 241, 242, 499, 500, 501, 305, 306, 307, 308, 247, 248, 249, 250, 251, 252, 253, 254, 255, 256, 257, 514, 515, 516, 517, 538, 539, 540, 541, 542, 543, 544, 545, 546, 547, 548, 549, 550, 551] (by decide +kernel) (by decide +kernel)
set_option maxRecDepth 20000 in
theorem gL_law_X1_broken : GoodIn wsL_law (wsV RL 79 RX1 yX1_broken wsX1_broken) := goodIn_app (goodIn_of _ (by decide +kernel)) ggL_law_X1_broken
set_option maxRecDepth 20000 in
theorem ggL_law_X2_broken : GoodIn wsL_law wsX2_broken := goodIn_r _ [521, 138, 204, 62, 467, 468, 469, 5, 470, 126, 88, 89, 90, 506, 507, 508, 509, 415, 416, 417, 418, 419, 420, 421, 422, 61, 63, 64, 65, 423, 424, 425, 426, 266, 267, 268, 269, 66, 215, 216, 217, 270, 271, 272, 273, 274, 60, 275, 276, 277, 278, 59, 427, 428, 429, 430, 552, 553, 554, 555, 556, 557, 558, 559, 560, 561, 562, 563, 564, 565, 566, 567, 568, 569, 570, 571, 572, 573, 574, 575, 576, 577, 578] (by decide +kernel) (by decide +kernel)
set_option maxRecDepth 20000 in
theorem gL_law_X2_broken : GoodIn wsL_law (wsV RL 83 RX2 yX2_broken wsX2_broken) := goodIn_app (goodIn_of _ (by decide +kernel)) ggL_law_X2_broken
set_option maxRecDepth 20000 in
theorem ggL_law_X1_named : GoodIn wsL_law wsX1_named := goodIn_r _ [525, 29, 28, 153, 154, 155, 2, 156, 24, 181, 182, 183, 174, 175, 176, 222, 223, 224, 225, 226, 227, 228, 229, 230, 231, 232, 194, 195, 196, 171, 172, 173, 197, 198, 199, 233, 234, 235, 236, 30, 237, 238, 239, 240, 241, 242, 243, 244, 245, 246, 247, 248, 249, 250, 251, 252, 253, 254, 255, 256, 257, 538, 539, 540, 541, 542, 543, 544, 545, 546, 547, 548, 549, 550, 551] (by decide +kernel) (by decide +kernel)
set_option maxRecDepth 20000 in
theorem gL_law_X1_named : GoodIn wsL_law (wsV RL 84 RX1 yX1_named wsX1_named) := goodIn_app (goodIn_of _ (by decide +kernel)) ggL_law_X1_named
set_option maxRecDepth 20000 in
theorem ggL_law_X2_named : GoodIn wsL_law wsX2_named := goodIn_r _ [529, 204, 62, 61, 467, 468, 469, 5, 470, 126, 506, 507, 508, 509, 415, 416, 417, 418, 419, 420, 421, 422, 63, 64, 65, 423, 424, 425, 426, 266, 267, 268, 269, 66, 215, 216, 217, 270, 271, 272, 273, 274, 138, 60, 275, 276, 277, 278, 59, 427, 428, 429, 430, 552, 553, 554, 555, 556, 557, 558, 559, 560, 561, 562, 563, 564, 565, 566, 567, 568, 569, 570, 571, 572, 573, 574, 575, 576, 577, 578] (by decide +kernel) (by decide +kernel)
set_option maxRecDepth 20000 in
theorem gL_law_X2_named : GoodIn wsL_law (wsV RL 88 RX2 yX2_named wsX2_named) := goodIn_app (goodIn_of _ (by decide +kernel)) ggL_law_X2_named
set_option maxRecDepth 20000 in
theorem ggL_law_X1_taken : GoodIn wsL_law wsX1_taken := goodIn_r _ [533, 35, 95, 313, 96, 314, 315, 316, 34, 317, 318, 319, 320, 321, 322, 323, 324, 325, 326, 327, 328, 329, 330, 331, 332, 333, 334, 41, 538, 539, 540, 541, 542, 543, 544, 545, 546, 547, 548, 549, 550, 551, 582, 583, 584, 585, 586, 587, 588, 579, 580, 581] (by decide +kernel) (by decide +kernel)
set_option maxRecDepth 20000 in
theorem gL_law_X1_taken : GoodIn wsL_law (wsV RL 89 RX1 yX1_taken wsX1_taken) := goodIn_app (goodIn_of _ (by decide +kernel)) ggL_law_X1_taken
set_option maxRecDepth 20000 in
theorem ggL_law_X2_taken : GoodIn wsL_law wsX2_taken := goodIn_r _ [537, 410, 105, 69, 70, 71, 72, 73, 74, 75, 106, 552, 553, 554, 555, 556, 557, 558, 559, 560, 561, 562, 563, 564, 565, 566, 567, 568, 569, 570, 571, 572, 573, 574, 575, 576, 577, 578] (by decide +kernel) (by decide +kernel)
set_option maxRecDepth 20000 in
theorem gL_law_X2_taken : GoodIn wsL_law (wsV RL 92 RX2 yX2_taken wsX2_taken) := goodIn_app (goodIn_of _ (by decide +kernel)) ggL_law_X2_taken
theorem dL_law_0 : decode cL_law 0 = .ok (.new 7, 3) := by decide +kernel
theorem dL_law_3 : decode cL_law 3 = .ok (.dup, 1) := by decide +kernel
theorem dL_law_4 : decode cL_law 4 = .ok (.invokespecial 9, 3) := by decide +kernel
theorem dL_law_7 : decode cL_law 7 = .ok (.astore_n 1, 1) := by decide +kernel
theorem dL_law_8 : decode cL_law 8 = .ok (.new 10, 3) := by decide +kernel
theorem dL_law_11 : decode cL_law 11 = .ok (.dup, 1) := by decide +kernel
theorem dL_law_12 : decode cL_law 12 = .ok (.invokespecial 12, 3) := by decide +kernel
theorem dL_law_15 : decode cL_law 15 = .ok (.astore_n 2, 1) := by decide +kernel
theorem dL_law_16 : decode cL_law 16 = .ok (.iconst 0, 1) := by decide +kernel
theorem dL_law_17 : decode cL_law 17 = .ok (.istore_n 3, 1) := by decide +kernel
theorem dL_law_18 : decode cL_law 18 = .ok (.iload_n 3, 1) := by decide +kernel
theorem dL_law_19 : decode cL_law 19 = .ok (.aload_n 0, 1) := by decide +kernel
theorem dL_law_20 : decode cL_law 20 = .ok (.arraylength, 1) := by decide +kernel
theorem dL_law_21 : decode cL_law 21 = .ok (.bipush 6, 2) := by decide +kernel
theorem dL_law_23 : decode cL_law 23 = .ok (.isub, 1) := by decide +kernel
theorem dL_law_24 : decode cL_law 24 = .ok (.if_icmp .gt 827, 3) := by decide +kernel
theorem dL_law_27 : decode cL_law 27 = .ok (.aload_n 0, 1) := by decide +kernel
theorem dL_law_28 : decode cL_law 28 = .ok (.iload_n 3, 1) := by decide +kernel
theorem dL_law_29 : decode cL_law 29 = .ok (.iaload, 1) := by decide +kernel
theorem dL_law_30 : decode cL_law 30 = .ok (.bipush 31, 2) := by decide +kernel
theorem dL_law_32 : decode cL_law 32 = .ok (.iand, 1) := by decide +kernel
theorem dL_law_33 : decode cL_law 33 = .ok (.tableswitch 812 0 16 #[83, 136, 200, 213, 277, 340, 403, 457, 481, 515, 548, 582, 636, 669, 702, 755, 778], 83) := by decide +kernel
theorem dL_law_116 : decode cL_law 116 = .ok (.aload_n 1, 1) := by decide +kernel
theorem dL_law_117 : decode cL_law 117 = .ok (.aload_n 0, 1) := by decide +kernel
theorem dL_law_118 : decode cL_law 118 = .ok (.iload_n 3, 1) := by decide +kernel
