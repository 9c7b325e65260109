theorem dX1_wasTaken_28 : decode cX1_wasTaken 28 = .ok (.getfield 184, 3) := by decide +kernel
theorem dX1_wasTaken_31 : decode cX1_wasTaken 31 = .ok (.iload_n 1, 1) := by decide +kernel
theorem dX1_wasTaken_32 : decode cX1_wasTaken 32 = .ok (.if_icmp .ne 22, 3) := by decide +kernel
theorem dX1_wasTaken_35 : decode cX1_wasTaken 35 = .ok (.aload_n 0, 1) := by decide +kernel
theorem dX1_wasTaken_36 : decode cX1_wasTaken 36 = .ok (.getfield 44, 3) := by decide +kernel
theorem dX1_wasTaken_39 : decode cX1_wasTaken 39 = .ok (.aload 4, 2) := by decide +kernel
theorem dX1_wasTaken_41 : decode cX1_wasTaken 41 = .ok (.getfield 187, 3) := by decide +kernel
theorem dX1_wasTaken_44 : decode cX1_wasTaken 44 = .ok (.iaload, 1) := by decide +kernel
theorem dX1_wasTaken_45 : decode cX1_wasTaken 45 = .ok (.invokestatic 222, 3) := by decide +kernel
theorem dX1_wasTaken_48 : decode cX1_wasTaken 48 = .ok (.iload_n 2, 1) := by decide +kernel
theorem dX1_wasTaken_49 : decode cX1_wasTaken 49 = .ok (.if_icmp .ne 5, 3) := by decide +kernel
theorem dX1_wasTaken_52 : decode cX1_wasTaken 52 = .ok (.iconst 1, 1) := by decide +kernel
theorem dX1_wasTaken_53 : decode cX1_wasTaken 53 = .ok (.ireturn, 1) := by decide +kernel
theorem dX1_wasTaken_54 : decode cX1_wasTaken 54 = .ok (.iinc 3 1, 3) := by decide +kernel
theorem dX1_wasTaken_57 : decode cX1_wasTaken 57 = .ok (.goto (-55), 3) := by decide +kernel
theorem dX1_wasTaken_60 : decode cX1_wasTaken 60 = .ok (.iconst 0, 1) := by decide +kernel
theorem dX1_wasTaken_61 : decode cX1_wasTaken 61 = .ok (.ireturn, 1) := by decide +kernel
set_option maxRecDepth 20000 in
theorem ggX1_countTakenOf_Jx4a65c_size_8abf5 : GoodIn wsX1_countTakenOf wsJx4a65c_size_8abf5 := goodIn_r _ [8, 9, 52, 53, 54] (by decide +kernel) (by decide +kernel)
set_option maxRecDepth 20000 in
theorem gX1_countTakenOf_Jx4a65c_size_8abf5 : GoodIn wsX1_countTakenOf (wsV RX1 122 RJx4a65c yJx4a65c_size_8abf5 wsJx4a65c_size_8abf5) := goodIn_app (goodIn_of _ (by decide +kernel)) ggX1_countTakenOf_Jx4a65c_size_8abf5
set_option maxRecDepth 20000 in
theorem ggX1_countTakenOf_Jx4a65c_get_915e3 : GoodIn wsX1_countTakenOf wsJx4a65c_get_915e3 := goodIn_r _ [13, 9, 14, 15, 16, 17, 18, 19, 20, 21, 22, 23, 24, 7, 25, 26, 52, 53, 54] (by decide +kernel) (by decide +kernel)
set_option maxRecDepth 20000 in
theorem gX1_countTakenOf_Jx4a65c_get_915e3 : GoodIn wsX1_countTakenOf (wsV RX1 178 RJx4a65c yJx4a65c_get_915e3 wsJx4a65c_get_915e3) := goodIn_app (goodIn_of _ (by decide +kernel)) ggX1_countTakenOf_Jx4a65c_get_915e3
set_option maxRecDepth 20000 in
theorem ggX1_countTakenOf_X1_nodeOf : GoodIn wsX1_countTakenOf wsX1_nodeOf := goodIn_r _ [30] (by decide +kernel) (by decide +kernel)
set_option maxRecDepth 20000 in
theorem gX1_countTakenOf_X1_nodeOf : GoodIn wsX1_countTakenOf (va_wsS RX1 132 yX1_nodeOf wsX1_nodeOf) := goodIn_app (goodIn_of _ (by decide +kernel)) ggX1_countTakenOf_X1_nodeOf
theorem dX1_countTakenOf_0 : decode cX1_countTakenOf 0 = .ok (.iconst 0, 1) := by decide +kernel
theorem dX1_countTakenOf_1 : decode cX1_countTakenOf 1 = .ok (.istore_n 2, 1) := by decide +kernel
theorem dX1_countTakenOf_2 : decode cX1_countTakenOf 2 = .ok (.iconst 0, 1) := by decide +kernel
theorem dX1_countTakenOf_3 : decode cX1_countTakenOf 3 = .ok (.istore_n 3, 1) := by decide +kernel
theorem dX1_countTakenOf_4 : decode cX1_countTakenOf 4 = .ok (.iload_n 3, 1) := by decide +kernel
theorem dX1_countTakenOf_5 : decode cX1_countTakenOf 5 = .ok (.aload_n 0, 1) := by decide +kernel
theorem dX1_countTakenOf_6 : decode cX1_countTakenOf 6 = .ok (.getfield 60, 3) := by decide +kernel
theorem dX1_countTakenOf_9 : decode cX1_countTakenOf 9 = .ok (.invokevirtual 122, 3) := by decide +kernel
theorem dX1_countTakenOf_12 : decode cX1_countTakenOf 12 = .ok (.if_icmp .ge 38, 3) := by decide +kernel
theorem dX1_countTakenOf_15 : decode cX1_countTakenOf 15 = .ok (.aload_n 0, 1) := by decide +kernel
theorem dX1_countTakenOf_16 : decode cX1_countTakenOf 16 = .ok (.getfield 44, 3) := by decide +kernel
theorem dX1_countTakenOf_19 : decode cX1_countTakenOf 19 = .ok (.aload_n 0, 1) := by decide +kernel
theorem dX1_countTakenOf_20 : decode cX1_countTakenOf 20 = .ok (.getfield 60, 3) := by decide +kernel
theorem dX1_countTakenOf_23 : decode cX1_countTakenOf 23 = .ok (.iload_n 3, 1) := by decide +kernel
theorem dX1_countTakenOf_24 : decode cX1_countTakenOf 24 = .ok (.invokevirtual 178, 3) := by decide +kernel
theorem dX1_countTakenOf_27 : decode cX1_countTakenOf 27 = .ok (.checkcast 182, 3) := by decide +kernel
theorem dX1_countTakenOf_30 : decode cX1_countTakenOf 30 = .ok (.getfield 187, 3) := by decide +kernel
theorem dX1_countTakenOf_33 : decode cX1_countTakenOf 33 = .ok (.iaload, 1) := by decide +kernel
theorem dX1_countTakenOf_34 : decode cX1_countTakenOf 34 = .ok (.invokestatic 132, 3) := by decide +kernel
theorem dX1_countTakenOf_37 : decode cX1_countTakenOf 37 = .ok (.iload_n 1, 1) := by decide +kernel
theorem dX1_countTakenOf_38 : decode cX1_countTakenOf 38 = .ok (.if_icmp .ne 6, 3) := by decide +kernel
theorem dX1_countTakenOf_41 : decode cX1_countTakenOf 41 = .ok (.iinc 2 1, 3) := by decide +kernel
theorem dX1_countTakenOf_44 : decode cX1_countTakenOf 44 = .ok (.iinc 3 1, 3) := by decide +kernel
theorem dX1_countTakenOf_47 : decode cX1_countTakenOf 47 = .ok (.goto (-43), 3) := by decide +kernel
theorem dX1_countTakenOf_50 : decode cX1_countTakenOf 50 = .ok (.iload_n 2, 1) := by decide +kernel
theorem dX1_countTakenOf_51 : decode cX1_countTakenOf 51 = .ok (.ireturn, 1) := by decide +kernel
set_option maxRecDepth 20000 in
theorem ggX1_take_X1_nodeOf : GoodIn wsX1_take wsX1_nodeOf := goodIn_r _ [17] (by decide +kernel) (by decide +kernel)
set_option maxRecDepth 20000 in
theorem gX1_take_X1_nodeOf : GoodIn wsX1_take (va_wsS RX1 132 yX1_nodeOf wsX1_nodeOf) := goodIn_app (goodIn_of _ (by decide +kernel)) ggX1_take_X1_nodeOf
set_option maxRecDepth 20000 in
theorem ggX1_take_X0_init : GoodIn wsX1_take wsX0_init := goodIn_r _ [19, 20, 21, 22, 23, 24, 25, 26, 27, 28, 29, 100, 101, 102, 103, 104, 105, 106] (by decide +kernel) (by decide +kernel)
set_option maxRecDepth 20000 in
theorem gX1_take_X0_init_n255 : GoodIn wsX1_take (wsX0_init) := ggX1_take_X0_init
set_option maxRecDepth 20000 in
theorem ggX1_take_Jx4a65c_add_9ea2d : GoodIn wsX1_take wsJx4a65c_add_9ea2d := goodIn_r _ [34, 35, 36, 37, 38, 39, 40, 41, 33, 42, 43, 44, 45, 46, 47, 48, 49, 50, 51, 52, 53, 54, 55, 56, 57, 58, 59, 60, 61, 62, 63, 64, 65, 66, 67, 68, 69, 70, 71, 72, 73, 74, 75, 76, 77, 78, 79, 80, 81, 82, 83, 84, 85, 107, 108, 109] (by decide +kernel) (by decide +kernel)
set_option maxRecDepth 20000 in
theorem gX1_take_Jx4a65c_add_9ea2d : GoodIn wsX1_take (wsV RX1 258 RJx4a65c yJx4a65c_add_9ea2d wsJx4a65c_add_9ea2d) := goodIn_app (goodIn_of _ (by decide +kernel)) ggX1_take_Jx4a65c_add_9ea2d
theorem dX1_take_0 : decode cX1_take 0 = .ok (.aload_n 0, 1) := by decide +kernel
theorem dX1_take_1 : decode cX1_take 1 = .ok (.getfield 44, 3) := by decide +kernel
theorem dX1_take_4 : decode cX1_take 4 = .ok (.iload_n 2, 1) := by decide +kernel
theorem dX1_take_5 : decode cX1_take 5 = .ok (.iaload, 1) := by decide +kernel
theorem dX1_take_6 : decode cX1_take 6 = .ok (.invokestatic 132, 3) := by decide +kernel
theorem dX1_take_9 : decode cX1_take 9 = .ok (.istore 5, 2) := by decide +kernel
theorem dX1_take_11 : decode cX1_take 11 = .ok (.aload_n 0, 1) := by decide +kernel
theorem dX1_take_12 : decode cX1_take 12 = .ok (.getfield 21, 3) := by decide +kernel
theorem dX1_take_15 : decode cX1_take 15 = .ok (.iload 5, 2) := by decide +kernel
theorem dX1_take_17 : decode cX1_take 17 = .ok (.laload, 1) := by decide +kernel
theorem dX1_take_18 : decode cX1_take 18 = .ok (.aload_n 0, 1) := by decide +kernel
theorem dX1_take_19 : decode cX1_take 19 = .ok (.getfield 17, 3) := by decide +kernel
theorem dX1_take_22 : decode cX1_take 22 = .ok (.iload_n 1, 1) := by decide +kernel
theorem dX1_take_23 : decode cX1_take 23 = .ok (.laload, 1) := by decide +kernel
theorem dX1_take_24 : decode cX1_take 24 = .ok (.lmul, 1) := by decide +kernel
theorem dX1_take_25 : decode cX1_take 25 = .ok (.ldc2_w 253, 3) := by decide +kernel
theorem dX1_take_28 : decode cX1_take 28 = .ok (.ldiv, 1) := by decide +kernel
theorem dX1_take_29 : decode cX1_take 29 = .ok (.lstore 6, 2) := by decide +kernel
theorem dX1_take_31 : decode cX1_take 31 = .ok (.iload 4, 2) := by decide +kernel
theorem dX1_take_33 : decode cX1_take 33 = .ok (.iconst (-1), 1) := by decide +kernel
theorem dX1_take_34 : decode cX1_take 34 = .ok (.if_icmp .ne 7, 3) := by decide +kernel
theorem dX1_take_37 : decode cX1_take 37 = .ok (.lconst 0, 1) := by decide +kernel
theorem dX1_take_38 : decode cX1_take 38 = .ok (.goto 9, 3) := by decide +kernel
theorem dX1_take_41 : decode cX1_take 41 = .ok (.lload 6, 2) := by decide +kernel
theorem dX1_take_43 : decode cX1_take 43 = .ok (.ldc2_w 15, 3) := by decide +kernel
theorem dX1_take_46 : decode cX1_take 46 = .ok (.ldiv, 1) := by decide +kernel
theorem dX1_take_47 : decode cX1_take 47 = .ok (.lstore 8, 2) := by decide +kernel
theorem dX1_take_49 : decode cX1_take 49 = .ok (.aload_n 0, 1) := by decide +kernel
theorem dX1_take_50 : decode cX1_take 50 = .ok (.getfield 21, 3) := by decide +kernel
theorem dX1_take_53 : decode cX1_take 53 = .ok (.iload 5, 2) := by decide +kernel
theorem dX1_take_55 : decode cX1_take 55 = .ok (.dup2, 1) := by decide +kernel
theorem dX1_take_56 : decode cX1_take 56 = .ok (.laload, 1) := by decide +kernel
theorem dX1_take_57 : decode cX1_take 57 = .ok (.lload 6, 2) := by decide +kernel
theorem dX1_take_59 : decode cX1_take 59 = .ok (.lsub, 1) := by decide +kernel
theorem dX1_take_60 : decode cX1_take 60 = .ok (.lastore, 1) := by decide +kernel
theorem dX1_take_61 : decode cX1_take 61 = .ok (.aload_n 0, 1) := by decide +kernel
theorem dX1_take_62 : decode cX1_take 62 = .ok (.dup, 1) := by decide +kernel
theorem dX1_take_63 : decode cX1_take 63 = .ok (.getfield 64, 3) := by decide +kernel
theorem dX1_take_66 : decode cX1_take 66 = .ok (.lload 6, 2) := by decide +kernel
theorem dX1_take_68 : decode cX1_take 68 = .ok (.lload 8, 2) := by decide +kernel
theorem dX1_take_70 : decode cX1_take 70 = .ok (.lsub, 1) := by decide +kernel
theorem dX1_take_71 : decode cX1_take 71 = .ok (.ladd, 1) := by decide +kernel
theorem dX1_take_72 : decode cX1_take 72 = .ok (.putfield 64, 3) := by decide +kernel
theorem dX1_take_75 : decode cX1_take 75 = .ok (.iload 4, 2) := by decide +kernel
theorem dX1_take_77 : decode cX1_take 77 = .ok (.iconst (-1), 1) := by decide +kernel
theorem dX1_take_78 : decode cX1_take 78 = .ok (.if_icmp .eq 15, 3) := by decide +kernel
theorem dX1_take_81 : decode cX1_take 81 = .ok (.aload_n 0, 1) := by decide +kernel
theorem dX1_take_82 : decode cX1_take 82 = .ok (.getfield 24, 3) := by decide +kernel
theorem dX1_take_85 : decode cX1_take 85 = .ok (.iload 4, 2) := by decide +kernel
theorem dX1_take_87 : decode cX1_take 87 = .ok (.dup2, 1) := by decide +kernel
theorem dX1_take_88 : decode cX1_take 88 = .ok (.laload, 1) := by decide +kernel
theorem dX1_take_89 : decode cX1_take 89 = .ok (.lload 8, 2) := by decide +kernel
theorem dX1_take_91 : decode cX1_take 91 = .ok (.ladd, 1) := by decide +kernel
theorem dX1_take_92 : decode cX1_take 92 = .ok (.lastore, 1) := by decide +kernel
theorem dX1_take_93 : decode cX1_take 93 = .ok (.aload_n 0, 1) := by decide +kernel
theorem dX1_take_94 : decode cX1_take 94 = .ok (.getfield 21, 3) := by decide +kernel
theorem dX1_take_97 : decode cX1_take 97 = .ok (.iload 5, 2) := by decide +kernel
theorem dX1_take_99 : decode cX1_take 99 = .ok (.laload, 1) := by decide +kernel
theorem dX1_take_100 : decode cX1_take 100 = .ok (.aload_n 0, 1) := by decide +kernel
theorem dX1_take_101 : decode cX1_take 101 = .ok (.getfield 17, 3) := by decide +kernel
theorem dX1_take_104 : decode cX1_take 104 = .ok (.iconst 4, 1) := by decide +kernel
theorem dX1_take_105 : decode cX1_take 105 = .ok (.laload, 1) := by decide +kernel
theorem dX1_take_106 : decode cX1_take 106 = .ok (.lcmp, 1) := by decide +kernel
theorem dX1_take_107 : decode cX1_take 107 = .ok (.ifCond .ge 11, 3) := by decide +kernel
theorem dX1_take_110 : decode cX1_take 110 = .ok (.aload_n 0, 1) := by decide +kernel
theorem dX1_take_111 : decode cX1_take 111 = .ok (.getfield 27, 3) := by decide +kernel
theorem dX1_take_114 : decode cX1_take 114 = .ok (.iload 5, 2) := by decide +kernel
theorem dX1_take_116 : decode cX1_take 116 = .ok (.iconst 1, 1) := by decide +kernel
theorem dX1_take_117 : decode cX1_take 117 = .ok (.bastore, 1) := by decide +kernel
theorem dX1_take_118 : decode cX1_take 118 = .ok (.aload_n 0, 1) := by decide +kernel
theorem dX1_take_119 : decode cX1_take 119 = .ok (.getfield 60, 3) := by decide +kernel
theorem dX1_take_122 : decode cX1_take 122 = .ok (.new 182, 3) := by decide +kernel
theorem dX1_take_125 : decode cX1_take 125 = .ok (.dup, 1) := by decide +kernel
theorem dX1_take_126 : decode cX1_take 126 = .ok (.iload_n 1, 1) := by decide +kernel
theorem dX1_take_127 : decode cX1_take 127 = .ok (.iload_n 2, 1) := by decide +kernel
theorem dX1_take_128 : decode cX1_take 128 = .ok (.iload_n 3, 1) := by decide +kernel
theorem dX1_take_129 : decode cX1_take 129 = .ok (.iload 4, 2) := by decide +kernel
theorem dX1_take_131 : decode cX1_take 131 = .ok (.aload_n 0, 1) := by decide +kernel
theorem dX1_take_132 : decode cX1_take 132 = .ok (.getfield 35, 3) := by decide +kernel
theorem dX1_take_135 : decode cX1_take 135 = .ok (.lload 6, 2) := by decide +kernel
theorem dX1_take_137 : decode cX1_take 137 = .ok (.lload 8, 2) := by decide +kernel
theorem dX1_take_139 : decode cX1_take 139 = .ok (.invokespecial 255, 3) := by decide +kernel
theorem dX1_take_142 : decode cX1_take 142 = .ok (.invokevirtual 258, 3) := by decide +kernel
theorem dX1_take_145 : decode cX1_take 145 = .ok (.pop, 1) := by decide +kernel
theorem dX1_take_146 : decode cX1_take 146 = .ok (.lload 6, 2) := by decide +kernel
theorem dX1_take_148 : decode cX1_take 148 = .ok (.lreturn, 1) := by decide +kernel
theorem dX2_init_0 : decode cX2_init 0 = .ok (.aload_n 0, 1) := by decide +kernel
theorem dX2_init_1 : decode cX2_init 1 = .ok (.invokespecial 1, 3) := by decide +kernel
theorem dX2_init_4 : decode cX2_init 4 = .ok (.aload_n 0, 1) := by decide +kernel
theorem dX2_init_5 : decode cX2_init 5 = .ok (.bipush 8, 2) := by decide +kernel
theorem dX2_init_7 : decode cX2_init 7 = .ok (.newarray .long, 2) := by decide +kernel
theorem dX2_init_9 : decode cX2_init 9 = .ok (.putfield 7, 3) := by decide +kernel
theorem dX2_init_12 : decode cX2_init 12 = .ok (.aload_n 0, 1) := by decide +kernel
theorem dX2_init_13 : decode cX2_init 13 = .ok (.bipush 8, 2) := by decide +kernel
theorem dX2_init_15 : decode cX2_init 15 = .ok (.newarray .long, 2) := by decide +kernel
theorem dX2_init_17 : decode cX2_init 17 = .ok (.putfield 13, 3) := by decide +kernel
theorem dX2_init_20 : decode cX2_init 20 = .ok (.aload_n 0, 1) := by decide +kernel
theorem dX2_init_21 : decode cX2_init 21 = .ok (.bipush 8, 2) := by decide +kernel
theorem dX2_init_23 : decode cX2_init 23 = .ok (.newarray .boolean, 2) := by decide +kernel
theorem dX2_init_25 : decode cX2_init 25 = .ok (.putfield 16, 3) := by decide +kernel
theorem dX2_init_28 : decode cX2_init 28 = .ok (.aload_n 0, 1) := by decide +kernel
theorem dX2_init_29 : decode cX2_init 29 = .ok (.sipush 328, 3) := by decide +kernel
theorem dX2_init_32 : decode cX2_init 32 = .ok (.newarray .long, 2) := by decide +kernel
theorem dX2_init_34 : decode cX2_init 34 = .ok (.putfield 20, 3) := by decide +kernel
theorem dX2_init_37 : decode cX2_init 37 = .ok (.aload_n 0, 1) := by decide +kernel
theorem dX2_init_38 : decode cX2_init 38 = .ok (.bipush 41, 2) := by decide +kernel
theorem dX2_init_40 : decode cX2_init 40 = .ok (.newarray .long, 2) := by decide +kernel
theorem dX2_init_42 : decode cX2_init 42 = .ok (.putfield 23, 3) := by decide +kernel
theorem dX2_init_45 : decode cX2_init 45 = .ok (.aload_n 0, 1) := by decide +kernel
theorem dX2_init_46 : decode cX2_init 46 = .ok (.sipush 300, 3) := by decide +kernel
theorem dX2_init_49 : decode cX2_init 49 = .ok (.newarray .int, 2) := by decide +kernel
theorem dX2_init_51 : decode cX2_init 51 = .ok (.putfield 26, 3) := by decide +kernel
theorem dX2_init_54 : decode cX2_init 54 = .ok (.aload_n 0, 1) := by decide +kernel
theorem dX2_init_55 : decode cX2_init 55 = .ok (.sipush 300, 3) := by decide +kernel
theorem dX2_init_58 : decode cX2_init 58 = .ok (.newarray .int, 2) := by decide +kernel
theorem dX2_init_60 : decode cX2_init 60 = .ok (.putfield 30, 3) := by decide +kernel
theorem dX2_init_63 : decode cX2_init 63 = .ok (.aload_n 0, 1) := by decide +kernel
theorem dX2_init_64 : decode cX2_init 64 = .ok (.sipush 300, 3) := by decide +kernel
theorem dX2_init_67 : decode cX2_init 67 = .ok (.newarray .int, 2) := by decide +kernel
theorem dX2_init_69 : decode cX2_init 69 = .ok (.putfield 33, 3) := by decide +kernel
theorem dX2_init_72 : decode cX2_init 72 = .ok (.aload_n 0, 1) := by decide +kernel
theorem dX2_init_73 : decode cX2_init 73 = .ok (.sipush 300, 3) := by decide +kernel
theorem dX2_init_76 : decode cX2_init 76 = .ok (.newarray .int, 2) := by decide +kernel
theorem dX2_init_78 : decode cX2_init 78 = .ok (.putfield 36, 3) := by decide +kernel
theorem dX2_init_81 : decode cX2_init 81 = .ok (.aload_n 0, 1) := by decide +kernel
theorem dX2_init_82 : decode cX2_init 82 = .ok (.sipush 300, 3) := by decide +kernel
theorem dX2_init_85 : decode cX2_init 85 = .ok (.newarray .int, 2) := by decide +kernel
theorem dX2_init_87 : decode cX2_init 87 = .ok (.putfield 39, 3) := by decide +kernel
theorem dX2_init_90 : decode cX2_init 90 = .ok (.aload_n 0, 1) := by decide +kernel
theorem dX2_init_91 : decode cX2_init 91 = .ok (.sipush 6560, 3) := by decide +kernel
theorem dX2_init_94 : decode cX2_init 94 = .ok (.newarray .int, 2) := by decide +kernel
theorem dX2_init_96 : decode cX2_init 96 = .ok (.putfield 42, 3) := by decide +kernel
theorem dX2_init_99 : decode cX2_init 99 = .ok (.aload_n 0, 1) := by decide +kernel
theorem dX2_init_100 : decode cX2_init 100 = .ok (.iconst 3, 1) := by decide +kernel
theorem dX2_init_101 : decode cX2_init 101 = .ok (.newarray .int, 2) := by decide +kernel
theorem dX2_init_103 : decode cX2_init 103 = .ok (.putfield 45, 3) := by decide +kernel
theorem dX2_init_106 : decode cX2_init 106 = .ok (.aload_n 0, 1) := by decide +kernel
theorem dX2_init_107 : decode cX2_init 107 = .ok (.bipush 10, 2) := by decide +kernel
theorem dX2_init_109 : decode cX2_init 109 = .ok (.putfield 48, 3) := by decide +kernel
theorem dX2_init_112 : decode cX2_init 112 = .ok (.aload_n 0, 1) := by decide +kernel
theorem dX2_init_113 : decode cX2_init 113 = .ok (.sipush 960, 3) := by decide +kernel
theorem dX2_init_116 : decode cX2_init 116 = .ok (.newarray .int, 2) := by decide +kernel
theorem dX2_init_118 : decode cX2_init 118 = .ok (.putfield 52, 3) := by decide +kernel
theorem dX2_init_121 : decode cX2_init 121 = .ok (.aload_n 0, 1) := by decide +kernel
theorem dX2_init_122 : decode cX2_init 122 = .ok (.sipush 960, 3) := by decide +kernel
theorem dX2_init_125 : decode cX2_init 125 = .ok (.newarray .int, 2) := by decide +kernel
theorem dX2_init_127 : decode cX2_init 127 = .ok (.putfield 55, 3) := by decide +kernel
theorem dX2_init_130 : decode cX2_init 130 = .ok (.aload_n 0, 1) := by decide +kernel
theorem dX2_init_131 : decode cX2_init 131 = .ok (.sipush 960, 3) := by decide +kernel
theorem dX2_init_134 : decode cX2_init 134 = .ok (.newarray .int, 2) := by decide +kernel
theorem dX2_init_136 : decode cX2_init 136 = .ok (.putfield 58, 3) := by decide +kernel
theorem dX2_init_139 : decode cX2_init 139 = .ok (.aload_n 0, 1) := by decide +kernel
theorem dX2_init_140 : decode cX2_init 140 = .ok (.sipush 960, 3) := by decide +kernel
theorem dX2_init_143 : decode cX2_init 143 = .ok (.newarray .int, 2) := by decide +kernel
theorem dX2_init_145 : decode cX2_init 145 = .ok (.putfield 61, 3) := by decide +kernel
theorem dX2_init_148 : decode cX2_init 148 = .ok (.aload_n 0, 1) := by decide +kernel
theorem dX2_init_149 : decode cX2_init 149 = .ok (.sipush 960, 3) := by decide +kernel
theorem dX2_init_152 : decode cX2_init 152 = .ok (.newarray .int, 2) := by decide +kernel
theorem dX2_init_154 : decode cX2_init 154 = .ok (.putfield 64, 3) := by decide +kernel
theorem dX2_init_157 : decode cX2_init 157 = .ok (.aload_n 0, 1) := by decide +kernel
theorem dX2_init_158 : decode cX2_init 158 = .ok (.sipush 960, 3) := by decide +kernel
theorem dX2_init_161 : decode cX2_init 161 = .ok (.newarray .long, 2) := by decide +kernel
theorem dX2_init_163 : decode cX2_init 163 = .ok (.putfield 67, 3) := by decide +kernel
theorem dX2_init_166 : decode cX2_init 166 = .ok (.aload_n 0, 1) := by decide +kernel
theorem dX2_init_167 : decode cX2_init 167 = .ok (.sipush 960, 3) := by decide +kernel
theorem dX2_init_170 : decode cX2_init 170 = .ok (.newarray .long, 2) := by decide +kernel
theorem dX2_init_172 : decode cX2_init 172 = .ok (.putfield 70, 3) := by decide +kernel
theorem dX2_init_175 : decode cX2_init 175 = .ok (.aload_n 0, 1) := by decide +kernel
theorem dX2_init_176 : decode cX2_init 176 = .ok (.sipush 984, 3) := by decide +kernel
theorem dX2_init_179 : decode cX2_init 179 = .ok (.newarray .boolean, 2) := by decide +kernel
theorem dX2_init_181 : decode cX2_init 181 = .ok (.putfield 73, 3) := by decide +kernel
theorem dX2_init_184 : decode cX2_init 184 = .ok (.aload_n 0, 1) := by decide +kernel
theorem dX2_init_185 : decode cX2_init 185 = .ok (.getfield 45, 3) := by decide +kernel
theorem dX2_init_188 : decode cX2_init 188 = .ok (.iconst 0, 1) := by decide +kernel
theorem dX2_init_189 : decode cX2_init 189 = .ok (.bipush 50, 2) := by decide +kernel
theorem dX2_init_191 : decode cX2_init 191 = .ok (.iastore, 1) := by decide +kernel
theorem dX2_init_192 : decode cX2_init 192 = .ok (.aload_n 0, 1) := by decide +kernel
theorem dX2_init_193 : decode cX2_init 193 = .ok (.getfield 45, 3) := by decide +kernel
theorem dX2_init_196 : decode cX2_init 196 = .ok (.iconst 1, 1) := by decide +kernel
theorem dX2_init_197 : decode cX2_init 197 = .ok (.bipush 100, 2) := by decide +kernel
theorem dX2_init_199 : decode cX2_init 199 = .ok (.iastore, 1) := by decide +kernel
theorem dX2_init_200 : decode cX2_init 200 = .ok (.aload_n 0, 1) := by decide +kernel
theorem dX2_init_201 : decode cX2_init 201 = .ok (.getfield 45, 3) := by decide +kernel
theorem dX2_init_204 : decode cX2_init 204 = .ok (.iconst 2, 1) := by decide +kernel
theorem dX2_init_205 : decode cX2_init 205 = .ok (.sipush 200, 3) := by decide +kernel
theorem dX2_init_208 : decode cX2_init 208 = .ok (.iastore, 1) := by decide +kernel
theorem dX2_init_209 : decode cX2_init 209 = .ok (.return_, 1) := by decide +kernel
theorem dX2_in_0 : decode cX2_in 0 = .ok (.lload_n 0, 1) := by decide +kernel
theorem dX2_in_1 : decode cX2_in 1 = .ok (.lload_n 2, 1) := by decide +kernel
theorem dX2_in_2 : decode cX2_in 2 = .ok (.lcmp, 1) := by decide +kernel
theorem dX2_in_3 : decode cX2_in 3 = .ok (.ifCond .lt 14, 3) := by decide +kernel
theorem dX2_in_6 : decode cX2_in 6 = .ok (.lload_n 0, 1) := by decide +kernel
theorem dX2_in_7 : decode cX2_in 7 = .ok (.lload 4, 2) := by decide +kernel
theorem dX2_in_9 : decode cX2_in 9 = .ok (.lcmp, 1) := by decide +kernel
theorem dX2_in_10 : decode cX2_in 10 = .ok (.ifCond .gt 7, 3) := by decide +kernel
theorem dX2_in_13 : decode cX2_in 13 = .ok (.iconst 1, 1) := by decide +kernel
theorem dX2_in_14 : decode cX2_in 14 = .ok (.goto 4, 3) := by decide +kernel
theorem dX2_in_17 : decode cX2_in 17 = .ok (.iconst 0, 1) := by decide +kernel
theorem dX2_in_18 : decode cX2_in 18 = .ok (.ireturn, 1) := by decide +kernel
theorem dX2_isNode_0 : decode cX2_isNode 0 = .ok (.iload_n 1, 1) := by decide +kernel
theorem dX2_isNode_1 : decode cX2_isNode 1 = .ok (.ifCond .lt 15, 3) := by decide +kernel
theorem dX2_isNode_4 : decode cX2_isNode 4 = .ok (.iload_n 1, 1) := by decide +kernel
theorem dX2_isNode_5 : decode cX2_isNode 5 = .ok (.aload_n 0, 1) := by decide +kernel
theorem dX2_isNode_6 : decode cX2_isNode 6 = .ok (.getfield 76, 3) := by decide +kernel
theorem dX2_isNode_9 : decode cX2_isNode 9 = .ok (.if_icmp .ge 7, 3) := by decide +kernel
theorem dX2_isNode_12 : decode cX2_isNode 12 = .ok (.iconst 1, 1) := by decide +kernel
theorem dX2_isNode_13 : decode cX2_isNode 13 = .ok (.goto 4, 3) := by decide +kernel
theorem dX2_isNode_16 : decode cX2_isNode 16 = .ok (.iconst 0, 1) := by decide +kernel
theorem dX2_isNode_17 : decode cX2_isNode 17 = .ok (.ireturn, 1) := by decide +kernel
theorem dX2_isVote_0 : decode cX2_isVote 0 = .ok (.iload_n 1, 1) := by decide +kernel
theorem dX2_isVote_1 : decode cX2_isVote 1 = .ok (.ifCond .lt 15, 3) := by decide +kernel
theorem dX2_isVote_4 : decode cX2_isVote 4 = .ok (.iload_n 1, 1) := by decide +kernel
theorem dX2_isVote_5 : decode cX2_isVote 5 = .ok (.aload_n 0, 1) := by decide +kernel
theorem dX2_isVote_6 : decode cX2_isVote 6 = .ok (.getfield 79, 3) := by decide +kernel
theorem dX2_isVote_9 : decode cX2_isVote 9 = .ok (.if_icmp .ge 7, 3) := by decide +kernel
theorem dX2_isVote_12 : decode cX2_isVote 12 = .ok (.iconst 1, 1) := by decide +kernel
theorem dX2_isVote_13 : decode cX2_isVote 13 = .ok (.goto 4, 3) := by decide +kernel
theorem dX2_isVote_16 : decode cX2_isVote 16 = .ok (.iconst 0, 1) := by decide +kernel
theorem dX2_isVote_17 : decode cX2_isVote 17 = .ok (.ireturn, 1) := by decide +kernel
theorem dX2_isHeight_0 : decode cX2_isHeight 0 = .ok (.iload_n 1, 1) := by decide +kernel
theorem dX2_isHeight_1 : decode cX2_isHeight 1 = .ok (.iconst 1, 1) := by decide +kernel
theorem dX2_isHeight_2 : decode cX2_isHeight 2 = .ok (.if_icmp .lt 15, 3) := by decide +kernel
theorem dX2_isHeight_5 : decode cX2_isHeight 5 = .ok (.iload_n 1, 1) := by decide +kernel
theorem dX2_isHeight_6 : decode cX2_isHeight 6 = .ok (.aload_n 0, 1) := by decide +kernel
theorem dX2_isHeight_7 : decode cX2_isHeight 7 = .ok (.getfield 82, 3) := by decide +kernel
theorem dX2_isHeight_10 : decode cX2_isHeight 10 = .ok (.if_icmp .gt 7, 3) := by decide +kernel
theorem dX2_isHeight_13 : decode cX2_isHeight 13 = .ok (.iconst 1, 1) := by decide +kernel
theorem dX2_isHeight_14 : decode cX2_isHeight 14 = .ok (.goto 4, 3) := by decide +kernel
theorem dX2_isHeight_17 : decode cX2_isHeight 17 = .ok (.iconst 0, 1) := by decide +kernel
theorem dX2_isHeight_18 : decode cX2_isHeight 18 = .ok (.ireturn, 1) := by decide +kernel
theorem dX2_place_0 : decode cX2_place 0 = .ok (.bipush 8, 2) := by decide +kernel
theorem dX2_place_2 : decode cX2_place 2 = .ok (.iload_n 0, 1) := by decide +kernel
theorem dX2_place_3 : decode cX2_place 3 = .ok (.imul, 1) := by decide +kernel
theorem dX2_place_4 : decode cX2_place 4 = .ok (.iload_n 1, 1) := by decide +kernel
theorem dX2_place_5 : decode cX2_place 5 = .ok (.iadd, 1) := by decide +kernel
theorem dX2_place_6 : decode cX2_place 6 = .ok (.iconst 2, 1) := by decide +kernel
theorem dX2_place_7 : decode cX2_place 7 = .ok (.imul, 1) := by decide +kernel
theorem dX2_place_8 : decode cX2_place 8 = .ok (.iload_n 2, 1) := by decide +kernel
theorem dX2_place_9 : decode cX2_place 9 = .ok (.iadd, 1) := by decide +kernel
theorem dX2_place_10 : decode cX2_place 10 = .ok (.bipush 10, 2) := by decide +kernel
theorem dX2_place_12 : decode cX2_place 12 = .ok (.imul, 1) := by decide +kernel
theorem dX2_place_13 : decode cX2_place 13 = .ok (.iload_n 3, 1) := by decide +kernel
theorem dX2_place_14 : decode cX2_place 14 = .ok (.iadd, 1) := by decide +kernel
theorem dX2_place_15 : decode cX2_place 15 = .ok (.ireturn, 1) := by decide +kernel
theorem dX2_weightOf_0 : decode cX2_weightOf 0 = .ok (.lconst 0, 1) := by decide +kernel
theorem dX2_weightOf_1 : decode cX2_weightOf 1 = .ok (.lstore_n 3, 1) := by decide +kernel
theorem dX2_weightOf_2 : decode cX2_weightOf 2 = .ok (.iconst 0, 1) := by decide +kernel
theorem dX2_weightOf_3 : decode cX2_weightOf 3 = .ok (.istore 5, 2) := by decide +kernel
theorem dX2_weightOf_5 : decode cX2_weightOf 5 = .ok (.iload 5, 2) := by decide +kernel
theorem dX2_weightOf_7 : decode cX2_weightOf 7 = .ok (.bipush 8, 2) := by decide +kernel
theorem dX2_weightOf_9 : decode cX2_weightOf 9 = .ok (.if_icmp .ge 38, 3) := by decide +kernel
theorem dX2_weightOf_12 : decode cX2_weightOf 12 = .ok (.lload_n 3, 1) := by decide +kernel
theorem dX2_weightOf_13 : decode cX2_weightOf 13 = .ok (.iload_n 2, 1) := by decide +kernel
theorem dX2_weightOf_14 : decode cX2_weightOf 14 = .ok (.iload 5, 2) := by decide +kernel
theorem dX2_weightOf_16 : decode cX2_weightOf 16 = .ok (.ishr, 1) := by decide +kernel
theorem dX2_weightOf_17 : decode cX2_weightOf 17 = .ok (.iconst 1, 1) := by decide +kernel
theorem dX2_weightOf_18 : decode cX2_weightOf 18 = .ok (.iand, 1) := by decide +kernel
theorem dX2_weightOf_19 : decode cX2_weightOf 19 = .ok (.iconst 1, 1) := by decide +kernel
theorem dX2_weightOf_20 : decode cX2_weightOf 20 = .ok (.if_icmp .ne 18, 3) := by decide +kernel
theorem dX2_weightOf_23 : decode cX2_weightOf 23 = .ok (.aload_n 0, 1) := by decide +kernel
theorem dX2_weightOf_24 : decode cX2_weightOf 24 = .ok (.getfield 20, 3) := by decide +kernel
theorem dX2_weightOf_27 : decode cX2_weightOf 27 = .ok (.bipush 8, 2) := by decide +kernel
theorem dX2_weightOf_29 : decode cX2_weightOf 29 = .ok (.iload_n 1, 1) := by decide +kernel
theorem dX2_weightOf_30 : decode cX2_weightOf 30 = .ok (.imul, 1) := by decide +kernel
theorem dX2_weightOf_31 : decode cX2_weightOf 31 = .ok (.iload 5, 2) := by decide +kernel
theorem dX2_weightOf_33 : decode cX2_weightOf 33 = .ok (.iadd, 1) := by decide +kernel
theorem dX2_weightOf_34 : decode cX2_weightOf 34 = .ok (.laload, 1) := by decide +kernel
theorem dX2_weightOf_35 : decode cX2_weightOf 35 = .ok (.goto 4, 3) := by decide +kernel
theorem dX2_weightOf_38 : decode cX2_weightOf 38 = .ok (.lconst 0, 1) := by decide +kernel
theorem dX2_weightOf_39 : decode cX2_weightOf 39 = .ok (.ladd, 1) := by decide +kernel
theorem dX2_weightOf_40 : decode cX2_weightOf 40 = .ok (.lstore_n 3, 1) := by decide +kernel
theorem dX2_weightOf_41 : decode cX2_weightOf 41 = .ok (.iinc 5 1, 3) := by decide +kernel
theorem dX2_weightOf_44 : decode cX2_weightOf 44 = .ok (.goto (-39), 3) := by decide +kernel
theorem dX2_weightOf_47 : decode cX2_weightOf 47 = .ok (.lload_n 3, 1) := by decide +kernel
theorem dX2_weightOf_48 : decode cX2_weightOf 48 = .ok (.lreturn, 1) := by decide +kernel
set_option maxRecDepth 20000 in
theorem ggX2_haveMost_X2_weightOf : GoodIn wsX2_haveMost wsX2_weightOf := goodIn_r _ [8, 9, 10, 11, 12, 13, 14, 15, 16, 17, 18, 19, 20, 21, 22, 23, 24, 25, 26, 27, 28, 29, 30, 31, 32, 33, 34, 35, 36] (by decide +kernel) (by decide +kernel)
set_option maxRecDepth 20000 in
theorem gX2_haveMost_X2_weightOf : GoodIn wsX2_haveMost (wsV RX2 87 RX2 yX2_weightOf wsX2_weightOf) := goodIn_app (goodIn_of _ (by decide +kernel)) ggX2_haveMost_X2_weightOf
theorem dX2_haveMost_0 : decode cX2_haveMost 0 = .ok (.ldc2_w 85, 3) := by decide +kernel
theorem dX2_haveMost_3 : decode cX2_haveMost 3 = .ok (.aload_n 0, 1) := by decide +kernel
theorem dX2_haveMost_4 : decode cX2_haveMost 4 = .ok (.iload_n 1, 1) := by decide +kernel
theorem dX2_haveMost_5 : decode cX2_haveMost 5 = .ok (.iload_n 2, 1) := by decide +kernel
theorem dX2_haveMost_6 : decode cX2_haveMost 6 = .ok (.invokevirtual 87, 3) := by decide +kernel
theorem dX2_haveMost_9 : decode cX2_haveMost 9 = .ok (.lmul, 1) := by decide +kernel
theorem dX2_haveMost_10 : decode cX2_haveMost 10 = .ok (.ldc2_w 91, 3) := by decide +kernel
theorem dX2_haveMost_13 : decode cX2_haveMost 13 = .ok (.aload_n 0, 1) := by decide +kernel
theorem dX2_haveMost_14 : decode cX2_haveMost 14 = .ok (.getfield 23, 3) := by decide +kernel
theorem dX2_haveMost_17 : decode cX2_haveMost 17 = .ok (.iload_n 1, 1) := by decide +kernel
theorem dX2_haveMost_18 : decode cX2_haveMost 18 = .ok (.laload, 1) := by decide +kernel
theorem dX2_haveMost_19 : decode cX2_haveMost 19 = .ok (.lmul, 1) := by decide +kernel
theorem dX2_haveMost_20 : decode cX2_haveMost 20 = .ok (.lcmp, 1) := by decide +kernel
theorem dX2_haveMost_21 : decode cX2_haveMost 21 = .ok (.ifCond .le 7, 3) := by decide +kernel
theorem dX2_haveMost_24 : decode cX2_haveMost 24 = .ok (.iconst 1, 1) := by decide +kernel
theorem dX2_haveMost_25 : decode cX2_haveMost 25 = .ok (.goto 4, 3) := by decide +kernel
theorem dX2_haveMost_28 : decode cX2_haveMost 28 = .ok (.iconst 0, 1) := by decide +kernel
theorem dX2_haveMost_29 : decode cX2_haveMost 29 = .ok (.ireturn, 1) := by decide +kernel
set_option maxRecDepth 20000 in
theorem ggX2_isBacked_X2_place : GoodIn wsX2_isBacked wsX2_place := goodIn_r _ [5] (by decide +kernel) (by decide +kernel)
set_option maxRecDepth 20000 in
theorem gX2_isBacked_X2_place : GoodIn wsX2_isBacked (va_wsS RX2 93 yX2_place wsX2_place) := goodIn_app (goodIn_of _ (by decide +kernel)) ggX2_isBacked_X2_place
set_option maxRecDepth 20000 in
theorem ggX2_isBacked_X2_haveMost : GoodIn wsX2_isBacked wsX2_haveMost := goodIn_r _ [9, 10, 11, 12, 13, 14, 15, 4, 16, 17, 18, 19, 20, 21, 22, 23, 24, 25, 26, 27, 28, 29, 30, 31, 32, 33, 34, 35, 36, 37, 38, 39, 40, 41, 42, 43, 44] (by decide +kernel) (by decide +kernel)
set_option maxRecDepth 20000 in
theorem gX2_isBacked_X2_haveMost : GoodIn wsX2_isBacked (wsV RX2 97 RX2 yX2_haveMost wsX2_haveMost) := goodIn_app (goodIn_of _ (by decide +kernel)) ggX2_isBacked_X2_haveMost
theorem dX2_isBacked_0 : decode cX2_isBacked 0 = .ok (.aload_n 0, 1) := by decide +kernel
theorem dX2_isBacked_1 : decode cX2_isBacked 1 = .ok (.iload_n 1, 1) := by decide +kernel
theorem dX2_isBacked_2 : decode cX2_isBacked 2 = .ok (.aload_n 0, 1) := by decide +kernel
theorem dX2_isBacked_3 : decode cX2_isBacked 3 = .ok (.getfield 42, 3) := by decide +kernel
theorem dX2_isBacked_6 : decode cX2_isBacked 6 = .ok (.iload_n 1, 1) := by decide +kernel
theorem dX2_isBacked_7 : decode cX2_isBacked 7 = .ok (.iload_n 2, 1) := by decide +kernel
theorem dX2_isBacked_8 : decode cX2_isBacked 8 = .ok (.iconst 0, 1) := by decide +kernel
theorem dX2_isBacked_9 : decode cX2_isBacked 9 = .ok (.iload_n 3, 1) := by decide +kernel
theorem dX2_isBacked_10 : decode cX2_isBacked 10 = .ok (.invokestatic 93, 3) := by decide +kernel
theorem dX2_isBacked_13 : decode cX2_isBacked 13 = .ok (.iaload, 1) := by decide +kernel
theorem dX2_isBacked_14 : decode cX2_isBacked 14 = .ok (.invokevirtual 97, 3) := by decide +kernel
theorem dX2_isBacked_17 : decode cX2_isBacked 17 = .ok (.ireturn, 1) := by decide +kernel
set_option maxRecDepth 20000 in
theorem ggX2_isCertain_X2_place : GoodIn wsX2_isCertain wsX2_place := goodIn_r _ [5] (by decide +kernel) (by decide +kernel)
set_option maxRecDepth 20000 in
theorem gX2_isCertain_X2_place : GoodIn wsX2_isCertain (va_wsS RX2 93 yX2_place wsX2_place) := goodIn_app (goodIn_of _ (by decide +kernel)) ggX2_isCertain_X2_place
set_option maxRecDepth 20000 in
theorem ggX2_isCertain_X2_haveMost : GoodIn wsX2_isCertain wsX2_haveMost := goodIn_r _ [9, 10, 11, 12, 13, 14, 15, 4, 16, 17, 18, 19, 20, 21, 22, 23, 24, 25, 26, 27, 28, 29, 30, 31, 32, 33, 34, 35, 36, 37, 38, 39, 40, 41, 42, 43, 44] (by decide +kernel) (by decide +kernel)
set_option maxRecDepth 20000 in
theorem gX2_isCertain_X2_haveMost : GoodIn wsX2_isCertain (wsV RX2 97 RX2 yX2_haveMost wsX2_haveMost) := goodIn_app (goodIn_of _ (by decide +kernel)) ggX2_isCertain_X2_haveMost
theorem dX2_isCertain_0 : decode cX2_isCertain 0 = .ok (.iconst 0, 1) := by decide +kernel
theorem dX2_isCertain_1 : decode cX2_isCertain 1 = .ok (.istore_n 3, 1) := by decide +kernel
theorem dX2_isCertain_2 : decode cX2_isCertain 2 = .ok (.iconst 0, 1) := by decide +kernel
theorem dX2_isCertain_3 : decode cX2_isCertain 3 = .ok (.istore 4, 2) := by decide +kernel
theorem dX2_isCertain_5 : decode cX2_isCertain 5 = .ok (.iload 4, 2) := by decide +kernel
theorem dX2_isCertain_7 : decode cX2_isCertain 7 = .ok (.bipush 8, 2) := by decide +kernel
theorem dX2_isCertain_9 : decode cX2_isCertain 9 = .ok (.if_icmp .ge 40, 3) := by decide +kernel
theorem dX2_isCertain_12 : decode cX2_isCertain 12 = .ok (.iload_n 3, 1) := by decide +kernel
theorem dX2_isCertain_13 : decode cX2_isCertain 13 = .ok (.ifCond .ne 24, 3) := by decide +kernel
theorem dX2_isCertain_16 : decode cX2_isCertain 16 = .ok (.aload_n 0, 1) := by decide +kernel
theorem dX2_isCertain_17 : decode cX2_isCertain 17 = .ok (.iload_n 1, 1) := by decide +kernel
theorem dX2_isCertain_18 : decode cX2_isCertain 18 = .ok (.aload_n 0, 1) := by decide +kernel
theorem dX2_isCertain_19 : decode cX2_isCertain 19 = .ok (.getfield 42, 3) := by decide +kernel
theorem dX2_isCertain_22 : decode cX2_isCertain 22 = .ok (.iload_n 1, 1) := by decide +kernel
theorem dX2_isCertain_23 : decode cX2_isCertain 23 = .ok (.iload 4, 2) := by decide +kernel
theorem dX2_isCertain_25 : decode cX2_isCertain 25 = .ok (.iconst 1, 1) := by decide +kernel
theorem dX2_isCertain_26 : decode cX2_isCertain 26 = .ok (.iload_n 2, 1) := by decide +kernel
theorem dX2_isCertain_27 : decode cX2_isCertain 27 = .ok (.invokestatic 93, 3) := by decide +kernel
theorem dX2_isCertain_30 : decode cX2_isCertain 30 = .ok (.iaload, 1) := by decide +kernel
theorem dX2_isCertain_31 : decode cX2_isCertain 31 = .ok (.invokevirtual 97, 3) := by decide +kernel
theorem dX2_isCertain_34 : decode cX2_isCertain 34 = .ok (.ifCond .eq 7, 3) := by decide +kernel
theorem dX2_isCertain_37 : decode cX2_isCertain 37 = .ok (.iconst 1, 1) := by decide +kernel
theorem dX2_isCertain_38 : decode cX2_isCertain 38 = .ok (.goto 4, 3) := by decide +kernel
theorem dX2_isCertain_41 : decode cX2_isCertain 41 = .ok (.iconst 0, 1) := by decide +kernel
theorem dX2_isCertain_42 : decode cX2_isCertain 42 = .ok (.istore_n 3, 1) := by decide +kernel
theorem dX2_isCertain_43 : decode cX2_isCertain 43 = .ok (.iinc 4 1, 3) := by decide +kernel
theorem dX2_isCertain_46 : decode cX2_isCertain 46 = .ok (.goto (-41), 3) := by decide +kernel
theorem dX2_isCertain_49 : decode cX2_isCertain 49 = .ok (.iload_n 3, 1) := by decide +kernel
theorem dX2_isCertain_50 : decode cX2_isCertain 50 = .ok (.ireturn, 1) := by decide +kernel
theorem dX2_isTwice_0 : decode cX2_isTwice 0 = .ok (.aload_n 0, 1) := by decide +kernel
theorem dX2_isTwice_1 : decode cX2_isTwice 1 = .ok (.getfield 26, 3) := by decide +kernel
theorem dX2_isTwice_4 : decode cX2_isTwice 4 = .ok (.iload_n 1, 1) := by decide +kernel
theorem dX2_isTwice_5 : decode cX2_isTwice 5 = .ok (.iaload, 1) := by decide +kernel
theorem dX2_isTwice_6 : decode cX2_isTwice 6 = .ok (.aload_n 0, 1) := by decide +kernel
theorem dX2_isTwice_7 : decode cX2_isTwice 7 = .ok (.getfield 26, 3) := by decide +kernel
theorem dX2_isTwice_10 : decode cX2_isTwice 10 = .ok (.iload_n 2, 1) := by decide +kernel
theorem dX2_isTwice_11 : decode cX2_isTwice 11 = .ok (.iaload, 1) := by decide +kernel
theorem dX2_isTwice_12 : decode cX2_isTwice 12 = .ok (.if_icmp .ne 67, 3) := by decide +kernel
theorem dX2_isTwice_15 : decode cX2_isTwice 15 = .ok (.aload_n 0, 1) := by decide +kernel
theorem dX2_isTwice_16 : decode cX2_isTwice 16 = .ok (.getfield 30, 3) := by decide +kernel
theorem dX2_isTwice_19 : decode cX2_isTwice 19 = .ok (.iload_n 1, 1) := by decide +kernel
theorem dX2_isTwice_20 : decode cX2_isTwice 20 = .ok (.iaload, 1) := by decide +kernel
theorem dX2_isTwice_21 : decode cX2_isTwice 21 = .ok (.aload_n 0, 1) := by decide +kernel
theorem dX2_isTwice_22 : decode cX2_isTwice 22 = .ok (.getfield 30, 3) := by decide +kernel
theorem dX2_isTwice_25 : decode cX2_isTwice 25 = .ok (.iload_n 2, 1) := by decide +kernel
theorem dX2_isTwice_26 : decode cX2_isTwice 26 = .ok (.iaload, 1) := by decide +kernel
theorem dX2_isTwice_27 : decode cX2_isTwice 27 = .ok (.if_icmp .ne 52, 3) := by decide +kernel
theorem dX2_isTwice_30 : decode cX2_isTwice 30 = .ok (.aload_n 0, 1) := by decide +kernel
theorem dX2_isTwice_31 : decode cX2_isTwice 31 = .ok (.getfield 33, 3) := by decide +kernel
theorem dX2_isTwice_34 : decode cX2_isTwice 34 = .ok (.iload_n 1, 1) := by decide +kernel
theorem dX2_isTwice_35 : decode cX2_isTwice 35 = .ok (.iaload, 1) := by decide +kernel
theorem dX2_isTwice_36 : decode cX2_isTwice 36 = .ok (.aload_n 0, 1) := by decide +kernel
theorem dX2_isTwice_37 : decode cX2_isTwice 37 = .ok (.getfield 33, 3) := by decide +kernel
theorem dX2_isTwice_40 : decode cX2_isTwice 40 = .ok (.iload_n 2, 1) := by decide +kernel
theorem dX2_isTwice_41 : decode cX2_isTwice 41 = .ok (.iaload, 1) := by decide +kernel
theorem dX2_isTwice_42 : decode cX2_isTwice 42 = .ok (.if_icmp .ne 37, 3) := by decide +kernel
theorem dX2_isTwice_45 : decode cX2_isTwice 45 = .ok (.aload_n 0, 1) := by decide +kernel
theorem dX2_isTwice_46 : decode cX2_isTwice 46 = .ok (.getfield 36, 3) := by decide +kernel
theorem dX2_isTwice_49 : decode cX2_isTwice 49 = .ok (.iload_n 1, 1) := by decide +kernel
theorem dX2_isTwice_50 : decode cX2_isTwice 50 = .ok (.iaload, 1) := by decide +kernel
theorem dX2_isTwice_51 : decode cX2_isTwice 51 = .ok (.aload_n 0, 1) := by decide +kernel
theorem dX2_isTwice_52 : decode cX2_isTwice 52 = .ok (.getfield 36, 3) := by decide +kernel
theorem dX2_isTwice_55 : decode cX2_isTwice 55 = .ok (.iload_n 2, 1) := by decide +kernel
theorem dX2_isTwice_56 : decode cX2_isTwice 56 = .ok (.iaload, 1) := by decide +kernel
theorem dX2_isTwice_57 : decode cX2_isTwice 57 = .ok (.if_icmp .ne 22, 3) := by decide +kernel
theorem dX2_isTwice_60 : decode cX2_isTwice 60 = .ok (.aload_n 0, 1) := by decide +kernel
theorem dX2_isTwice_61 : decode cX2_isTwice 61 = .ok (.getfield 39, 3) := by decide +kernel
theorem dX2_isTwice_64 : decode cX2_isTwice 64 = .ok (.iload_n 1, 1) := by decide +kernel
theorem dX2_isTwice_65 : decode cX2_isTwice 65 = .ok (.iaload, 1) := by decide +kernel
theorem dX2_isTwice_66 : decode cX2_isTwice 66 = .ok (.aload_n 0, 1) := by decide +kernel
theorem dX2_isTwice_67 : decode cX2_isTwice 67 = .ok (.getfield 39, 3) := by decide +kernel
theorem dX2_isTwice_70 : decode cX2_isTwice 70 = .ok (.iload_n 2, 1) := by decide +kernel
theorem dX2_isTwice_71 : decode cX2_isTwice 71 = .ok (.iaload, 1) := by decide +kernel
theorem dX2_isTwice_72 : decode cX2_isTwice 72 = .ok (.if_icmp .eq 7, 3) := by decide +kernel
theorem dX2_isTwice_75 : decode cX2_isTwice 75 = .ok (.iconst 1, 1) := by decide +kernel
theorem dX2_isTwice_76 : decode cX2_isTwice 76 = .ok (.goto 4, 3) := by decide +kernel
theorem dX2_isTwice_79 : decode cX2_isTwice 79 = .ok (.iconst 0, 1) := by decide +kernel
theorem dX2_isTwice_80 : decode cX2_isTwice 80 = .ok (.ireturn, 1) := by decide +kernel
set_option maxRecDepth 20000 in
theorem ggX2_isLock_X2_isBacked : GoodIn wsX2_isLock wsX2_isBacked := goodIn_r _ [10, 11, 12, 13, 9, 14, 15, 16, 17, 18, 19, 20, 21, 22, 23, 24, 25, 26, 27, 28, 29, 30, 31, 32, 33, 34, 35, 36, 37, 38, 39, 40, 41, 42, 43, 44, 45, 46, 47, 48, 49, 50, 51, 52, 53] (by decide +kernel) (by decide +kernel)
set_option maxRecDepth 20000 in
theorem gX2_isLock_X2_isBacked : GoodIn wsX2_isLock (wsV RX2 101 RX2 yX2_isBacked wsX2_isBacked) := goodIn_app (goodIn_of _ (by decide +kernel)) ggX2_isLock_X2_isBacked
theorem dX2_isLock_0 : decode cX2_isLock 0 = .ok (.aload_n 0, 1) := by decide +kernel
theorem dX2_isLock_1 : decode cX2_isLock 1 = .ok (.getfield 26, 3) := by decide +kernel
theorem dX2_isLock_4 : decode cX2_isLock 4 = .ok (.iload_n 1, 1) := by decide +kernel
theorem dX2_isLock_5 : decode cX2_isLock 5 = .ok (.iaload, 1) := by decide +kernel
theorem dX2_isLock_6 : decode cX2_isLock 6 = .ok (.aload_n 0, 1) := by decide +kernel
theorem dX2_isLock_7 : decode cX2_isLock 7 = .ok (.getfield 26, 3) := by decide +kernel
theorem dX2_isLock_10 : decode cX2_isLock 10 = .ok (.iload_n 2, 1) := by decide +kernel
theorem dX2_isLock_11 : decode cX2_isLock 11 = .ok (.iaload, 1) := by decide +kernel
theorem dX2_isLock_12 : decode cX2_isLock 12 = .ok (.if_icmp .ne 85, 3) := by decide +kernel
theorem dX2_isLock_15 : decode cX2_isLock 15 = .ok (.aload_n 0, 1) := by decide +kernel
theorem dX2_isLock_16 : decode cX2_isLock 16 = .ok (.getfield 30, 3) := by decide +kernel
theorem dX2_isLock_19 : decode cX2_isLock 19 = .ok (.iload_n 1, 1) := by decide +kernel
theorem dX2_isLock_20 : decode cX2_isLock 20 = .ok (.iaload, 1) := by decide +kernel
theorem dX2_isLock_21 : decode cX2_isLock 21 = .ok (.aload_n 0, 1) := by decide +kernel
theorem dX2_isLock_22 : decode cX2_isLock 22 = .ok (.getfield 30, 3) := by decide +kernel
theorem dX2_isLock_25 : decode cX2_isLock 25 = .ok (.iload_n 2, 1) := by decide +kernel
theorem dX2_isLock_26 : decode cX2_isLock 26 = .ok (.iaload, 1) := by decide +kernel
theorem dX2_isLock_27 : decode cX2_isLock 27 = .ok (.if_icmp .ne 70, 3) := by decide +kernel
theorem dX2_isLock_30 : decode cX2_isLock 30 = .ok (.aload_n 0, 1) := by decide +kernel
theorem dX2_isLock_31 : decode cX2_isLock 31 = .ok (.getfield 36, 3) := by decide +kernel
theorem dX2_isLock_34 : decode cX2_isLock 34 = .ok (.iload_n 1, 1) := by decide +kernel
theorem dX2_isLock_35 : decode cX2_isLock 35 = .ok (.iaload, 1) := by decide +kernel
theorem dX2_isLock_36 : decode cX2_isLock 36 = .ok (.iconst 1, 1) := by decide +kernel
theorem dX2_isLock_37 : decode cX2_isLock 37 = .ok (.if_icmp .ne 60, 3) := by decide +kernel
theorem dX2_isLock_40 : decode cX2_isLock 40 = .ok (.aload_n 0, 1) := by decide +kernel
theorem dX2_isLock_41 : decode cX2_isLock 41 = .ok (.getfield 36, 3) := by decide +kernel
theorem dX2_isLock_44 : decode cX2_isLock 44 = .ok (.iload_n 2, 1) := by decide +kernel
theorem dX2_isLock_45 : decode cX2_isLock 45 = .ok (.iaload, 1) := by decide +kernel
theorem dX2_isLock_46 : decode cX2_isLock 46 = .ok (.ifCond .ne 51, 3) := by decide +kernel
theorem dX2_isLock_49 : decode cX2_isLock 49 = .ok (.aload_n 0, 1) := by decide +kernel
theorem dX2_isLock_50 : decode cX2_isLock 50 = .ok (.getfield 33, 3) := by decide +kernel
theorem dX2_isLock_53 : decode cX2_isLock 53 = .ok (.iload_n 1, 1) := by decide +kernel
theorem dX2_isLock_54 : decode cX2_isLock 54 = .ok (.iaload, 1) := by decide +kernel
theorem dX2_isLock_55 : decode cX2_isLock 55 = .ok (.aload_n 0, 1) := by decide +kernel
theorem dX2_isLock_56 : decode cX2_isLock 56 = .ok (.getfield 33, 3) := by decide +kernel
theorem dX2_isLock_59 : decode cX2_isLock 59 = .ok (.iload_n 2, 1) := by decide +kernel
theorem dX2_isLock_60 : decode cX2_isLock 60 = .ok (.iaload, 1) := by decide +kernel
theorem dX2_isLock_61 : decode cX2_isLock 61 = .ok (.if_icmp .ge 36, 3) := by decide +kernel
theorem dX2_isLock_64 : decode cX2_isLock 64 = .ok (.aload_n 0, 1) := by decide +kernel
theorem dX2_isLock_65 : decode cX2_isLock 65 = .ok (.getfield 39, 3) := by decide +kernel
theorem dX2_isLock_68 : decode cX2_isLock 68 = .ok (.iload_n 1, 1) := by decide +kernel
theorem dX2_isLock_69 : decode cX2_isLock 69 = .ok (.iaload, 1) := by decide +kernel
theorem dX2_isLock_70 : decode cX2_isLock 70 = .ok (.ifCond .eq 27, 3) := by decide +kernel
theorem dX2_isLock_73 : decode cX2_isLock 73 = .ok (.aload_n 0, 1) := by decide +kernel
theorem dX2_isLock_74 : decode cX2_isLock 74 = .ok (.getfield 39, 3) := by decide +kernel
theorem dX2_isLock_77 : decode cX2_isLock 77 = .ok (.iload_n 2, 1) := by decide +kernel
theorem dX2_isLock_78 : decode cX2_isLock 78 = .ok (.iaload, 1) := by decide +kernel
theorem dX2_isLock_79 : decode cX2_isLock 79 = .ok (.ifCond .eq 18, 3) := by decide +kernel
theorem dX2_isLock_82 : decode cX2_isLock 82 = .ok (.aload_n 0, 1) := by decide +kernel
theorem dX2_isLock_83 : decode cX2_isLock 83 = .ok (.getfield 39, 3) := by decide +kernel
theorem dX2_isLock_86 : decode cX2_isLock 86 = .ok (.iload_n 1, 1) := by decide +kernel
theorem dX2_isLock_87 : decode cX2_isLock 87 = .ok (.iaload, 1) := by decide +kernel
theorem dX2_isLock_88 : decode cX2_isLock 88 = .ok (.aload_n 0, 1) := by decide +kernel
theorem dX2_isLock_89 : decode cX2_isLock 89 = .ok (.getfield 39, 3) := by decide +kernel
theorem dX2_isLock_92 : decode cX2_isLock 92 = .ok (.iload_n 2, 1) := by decide +kernel
theorem dX2_isLock_93 : decode cX2_isLock 93 = .ok (.iaload, 1) := by decide +kernel
theorem dX2_isLock_94 : decode cX2_isLock 94 = .ok (.if_icmp .ne 5, 3) := by decide +kernel
theorem dX2_isLock_97 : decode cX2_isLock 97 = .ok (.iconst 0, 1) := by decide +kernel
theorem dX2_isLock_98 : decode cX2_isLock 98 = .ok (.ireturn, 1) := by decide +kernel
theorem dX2_isLock_99 : decode cX2_isLock 99 = .ok (.iconst 0, 1) := by decide +kernel
theorem dX2_isLock_100 : decode cX2_isLock 100 = .ok (.istore_n 3, 1) := by decide +kernel
theorem dX2_isLock_101 : decode cX2_isLock 101 = .ok (.aload_n 0, 1) := by decide +kernel
theorem dX2_isLock_102 : decode cX2_isLock 102 = .ok (.getfield 33, 3) := by decide +kernel
theorem dX2_isLock_105 : decode cX2_isLock 105 = .ok (.iload_n 1, 1) := by decide +kernel
theorem dX2_isLock_106 : decode cX2_isLock 106 = .ok (.iaload, 1) := by decide +kernel
theorem dX2_isLock_107 : decode cX2_isLock 107 = .ok (.istore 4, 2) := by decide +kernel
theorem dX2_isLock_109 : decode cX2_isLock 109 = .ok (.iload 4, 2) := by decide +kernel
theorem dX2_isLock_111 : decode cX2_isLock 111 = .ok (.aload_n 0, 1) := by decide +kernel
theorem dX2_isLock_112 : decode cX2_isLock 112 = .ok (.getfield 33, 3) := by decide +kernel
theorem dX2_isLock_115 : decode cX2_isLock 115 = .ok (.iload_n 2, 1) := by decide +kernel
theorem dX2_isLock_116 : decode cX2_isLock 116 = .ok (.iaload, 1) := by decide +kernel
theorem dX2_isLock_117 : decode cX2_isLock 117 = .ok (.if_icmp .ge 40, 3) := by decide +kernel
theorem dX2_isLock_120 : decode cX2_isLock 120 = .ok (.iload_n 3, 1) := by decide +kernel
theorem dX2_isLock_121 : decode cX2_isLock 121 = .ok (.ifCond .ne 24, 3) := by decide +kernel
theorem dX2_isLock_124 : decode cX2_isLock 124 = .ok (.aload_n 0, 1) := by decide +kernel
theorem dX2_isLock_125 : decode cX2_isLock 125 = .ok (.aload_n 0, 1) := by decide +kernel
theorem dX2_isLock_126 : decode cX2_isLock 126 = .ok (.getfield 30, 3) := by decide +kernel
theorem dX2_isLock_129 : decode cX2_isLock 129 = .ok (.iload_n 1, 1) := by decide +kernel
theorem dX2_isLock_130 : decode cX2_isLock 130 = .ok (.iaload, 1) := by decide +kernel
theorem dX2_isLock_131 : decode cX2_isLock 131 = .ok (.iload 4, 2) := by decide +kernel
theorem dX2_isLock_133 : decode cX2_isLock 133 = .ok (.aload_n 0, 1) := by decide +kernel
theorem dX2_isLock_134 : decode cX2_isLock 134 = .ok (.getfield 39, 3) := by decide +kernel
theorem dX2_isLock_137 : decode cX2_isLock 137 = .ok (.iload_n 2, 1) := by decide +kernel
theorem dX2_isLock_138 : decode cX2_isLock 138 = .ok (.iaload, 1) := by decide +kernel
theorem dX2_isLock_139 : decode cX2_isLock 139 = .ok (.invokevirtual 101, 3) := by decide +kernel
theorem dX2_isLock_142 : decode cX2_isLock 142 = .ok (.ifCond .eq 7, 3) := by decide +kernel
theorem dX2_isLock_145 : decode cX2_isLock 145 = .ok (.iconst 1, 1) := by decide +kernel
theorem dX2_isLock_146 : decode cX2_isLock 146 = .ok (.goto 4, 3) := by decide +kernel
theorem dX2_isLock_149 : decode cX2_isLock 149 = .ok (.iconst 0, 1) := by decide +kernel
theorem dX2_isLock_150 : decode cX2_isLock 150 = .ok (.istore_n 3, 1) := by decide +kernel
theorem dX2_isLock_151 : decode cX2_isLock 151 = .ok (.iinc 4 1, 3) := by decide +kernel
theorem dX2_isLock_154 : decode cX2_isLock 154 = .ok (.goto (-45), 3) := by decide +kernel
theorem dX2_isLock_157 : decode cX2_isLock 157 = .ok (.iload_n 3, 1) := by decide +kernel
theorem dX2_isLock_158 : decode cX2_isLock 158 = .ok (.ifCond .ne 7, 3) := by decide +kernel
theorem dX2_isLock_161 : decode cX2_isLock 161 = .ok (.iconst 1, 1) := by decide +kernel
theorem dX2_isLock_162 : decode cX2_isLock 162 = .ok (.goto 4, 3) := by decide +kernel
theorem dX2_isLock_165 : decode cX2_isLock 165 = .ok (.iconst 0, 1) := by decide +kernel
theorem dX2_isLock_166 : decode cX2_isLock 166 = .ok (.ireturn, 1) := by decide +kernel
set_option maxRecDepth 20000 in
theorem ggX2_isBare_X2_isBacked : GoodIn wsX2_isBare wsX2_isBacked := goodIn_r _ [9, 10, 11, 12, 8, 13, 14, 15, 16, 17, 18, 19, 20, 21, 22, 23, 24, 25, 26, 27, 28, 29, 30, 31, 32, 33, 34, 35, 36, 37, 38, 39, 40, 41, 42, 43, 44, 45, 46, 47, 48, 49, 50, 51, 52] (by decide +kernel) (by decide +kernel)
set_option maxRecDepth 20000 in
theorem gX2_isBare_X2_isBacked : GoodIn wsX2_isBare (wsV RX2 101 RX2 yX2_isBacked wsX2_isBacked) := goodIn_app (goodIn_of _ (by decide +kernel)) ggX2_isBare_X2_isBacked
theorem dX2_isBare_0 : decode cX2_isBare 0 = .ok (.aload_n 0, 1) := by decide +kernel
theorem dX2_isBare_1 : decode cX2_isBare 1 = .ok (.getfield 36, 3) := by decide +kernel
theorem dX2_isBare_4 : decode cX2_isBare 4 = .ok (.iload_n 1, 1) := by decide +kernel
theorem dX2_isBare_5 : decode cX2_isBare 5 = .ok (.iaload, 1) := by decide +kernel
theorem dX2_isBare_6 : decode cX2_isBare 6 = .ok (.iconst 1, 1) := by decide +kernel
theorem dX2_isBare_7 : decode cX2_isBare 7 = .ok (.if_icmp .ne 41, 3) := by decide +kernel
theorem dX2_isBare_10 : decode cX2_isBare 10 = .ok (.aload_n 0, 1) := by decide +kernel
theorem dX2_isBare_11 : decode cX2_isBare 11 = .ok (.getfield 39, 3) := by decide +kernel
theorem dX2_isBare_14 : decode cX2_isBare 14 = .ok (.iload_n 1, 1) := by decide +kernel
theorem dX2_isBare_15 : decode cX2_isBare 15 = .ok (.iaload, 1) := by decide +kernel
theorem dX2_isBare_16 : decode cX2_isBare 16 = .ok (.ifCond .le 32, 3) := by decide +kernel
theorem dX2_isBare_19 : decode cX2_isBare 19 = .ok (.aload_n 0, 1) := by decide +kernel
theorem dX2_isBare_20 : decode cX2_isBare 20 = .ok (.aload_n 0, 1) := by decide +kernel
theorem dX2_isBare_21 : decode cX2_isBare 21 = .ok (.getfield 30, 3) := by decide +kernel
theorem dX2_isBare_24 : decode cX2_isBare 24 = .ok (.iload_n 1, 1) := by decide +kernel
theorem dX2_isBare_25 : decode cX2_isBare 25 = .ok (.iaload, 1) := by decide +kernel
theorem dX2_isBare_26 : decode cX2_isBare 26 = .ok (.aload_n 0, 1) := by decide +kernel
theorem dX2_isBare_27 : decode cX2_isBare 27 = .ok (.getfield 33, 3) := by decide +kernel
theorem dX2_isBare_30 : decode cX2_isBare 30 = .ok (.iload_n 1, 1) := by decide +kernel
theorem dX2_isBare_31 : decode cX2_isBare 31 = .ok (.iaload, 1) := by decide +kernel
theorem dX2_isBare_32 : decode cX2_isBare 32 = .ok (.aload_n 0, 1) := by decide +kernel
theorem dX2_isBare_33 : decode cX2_isBare 33 = .ok (.getfield 39, 3) := by decide +kernel
theorem dX2_isBare_36 : decode cX2_isBare 36 = .ok (.iload_n 1, 1) := by decide +kernel
theorem dX2_isBare_37 : decode cX2_isBare 37 = .ok (.iaload, 1) := by decide +kernel
theorem dX2_isBare_38 : decode cX2_isBare 38 = .ok (.invokevirtual 101, 3) := by decide +kernel
theorem dX2_isBare_41 : decode cX2_isBare 41 = .ok (.ifCond .ne 7, 3) := by decide +kernel
theorem dX2_isBare_44 : decode cX2_isBare 44 = .ok (.iconst 1, 1) := by decide +kernel
theorem dX2_isBare_45 : decode cX2_isBare 45 = .ok (.goto 4, 3) := by decide +kernel
theorem dX2_isBare_48 : decode cX2_isBare 48 = .ok (.iconst 0, 1) := by decide +kernel
theorem dX2_isBare_49 : decode cX2_isBare 49 = .ok (.ireturn, 1) := by decide +kernel
set_option maxRecDepth 20000 in
theorem ggX2_isBreak_X2_isTwice : GoodIn wsX2_isBreak wsX2_isTwice := goodIn_r _ [5, 6, 7, 8, 9, 10, 39, 40, 41, 42, 43, 44, 45, 46, 47, 48, 49, 50, 51, 52, 53, 54, 55, 56, 57, 58, 59, 60, 61, 62, 63, 64, 65] (by decide +kernel) (by decide +kernel)
set_option maxRecDepth 20000 in
theorem gX2_isBreak_X2_isTwice : GoodIn wsX2_isBreak (wsV RX2 105 RX2 yX2_isTwice wsX2_isTwice) := goodIn_app (goodIn_of _ (by decide +kernel)) ggX2_isBreak_X2_isTwice
set_option maxRecDepth 20000 in
theorem ggX2_isBreak_X2_isLock : GoodIn wsX2_isBreak wsX2_isLock := goodIn_r _ [14, 6, 7, 9, 8, 10, 15, 16, 17, 4, 18, 19, 20, 21, 22, 23, 24, 25, 26, 27, 28, 29, 30, 31, 32, 33, 34, 39, 40, 41, 42, 43, 44, 45, 46, 47, 48, 49, 50, 51, 52, 53, 54, 55, 56, 57, 58, 59, 60, 61, 62, 63, 64, 65] (by decide +kernel) (by decide +kernel)
set_option maxRecDepth 20000 in
theorem gX2_isBreak_X2_isLock : GoodIn wsX2_isBreak (wsV RX2 108 RX2 yX2_isLock wsX2_isLock) := goodIn_app (goodIn_of _ (by decide +kernel)) ggX2_isBreak_X2_isLock
set_option maxRecDepth 20000 in
theorem ggX2_isBreak_X2_isBare : GoodIn wsX2_isBreak wsX2_isBare := goodIn_r _ [38, 9, 10, 7, 8, 15, 16, 17, 4, 18, 19, 20, 21, 22, 23, 24, 25, 26, 27, 28, 29, 30, 31, 32, 33, 34, 39, 40, 41, 42, 43, 44, 45, 46, 47, 48, 49, 50, 51, 52, 53, 54, 55, 56, 57, 58, 59, 60, 61, 62, 63, 64, 65] (by decide +kernel) (by decide +kernel)
set_option maxRecDepth 20000 in
theorem gX2_isBreak_X2_isBare : GoodIn wsX2_isBreak (wsV RX2 111 RX2 yX2_isBare wsX2_isBare) := goodIn_app (goodIn_of _ (by decide +kernel)) ggX2_isBreak_X2_isBare
theorem dX2_isBreak_0 : decode cX2_isBreak 0 = .ok (.iload_n 1, 1) := by decide +kernel
theorem dX2_isBreak_1 : decode cX2_isBreak 1 = .ok (.ifCond .ne 10, 3) := by decide +kernel
