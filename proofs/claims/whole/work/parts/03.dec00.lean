theorem dX0_init_0 : decode cX0_init 0 = .ok (.aload_n 0, 1) := by decide +kernel
theorem dX0_init_1 : decode cX0_init 1 = .ok (.invokespecial 1, 3) := by decide +kernel
theorem dX0_init_4 : decode cX0_init 4 = .ok (.aload_n 0, 1) := by decide +kernel
theorem dX0_init_5 : decode cX0_init 5 = .ok (.iload_n 1, 1) := by decide +kernel
theorem dX0_init_6 : decode cX0_init 6 = .ok (.putfield 7, 3) := by decide +kernel
theorem dX0_init_9 : decode cX0_init 9 = .ok (.aload_n 0, 1) := by decide +kernel
theorem dX0_init_10 : decode cX0_init 10 = .ok (.iload_n 2, 1) := by decide +kernel
theorem dX0_init_11 : decode cX0_init 11 = .ok (.putfield 13, 3) := by decide +kernel
theorem dX0_init_14 : decode cX0_init 14 = .ok (.aload_n 0, 1) := by decide +kernel
theorem dX0_init_15 : decode cX0_init 15 = .ok (.iload_n 3, 1) := by decide +kernel
theorem dX0_init_16 : decode cX0_init 16 = .ok (.putfield 16, 3) := by decide +kernel
theorem dX0_init_19 : decode cX0_init 19 = .ok (.aload_n 0, 1) := by decide +kernel
theorem dX0_init_20 : decode cX0_init 20 = .ok (.iload 4, 2) := by decide +kernel
theorem dX0_init_22 : decode cX0_init 22 = .ok (.putfield 19, 3) := by decide +kernel
theorem dX0_init_25 : decode cX0_init 25 = .ok (.aload_n 0, 1) := by decide +kernel
theorem dX0_init_26 : decode cX0_init 26 = .ok (.iload 5, 2) := by decide +kernel
theorem dX0_init_28 : decode cX0_init 28 = .ok (.putfield 22, 3) := by decide +kernel
theorem dX0_init_31 : decode cX0_init 31 = .ok (.aload_n 0, 1) := by decide +kernel
theorem dX0_init_32 : decode cX0_init 32 = .ok (.lload 6, 2) := by decide +kernel
theorem dX0_init_34 : decode cX0_init 34 = .ok (.putfield 25, 3) := by decide +kernel
theorem dX0_init_37 : decode cX0_init 37 = .ok (.aload_n 0, 1) := by decide +kernel
theorem dX0_init_38 : decode cX0_init 38 = .ok (.lload 8, 2) := by decide +kernel
theorem dX0_init_40 : decode cX0_init 40 = .ok (.putfield 29, 3) := by decide +kernel
theorem dX0_init_43 : decode cX0_init 43 = .ok (.return_, 1) := by decide +kernel
set_option maxRecDepth 20000 in
theorem ggX1_init_Jx4a65c_init_da8c8 : GoodIn wsX1_init wsJx4a65c_init_da8c8 := goodIn_r _ [30, 31, 32, 33, 34, 35, 36, 37, 38, 39, 40, 41, 42, 2, 3, 57, 58, 59] (by decide +kernel) (by decide +kernel)
set_option maxRecDepth 20000 in
theorem gX1_init_Jx4a65c_init_da8c8 : GoodIn wsX1_init (wsJx4a65c_init_da8c8) := ggX1_init_Jx4a65c_init_da8c8
theorem dX1_init_0 : decode cX1_init 0 = .ok (.aload_n 0, 1) := by decide +kernel
theorem dX1_init_1 : decode cX1_init 1 = .ok (.invokespecial 3, 3) := by decide +kernel
theorem dX1_init_4 : decode cX1_init 4 = .ok (.aload_n 0, 1) := by decide +kernel
theorem dX1_init_5 : decode cX1_init 5 = .ok (.iconst 5, 1) := by decide +kernel
theorem dX1_init_6 : decode cX1_init 6 = .ok (.newarray .long, 2) := by decide +kernel
theorem dX1_init_8 : decode cX1_init 8 = .ok (.dup, 1) := by decide +kernel
theorem dX1_init_9 : decode cX1_init 9 = .ok (.iconst 0, 1) := by decide +kernel
theorem dX1_init_10 : decode cX1_init 10 = .ok (.ldc2_w 9, 3) := by decide +kernel
theorem dX1_init_13 : decode cX1_init 13 = .ok (.lastore, 1) := by decide +kernel
theorem dX1_init_14 : decode cX1_init 14 = .ok (.dup, 1) := by decide +kernel
theorem dX1_init_15 : decode cX1_init 15 = .ok (.iconst 1, 1) := by decide +kernel
theorem dX1_init_16 : decode cX1_init 16 = .ok (.ldc2_w 11, 3) := by decide +kernel
theorem dX1_init_19 : decode cX1_init 19 = .ok (.lastore, 1) := by decide +kernel
theorem dX1_init_20 : decode cX1_init 20 = .ok (.dup, 1) := by decide +kernel
theorem dX1_init_21 : decode cX1_init 21 = .ok (.iconst 2, 1) := by decide +kernel
theorem dX1_init_22 : decode cX1_init 22 = .ok (.ldc2_w 13, 3) := by decide +kernel
theorem dX1_init_25 : decode cX1_init 25 = .ok (.lastore, 1) := by decide +kernel
theorem dX1_init_26 : decode cX1_init 26 = .ok (.dup, 1) := by decide +kernel
theorem dX1_init_27 : decode cX1_init 27 = .ok (.iconst 3, 1) := by decide +kernel
theorem dX1_init_28 : decode cX1_init 28 = .ok (.ldc2_w 15, 3) := by decide +kernel
theorem dX1_init_31 : decode cX1_init 31 = .ok (.lastore, 1) := by decide +kernel
theorem dX1_init_32 : decode cX1_init 32 = .ok (.dup, 1) := by decide +kernel
theorem dX1_init_33 : decode cX1_init 33 = .ok (.iconst 4, 1) := by decide +kernel
theorem dX1_init_34 : decode cX1_init 34 = .ok (.lconst 0, 1) := by decide +kernel
theorem dX1_init_35 : decode cX1_init 35 = .ok (.lastore, 1) := by decide +kernel
theorem dX1_init_36 : decode cX1_init 36 = .ok (.putfield 17, 3) := by decide +kernel
theorem dX1_init_39 : decode cX1_init 39 = .ok (.aload_n 0, 1) := by decide +kernel
theorem dX1_init_40 : decode cX1_init 40 = .ok (.bipush 8, 2) := by decide +kernel
theorem dX1_init_42 : decode cX1_init 42 = .ok (.newarray .long, 2) := by decide +kernel
theorem dX1_init_44 : decode cX1_init 44 = .ok (.putfield 21, 3) := by decide +kernel
theorem dX1_init_47 : decode cX1_init 47 = .ok (.aload_n 0, 1) := by decide +kernel
theorem dX1_init_48 : decode cX1_init 48 = .ok (.bipush 8, 2) := by decide +kernel
theorem dX1_init_50 : decode cX1_init 50 = .ok (.newarray .long, 2) := by decide +kernel
theorem dX1_init_52 : decode cX1_init 52 = .ok (.putfield 24, 3) := by decide +kernel
theorem dX1_init_55 : decode cX1_init 55 = .ok (.aload_n 0, 1) := by decide +kernel
theorem dX1_init_56 : decode cX1_init 56 = .ok (.bipush 8, 2) := by decide +kernel
theorem dX1_init_58 : decode cX1_init 58 = .ok (.newarray .boolean, 2) := by decide +kernel
theorem dX1_init_60 : decode cX1_init 60 = .ok (.putfield 27, 3) := by decide +kernel
theorem dX1_init_63 : decode cX1_init 63 = .ok (.aload_n 0, 1) := by decide +kernel
theorem dX1_init_64 : decode cX1_init 64 = .ok (.iconst 0, 1) := by decide +kernel
theorem dX1_init_65 : decode cX1_init 65 = .ok (.putfield 31, 3) := by decide +kernel
theorem dX1_init_68 : decode cX1_init 68 = .ok (.aload_n 0, 1) := by decide +kernel
theorem dX1_init_69 : decode cX1_init 69 = .ok (.iconst 0, 1) := by decide +kernel
theorem dX1_init_70 : decode cX1_init 70 = .ok (.putfield 35, 3) := by decide +kernel
theorem dX1_init_73 : decode cX1_init 73 = .ok (.aload_n 0, 1) := by decide +kernel
theorem dX1_init_74 : decode cX1_init 74 = .ok (.sipush 328, 3) := by decide +kernel
theorem dX1_init_77 : decode cX1_init 77 = .ok (.newarray .long, 2) := by decide +kernel
theorem dX1_init_79 : decode cX1_init 79 = .ok (.putfield 38, 3) := by decide +kernel
theorem dX1_init_82 : decode cX1_init 82 = .ok (.aload_n 0, 1) := by decide +kernel
theorem dX1_init_83 : decode cX1_init 83 = .ok (.bipush 41, 2) := by decide +kernel
theorem dX1_init_85 : decode cX1_init 85 = .ok (.newarray .long, 2) := by decide +kernel
theorem dX1_init_87 : decode cX1_init 87 = .ok (.putfield 41, 3) := by decide +kernel
theorem dX1_init_90 : decode cX1_init 90 = .ok (.aload_n 0, 1) := by decide +kernel
theorem dX1_init_91 : decode cX1_init 91 = .ok (.sipush 300, 3) := by decide +kernel
theorem dX1_init_94 : decode cX1_init 94 = .ok (.newarray .int, 2) := by decide +kernel
theorem dX1_init_96 : decode cX1_init 96 = .ok (.putfield 44, 3) := by decide +kernel
theorem dX1_init_99 : decode cX1_init 99 = .ok (.aload_n 0, 1) := by decide +kernel
theorem dX1_init_100 : decode cX1_init 100 = .ok (.iconst 0, 1) := by decide +kernel
theorem dX1_init_101 : decode cX1_init 101 = .ok (.putfield 48, 3) := by decide +kernel
theorem dX1_init_104 : decode cX1_init 104 = .ok (.aload_n 0, 1) := by decide +kernel
theorem dX1_init_105 : decode cX1_init 105 = .ok (.sipush 328, 3) := by decide +kernel
theorem dX1_init_108 : decode cX1_init 108 = .ok (.newarray .int, 2) := by decide +kernel
theorem dX1_init_110 : decode cX1_init 110 = .ok (.putfield 51, 3) := by decide +kernel
theorem dX1_init_113 : decode cX1_init 113 = .ok (.aload_n 0, 1) := by decide +kernel
theorem dX1_init_114 : decode cX1_init 114 = .ok (.bipush 41, 2) := by decide +kernel
theorem dX1_init_116 : decode cX1_init 116 = .ok (.newarray .int, 2) := by decide +kernel
theorem dX1_init_118 : decode cX1_init 118 = .ok (.putfield 54, 3) := by decide +kernel
theorem dX1_init_121 : decode cX1_init 121 = .ok (.aload_n 0, 1) := by decide +kernel
theorem dX1_init_122 : decode cX1_init 122 = .ok (.new 57, 3) := by decide +kernel
theorem dX1_init_125 : decode cX1_init 125 = .ok (.dup, 1) := by decide +kernel
theorem dX1_init_126 : decode cX1_init 126 = .ok (.invokespecial 59, 3) := by decide +kernel
theorem dX1_init_129 : decode cX1_init 129 = .ok (.putfield 60, 3) := by decide +kernel
theorem dX1_init_132 : decode cX1_init 132 = .ok (.aload_n 0, 1) := by decide +kernel
theorem dX1_init_133 : decode cX1_init 133 = .ok (.lconst 0, 1) := by decide +kernel
theorem dX1_init_134 : decode cX1_init 134 = .ok (.putfield 64, 3) := by decide +kernel
theorem dX1_init_137 : decode cX1_init 137 = .ok (.return_, 1) := by decide +kernel
theorem dX1_node_0 : decode cX1_node 0 = .ok (.lload_n 1, 1) := by decide +kernel
theorem dX1_node_1 : decode cX1_node 1 = .ok (.lconst 1, 1) := by decide +kernel
theorem dX1_node_2 : decode cX1_node 2 = .ok (.lcmp, 1) := by decide +kernel
theorem dX1_node_3 : decode cX1_node 3 = .ok (.ifCond .lt 11, 3) := by decide +kernel
theorem dX1_node_6 : decode cX1_node 6 = .ok (.lload_n 1, 1) := by decide +kernel
theorem dX1_node_7 : decode cX1_node 7 = .ok (.ldc2_w 68, 3) := by decide +kernel
theorem dX1_node_10 : decode cX1_node 10 = .ok (.lcmp, 1) := by decide +kernel
theorem dX1_node_11 : decode cX1_node 11 = .ok (.ifCond .le 6, 3) := by decide +kernel
theorem dX1_node_14 : decode cX1_node 14 = .ok (.bipush (-102), 2) := by decide +kernel
theorem dX1_node_16 : decode cX1_node 16 = .ok (.ireturn, 1) := by decide +kernel
theorem dX1_node_17 : decode cX1_node 17 = .ok (.aload_n 0, 1) := by decide +kernel
theorem dX1_node_18 : decode cX1_node 18 = .ok (.getfield 31, 3) := by decide +kernel
theorem dX1_node_21 : decode cX1_node 21 = .ok (.bipush 8, 2) := by decide +kernel
theorem dX1_node_23 : decode cX1_node 23 = .ok (.if_icmp .lt 6, 3) := by decide +kernel
theorem dX1_node_26 : decode cX1_node 26 = .ok (.bipush (-104), 2) := by decide +kernel
theorem dX1_node_28 : decode cX1_node 28 = .ok (.ireturn, 1) := by decide +kernel
theorem dX1_node_29 : decode cX1_node 29 = .ok (.aload_n 0, 1) := by decide +kernel
theorem dX1_node_30 : decode cX1_node 30 = .ok (.getfield 21, 3) := by decide +kernel
theorem dX1_node_33 : decode cX1_node 33 = .ok (.aload_n 0, 1) := by decide +kernel
theorem dX1_node_34 : decode cX1_node 34 = .ok (.getfield 31, 3) := by decide +kernel
theorem dX1_node_37 : decode cX1_node 37 = .ok (.lload_n 1, 1) := by decide +kernel
theorem dX1_node_38 : decode cX1_node 38 = .ok (.lastore, 1) := by decide +kernel
theorem dX1_node_39 : decode cX1_node 39 = .ok (.aload_n 0, 1) := by decide +kernel
theorem dX1_node_40 : decode cX1_node 40 = .ok (.dup, 1) := by decide +kernel
theorem dX1_node_41 : decode cX1_node 41 = .ok (.getfield 31, 3) := by decide +kernel
theorem dX1_node_44 : decode cX1_node 44 = .ok (.iconst 1, 1) := by decide +kernel
theorem dX1_node_45 : decode cX1_node 45 = .ok (.iadd, 1) := by decide +kernel
theorem dX1_node_46 : decode cX1_node 46 = .ok (.putfield 31, 3) := by decide +kernel
theorem dX1_node_49 : decode cX1_node 49 = .ok (.aload_n 0, 1) := by decide +kernel
theorem dX1_node_50 : decode cX1_node 50 = .ok (.getfield 31, 3) := by decide +kernel
theorem dX1_node_53 : decode cX1_node 53 = .ok (.iconst 1, 1) := by decide +kernel
theorem dX1_node_54 : decode cX1_node 54 = .ok (.isub, 1) := by decide +kernel
theorem dX1_node_55 : decode cX1_node 55 = .ok (.ireturn, 1) := by decide +kernel
set_option maxRecDepth 20000 in
theorem ggX1_add_X1_isNode : GoodIn wsX1_add wsX1_isNode := goodIn_r _ [9, 10, 11, 12, 13, 14, 15, 16, 17, 18, 19, 20, 21, 22, 23, 24] (by decide +kernel) (by decide +kernel)
set_option maxRecDepth 20000 in
theorem gX1_add_X1_isNode : GoodIn wsX1_add (wsV RX1 70 RX1 yX1_isNode wsX1_isNode) := goodIn_app (goodIn_of _ (by decide +kernel)) ggX1_add_X1_isNode
theorem dX1_add_0 : decode cX1_add 0 = .ok (.aload_n 0, 1) := by decide +kernel
theorem dX1_add_1 : decode cX1_add 1 = .ok (.iload_n 1, 1) := by decide +kernel
theorem dX1_add_2 : decode cX1_add 2 = .ok (.invokevirtual 70, 3) := by decide +kernel
theorem dX1_add_5 : decode cX1_add 5 = .ok (.ifCond .ne 7, 3) := by decide +kernel
theorem dX1_add_8 : decode cX1_add 8 = .ok (.ldc2_w 74, 3) := by decide +kernel
theorem dX1_add_11 : decode cX1_add 11 = .ok (.lreturn, 1) := by decide +kernel
theorem dX1_add_12 : decode cX1_add 12 = .ok (.lload_n 2, 1) := by decide +kernel
theorem dX1_add_13 : decode cX1_add 13 = .ok (.lconst 1, 1) := by decide +kernel
theorem dX1_add_14 : decode cX1_add 14 = .ok (.lcmp, 1) := by decide +kernel
theorem dX1_add_15 : decode cX1_add 15 = .ok (.ifCond .lt 26, 3) := by decide +kernel
theorem dX1_add_18 : decode cX1_add 18 = .ok (.lload_n 2, 1) := by decide +kernel
theorem dX1_add_19 : decode cX1_add 19 = .ok (.ldc2_w 68, 3) := by decide +kernel
theorem dX1_add_22 : decode cX1_add 22 = .ok (.lcmp, 1) := by decide +kernel
theorem dX1_add_23 : decode cX1_add 23 = .ok (.ifCond .gt 18, 3) := by decide +kernel
theorem dX1_add_26 : decode cX1_add 26 = .ok (.aload_n 0, 1) := by decide +kernel
theorem dX1_add_27 : decode cX1_add 27 = .ok (.getfield 21, 3) := by decide +kernel
theorem dX1_add_30 : decode cX1_add 30 = .ok (.iload_n 1, 1) := by decide +kernel
theorem dX1_add_31 : decode cX1_add 31 = .ok (.laload, 1) := by decide +kernel
theorem dX1_add_32 : decode cX1_add 32 = .ok (.lload_n 2, 1) := by decide +kernel
theorem dX1_add_33 : decode cX1_add 33 = .ok (.ladd, 1) := by decide +kernel
theorem dX1_add_34 : decode cX1_add 34 = .ok (.ldc2_w 68, 3) := by decide +kernel
theorem dX1_add_37 : decode cX1_add 37 = .ok (.lcmp, 1) := by decide +kernel
theorem dX1_add_38 : decode cX1_add 38 = .ok (.ifCond .le 7, 3) := by decide +kernel
theorem dX1_add_41 : decode cX1_add 41 = .ok (.ldc2_w 76, 3) := by decide +kernel
theorem dX1_add_44 : decode cX1_add 44 = .ok (.lreturn, 1) := by decide +kernel
theorem dX1_add_45 : decode cX1_add 45 = .ok (.aload_n 0, 1) := by decide +kernel
theorem dX1_add_46 : decode cX1_add 46 = .ok (.getfield 21, 3) := by decide +kernel
theorem dX1_add_49 : decode cX1_add 49 = .ok (.iload_n 1, 1) := by decide +kernel
theorem dX1_add_50 : decode cX1_add 50 = .ok (.dup2, 1) := by decide +kernel
theorem dX1_add_51 : decode cX1_add 51 = .ok (.laload, 1) := by decide +kernel
theorem dX1_add_52 : decode cX1_add 52 = .ok (.lload_n 2, 1) := by decide +kernel
theorem dX1_add_53 : decode cX1_add 53 = .ok (.ladd, 1) := by decide +kernel
theorem dX1_add_54 : decode cX1_add 54 = .ok (.lastore, 1) := by decide +kernel
theorem dX1_add_55 : decode cX1_add 55 = .ok (.aload_n 0, 1) := by decide +kernel
theorem dX1_add_56 : decode cX1_add 56 = .ok (.getfield 21, 3) := by decide +kernel
theorem dX1_add_59 : decode cX1_add 59 = .ok (.iload_n 1, 1) := by decide +kernel
theorem dX1_add_60 : decode cX1_add 60 = .ok (.laload, 1) := by decide +kernel
theorem dX1_add_61 : decode cX1_add 61 = .ok (.lreturn, 1) := by decide +kernel
set_option maxRecDepth 20000 in
theorem ggX1_next_X1_weighNodes : GoodIn wsX1_next wsX1_weighNodes := goodIn_r _ [6, 7, 8, 9, 10, 11, 12, 13, 5, 14, 15, 16, 17, 18, 19, 20, 21, 22, 23, 24, 25, 26, 27, 28] (by decide +kernel) (by decide +kernel)
set_option maxRecDepth 20000 in
theorem gX1_next_X1_weighNodes : GoodIn wsX1_next (wsV RX1 78 RX1 yX1_weighNodes wsX1_weighNodes) := goodIn_app (goodIn_of _ (by decide +kernel)) ggX1_next_X1_weighNodes
theorem dX1_next_0 : decode cX1_next 0 = .ok (.aload_n 0, 1) := by decide +kernel
theorem dX1_next_1 : decode cX1_next 1 = .ok (.getfield 35, 3) := by decide +kernel
theorem dX1_next_4 : decode cX1_next 4 = .ok (.bipush 40, 2) := by decide +kernel
theorem dX1_next_6 : decode cX1_next 6 = .ok (.if_icmp .lt 6, 3) := by decide +kernel
theorem dX1_next_9 : decode cX1_next 9 = .ok (.bipush (-104), 2) := by decide +kernel
theorem dX1_next_11 : decode cX1_next 11 = .ok (.ireturn, 1) := by decide +kernel
theorem dX1_next_12 : decode cX1_next 12 = .ok (.aload_n 0, 1) := by decide +kernel
theorem dX1_next_13 : decode cX1_next 13 = .ok (.dup, 1) := by decide +kernel
theorem dX1_next_14 : decode cX1_next 14 = .ok (.getfield 35, 3) := by decide +kernel
theorem dX1_next_17 : decode cX1_next 17 = .ok (.iconst 1, 1) := by decide +kernel
theorem dX1_next_18 : decode cX1_next 18 = .ok (.iadd, 1) := by decide +kernel
theorem dX1_next_19 : decode cX1_next 19 = .ok (.putfield 35, 3) := by decide +kernel
theorem dX1_next_22 : decode cX1_next 22 = .ok (.aload_n 0, 1) := by decide +kernel
theorem dX1_next_23 : decode cX1_next 23 = .ok (.aload_n 0, 1) := by decide +kernel
theorem dX1_next_24 : decode cX1_next 24 = .ok (.getfield 35, 3) := by decide +kernel
theorem dX1_next_27 : decode cX1_next 27 = .ok (.invokevirtual 78, 3) := by decide +kernel
theorem dX1_next_30 : decode cX1_next 30 = .ok (.aload_n 0, 1) := by decide +kernel
theorem dX1_next_31 : decode cX1_next 31 = .ok (.getfield 35, 3) := by decide +kernel
theorem dX1_next_34 : decode cX1_next 34 = .ok (.ireturn, 1) := by decide +kernel
theorem dX1_set_0 : decode cX1_set 0 = .ok (.iload_n 1, 1) := by decide +kernel
theorem dX1_set_1 : decode cX1_set 1 = .ok (.ifCond .lt 28, 3) := by decide +kernel
theorem dX1_set_4 : decode cX1_set 4 = .ok (.iload_n 1, 1) := by decide +kernel
theorem dX1_set_5 : decode cX1_set 5 = .ok (.iconst 5, 1) := by decide +kernel
theorem dX1_set_6 : decode cX1_set 6 = .ok (.if_icmp .ge 23, 3) := by decide +kernel
theorem dX1_set_9 : decode cX1_set 9 = .ok (.lload_n 2, 1) := by decide +kernel
theorem dX1_set_10 : decode cX1_set 10 = .ok (.getstatic 82, 3) := by decide +kernel
theorem dX1_set_13 : decode cX1_set 13 = .ok (.iload_n 1, 1) := by decide +kernel
theorem dX1_set_14 : decode cX1_set 14 = .ok (.laload, 1) := by decide +kernel
theorem dX1_set_15 : decode cX1_set 15 = .ok (.lcmp, 1) := by decide +kernel
theorem dX1_set_16 : decode cX1_set 16 = .ok (.ifCond .lt 13, 3) := by decide +kernel
theorem dX1_set_19 : decode cX1_set 19 = .ok (.lload_n 2, 1) := by decide +kernel
theorem dX1_set_20 : decode cX1_set 20 = .ok (.getstatic 85, 3) := by decide +kernel
theorem dX1_set_23 : decode cX1_set 23 = .ok (.iload_n 1, 1) := by decide +kernel
theorem dX1_set_24 : decode cX1_set 24 = .ok (.laload, 1) := by decide +kernel
theorem dX1_set_25 : decode cX1_set 25 = .ok (.lcmp, 1) := by decide +kernel
theorem dX1_set_26 : decode cX1_set 26 = .ok (.ifCond .le 7, 3) := by decide +kernel
theorem dX1_set_29 : decode cX1_set 29 = .ok (.ldc2_w 76, 3) := by decide +kernel
theorem dX1_set_32 : decode cX1_set 32 = .ok (.lreturn, 1) := by decide +kernel
theorem dX1_set_33 : decode cX1_set 33 = .ok (.aload_n 0, 1) := by decide +kernel
theorem dX1_set_34 : decode cX1_set 34 = .ok (.getfield 17, 3) := by decide +kernel
theorem dX1_set_37 : decode cX1_set 37 = .ok (.iload_n 1, 1) := by decide +kernel
theorem dX1_set_38 : decode cX1_set 38 = .ok (.laload, 1) := by decide +kernel
theorem dX1_set_39 : decode cX1_set 39 = .ok (.lstore 4, 2) := by decide +kernel
theorem dX1_set_41 : decode cX1_set 41 = .ok (.aload_n 0, 1) := by decide +kernel
theorem dX1_set_42 : decode cX1_set 42 = .ok (.getfield 17, 3) := by decide +kernel
theorem dX1_set_45 : decode cX1_set 45 = .ok (.iload_n 1, 1) := by decide +kernel
theorem dX1_set_46 : decode cX1_set 46 = .ok (.lload_n 2, 1) := by decide +kernel
theorem dX1_set_47 : decode cX1_set 47 = .ok (.lastore, 1) := by decide +kernel
theorem dX1_set_48 : decode cX1_set 48 = .ok (.lload 4, 2) := by decide +kernel
theorem dX1_set_50 : decode cX1_set 50 = .ok (.lreturn, 1) := by decide +kernel
set_option maxRecDepth 20000 in
theorem ggX1_vote_X1_voteRefusal : GoodIn wsX1_vote wsX1_voteRefusal := goodIn_r _ [6, 7, 8, 9, 10, 5, 11, 12, 13, 14, 15, 16, 17, 18, 19, 20, 21, 22, 23, 24, 25, 26, 27, 72, 73, 74, 75, 76, 77, 78, 79, 80, 81, 82, 83, 84, 85] (by decide +kernel) (by decide +kernel)
set_option maxRecDepth 20000 in
theorem gX1_vote_X1_voteRefusal : GoodIn wsX1_vote (wsV RX1 88 RX1 yX1_voteRefusal wsX1_voteRefusal) := goodIn_app (goodIn_of _ (by decide +kernel)) ggX1_vote_X1_voteRefusal
set_option maxRecDepth 20000 in
theorem ggX1_vote_X1_packed : GoodIn wsX1_vote wsX1_packed := goodIn_r _ [30] (by decide +kernel) (by decide +kernel)
set_option maxRecDepth 20000 in
theorem gX1_vote_X1_packed : GoodIn wsX1_vote (va_wsS RX1 92 yX1_packed wsX1_packed) := goodIn_app (goodIn_of _ (by decide +kernel)) ggX1_vote_X1_packed
set_option maxRecDepth 20000 in
theorem ggX1_vote_X1_numberOf : GoodIn wsX1_vote wsX1_numberOf := goodIn_r _ [34, 1, 35, 72, 73, 74, 75, 76, 77, 78, 79, 80, 81, 82, 83, 84, 85] (by decide +kernel) (by decide +kernel)
set_option maxRecDepth 20000 in
theorem gX1_vote_X1_numberOf : GoodIn wsX1_vote (wsV RX1 95 RX1 yX1_numberOf wsX1_numberOf) := goodIn_app (goodIn_of _ (by decide +kernel)) ggX1_vote_X1_numberOf
set_option maxRecDepth 20000 in
theorem ggX1_vote_X1_keep : GoodIn wsX1_vote wsX1_keep := goodIn_r _ [39, 35, 1, 40, 41, 5, 42, 43, 44, 45, 46, 47, 48, 49, 7, 50, 51, 52, 25, 26, 27, 53, 54, 55, 56, 57, 58, 59, 60, 61, 62, 63, 64, 65, 66, 67, 68, 69, 70, 71, 72, 73, 74, 75, 76, 77, 78, 79, 80, 81, 82, 83, 84, 85] (by decide +kernel) (by decide +kernel)
set_option maxRecDepth 20000 in
theorem gX1_vote_X1_keep : GoodIn wsX1_vote (wsV RX1 99 RX1 yX1_keep wsX1_keep) := goodIn_app (goodIn_of _ (by decide +kernel)) ggX1_vote_X1_keep
theorem dX1_vote_0 : decode cX1_vote 0 = .ok (.aload_n 0, 1) := by decide +kernel
theorem dX1_vote_1 : decode cX1_vote 1 = .ok (.iload_n 1, 1) := by decide +kernel
theorem dX1_vote_2 : decode cX1_vote 2 = .ok (.iload_n 2, 1) := by decide +kernel
theorem dX1_vote_3 : decode cX1_vote 3 = .ok (.iload_n 3, 1) := by decide +kernel
theorem dX1_vote_4 : decode cX1_vote 4 = .ok (.iload 4, 2) := by decide +kernel
theorem dX1_vote_6 : decode cX1_vote 6 = .ok (.iload 5, 2) := by decide +kernel
theorem dX1_vote_8 : decode cX1_vote 8 = .ok (.invokevirtual 88, 3) := by decide +kernel
theorem dX1_vote_11 : decode cX1_vote 11 = .ok (.istore 6, 2) := by decide +kernel
theorem dX1_vote_13 : decode cX1_vote 13 = .ok (.iload 6, 2) := by decide +kernel
theorem dX1_vote_15 : decode cX1_vote 15 = .ok (.ifCond .eq 6, 3) := by decide +kernel
theorem dX1_vote_18 : decode cX1_vote 18 = .ok (.iload 6, 2) := by decide +kernel
theorem dX1_vote_20 : decode cX1_vote 20 = .ok (.ireturn, 1) := by decide +kernel
theorem dX1_vote_21 : decode cX1_vote 21 = .ok (.iload_n 1, 1) := by decide +kernel
theorem dX1_vote_22 : decode cX1_vote 22 = .ok (.iload_n 2, 1) := by decide +kernel
theorem dX1_vote_23 : decode cX1_vote 23 = .ok (.iload_n 3, 1) := by decide +kernel
theorem dX1_vote_24 : decode cX1_vote 24 = .ok (.iload 4, 2) := by decide +kernel
theorem dX1_vote_26 : decode cX1_vote 26 = .ok (.iload 5, 2) := by decide +kernel
theorem dX1_vote_28 : decode cX1_vote 28 = .ok (.invokestatic 92, 3) := by decide +kernel
theorem dX1_vote_31 : decode cX1_vote 31 = .ok (.istore 7, 2) := by decide +kernel
theorem dX1_vote_33 : decode cX1_vote 33 = .ok (.aload_n 0, 1) := by decide +kernel
theorem dX1_vote_34 : decode cX1_vote 34 = .ok (.iload 7, 2) := by decide +kernel
theorem dX1_vote_36 : decode cX1_vote 36 = .ok (.invokevirtual 95, 3) := by decide +kernel
theorem dX1_vote_39 : decode cX1_vote 39 = .ok (.istore 8, 2) := by decide +kernel
theorem dX1_vote_41 : decode cX1_vote 41 = .ok (.iload 8, 2) := by decide +kernel
theorem dX1_vote_43 : decode cX1_vote 43 = .ok (.iconst (-1), 1) := by decide +kernel
theorem dX1_vote_44 : decode cX1_vote 44 = .ok (.if_icmp .eq 6, 3) := by decide +kernel
theorem dX1_vote_47 : decode cX1_vote 47 = .ok (.iload 8, 2) := by decide +kernel
theorem dX1_vote_49 : decode cX1_vote 49 = .ok (.ireturn, 1) := by decide +kernel
theorem dX1_vote_50 : decode cX1_vote 50 = .ok (.aload_n 0, 1) := by decide +kernel
theorem dX1_vote_51 : decode cX1_vote 51 = .ok (.getfield 48, 3) := by decide +kernel
theorem dX1_vote_54 : decode cX1_vote 54 = .ok (.sipush 300, 3) := by decide +kernel
theorem dX1_vote_57 : decode cX1_vote 57 = .ok (.if_icmp .lt 6, 3) := by decide +kernel
theorem dX1_vote_60 : decode cX1_vote 60 = .ok (.bipush (-104), 2) := by decide +kernel
theorem dX1_vote_62 : decode cX1_vote 62 = .ok (.ireturn, 1) := by decide +kernel
theorem dX1_vote_63 : decode cX1_vote 63 = .ok (.aload_n 0, 1) := by decide +kernel
theorem dX1_vote_64 : decode cX1_vote 64 = .ok (.iload 7, 2) := by decide +kernel
theorem dX1_vote_66 : decode cX1_vote 66 = .ok (.invokevirtual 99, 3) := by decide +kernel
theorem dX1_vote_69 : decode cX1_vote 69 = .ok (.aload_n 0, 1) := by decide +kernel
theorem dX1_vote_70 : decode cX1_vote 70 = .ok (.getfield 48, 3) := by decide +kernel
theorem dX1_vote_73 : decode cX1_vote 73 = .ok (.iconst 1, 1) := by decide +kernel
theorem dX1_vote_74 : decode cX1_vote 74 = .ok (.isub, 1) := by decide +kernel
theorem dX1_vote_75 : decode cX1_vote 75 = .ok (.ireturn, 1) := by decide +kernel
set_option maxRecDepth 20000 in
theorem ggX1_may_X1_voteRefusal : GoodIn wsX1_may wsX1_voteRefusal := goodIn_r _ [5, 6, 7, 8, 9, 4, 10, 11, 12, 13, 14, 15, 16, 17, 18, 19, 20, 21, 22, 23, 24, 25, 26, 81, 82, 83, 84, 85, 86, 87, 88, 89, 90, 91, 92, 93, 94] (by decide +kernel) (by decide +kernel)
set_option maxRecDepth 20000 in
theorem gX1_may_X1_voteRefusal : GoodIn wsX1_may (wsV RX1 88 RX1 yX1_voteRefusal wsX1_voteRefusal) := goodIn_app (goodIn_of _ (by decide +kernel)) ggX1_may_X1_voteRefusal
set_option maxRecDepth 20000 in
theorem ggX1_may_X1_packed : GoodIn wsX1_may wsX1_packed := goodIn_r _ [29] (by decide +kernel) (by decide +kernel)
set_option maxRecDepth 20000 in
theorem gX1_may_X1_packed : GoodIn wsX1_may (va_wsS RX1 92 yX1_packed wsX1_packed) := goodIn_app (goodIn_of _ (by decide +kernel)) ggX1_may_X1_packed
set_option maxRecDepth 20000 in
theorem ggX1_may_X1_makesBreak : GoodIn wsX1_may wsX1_makesBreak := goodIn_r _ [33, 34, 35, 36, 37, 38, 4, 39, 40, 41, 42, 43, 44, 45, 46, 47, 48, 49, 50, 51, 52, 53, 54, 55, 56, 57, 58, 59, 60, 61, 62, 63, 64, 65, 66, 67, 68, 69, 70, 71, 72, 73, 74, 75, 76, 77, 78, 79, 80, 81, 82, 83, 84, 85, 86, 87, 88, 89, 90, 91, 92, 93, 94] (by decide +kernel) (by decide +kernel)
set_option maxRecDepth 20000 in
theorem gX1_may_X1_makesBreak : GoodIn wsX1_may (wsV RX1 102 RX1 yX1_makesBreak wsX1_makesBreak) := goodIn_app (goodIn_of _ (by decide +kernel)) ggX1_may_X1_makesBreak
theorem dX1_may_0 : decode cX1_may 0 = .ok (.aload_n 0, 1) := by decide +kernel
theorem dX1_may_1 : decode cX1_may 1 = .ok (.iload_n 1, 1) := by decide +kernel
theorem dX1_may_2 : decode cX1_may 2 = .ok (.iload_n 2, 1) := by decide +kernel
theorem dX1_may_3 : decode cX1_may 3 = .ok (.iload_n 3, 1) := by decide +kernel
theorem dX1_may_4 : decode cX1_may 4 = .ok (.iload 4, 2) := by decide +kernel
theorem dX1_may_6 : decode cX1_may 6 = .ok (.iload 5, 2) := by decide +kernel
theorem dX1_may_8 : decode cX1_may 8 = .ok (.invokevirtual 88, 3) := by decide +kernel
theorem dX1_may_11 : decode cX1_may 11 = .ok (.istore 6, 2) := by decide +kernel
theorem dX1_may_13 : decode cX1_may 13 = .ok (.iload 6, 2) := by decide +kernel
theorem dX1_may_15 : decode cX1_may 15 = .ok (.ifCond .eq 6, 3) := by decide +kernel
theorem dX1_may_18 : decode cX1_may 18 = .ok (.iload 6, 2) := by decide +kernel
theorem dX1_may_20 : decode cX1_may 20 = .ok (.ireturn, 1) := by decide +kernel
theorem dX1_may_21 : decode cX1_may 21 = .ok (.aload_n 0, 1) := by decide +kernel
theorem dX1_may_22 : decode cX1_may 22 = .ok (.iload_n 1, 1) := by decide +kernel
theorem dX1_may_23 : decode cX1_may 23 = .ok (.iload_n 2, 1) := by decide +kernel
theorem dX1_may_24 : decode cX1_may 24 = .ok (.iload_n 3, 1) := by decide +kernel
theorem dX1_may_25 : decode cX1_may 25 = .ok (.iload 4, 2) := by decide +kernel
theorem dX1_may_27 : decode cX1_may 27 = .ok (.iload 5, 2) := by decide +kernel
theorem dX1_may_29 : decode cX1_may 29 = .ok (.invokestatic 92, 3) := by decide +kernel
theorem dX1_may_32 : decode cX1_may 32 = .ok (.invokevirtual 102, 3) := by decide +kernel
theorem dX1_may_35 : decode cX1_may 35 = .ok (.ifCond .eq 7, 3) := by decide +kernel
theorem dX1_may_38 : decode cX1_may 38 = .ok (.iconst 0, 1) := by decide +kernel
theorem dX1_may_39 : decode cX1_may 39 = .ok (.goto 4, 3) := by decide +kernel
theorem dX1_may_42 : decode cX1_may 42 = .ok (.iconst 1, 1) := by decide +kernel
theorem dX1_may_43 : decode cX1_may 43 = .ok (.ireturn, 1) := by decide +kernel
set_option maxRecDepth 20000 in
theorem ggX1_accuse_X1_accuseRefusal : GoodIn wsX1_accuse wsX1_accuseRefusal := goodIn_r _ [12, 13, 14, 15, 16, 17, 18, 11, 19, 20, 21, 22, 23, 24, 25, 26, 27, 28, 29, 30, 31, 32, 33, 34, 35, 36, 37, 38, 39, 40, 41, 42, 43, 44, 45, 46, 47, 48, 49, 50, 51, 52, 53, 54, 55, 56, 57, 58, 59, 60, 61, 62, 63, 64, 65, 66, 67, 68, 69, 70, 71, 72, 73, 74, 75, 76, 77, 78, 79, 80, 81, 82, 83, 84, 85, 86, 87, 88, 89, 90, 91, 92, 93, 94, 95, 96, 97, 98, 99, 100, 101, 102, 103, 104, 105, 106, 107, 108, 109, 110, 111, 112, 113, 114, 191, 192, 193, 194, 195, 196, 197, 198, 199, 200, 201, 202, 203, 204, 205, 206, 207, 208, 209, 210, 211, 212, 213, 214] (by decide +kernel) (by decide +kernel)
set_option maxRecDepth 20000 in
theorem gX1_accuse_X1_accuseRefusal : GoodIn wsX1_accuse (wsV RX1 105 RX1 yX1_accuseRefusal wsX1_accuseRefusal) := goodIn_app (goodIn_of _ (by decide +kernel)) ggX1_accuse_X1_accuseRefusal
set_option maxRecDepth 20000 in
theorem ggX1_accuse_X1_take : GoodIn wsX1_accuse wsX1_take := goodIn_r _ [118, 13, 119, 15, 120, 121, 122, 123, 124, 90, 125, 126, 127, 14, 128, 129, 11, 130, 131, 132, 133, 134, 135, 136, 137, 138, 139, 140, 141, 142, 143, 144, 145, 95, 146, 147, 148, 114, 97, 149, 150, 151, 152, 153, 154, 155, 156, 157, 158, 159, 160, 161, 162, 6, 3, 7, 163, 164, 165, 166, 167, 168, 169, 170, 171, 172, 173, 174, 175, 176, 177, 178, 179, 180, 181, 182, 183, 184, 185, 186, 2, 4, 187, 188, 189, 190, 191, 192, 193, 194, 195, 196, 197, 198, 199, 200, 201, 202, 203, 204, 205, 206, 207, 208, 209, 210, 211, 212, 213, 214] (by decide +kernel) (by decide +kernel)
set_option maxRecDepth 20000 in
theorem gX1_accuse_X1_take : GoodIn wsX1_accuse (wsV RX1 118 RX1 yX1_take wsX1_take) := goodIn_app (goodIn_of _ (by decide +kernel)) ggX1_accuse_X1_take
theorem dX1_accuse_0 : decode cX1_accuse 0 = .ok (.aload_n 0, 1) := by decide +kernel
theorem dX1_accuse_1 : decode cX1_accuse 1 = .ok (.iload_n 1, 1) := by decide +kernel
theorem dX1_accuse_2 : decode cX1_accuse 2 = .ok (.iload_n 2, 1) := by decide +kernel
theorem dX1_accuse_3 : decode cX1_accuse 3 = .ok (.iload_n 3, 1) := by decide +kernel
theorem dX1_accuse_4 : decode cX1_accuse 4 = .ok (.iload 4, 2) := by decide +kernel
theorem dX1_accuse_6 : decode cX1_accuse 6 = .ok (.invokevirtual 105, 3) := by decide +kernel
theorem dX1_accuse_9 : decode cX1_accuse 9 = .ok (.istore 5, 2) := by decide +kernel
theorem dX1_accuse_11 : decode cX1_accuse 11 = .ok (.iload 5, 2) := by decide +kernel
theorem dX1_accuse_13 : decode cX1_accuse 13 = .ok (.ifCond .eq 7, 3) := by decide +kernel
theorem dX1_accuse_16 : decode cX1_accuse 16 = .ok (.iload 5, 2) := by decide +kernel
theorem dX1_accuse_18 : decode cX1_accuse 18 = .ok (.i2l, 1) := by decide +kernel
theorem dX1_accuse_19 : decode cX1_accuse 19 = .ok (.lreturn, 1) := by decide +kernel
theorem dX1_accuse_20 : decode cX1_accuse 20 = .ok (.iload_n 1, 1) := by decide +kernel
theorem dX1_accuse_21 : decode cX1_accuse 21 = .ok (.ifCond .ne 21, 3) := by decide +kernel
theorem dX1_accuse_24 : decode cX1_accuse 24 = .ok (.aload_n 0, 1) := by decide +kernel
theorem dX1_accuse_25 : decode cX1_accuse 25 = .ok (.iload_n 1, 1) := by decide +kernel
theorem dX1_accuse_26 : decode cX1_accuse 26 = .ok (.iload_n 2, 1) := by decide +kernel
theorem dX1_accuse_27 : decode cX1_accuse 27 = .ok (.iload_n 3, 1) := by decide +kernel
theorem dX1_accuse_28 : decode cX1_accuse 28 = .ok (.invokestatic 109, 3) := by decide +kernel
theorem dX1_accuse_31 : decode cX1_accuse 31 = .ok (.iload_n 2, 1) := by decide +kernel
theorem dX1_accuse_32 : decode cX1_accuse 32 = .ok (.iload_n 3, 1) := by decide +kernel
theorem dX1_accuse_33 : decode cX1_accuse 33 = .ok (.invokestatic 115, 3) := by decide +kernel
theorem dX1_accuse_36 : decode cX1_accuse 36 = .ok (.iload 4, 2) := by decide +kernel
theorem dX1_accuse_38 : decode cX1_accuse 38 = .ok (.invokevirtual 118, 3) := by decide +kernel
theorem dX1_accuse_41 : decode cX1_accuse 41 = .ok (.lreturn, 1) := by decide +kernel
theorem dX1_accuse_42 : decode cX1_accuse 42 = .ok (.aload_n 0, 1) := by decide +kernel
theorem dX1_accuse_43 : decode cX1_accuse 43 = .ok (.iload_n 1, 1) := by decide +kernel
theorem dX1_accuse_44 : decode cX1_accuse 44 = .ok (.iload_n 2, 1) := by decide +kernel
theorem dX1_accuse_45 : decode cX1_accuse 45 = .ok (.iload_n 1, 1) := by decide +kernel
theorem dX1_accuse_46 : decode cX1_accuse 46 = .ok (.iconst 2, 1) := by decide +kernel
theorem dX1_accuse_47 : decode cX1_accuse 47 = .ok (.if_icmp .ne 7, 3) := by decide +kernel
theorem dX1_accuse_50 : decode cX1_accuse 50 = .ok (.iconst (-1), 1) := by decide +kernel
theorem dX1_accuse_51 : decode cX1_accuse 51 = .ok (.goto 4, 3) := by decide +kernel
theorem dX1_accuse_54 : decode cX1_accuse 54 = .ok (.iload_n 3, 1) := by decide +kernel
theorem dX1_accuse_55 : decode cX1_accuse 55 = .ok (.iload 4, 2) := by decide +kernel
theorem dX1_accuse_57 : decode cX1_accuse 57 = .ok (.invokevirtual 118, 3) := by decide +kernel
theorem dX1_accuse_60 : decode cX1_accuse 60 = .ok (.lreturn, 1) := by decide +kernel
set_option maxRecDepth 20000 in
theorem ggX1_about_Jx4a65c_size_8abf5 : GoodIn wsX1_about wsJx4a65c_size_8abf5 := goodIn_r _ [12, 13, 28, 29, 30] (by decide +kernel) (by decide +kernel)
set_option maxRecDepth 20000 in
theorem gX1_about_Jx4a65c_size_8abf5 : GoodIn wsX1_about (wsV RX1 122 RJx4a65c yJx4a65c_size_8abf5 wsJx4a65c_size_8abf5) := goodIn_app (goodIn_of _ (by decide +kernel)) ggX1_about_Jx4a65c_size_8abf5
theorem dX1_about_0 : decode cX1_about 0 = .ok (.iload_n 1, 1) := by decide +kernel
theorem dX1_about_1 : decode cX1_about 1 = .ok (.tableswitch 122 0 9 #[55, 61, 67, 73, 82, 87, 94, 101, 108, 115], 55) := by decide +kernel
theorem dX1_about_56 : decode cX1_about 56 = .ok (.aload_n 0, 1) := by decide +kernel
theorem dX1_about_57 : decode cX1_about 57 = .ok (.getfield 35, 3) := by decide +kernel
theorem dX1_about_60 : decode cX1_about 60 = .ok (.i2l, 1) := by decide +kernel
theorem dX1_about_61 : decode cX1_about 61 = .ok (.lreturn, 1) := by decide +kernel
theorem dX1_about_62 : decode cX1_about 62 = .ok (.aload_n 0, 1) := by decide +kernel
theorem dX1_about_63 : decode cX1_about 63 = .ok (.getfield 31, 3) := by decide +kernel
theorem dX1_about_66 : decode cX1_about 66 = .ok (.i2l, 1) := by decide +kernel
theorem dX1_about_67 : decode cX1_about 67 = .ok (.lreturn, 1) := by decide +kernel
theorem dX1_about_68 : decode cX1_about 68 = .ok (.aload_n 0, 1) := by decide +kernel
theorem dX1_about_69 : decode cX1_about 69 = .ok (.getfield 48, 3) := by decide +kernel
theorem dX1_about_72 : decode cX1_about 72 = .ok (.i2l, 1) := by decide +kernel
theorem dX1_about_73 : decode cX1_about 73 = .ok (.lreturn, 1) := by decide +kernel
theorem dX1_about_74 : decode cX1_about 74 = .ok (.aload_n 0, 1) := by decide +kernel
theorem dX1_about_75 : decode cX1_about 75 = .ok (.getfield 60, 3) := by decide +kernel
theorem dX1_about_78 : decode cX1_about 78 = .ok (.invokevirtual 122, 3) := by decide +kernel
theorem dX1_about_81 : decode cX1_about 81 = .ok (.i2l, 1) := by decide +kernel
theorem dX1_about_82 : decode cX1_about 82 = .ok (.lreturn, 1) := by decide +kernel
theorem dX1_about_83 : decode cX1_about 83 = .ok (.aload_n 0, 1) := by decide +kernel
theorem dX1_about_84 : decode cX1_about 84 = .ok (.getfield 64, 3) := by decide +kernel
theorem dX1_about_87 : decode cX1_about 87 = .ok (.lreturn, 1) := by decide +kernel
theorem dX1_about_88 : decode cX1_about 88 = .ok (.aload_n 0, 1) := by decide +kernel
theorem dX1_about_89 : decode cX1_about 89 = .ok (.getfield 17, 3) := by decide +kernel
theorem dX1_about_92 : decode cX1_about 92 = .ok (.iconst 0, 1) := by decide +kernel
theorem dX1_about_93 : decode cX1_about 93 = .ok (.laload, 1) := by decide +kernel
theorem dX1_about_94 : decode cX1_about 94 = .ok (.lreturn, 1) := by decide +kernel
theorem dX1_about_95 : decode cX1_about 95 = .ok (.aload_n 0, 1) := by decide +kernel
theorem dX1_about_96 : decode cX1_about 96 = .ok (.getfield 17, 3) := by decide +kernel
theorem dX1_about_99 : decode cX1_about 99 = .ok (.iconst 1, 1) := by decide +kernel
theorem dX1_about_100 : decode cX1_about 100 = .ok (.laload, 1) := by decide +kernel
theorem dX1_about_101 : decode cX1_about 101 = .ok (.lreturn, 1) := by decide +kernel
theorem dX1_about_102 : decode cX1_about 102 = .ok (.aload_n 0, 1) := by decide +kernel
theorem dX1_about_103 : decode cX1_about 103 = .ok (.getfield 17, 3) := by decide +kernel
theorem dX1_about_106 : decode cX1_about 106 = .ok (.iconst 2, 1) := by decide +kernel
theorem dX1_about_107 : decode cX1_about 107 = .ok (.laload, 1) := by decide +kernel
theorem dX1_about_108 : decode cX1_about 108 = .ok (.lreturn, 1) := by decide +kernel
theorem dX1_about_109 : decode cX1_about 109 = .ok (.aload_n 0, 1) := by decide +kernel
theorem dX1_about_110 : decode cX1_about 110 = .ok (.getfield 17, 3) := by decide +kernel
theorem dX1_about_113 : decode cX1_about 113 = .ok (.iconst 3, 1) := by decide +kernel
theorem dX1_about_114 : decode cX1_about 114 = .ok (.laload, 1) := by decide +kernel
theorem dX1_about_115 : decode cX1_about 115 = .ok (.lreturn, 1) := by decide +kernel
theorem dX1_about_116 : decode cX1_about 116 = .ok (.aload_n 0, 1) := by decide +kernel
theorem dX1_about_117 : decode cX1_about 117 = .ok (.getfield 17, 3) := by decide +kernel
theorem dX1_about_120 : decode cX1_about 120 = .ok (.iconst 4, 1) := by decide +kernel
theorem dX1_about_121 : decode cX1_about 121 = .ok (.laload, 1) := by decide +kernel
theorem dX1_about_122 : decode cX1_about 122 = .ok (.lreturn, 1) := by decide +kernel
theorem dX1_about_123 : decode cX1_about 123 = .ok (.ldc2_w 76, 3) := by decide +kernel
theorem dX1_about_126 : decode cX1_about 126 = .ok (.lreturn, 1) := by decide +kernel
set_option maxRecDepth 20000 in
theorem ggX1_holds_X1_isNode : GoodIn wsX1_holds wsX1_isNode := goodIn_r _ [10, 11, 45, 46, 47, 48, 49, 50, 51, 52, 53, 54, 55, 56, 57, 58] (by decide +kernel) (by decide +kernel)
set_option maxRecDepth 20000 in
theorem gX1_holds_X1_isNode : GoodIn wsX1_holds (wsV RX1 70 RX1 yX1_isNode wsX1_isNode) := goodIn_app (goodIn_of _ (by decide +kernel)) ggX1_holds_X1_isNode
set_option maxRecDepth 20000 in
theorem ggX1_holds_X1_countTakenOf : GoodIn wsX1_holds wsX1_countTakenOf := goodIn_r _ [15, 16, 17, 18, 19, 20, 21, 22, 23, 24, 25, 26, 27, 28, 29, 30, 31, 32, 33, 34, 35, 36, 37, 38, 39, 40, 41, 42, 43, 9, 44, 45, 46, 47, 48, 49, 50, 51, 52, 53, 54, 55, 56, 57, 58, 59, 60, 61, 62, 63, 64, 65, 66, 67, 68] (by decide +kernel) (by decide +kernel)
set_option maxRecDepth 20000 in
theorem gX1_holds_X1_countTakenOf : GoodIn wsX1_holds (wsV RX1 126 RX1 yX1_countTakenOf wsX1_countTakenOf) := goodIn_app (goodIn_of _ (by decide +kernel)) ggX1_holds_X1_countTakenOf
theorem dX1_holds_0 : decode cX1_holds 0 = .ok (.aload_n 0, 1) := by decide +kernel
theorem dX1_holds_1 : decode cX1_holds 1 = .ok (.iload_n 1, 1) := by decide +kernel
theorem dX1_holds_2 : decode cX1_holds 2 = .ok (.invokevirtual 70, 3) := by decide +kernel
theorem dX1_holds_5 : decode cX1_holds 5 = .ok (.ifCond .ne 7, 3) := by decide +kernel
theorem dX1_holds_8 : decode cX1_holds 8 = .ok (.ldc2_w 74, 3) := by decide +kernel
theorem dX1_holds_11 : decode cX1_holds 11 = .ok (.lreturn, 1) := by decide +kernel
theorem dX1_holds_12 : decode cX1_holds 12 = .ok (.iload_n 2, 1) := by decide +kernel
theorem dX1_holds_13 : decode cX1_holds 13 = .ok (.tableswitch 67 0 3 #[31, 38, 45, 60], 31) := by decide +kernel
theorem dX1_holds_44 : decode cX1_holds 44 = .ok (.aload_n 0, 1) := by decide +kernel
theorem dX1_holds_45 : decode cX1_holds 45 = .ok (.getfield 21, 3) := by decide +kernel
theorem dX1_holds_48 : decode cX1_holds 48 = .ok (.iload_n 1, 1) := by decide +kernel
theorem dX1_holds_49 : decode cX1_holds 49 = .ok (.laload, 1) := by decide +kernel
theorem dX1_holds_50 : decode cX1_holds 50 = .ok (.lreturn, 1) := by decide +kernel
theorem dX1_holds_51 : decode cX1_holds 51 = .ok (.aload_n 0, 1) := by decide +kernel
theorem dX1_holds_52 : decode cX1_holds 52 = .ok (.getfield 24, 3) := by decide +kernel
theorem dX1_holds_55 : decode cX1_holds 55 = .ok (.iload_n 1, 1) := by decide +kernel
theorem dX1_holds_56 : decode cX1_holds 56 = .ok (.laload, 1) := by decide +kernel
theorem dX1_holds_57 : decode cX1_holds 57 = .ok (.lreturn, 1) := by decide +kernel
theorem dX1_holds_58 : decode cX1_holds 58 = .ok (.aload_n 0, 1) := by decide +kernel
theorem dX1_holds_59 : decode cX1_holds 59 = .ok (.getfield 27, 3) := by decide +kernel
theorem dX1_holds_62 : decode cX1_holds 62 = .ok (.iload_n 1, 1) := by decide +kernel
theorem dX1_holds_63 : decode cX1_holds 63 = .ok (.baload, 1) := by decide +kernel
theorem dX1_holds_64 : decode cX1_holds 64 = .ok (.ifCond .eq 7, 3) := by decide +kernel
theorem dX1_holds_67 : decode cX1_holds 67 = .ok (.lconst 1, 1) := by decide +kernel
theorem dX1_holds_68 : decode cX1_holds 68 = .ok (.goto 4, 3) := by decide +kernel
theorem dX1_holds_71 : decode cX1_holds 71 = .ok (.lconst 0, 1) := by decide +kernel
theorem dX1_holds_72 : decode cX1_holds 72 = .ok (.lreturn, 1) := by decide +kernel
theorem dX1_holds_73 : decode cX1_holds 73 = .ok (.aload_n 0, 1) := by decide +kernel
theorem dX1_holds_74 : decode cX1_holds 74 = .ok (.iload_n 1, 1) := by decide +kernel
theorem dX1_holds_75 : decode cX1_holds 75 = .ok (.invokevirtual 126, 3) := by decide +kernel
theorem dX1_holds_78 : decode cX1_holds 78 = .ok (.i2l, 1) := by decide +kernel
theorem dX1_holds_79 : decode cX1_holds 79 = .ok (.lreturn, 1) := by decide +kernel
theorem dX1_holds_80 : decode cX1_holds 80 = .ok (.ldc2_w 76, 3) := by decide +kernel
theorem dX1_holds_83 : decode cX1_holds 83 = .ok (.lreturn, 1) := by decide +kernel
set_option maxRecDepth 20000 in
theorem ggX1_said_X1_isVote : GoodIn wsX1_said wsX1_isVote := goodIn_r _ [6, 7, 23, 24, 25, 26, 27, 28, 29, 30, 31, 32, 33, 34, 35, 36] (by decide +kernel) (by decide +kernel)
set_option maxRecDepth 20000 in
theorem gX1_said_X1_isVote : GoodIn wsX1_said (wsV RX1 129 RX1 yX1_isVote wsX1_isVote) := goodIn_app (goodIn_of _ (by decide +kernel)) ggX1_said_X1_isVote
set_option maxRecDepth 20000 in
theorem ggX1_said_X1_nodeOf : GoodIn wsX1_said wsX1_nodeOf := goodIn_r _ [10] (by decide +kernel) (by decide +kernel)
set_option maxRecDepth 20000 in
theorem gX1_said_X1_nodeOf : GoodIn wsX1_said (va_wsS RX1 132 yX1_nodeOf wsX1_nodeOf) := goodIn_app (goodIn_of _ (by decide +kernel)) ggX1_said_X1_nodeOf
set_option maxRecDepth 20000 in
theorem ggX1_said_X1_heightOf : GoodIn wsX1_said wsX1_heightOf := goodIn_r _ [13] (by decide +kernel) (by decide +kernel)
set_option maxRecDepth 20000 in
theorem gX1_said_X1_heightOf : GoodIn wsX1_said (va_wsS RX1 135 yX1_heightOf wsX1_heightOf) := goodIn_app (goodIn_of _ (by decide +kernel)) ggX1_said_X1_heightOf
set_option maxRecDepth 20000 in
theorem ggX1_said_X1_roundOf : GoodIn wsX1_said wsX1_roundOf := goodIn_r _ [16] (by decide +kernel) (by decide +kernel)
set_option maxRecDepth 20000 in
theorem gX1_said_X1_roundOf : GoodIn wsX1_said (va_wsS RX1 138 yX1_roundOf wsX1_roundOf) := goodIn_app (goodIn_of _ (by decide +kernel)) ggX1_said_X1_roundOf
set_option maxRecDepth 20000 in
theorem ggX1_said_X1_stepOf : GoodIn wsX1_said wsX1_stepOf := goodIn_r _ [19] (by decide +kernel) (by decide +kernel)
set_option maxRecDepth 20000 in
theorem gX1_said_X1_stepOf : GoodIn wsX1_said (va_wsS RX1 141 yX1_stepOf wsX1_stepOf) := goodIn_app (goodIn_of _ (by decide +kernel)) ggX1_said_X1_stepOf
set_option maxRecDepth 20000 in
theorem ggX1_said_X1_blockOf : GoodIn wsX1_said wsX1_blockOf := goodIn_r _ [22] (by decide +kernel) (by decide +kernel)
set_option maxRecDepth 20000 in
theorem gX1_said_X1_blockOf : GoodIn wsX1_said (va_wsS RX1 144 yX1_blockOf wsX1_blockOf) := goodIn_app (goodIn_of _ (by decide +kernel)) ggX1_said_X1_blockOf
theorem dX1_said_0 : decode cX1_said 0 = .ok (.aload_n 0, 1) := by decide +kernel
theorem dX1_said_1 : decode cX1_said 1 = .ok (.iload_n 1, 1) := by decide +kernel
theorem dX1_said_2 : decode cX1_said 2 = .ok (.invokevirtual 129, 3) := by decide +kernel
theorem dX1_said_5 : decode cX1_said 5 = .ok (.ifCond .ne 6, 3) := by decide +kernel
theorem dX1_said_8 : decode cX1_said 8 = .ok (.bipush (-101), 2) := by decide +kernel
theorem dX1_said_10 : decode cX1_said 10 = .ok (.ireturn, 1) := by decide +kernel
theorem dX1_said_11 : decode cX1_said 11 = .ok (.iload_n 2, 1) := by decide +kernel
theorem dX1_said_12 : decode cX1_said 12 = .ok (.tableswitch 86 0 4 #[36, 46, 56, 66, 76], 36) := by decide +kernel
theorem dX1_said_48 : decode cX1_said 48 = .ok (.aload_n 0, 1) := by decide +kernel
theorem dX1_said_49 : decode cX1_said 49 = .ok (.getfield 44, 3) := by decide +kernel
theorem dX1_said_52 : decode cX1_said 52 = .ok (.iload_n 1, 1) := by decide +kernel
theorem dX1_said_53 : decode cX1_said 53 = .ok (.iaload, 1) := by decide +kernel
theorem dX1_said_54 : decode cX1_said 54 = .ok (.invokestatic 132, 3) := by decide +kernel
theorem dX1_said_57 : decode cX1_said 57 = .ok (.ireturn, 1) := by decide +kernel
theorem dX1_said_58 : decode cX1_said 58 = .ok (.aload_n 0, 1) := by decide +kernel
theorem dX1_said_59 : decode cX1_said 59 = .ok (.getfield 44, 3) := by decide +kernel
theorem dX1_said_62 : decode cX1_said 62 = .ok (.iload_n 1, 1) := by decide +kernel
theorem dX1_said_63 : decode cX1_said 63 = .ok (.iaload, 1) := by decide +kernel
theorem dX1_said_64 : decode cX1_said 64 = .ok (.invokestatic 135, 3) := by decide +kernel
theorem dX1_said_67 : decode cX1_said 67 = .ok (.ireturn, 1) := by decide +kernel
theorem dX1_said_68 : decode cX1_said 68 = .ok (.aload_n 0, 1) := by decide +kernel
theorem dX1_said_69 : decode cX1_said 69 = .ok (.getfield 44, 3) := by decide +kernel
theorem dX1_said_72 : decode cX1_said 72 = .ok (.iload_n 1, 1) := by decide +kernel
theorem dX1_said_73 : decode cX1_said 73 = .ok (.iaload, 1) := by decide +kernel
theorem dX1_said_74 : decode cX1_said 74 = .ok (.invokestatic 138, 3) := by decide +kernel
theorem dX1_said_77 : decode cX1_said 77 = .ok (.ireturn, 1) := by decide +kernel
theorem dX1_said_78 : decode cX1_said 78 = .ok (.aload_n 0, 1) := by decide +kernel
theorem dX1_said_79 : decode cX1_said 79 = .ok (.getfield 44, 3) := by decide +kernel
theorem dX1_said_82 : decode cX1_said 82 = .ok (.iload_n 1, 1) := by decide +kernel
theorem dX1_said_83 : decode cX1_said 83 = .ok (.iaload, 1) := by decide +kernel
theorem dX1_said_84 : decode cX1_said 84 = .ok (.invokestatic 141, 3) := by decide +kernel
theorem dX1_said_87 : decode cX1_said 87 = .ok (.ireturn, 1) := by decide +kernel
theorem dX1_said_88 : decode cX1_said 88 = .ok (.aload_n 0, 1) := by decide +kernel
theorem dX1_said_89 : decode cX1_said 89 = .ok (.getfield 44, 3) := by decide +kernel
theorem dX1_said_92 : decode cX1_said 92 = .ok (.iload_n 1, 1) := by decide +kernel
theorem dX1_said_93 : decode cX1_said 93 = .ok (.iaload, 1) := by decide +kernel
theorem dX1_said_94 : decode cX1_said 94 = .ok (.invokestatic 144, 3) := by decide +kernel
theorem dX1_said_97 : decode cX1_said 97 = .ok (.ireturn, 1) := by decide +kernel
theorem dX1_said_98 : decode cX1_said 98 = .ok (.bipush (-102), 2) := by decide +kernel
theorem dX1_said_100 : decode cX1_said 100 = .ok (.ireturn, 1) := by decide +kernel
set_option maxRecDepth 20000 in
theorem ggX1_weight_X1_isNodeOrNone : GoodIn wsX1_weight wsX1_isNodeOrNone := goodIn_r _ [9, 10, 11, 12, 8, 13, 14, 23, 24, 25, 26, 27, 28, 29, 30, 31, 32, 33, 34, 35, 36] (by decide +kernel) (by decide +kernel)
set_option maxRecDepth 20000 in
theorem gX1_weight_X1_isNodeOrNone : GoodIn wsX1_weight (wsV RX1 147 RX1 yX1_isNodeOrNone wsX1_isNodeOrNone) := goodIn_app (goodIn_of _ (by decide +kernel)) ggX1_weight_X1_isNodeOrNone
set_option maxRecDepth 20000 in
theorem ggX1_weight_X1_hasBegun : GoodIn wsX1_weight wsX1_hasBegun := goodIn_r _ [18, 19, 23, 24, 25, 26, 27, 28, 29, 30, 31, 32, 33, 34, 35, 36] (by decide +kernel) (by decide +kernel)
set_option maxRecDepth 20000 in
theorem gX1_weight_X1_hasBegun : GoodIn wsX1_weight (wsV RX1 150 RX1 yX1_hasBegun wsX1_hasBegun) := goodIn_app (goodIn_of _ (by decide +kernel)) ggX1_weight_X1_hasBegun
set_option maxRecDepth 20000 in
theorem ggX1_weight_X1_weightIndex : GoodIn wsX1_weight wsX1_weightIndex := goodIn_r _ [22] (by decide +kernel) (by decide +kernel)
set_option maxRecDepth 20000 in
theorem gX1_weight_X1_weightIndex : GoodIn wsX1_weight (va_wsS RX1 153 yX1_weightIndex wsX1_weightIndex) := goodIn_app (goodIn_of _ (by decide +kernel)) ggX1_weight_X1_weightIndex
theorem dX1_weight_0 : decode cX1_weight 0 = .ok (.aload_n 0, 1) := by decide +kernel
theorem dX1_weight_1 : decode cX1_weight 1 = .ok (.iload_n 2, 1) := by decide +kernel
theorem dX1_weight_2 : decode cX1_weight 2 = .ok (.invokevirtual 147, 3) := by decide +kernel
theorem dX1_weight_5 : decode cX1_weight 5 = .ok (.ifCond .ne 7, 3) := by decide +kernel
theorem dX1_weight_8 : decode cX1_weight 8 = .ok (.ldc2_w 74, 3) := by decide +kernel
theorem dX1_weight_11 : decode cX1_weight 11 = .ok (.lreturn, 1) := by decide +kernel
theorem dX1_weight_12 : decode cX1_weight 12 = .ok (.aload_n 0, 1) := by decide +kernel
theorem dX1_weight_13 : decode cX1_weight 13 = .ok (.iload_n 1, 1) := by decide +kernel
theorem dX1_weight_14 : decode cX1_weight 14 = .ok (.invokevirtual 150, 3) := by decide +kernel
theorem dX1_weight_17 : decode cX1_weight 17 = .ok (.ifCond .ne 7, 3) := by decide +kernel
theorem dX1_weight_20 : decode cX1_weight 20 = .ok (.ldc2_w 76, 3) := by decide +kernel
theorem dX1_weight_23 : decode cX1_weight 23 = .ok (.lreturn, 1) := by decide +kernel
theorem dX1_weight_24 : decode cX1_weight 24 = .ok (.iload_n 2, 1) := by decide +kernel
theorem dX1_weight_25 : decode cX1_weight 25 = .ok (.iconst (-1), 1) := by decide +kernel
theorem dX1_weight_26 : decode cX1_weight 26 = .ok (.if_icmp .ne 12, 3) := by decide +kernel
theorem dX1_weight_29 : decode cX1_weight 29 = .ok (.aload_n 0, 1) := by decide +kernel
theorem dX1_weight_30 : decode cX1_weight 30 = .ok (.getfield 41, 3) := by decide +kernel
theorem dX1_weight_33 : decode cX1_weight 33 = .ok (.iload_n 1, 1) := by decide +kernel
theorem dX1_weight_34 : decode cX1_weight 34 = .ok (.laload, 1) := by decide +kernel
theorem dX1_weight_35 : decode cX1_weight 35 = .ok (.goto 13, 3) := by decide +kernel
theorem dX1_weight_38 : decode cX1_weight 38 = .ok (.aload_n 0, 1) := by decide +kernel
theorem dX1_weight_39 : decode cX1_weight 39 = .ok (.getfield 38, 3) := by decide +kernel
theorem dX1_weight_42 : decode cX1_weight 42 = .ok (.iload_n 1, 1) := by decide +kernel
theorem dX1_weight_43 : decode cX1_weight 43 = .ok (.iload_n 2, 1) := by decide +kernel
theorem dX1_weight_44 : decode cX1_weight 44 = .ok (.invokestatic 153, 3) := by decide +kernel
theorem dX1_weight_47 : decode cX1_weight 47 = .ok (.laload, 1) := by decide +kernel
theorem dX1_weight_48 : decode cX1_weight 48 = .ok (.lreturn, 1) := by decide +kernel
set_option maxRecDepth 20000 in
theorem ggX1_backed_X1_hasBegun : GoodIn wsX1_backed wsX1_hasBegun := goodIn_r _ [6, 7, 30, 31, 32, 33, 34, 35, 36, 37, 38, 39, 40, 41, 42, 43] (by decide +kernel) (by decide +kernel)
set_option maxRecDepth 20000 in
theorem gX1_backed_X1_hasBegun : GoodIn wsX1_backed (wsV RX1 150 RX1 yX1_hasBegun wsX1_hasBegun) := goodIn_app (goodIn_of _ (by decide +kernel)) ggX1_backed_X1_hasBegun
set_option maxRecDepth 20000 in
theorem ggX1_backed_X1_isSayable : GoodIn wsX1_backed wsX1_isSayable := goodIn_r _ [10] (by decide +kernel) (by decide +kernel)
set_option maxRecDepth 20000 in
theorem gX1_backed_X1_isSayable : GoodIn wsX1_backed (va_wsS RX1 156 yX1_isSayable wsX1_isSayable) := goodIn_app (goodIn_of _ (by decide +kernel)) ggX1_backed_X1_isSayable
set_option maxRecDepth 20000 in
theorem ggX1_backed_X1_packed : GoodIn wsX1_backed wsX1_packed := goodIn_r _ [13] (by decide +kernel) (by decide +kernel)
set_option maxRecDepth 20000 in
theorem gX1_backed_X1_packed : GoodIn wsX1_backed (va_wsS RX1 92 yX1_packed wsX1_packed) := goodIn_app (goodIn_of _ (by decide +kernel)) ggX1_backed_X1_packed
set_option maxRecDepth 20000 in
theorem ggX1_backed_X1_weightFor : GoodIn wsX1_backed wsX1_weightFor := goodIn_r _ [17, 18, 19, 20, 21, 22, 5, 23, 24, 25, 26, 27, 28, 29, 30, 31, 32, 33, 34, 35, 36, 37, 38, 39, 40, 41, 42, 43] (by decide +kernel) (by decide +kernel)
set_option maxRecDepth 20000 in
theorem gX1_backed_X1_weightFor : GoodIn wsX1_backed (wsV RX1 160 RX1 yX1_weightFor wsX1_weightFor) := goodIn_app (goodIn_of _ (by decide +kernel)) ggX1_backed_X1_weightFor
theorem dX1_backed_0 : decode cX1_backed 0 = .ok (.aload_n 0, 1) := by decide +kernel
theorem dX1_backed_1 : decode cX1_backed 1 = .ok (.iload_n 1, 1) := by decide +kernel
theorem dX1_backed_2 : decode cX1_backed 2 = .ok (.invokevirtual 150, 3) := by decide +kernel
theorem dX1_backed_5 : decode cX1_backed 5 = .ok (.ifCond .eq 13, 3) := by decide +kernel
theorem dX1_backed_8 : decode cX1_backed 8 = .ok (.iload_n 2, 1) := by decide +kernel
theorem dX1_backed_9 : decode cX1_backed 9 = .ok (.iload_n 3, 1) := by decide +kernel
theorem dX1_backed_10 : decode cX1_backed 10 = .ok (.iload 4, 2) := by decide +kernel
theorem dX1_backed_12 : decode cX1_backed 12 = .ok (.invokestatic 156, 3) := by decide +kernel
theorem dX1_backed_15 : decode cX1_backed 15 = .ok (.ifCond .ne 7, 3) := by decide +kernel
theorem dX1_backed_18 : decode cX1_backed 18 = .ok (.ldc2_w 76, 3) := by decide +kernel
theorem dX1_backed_21 : decode cX1_backed 21 = .ok (.lreturn, 1) := by decide +kernel
theorem dX1_backed_22 : decode cX1_backed 22 = .ok (.aload_n 0, 1) := by decide +kernel
theorem dX1_backed_23 : decode cX1_backed 23 = .ok (.iconst 0, 1) := by decide +kernel
theorem dX1_backed_24 : decode cX1_backed 24 = .ok (.iload_n 1, 1) := by decide +kernel
theorem dX1_backed_25 : decode cX1_backed 25 = .ok (.iload_n 2, 1) := by decide +kernel
theorem dX1_backed_26 : decode cX1_backed 26 = .ok (.iload_n 3, 1) := by decide +kernel
theorem dX1_backed_27 : decode cX1_backed 27 = .ok (.iload 4, 2) := by decide +kernel
theorem dX1_backed_29 : decode cX1_backed 29 = .ok (.invokestatic 92, 3) := by decide +kernel
theorem dX1_backed_32 : decode cX1_backed 32 = .ok (.invokevirtual 160, 3) := by decide +kernel
theorem dX1_backed_35 : decode cX1_backed 35 = .ok (.lreturn, 1) := by decide +kernel
set_option maxRecDepth 20000 in
theorem ggX1_certain_X1_hasBegun : GoodIn wsX1_certain wsX1_hasBegun := goodIn_r _ [6, 7, 11, 12, 13, 14, 15, 16, 17, 18, 19, 20, 21, 22, 23, 24] (by decide +kernel) (by decide +kernel)
set_option maxRecDepth 20000 in
theorem gX1_certain_X1_hasBegun : GoodIn wsX1_certain (wsV RX1 150 RX1 yX1_hasBegun wsX1_hasBegun) := goodIn_app (goodIn_of _ (by decide +kernel)) ggX1_certain_X1_hasBegun
set_option maxRecDepth 20000 in
theorem ggX1_certain_X1_hasBlock : GoodIn wsX1_certain wsX1_hasBlock := goodIn_r _ [10] (by decide +kernel) (by decide +kernel)
set_option maxRecDepth 20000 in
theorem gX1_certain_X1_hasBlock : GoodIn wsX1_certain (va_wsS RX1 164 yX1_hasBlock wsX1_hasBlock) := goodIn_app (goodIn_of _ (by decide +kernel)) ggX1_certain_X1_hasBlock
theorem dX1_certain_0 : decode cX1_certain 0 = .ok (.aload_n 0, 1) := by decide +kernel
theorem dX1_certain_1 : decode cX1_certain 1 = .ok (.iload_n 1, 1) := by decide +kernel
theorem dX1_certain_2 : decode cX1_certain 2 = .ok (.invokevirtual 150, 3) := by decide +kernel
theorem dX1_certain_5 : decode cX1_certain 5 = .ok (.ifCond .ne 6, 3) := by decide +kernel
theorem dX1_certain_8 : decode cX1_certain 8 = .ok (.bipush (-102), 2) := by decide +kernel
