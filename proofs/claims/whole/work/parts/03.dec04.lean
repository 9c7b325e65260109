theorem dX2_isBreak_4 : decode cX2_isBreak 4 = .ok (.aload_n 0, 1) := by decide +kernel
theorem dX2_isBreak_5 : decode cX2_isBreak 5 = .ok (.iload_n 2, 1) := by decide +kernel
theorem dX2_isBreak_6 : decode cX2_isBreak 6 = .ok (.iload_n 3, 1) := by decide +kernel
theorem dX2_isBreak_7 : decode cX2_isBreak 7 = .ok (.invokevirtual 105, 3) := by decide +kernel
theorem dX2_isBreak_10 : decode cX2_isBreak 10 = .ok (.ireturn, 1) := by decide +kernel
theorem dX2_isBreak_11 : decode cX2_isBreak 11 = .ok (.iload_n 1, 1) := by decide +kernel
theorem dX2_isBreak_12 : decode cX2_isBreak 12 = .ok (.iconst 1, 1) := by decide +kernel
theorem dX2_isBreak_13 : decode cX2_isBreak 13 = .ok (.if_icmp .ne 12, 3) := by decide +kernel
theorem dX2_isBreak_16 : decode cX2_isBreak 16 = .ok (.aload_n 0, 1) := by decide +kernel
theorem dX2_isBreak_17 : decode cX2_isBreak 17 = .ok (.iload_n 2, 1) := by decide +kernel
theorem dX2_isBreak_18 : decode cX2_isBreak 18 = .ok (.iload_n 3, 1) := by decide +kernel
theorem dX2_isBreak_19 : decode cX2_isBreak 19 = .ok (.invokevirtual 108, 3) := by decide +kernel
theorem dX2_isBreak_22 : decode cX2_isBreak 22 = .ok (.goto 21, 3) := by decide +kernel
theorem dX2_isBreak_25 : decode cX2_isBreak 25 = .ok (.iload_n 2, 1) := by decide +kernel
theorem dX2_isBreak_26 : decode cX2_isBreak 26 = .ok (.iload_n 3, 1) := by decide +kernel
theorem dX2_isBreak_27 : decode cX2_isBreak 27 = .ok (.if_icmp .ne 15, 3) := by decide +kernel
theorem dX2_isBreak_30 : decode cX2_isBreak 30 = .ok (.aload_n 0, 1) := by decide +kernel
theorem dX2_isBreak_31 : decode cX2_isBreak 31 = .ok (.iload_n 2, 1) := by decide +kernel
theorem dX2_isBreak_32 : decode cX2_isBreak 32 = .ok (.invokevirtual 111, 3) := by decide +kernel
theorem dX2_isBreak_35 : decode cX2_isBreak 35 = .ok (.ifCond .eq 7, 3) := by decide +kernel
theorem dX2_isBreak_38 : decode cX2_isBreak 38 = .ok (.iconst 1, 1) := by decide +kernel
theorem dX2_isBreak_39 : decode cX2_isBreak 39 = .ok (.goto 4, 3) := by decide +kernel
theorem dX2_isBreak_42 : decode cX2_isBreak 42 = .ok (.iconst 0, 1) := by decide +kernel
theorem dX2_isBreak_43 : decode cX2_isBreak 43 = .ok (.ireturn, 1) := by decide +kernel
set_option maxRecDepth 20000 in
theorem ggX2_node_X2_in : GoodIn wsX2_node wsX2_in := goodIn_r _ [7] (by decide +kernel) (by decide +kernel)
set_option maxRecDepth 20000 in
theorem gX2_node_X2_in : GoodIn wsX2_node (va_wsS RX2 117 yX2_in wsX2_in) := goodIn_app (goodIn_of _ (by decide +kernel)) ggX2_node_X2_in
theorem dX2_node_0 : decode cX2_node 0 = .ok (.lload_n 1, 1) := by decide +kernel
theorem dX2_node_1 : decode cX2_node 1 = .ok (.lconst 1, 1) := by decide +kernel
theorem dX2_node_2 : decode cX2_node 2 = .ok (.ldc2_w 115, 3) := by decide +kernel
theorem dX2_node_5 : decode cX2_node 5 = .ok (.invokestatic 117, 3) := by decide +kernel
theorem dX2_node_8 : decode cX2_node 8 = .ok (.ifCond .ne 6, 3) := by decide +kernel
theorem dX2_node_11 : decode cX2_node 11 = .ok (.bipush (-102), 2) := by decide +kernel
theorem dX2_node_13 : decode cX2_node 13 = .ok (.ireturn, 1) := by decide +kernel
theorem dX2_node_14 : decode cX2_node 14 = .ok (.aload_n 0, 1) := by decide +kernel
theorem dX2_node_15 : decode cX2_node 15 = .ok (.getfield 76, 3) := by decide +kernel
theorem dX2_node_18 : decode cX2_node 18 = .ok (.bipush 8, 2) := by decide +kernel
theorem dX2_node_20 : decode cX2_node 20 = .ok (.if_icmp .ne 6, 3) := by decide +kernel
theorem dX2_node_23 : decode cX2_node 23 = .ok (.bipush (-104), 2) := by decide +kernel
theorem dX2_node_25 : decode cX2_node 25 = .ok (.ireturn, 1) := by decide +kernel
theorem dX2_node_26 : decode cX2_node 26 = .ok (.aload_n 0, 1) := by decide +kernel
theorem dX2_node_27 : decode cX2_node 27 = .ok (.getfield 7, 3) := by decide +kernel
theorem dX2_node_30 : decode cX2_node 30 = .ok (.aload_n 0, 1) := by decide +kernel
theorem dX2_node_31 : decode cX2_node 31 = .ok (.getfield 76, 3) := by decide +kernel
theorem dX2_node_34 : decode cX2_node 34 = .ok (.lload_n 1, 1) := by decide +kernel
theorem dX2_node_35 : decode cX2_node 35 = .ok (.lastore, 1) := by decide +kernel
theorem dX2_node_36 : decode cX2_node 36 = .ok (.aload_n 0, 1) := by decide +kernel
theorem dX2_node_37 : decode cX2_node 37 = .ok (.dup, 1) := by decide +kernel
theorem dX2_node_38 : decode cX2_node 38 = .ok (.getfield 76, 3) := by decide +kernel
theorem dX2_node_41 : decode cX2_node 41 = .ok (.iconst 1, 1) := by decide +kernel
theorem dX2_node_42 : decode cX2_node 42 = .ok (.iadd, 1) := by decide +kernel
theorem dX2_node_43 : decode cX2_node 43 = .ok (.putfield 76, 3) := by decide +kernel
theorem dX2_node_46 : decode cX2_node 46 = .ok (.aload_n 0, 1) := by decide +kernel
theorem dX2_node_47 : decode cX2_node 47 = .ok (.getfield 76, 3) := by decide +kernel
theorem dX2_node_50 : decode cX2_node 50 = .ok (.iconst 1, 1) := by decide +kernel
theorem dX2_node_51 : decode cX2_node 51 = .ok (.isub, 1) := by decide +kernel
theorem dX2_node_52 : decode cX2_node 52 = .ok (.ireturn, 1) := by decide +kernel
set_option maxRecDepth 20000 in
theorem ggX2_add_X2_isNode : GoodIn wsX2_add wsX2_isNode := goodIn_r _ [9, 10, 14, 15, 16, 17, 18, 19, 20, 21, 22, 23, 24, 25, 26, 27, 28, 29, 30, 31, 32, 33, 34, 35, 36, 37, 38, 39, 40] (by decide +kernel) (by decide +kernel)
set_option maxRecDepth 20000 in
theorem gX2_add_X2_isNode : GoodIn wsX2_add (wsV RX2 121 RX2 yX2_isNode wsX2_isNode) := goodIn_app (goodIn_of _ (by decide +kernel)) ggX2_add_X2_isNode
set_option maxRecDepth 20000 in
theorem ggX2_add_X2_in : GoodIn wsX2_add wsX2_in := goodIn_r _ [13] (by decide +kernel) (by decide +kernel)
set_option maxRecDepth 20000 in
theorem gX2_add_X2_in : GoodIn wsX2_add (va_wsS RX2 117 yX2_in wsX2_in) := goodIn_app (goodIn_of _ (by decide +kernel)) ggX2_add_X2_in
theorem dX2_add_0 : decode cX2_add 0 = .ok (.aload_n 0, 1) := by decide +kernel
theorem dX2_add_1 : decode cX2_add 1 = .ok (.iload_n 1, 1) := by decide +kernel
theorem dX2_add_2 : decode cX2_add 2 = .ok (.invokevirtual 121, 3) := by decide +kernel
theorem dX2_add_5 : decode cX2_add 5 = .ok (.ifCond .ne 7, 3) := by decide +kernel
theorem dX2_add_8 : decode cX2_add 8 = .ok (.ldc2_w 124, 3) := by decide +kernel
theorem dX2_add_11 : decode cX2_add 11 = .ok (.lreturn, 1) := by decide +kernel
theorem dX2_add_12 : decode cX2_add 12 = .ok (.lload_n 2, 1) := by decide +kernel
theorem dX2_add_13 : decode cX2_add 13 = .ok (.lconst 1, 1) := by decide +kernel
theorem dX2_add_14 : decode cX2_add 14 = .ok (.ldc2_w 115, 3) := by decide +kernel
theorem dX2_add_17 : decode cX2_add 17 = .ok (.invokestatic 117, 3) := by decide +kernel
theorem dX2_add_20 : decode cX2_add 20 = .ok (.ifCond .eq 18, 3) := by decide +kernel
theorem dX2_add_23 : decode cX2_add 23 = .ok (.aload_n 0, 1) := by decide +kernel
theorem dX2_add_24 : decode cX2_add 24 = .ok (.getfield 7, 3) := by decide +kernel
theorem dX2_add_27 : decode cX2_add 27 = .ok (.iload_n 1, 1) := by decide +kernel
theorem dX2_add_28 : decode cX2_add 28 = .ok (.laload, 1) := by decide +kernel
theorem dX2_add_29 : decode cX2_add 29 = .ok (.lload_n 2, 1) := by decide +kernel
theorem dX2_add_30 : decode cX2_add 30 = .ok (.ladd, 1) := by decide +kernel
theorem dX2_add_31 : decode cX2_add 31 = .ok (.ldc2_w 115, 3) := by decide +kernel
theorem dX2_add_34 : decode cX2_add 34 = .ok (.lcmp, 1) := by decide +kernel
theorem dX2_add_35 : decode cX2_add 35 = .ok (.ifCond .le 7, 3) := by decide +kernel
theorem dX2_add_38 : decode cX2_add 38 = .ok (.ldc2_w 126, 3) := by decide +kernel
theorem dX2_add_41 : decode cX2_add 41 = .ok (.lreturn, 1) := by decide +kernel
theorem dX2_add_42 : decode cX2_add 42 = .ok (.aload_n 0, 1) := by decide +kernel
theorem dX2_add_43 : decode cX2_add 43 = .ok (.getfield 7, 3) := by decide +kernel
theorem dX2_add_46 : decode cX2_add 46 = .ok (.iload_n 1, 1) := by decide +kernel
theorem dX2_add_47 : decode cX2_add 47 = .ok (.dup2, 1) := by decide +kernel
theorem dX2_add_48 : decode cX2_add 48 = .ok (.laload, 1) := by decide +kernel
theorem dX2_add_49 : decode cX2_add 49 = .ok (.lload_n 2, 1) := by decide +kernel
theorem dX2_add_50 : decode cX2_add 50 = .ok (.ladd, 1) := by decide +kernel
theorem dX2_add_51 : decode cX2_add 51 = .ok (.lastore, 1) := by decide +kernel
theorem dX2_add_52 : decode cX2_add 52 = .ok (.aload_n 0, 1) := by decide +kernel
theorem dX2_add_53 : decode cX2_add 53 = .ok (.getfield 7, 3) := by decide +kernel
theorem dX2_add_56 : decode cX2_add 56 = .ok (.iload_n 1, 1) := by decide +kernel
theorem dX2_add_57 : decode cX2_add 57 = .ok (.laload, 1) := by decide +kernel
theorem dX2_add_58 : decode cX2_add 58 = .ok (.lreturn, 1) := by decide +kernel
theorem dX2_next_0 : decode cX2_next 0 = .ok (.aload_n 0, 1) := by decide +kernel
theorem dX2_next_1 : decode cX2_next 1 = .ok (.getfield 82, 3) := by decide +kernel
theorem dX2_next_4 : decode cX2_next 4 = .ok (.bipush 40, 2) := by decide +kernel
theorem dX2_next_6 : decode cX2_next 6 = .ok (.if_icmp .ne 6, 3) := by decide +kernel
theorem dX2_next_9 : decode cX2_next 9 = .ok (.bipush (-104), 2) := by decide +kernel
theorem dX2_next_11 : decode cX2_next 11 = .ok (.ireturn, 1) := by decide +kernel
theorem dX2_next_12 : decode cX2_next 12 = .ok (.aload_n 0, 1) := by decide +kernel
theorem dX2_next_13 : decode cX2_next 13 = .ok (.dup, 1) := by decide +kernel
theorem dX2_next_14 : decode cX2_next 14 = .ok (.getfield 82, 3) := by decide +kernel
theorem dX2_next_17 : decode cX2_next 17 = .ok (.iconst 1, 1) := by decide +kernel
theorem dX2_next_18 : decode cX2_next 18 = .ok (.iadd, 1) := by decide +kernel
theorem dX2_next_19 : decode cX2_next 19 = .ok (.putfield 82, 3) := by decide +kernel
theorem dX2_next_22 : decode cX2_next 22 = .ok (.iconst 0, 1) := by decide +kernel
theorem dX2_next_23 : decode cX2_next 23 = .ok (.istore_n 1, 1) := by decide +kernel
theorem dX2_next_24 : decode cX2_next 24 = .ok (.iload_n 1, 1) := by decide +kernel
theorem dX2_next_25 : decode cX2_next 25 = .ok (.aload_n 0, 1) := by decide +kernel
theorem dX2_next_26 : decode cX2_next 26 = .ok (.getfield 76, 3) := by decide +kernel
theorem dX2_next_29 : decode cX2_next 29 = .ok (.if_icmp .ge 57, 3) := by decide +kernel
theorem dX2_next_32 : decode cX2_next 32 = .ok (.aload_n 0, 1) := by decide +kernel
theorem dX2_next_33 : decode cX2_next 33 = .ok (.getfield 16, 3) := by decide +kernel
theorem dX2_next_36 : decode cX2_next 36 = .ok (.iload_n 1, 1) := by decide +kernel
theorem dX2_next_37 : decode cX2_next 37 = .ok (.baload, 1) := by decide +kernel
theorem dX2_next_38 : decode cX2_next 38 = .ok (.ifCond .eq 7, 3) := by decide +kernel
theorem dX2_next_41 : decode cX2_next 41 = .ok (.lconst 0, 1) := by decide +kernel
theorem dX2_next_42 : decode cX2_next 42 = .ok (.goto 9, 3) := by decide +kernel
theorem dX2_next_45 : decode cX2_next 45 = .ok (.aload_n 0, 1) := by decide +kernel
theorem dX2_next_46 : decode cX2_next 46 = .ok (.getfield 7, 3) := by decide +kernel
theorem dX2_next_49 : decode cX2_next 49 = .ok (.iload_n 1, 1) := by decide +kernel
theorem dX2_next_50 : decode cX2_next 50 = .ok (.laload, 1) := by decide +kernel
theorem dX2_next_51 : decode cX2_next 51 = .ok (.lstore_n 2, 1) := by decide +kernel
theorem dX2_next_52 : decode cX2_next 52 = .ok (.aload_n 0, 1) := by decide +kernel
theorem dX2_next_53 : decode cX2_next 53 = .ok (.getfield 20, 3) := by decide +kernel
theorem dX2_next_56 : decode cX2_next 56 = .ok (.bipush 8, 2) := by decide +kernel
theorem dX2_next_58 : decode cX2_next 58 = .ok (.aload_n 0, 1) := by decide +kernel
theorem dX2_next_59 : decode cX2_next 59 = .ok (.getfield 82, 3) := by decide +kernel
theorem dX2_next_62 : decode cX2_next 62 = .ok (.imul, 1) := by decide +kernel
theorem dX2_next_63 : decode cX2_next 63 = .ok (.iload_n 1, 1) := by decide +kernel
theorem dX2_next_64 : decode cX2_next 64 = .ok (.iadd, 1) := by decide +kernel
theorem dX2_next_65 : decode cX2_next 65 = .ok (.lload_n 2, 1) := by decide +kernel
theorem dX2_next_66 : decode cX2_next 66 = .ok (.lastore, 1) := by decide +kernel
theorem dX2_next_67 : decode cX2_next 67 = .ok (.aload_n 0, 1) := by decide +kernel
theorem dX2_next_68 : decode cX2_next 68 = .ok (.getfield 23, 3) := by decide +kernel
theorem dX2_next_71 : decode cX2_next 71 = .ok (.aload_n 0, 1) := by decide +kernel
theorem dX2_next_72 : decode cX2_next 72 = .ok (.getfield 82, 3) := by decide +kernel
theorem dX2_next_75 : decode cX2_next 75 = .ok (.dup2, 1) := by decide +kernel
theorem dX2_next_76 : decode cX2_next 76 = .ok (.laload, 1) := by decide +kernel
theorem dX2_next_77 : decode cX2_next 77 = .ok (.lload_n 2, 1) := by decide +kernel
theorem dX2_next_78 : decode cX2_next 78 = .ok (.ladd, 1) := by decide +kernel
theorem dX2_next_79 : decode cX2_next 79 = .ok (.lastore, 1) := by decide +kernel
theorem dX2_next_80 : decode cX2_next 80 = .ok (.iinc 1 1, 3) := by decide +kernel
theorem dX2_next_83 : decode cX2_next 83 = .ok (.goto (-59), 3) := by decide +kernel
theorem dX2_next_86 : decode cX2_next 86 = .ok (.aload_n 0, 1) := by decide +kernel
theorem dX2_next_87 : decode cX2_next 87 = .ok (.getfield 82, 3) := by decide +kernel
theorem dX2_next_90 : decode cX2_next 90 = .ok (.ireturn, 1) := by decide +kernel
set_option maxRecDepth 20000 in
theorem ggX2_set_X2_in : GoodIn wsX2_set wsX2_in := goodIn_r _ [12] (by decide +kernel) (by decide +kernel)
set_option maxRecDepth 20000 in
theorem gX2_set_X2_in : GoodIn wsX2_set (va_wsS RX2 117 yX2_in wsX2_in) := goodIn_app (goodIn_of _ (by decide +kernel)) ggX2_set_X2_in
theorem dX2_set_0 : decode cX2_set 0 = .ok (.ldc2_w 126, 3) := by decide +kernel
theorem dX2_set_3 : decode cX2_set 3 = .ok (.lstore 4, 2) := by decide +kernel
theorem dX2_set_5 : decode cX2_set 5 = .ok (.iload_n 1, 1) := by decide +kernel
theorem dX2_set_6 : decode cX2_set 6 = .ok (.ifCond .lt 39, 3) := by decide +kernel
theorem dX2_set_9 : decode cX2_set 9 = .ok (.iload_n 1, 1) := by decide +kernel
theorem dX2_set_10 : decode cX2_set 10 = .ok (.iconst 2, 1) := by decide +kernel
theorem dX2_set_11 : decode cX2_set 11 = .ok (.if_icmp .gt 34, 3) := by decide +kernel
theorem dX2_set_14 : decode cX2_set 14 = .ok (.lload_n 2, 1) := by decide +kernel
theorem dX2_set_15 : decode cX2_set 15 = .ok (.lconst 0, 1) := by decide +kernel
theorem dX2_set_16 : decode cX2_set 16 = .ok (.ldc2_w 128, 3) := by decide +kernel
theorem dX2_set_19 : decode cX2_set 19 = .ok (.invokestatic 117, 3) := by decide +kernel
theorem dX2_set_22 : decode cX2_set 22 = .ok (.ifCond .eq 23, 3) := by decide +kernel
theorem dX2_set_25 : decode cX2_set 25 = .ok (.aload_n 0, 1) := by decide +kernel
theorem dX2_set_26 : decode cX2_set 26 = .ok (.getfield 45, 3) := by decide +kernel
theorem dX2_set_29 : decode cX2_set 29 = .ok (.iload_n 1, 1) := by decide +kernel
theorem dX2_set_30 : decode cX2_set 30 = .ok (.iaload, 1) := by decide +kernel
theorem dX2_set_31 : decode cX2_set 31 = .ok (.i2l, 1) := by decide +kernel
theorem dX2_set_32 : decode cX2_set 32 = .ok (.lstore 4, 2) := by decide +kernel
theorem dX2_set_34 : decode cX2_set 34 = .ok (.aload_n 0, 1) := by decide +kernel
theorem dX2_set_35 : decode cX2_set 35 = .ok (.getfield 45, 3) := by decide +kernel
theorem dX2_set_38 : decode cX2_set 38 = .ok (.iload_n 1, 1) := by decide +kernel
theorem dX2_set_39 : decode cX2_set 39 = .ok (.lload_n 2, 1) := by decide +kernel
theorem dX2_set_40 : decode cX2_set 40 = .ok (.l2i, 1) := by decide +kernel
theorem dX2_set_41 : decode cX2_set 41 = .ok (.iastore, 1) := by decide +kernel
theorem dX2_set_42 : decode cX2_set 42 = .ok (.goto 64, 3) := by decide +kernel
theorem dX2_set_45 : decode cX2_set 45 = .ok (.iload_n 1, 1) := by decide +kernel
theorem dX2_set_46 : decode cX2_set 46 = .ok (.iconst 3, 1) := by decide +kernel
theorem dX2_set_47 : decode cX2_set 47 = .ok (.if_icmp .ne 32, 3) := by decide +kernel
theorem dX2_set_50 : decode cX2_set 50 = .ok (.lload_n 2, 1) := by decide +kernel
theorem dX2_set_51 : decode cX2_set 51 = .ok (.ldc2_w 91, 3) := by decide +kernel
theorem dX2_set_54 : decode cX2_set 54 = .ok (.ldc2_w 130, 3) := by decide +kernel
theorem dX2_set_57 : decode cX2_set 57 = .ok (.invokestatic 117, 3) := by decide +kernel
theorem dX2_set_60 : decode cX2_set 60 = .ok (.ifCond .eq 19, 3) := by decide +kernel
theorem dX2_set_63 : decode cX2_set 63 = .ok (.aload_n 0, 1) := by decide +kernel
theorem dX2_set_64 : decode cX2_set 64 = .ok (.getfield 48, 3) := by decide +kernel
theorem dX2_set_67 : decode cX2_set 67 = .ok (.i2l, 1) := by decide +kernel
theorem dX2_set_68 : decode cX2_set 68 = .ok (.lstore 4, 2) := by decide +kernel
theorem dX2_set_70 : decode cX2_set 70 = .ok (.aload_n 0, 1) := by decide +kernel
theorem dX2_set_71 : decode cX2_set 71 = .ok (.lload_n 2, 1) := by decide +kernel
theorem dX2_set_72 : decode cX2_set 72 = .ok (.l2i, 1) := by decide +kernel
theorem dX2_set_73 : decode cX2_set 73 = .ok (.putfield 48, 3) := by decide +kernel
theorem dX2_set_76 : decode cX2_set 76 = .ok (.goto 30, 3) := by decide +kernel
theorem dX2_set_79 : decode cX2_set 79 = .ok (.iload_n 1, 1) := by decide +kernel
theorem dX2_set_80 : decode cX2_set 80 = .ok (.iconst 4, 1) := by decide +kernel
theorem dX2_set_81 : decode cX2_set 81 = .ok (.if_icmp .ne 25, 3) := by decide +kernel
theorem dX2_set_84 : decode cX2_set 84 = .ok (.lload_n 2, 1) := by decide +kernel
theorem dX2_set_85 : decode cX2_set 85 = .ok (.lconst 0, 1) := by decide +kernel
theorem dX2_set_86 : decode cX2_set 86 = .ok (.ldc2_w 115, 3) := by decide +kernel
theorem dX2_set_89 : decode cX2_set 89 = .ok (.invokestatic 117, 3) := by decide +kernel
theorem dX2_set_92 : decode cX2_set 92 = .ok (.ifCond .eq 14, 3) := by decide +kernel
theorem dX2_set_95 : decode cX2_set 95 = .ok (.aload_n 0, 1) := by decide +kernel
theorem dX2_set_96 : decode cX2_set 96 = .ok (.getfield 132, 3) := by decide +kernel
theorem dX2_set_99 : decode cX2_set 99 = .ok (.lstore 4, 2) := by decide +kernel
theorem dX2_set_101 : decode cX2_set 101 = .ok (.aload_n 0, 1) := by decide +kernel
theorem dX2_set_102 : decode cX2_set 102 = .ok (.lload_n 2, 1) := by decide +kernel
theorem dX2_set_103 : decode cX2_set 103 = .ok (.putfield 132, 3) := by decide +kernel
theorem dX2_set_106 : decode cX2_set 106 = .ok (.lload 4, 2) := by decide +kernel
theorem dX2_set_108 : decode cX2_set 108 = .ok (.lreturn, 1) := by decide +kernel
set_option maxRecDepth 20000 in
theorem ggX2_refusal_X2_isNode : GoodIn wsX2_refusal wsX2_isNode := goodIn_r _ [9, 10, 14, 15, 16, 17, 18, 19, 20, 21, 22, 23, 24, 25, 26, 27, 28, 29, 30, 31, 32, 33, 34, 35, 36, 37, 38, 39, 40] (by decide +kernel) (by decide +kernel)
set_option maxRecDepth 20000 in
theorem gX2_refusal_X2_isNode : GoodIn wsX2_refusal (wsV RX2 121 RX2 yX2_isNode wsX2_isNode) := goodIn_app (goodIn_of _ (by decide +kernel)) ggX2_refusal_X2_isNode
set_option maxRecDepth 20000 in
theorem ggX2_refusal_X2_in : GoodIn wsX2_refusal wsX2_in := goodIn_r _ [13] (by decide +kernel) (by decide +kernel)
set_option maxRecDepth 20000 in
theorem gX2_refusal_X2_in : GoodIn wsX2_refusal (va_wsS RX2 117 yX2_in wsX2_in) := goodIn_app (goodIn_of _ (by decide +kernel)) ggX2_refusal_X2_in
theorem dX2_refusal_0 : decode cX2_refusal 0 = .ok (.aload_n 0, 1) := by decide +kernel
theorem dX2_refusal_1 : decode cX2_refusal 1 = .ok (.iload_n 1, 1) := by decide +kernel
theorem dX2_refusal_2 : decode cX2_refusal 2 = .ok (.invokevirtual 121, 3) := by decide +kernel
theorem dX2_refusal_5 : decode cX2_refusal 5 = .ok (.ifCond .ne 6, 3) := by decide +kernel
theorem dX2_refusal_8 : decode cX2_refusal 8 = .ok (.bipush (-101), 2) := by decide +kernel
theorem dX2_refusal_10 : decode cX2_refusal 10 = .ok (.ireturn, 1) := by decide +kernel
theorem dX2_refusal_11 : decode cX2_refusal 11 = .ok (.iload_n 2, 1) := by decide +kernel
theorem dX2_refusal_12 : decode cX2_refusal 12 = .ok (.iconst 1, 1) := by decide +kernel
theorem dX2_refusal_13 : decode cX2_refusal 13 = .ok (.if_icmp .lt 57, 3) := by decide +kernel
theorem dX2_refusal_16 : decode cX2_refusal 16 = .ok (.iload_n 2, 1) := by decide +kernel
theorem dX2_refusal_17 : decode cX2_refusal 17 = .ok (.aload_n 0, 1) := by decide +kernel
theorem dX2_refusal_18 : decode cX2_refusal 18 = .ok (.getfield 82, 3) := by decide +kernel
theorem dX2_refusal_21 : decode cX2_refusal 21 = .ok (.if_icmp .eq 13, 3) := by decide +kernel
theorem dX2_refusal_24 : decode cX2_refusal 24 = .ok (.iload_n 2, 1) := by decide +kernel
theorem dX2_refusal_25 : decode cX2_refusal 25 = .ok (.aload_n 0, 1) := by decide +kernel
theorem dX2_refusal_26 : decode cX2_refusal 26 = .ok (.getfield 82, 3) := by decide +kernel
theorem dX2_refusal_29 : decode cX2_refusal 29 = .ok (.iconst 1, 1) := by decide +kernel
theorem dX2_refusal_30 : decode cX2_refusal 30 = .ok (.isub, 1) := by decide +kernel
theorem dX2_refusal_31 : decode cX2_refusal 31 = .ok (.if_icmp .ne 39, 3) := by decide +kernel
theorem dX2_refusal_34 : decode cX2_refusal 34 = .ok (.iload_n 3, 1) := by decide +kernel
theorem dX2_refusal_35 : decode cX2_refusal 35 = .ok (.i2l, 1) := by decide +kernel
theorem dX2_refusal_36 : decode cX2_refusal 36 = .ok (.lconst 0, 1) := by decide +kernel
theorem dX2_refusal_37 : decode cX2_refusal 37 = .ok (.ldc2_w 136, 3) := by decide +kernel
theorem dX2_refusal_40 : decode cX2_refusal 40 = .ok (.invokestatic 117, 3) := by decide +kernel
theorem dX2_refusal_43 : decode cX2_refusal 43 = .ok (.ifCond .eq 27, 3) := by decide +kernel
theorem dX2_refusal_46 : decode cX2_refusal 46 = .ok (.iload 4, 2) := by decide +kernel
theorem dX2_refusal_48 : decode cX2_refusal 48 = .ok (.i2l, 1) := by decide +kernel
theorem dX2_refusal_49 : decode cX2_refusal 49 = .ok (.lconst 0, 1) := by decide +kernel
theorem dX2_refusal_50 : decode cX2_refusal 50 = .ok (.lconst 1, 1) := by decide +kernel
theorem dX2_refusal_51 : decode cX2_refusal 51 = .ok (.invokestatic 117, 3) := by decide +kernel
theorem dX2_refusal_54 : decode cX2_refusal 54 = .ok (.ifCond .eq 16, 3) := by decide +kernel
theorem dX2_refusal_57 : decode cX2_refusal 57 = .ok (.iload 5, 2) := by decide +kernel
theorem dX2_refusal_59 : decode cX2_refusal 59 = .ok (.i2l, 1) := by decide +kernel
theorem dX2_refusal_60 : decode cX2_refusal 60 = .ok (.lconst 0, 1) := by decide +kernel
theorem dX2_refusal_61 : decode cX2_refusal 61 = .ok (.ldc2_w 138, 3) := by decide +kernel
theorem dX2_refusal_64 : decode cX2_refusal 64 = .ok (.invokestatic 117, 3) := by decide +kernel
theorem dX2_refusal_67 : decode cX2_refusal 67 = .ok (.ifCond .ne 6, 3) := by decide +kernel
theorem dX2_refusal_70 : decode cX2_refusal 70 = .ok (.bipush (-102), 2) := by decide +kernel
theorem dX2_refusal_72 : decode cX2_refusal 72 = .ok (.ireturn, 1) := by decide +kernel
theorem dX2_refusal_73 : decode cX2_refusal 73 = .ok (.aload_n 0, 1) := by decide +kernel
theorem dX2_refusal_74 : decode cX2_refusal 74 = .ok (.getfield 20, 3) := by decide +kernel
theorem dX2_refusal_77 : decode cX2_refusal 77 = .ok (.bipush 8, 2) := by decide +kernel
theorem dX2_refusal_79 : decode cX2_refusal 79 = .ok (.iload_n 2, 1) := by decide +kernel
theorem dX2_refusal_80 : decode cX2_refusal 80 = .ok (.imul, 1) := by decide +kernel
theorem dX2_refusal_81 : decode cX2_refusal 81 = .ok (.iload_n 1, 1) := by decide +kernel
theorem dX2_refusal_82 : decode cX2_refusal 82 = .ok (.iadd, 1) := by decide +kernel
theorem dX2_refusal_83 : decode cX2_refusal 83 = .ok (.laload, 1) := by decide +kernel
theorem dX2_refusal_84 : decode cX2_refusal 84 = .ok (.lconst 0, 1) := by decide +kernel
theorem dX2_refusal_85 : decode cX2_refusal 85 = .ok (.lcmp, 1) := by decide +kernel
theorem dX2_refusal_86 : decode cX2_refusal 86 = .ok (.ifCond .ne 8, 3) := by decide +kernel
theorem dX2_refusal_89 : decode cX2_refusal 89 = .ok (.bipush (-103), 2) := by decide +kernel
theorem dX2_refusal_91 : decode cX2_refusal 91 = .ok (.goto 4, 3) := by decide +kernel
theorem dX2_refusal_94 : decode cX2_refusal 94 = .ok (.iconst 0, 1) := by decide +kernel
theorem dX2_refusal_95 : decode cX2_refusal 95 = .ok (.ireturn, 1) := by decide +kernel
theorem dX2_find_0 : decode cX2_find 0 = .ok (.iconst 0, 1) := by decide +kernel
theorem dX2_find_1 : decode cX2_find 1 = .ok (.istore 6, 2) := by decide +kernel
theorem dX2_find_3 : decode cX2_find 3 = .ok (.iload 6, 2) := by decide +kernel
theorem dX2_find_5 : decode cX2_find 5 = .ok (.aload_n 0, 1) := by decide +kernel
theorem dX2_find_6 : decode cX2_find 6 = .ok (.getfield 79, 3) := by decide +kernel
theorem dX2_find_9 : decode cX2_find 9 = .ok (.if_icmp .ge 69, 3) := by decide +kernel
theorem dX2_find_12 : decode cX2_find 12 = .ok (.aload_n 0, 1) := by decide +kernel
theorem dX2_find_13 : decode cX2_find 13 = .ok (.getfield 26, 3) := by decide +kernel
theorem dX2_find_16 : decode cX2_find 16 = .ok (.iload 6, 2) := by decide +kernel
theorem dX2_find_18 : decode cX2_find 18 = .ok (.iaload, 1) := by decide +kernel
theorem dX2_find_19 : decode cX2_find 19 = .ok (.iload_n 1, 1) := by decide +kernel
theorem dX2_find_20 : decode cX2_find 20 = .ok (.if_icmp .ne 52, 3) := by decide +kernel
theorem dX2_find_23 : decode cX2_find 23 = .ok (.aload_n 0, 1) := by decide +kernel
theorem dX2_find_24 : decode cX2_find 24 = .ok (.getfield 30, 3) := by decide +kernel
theorem dX2_find_27 : decode cX2_find 27 = .ok (.iload 6, 2) := by decide +kernel
theorem dX2_find_29 : decode cX2_find 29 = .ok (.iaload, 1) := by decide +kernel
theorem dX2_find_30 : decode cX2_find 30 = .ok (.iload_n 2, 1) := by decide +kernel
theorem dX2_find_31 : decode cX2_find 31 = .ok (.if_icmp .ne 41, 3) := by decide +kernel
theorem dX2_find_34 : decode cX2_find 34 = .ok (.aload_n 0, 1) := by decide +kernel
theorem dX2_find_35 : decode cX2_find 35 = .ok (.getfield 33, 3) := by decide +kernel
theorem dX2_find_38 : decode cX2_find 38 = .ok (.iload 6, 2) := by decide +kernel
theorem dX2_find_40 : decode cX2_find 40 = .ok (.iaload, 1) := by decide +kernel
theorem dX2_find_41 : decode cX2_find 41 = .ok (.iload_n 3, 1) := by decide +kernel
theorem dX2_find_42 : decode cX2_find 42 = .ok (.if_icmp .ne 30, 3) := by decide +kernel
theorem dX2_find_45 : decode cX2_find 45 = .ok (.aload_n 0, 1) := by decide +kernel
theorem dX2_find_46 : decode cX2_find 46 = .ok (.getfield 36, 3) := by decide +kernel
theorem dX2_find_49 : decode cX2_find 49 = .ok (.iload 6, 2) := by decide +kernel
theorem dX2_find_51 : decode cX2_find 51 = .ok (.iaload, 1) := by decide +kernel
theorem dX2_find_52 : decode cX2_find 52 = .ok (.iload 4, 2) := by decide +kernel
theorem dX2_find_54 : decode cX2_find 54 = .ok (.if_icmp .ne 18, 3) := by decide +kernel
theorem dX2_find_57 : decode cX2_find 57 = .ok (.aload_n 0, 1) := by decide +kernel
theorem dX2_find_58 : decode cX2_find 58 = .ok (.getfield 39, 3) := by decide +kernel
theorem dX2_find_61 : decode cX2_find 61 = .ok (.iload 6, 2) := by decide +kernel
theorem dX2_find_63 : decode cX2_find 63 = .ok (.iaload, 1) := by decide +kernel
theorem dX2_find_64 : decode cX2_find 64 = .ok (.iload 5, 2) := by decide +kernel
theorem dX2_find_66 : decode cX2_find 66 = .ok (.if_icmp .ne 6, 3) := by decide +kernel
theorem dX2_find_69 : decode cX2_find 69 = .ok (.iload 6, 2) := by decide +kernel
theorem dX2_find_71 : decode cX2_find 71 = .ok (.ireturn, 1) := by decide +kernel
theorem dX2_find_72 : decode cX2_find 72 = .ok (.iinc 6 1, 3) := by decide +kernel
theorem dX2_find_75 : decode cX2_find 75 = .ok (.goto (-72), 3) := by decide +kernel
theorem dX2_find_78 : decode cX2_find 78 = .ok (.iconst (-1), 1) := by decide +kernel
theorem dX2_find_79 : decode cX2_find 79 = .ok (.ireturn, 1) := by decide +kernel
set_option maxRecDepth 20000 in
theorem ggX2_vote_X2_refusal : GoodIn wsX2_vote wsX2_refusal := goodIn_r _ [12, 13, 14, 15, 16, 17, 18, 19, 11, 20, 21, 22, 23, 24, 32, 33, 34, 35, 36, 37, 38, 39, 40, 41, 42, 43, 44, 45, 46, 47, 48, 49, 50, 51, 52, 53, 54, 55, 56, 57, 58] (by decide +kernel) (by decide +kernel)
set_option maxRecDepth 20000 in
theorem gX2_vote_X2_refusal : GoodIn wsX2_vote (wsV RX2 140 RX2 yX2_refusal wsX2_refusal) := goodIn_app (goodIn_of _ (by decide +kernel)) ggX2_vote_X2_refusal
set_option maxRecDepth 20000 in
theorem ggX2_vote_X2_find : GoodIn wsX2_vote wsX2_find := goodIn_r _ [28, 1, 2, 3, 4, 5, 6, 32, 33, 34, 35, 36, 37, 38, 39, 40, 41, 42, 43, 44, 45, 46, 47, 48, 49, 50, 51, 52, 53, 54, 55, 56, 57, 58] (by decide +kernel) (by decide +kernel)
set_option maxRecDepth 20000 in
theorem gX2_vote_X2_find : GoodIn wsX2_vote (wsV RX2 144 RX2 yX2_find wsX2_find) := goodIn_app (goodIn_of _ (by decide +kernel)) ggX2_vote_X2_find
set_option maxRecDepth 20000 in
theorem ggX2_vote_X2_place : GoodIn wsX2_vote wsX2_place := goodIn_r _ [31] (by decide +kernel) (by decide +kernel)
set_option maxRecDepth 20000 in
theorem gX2_vote_X2_place : GoodIn wsX2_vote (va_wsS RX2 93 yX2_place wsX2_place) := goodIn_app (goodIn_of _ (by decide +kernel)) ggX2_vote_X2_place
theorem dX2_vote_0 : decode cX2_vote 0 = .ok (.aload_n 0, 1) := by decide +kernel
theorem dX2_vote_1 : decode cX2_vote 1 = .ok (.iload_n 1, 1) := by decide +kernel
theorem dX2_vote_2 : decode cX2_vote 2 = .ok (.iload_n 2, 1) := by decide +kernel
theorem dX2_vote_3 : decode cX2_vote 3 = .ok (.iload_n 3, 1) := by decide +kernel
theorem dX2_vote_4 : decode cX2_vote 4 = .ok (.iload 4, 2) := by decide +kernel
theorem dX2_vote_6 : decode cX2_vote 6 = .ok (.iload 5, 2) := by decide +kernel
theorem dX2_vote_8 : decode cX2_vote 8 = .ok (.invokevirtual 140, 3) := by decide +kernel
theorem dX2_vote_11 : decode cX2_vote 11 = .ok (.istore 6, 2) := by decide +kernel
theorem dX2_vote_13 : decode cX2_vote 13 = .ok (.iload 6, 2) := by decide +kernel
theorem dX2_vote_15 : decode cX2_vote 15 = .ok (.ifCond .eq 6, 3) := by decide +kernel
theorem dX2_vote_18 : decode cX2_vote 18 = .ok (.iload 6, 2) := by decide +kernel
theorem dX2_vote_20 : decode cX2_vote 20 = .ok (.ireturn, 1) := by decide +kernel
theorem dX2_vote_21 : decode cX2_vote 21 = .ok (.aload_n 0, 1) := by decide +kernel
theorem dX2_vote_22 : decode cX2_vote 22 = .ok (.iload_n 1, 1) := by decide +kernel
theorem dX2_vote_23 : decode cX2_vote 23 = .ok (.iload_n 2, 1) := by decide +kernel
theorem dX2_vote_24 : decode cX2_vote 24 = .ok (.iload_n 3, 1) := by decide +kernel
theorem dX2_vote_25 : decode cX2_vote 25 = .ok (.iload 4, 2) := by decide +kernel
theorem dX2_vote_27 : decode cX2_vote 27 = .ok (.iload 5, 2) := by decide +kernel
theorem dX2_vote_29 : decode cX2_vote 29 = .ok (.invokevirtual 144, 3) := by decide +kernel
theorem dX2_vote_32 : decode cX2_vote 32 = .ok (.istore 7, 2) := by decide +kernel
theorem dX2_vote_34 : decode cX2_vote 34 = .ok (.iload 7, 2) := by decide +kernel
theorem dX2_vote_36 : decode cX2_vote 36 = .ok (.ifCond .lt 6, 3) := by decide +kernel
theorem dX2_vote_39 : decode cX2_vote 39 = .ok (.iload 7, 2) := by decide +kernel
theorem dX2_vote_41 : decode cX2_vote 41 = .ok (.ireturn, 1) := by decide +kernel
theorem dX2_vote_42 : decode cX2_vote 42 = .ok (.aload_n 0, 1) := by decide +kernel
theorem dX2_vote_43 : decode cX2_vote 43 = .ok (.getfield 79, 3) := by decide +kernel
theorem dX2_vote_46 : decode cX2_vote 46 = .ok (.sipush 300, 3) := by decide +kernel
theorem dX2_vote_49 : decode cX2_vote 49 = .ok (.if_icmp .ne 6, 3) := by decide +kernel
theorem dX2_vote_52 : decode cX2_vote 52 = .ok (.bipush (-104), 2) := by decide +kernel
theorem dX2_vote_54 : decode cX2_vote 54 = .ok (.ireturn, 1) := by decide +kernel
theorem dX2_vote_55 : decode cX2_vote 55 = .ok (.aload_n 0, 1) := by decide +kernel
theorem dX2_vote_56 : decode cX2_vote 56 = .ok (.getfield 26, 3) := by decide +kernel
theorem dX2_vote_59 : decode cX2_vote 59 = .ok (.aload_n 0, 1) := by decide +kernel
theorem dX2_vote_60 : decode cX2_vote 60 = .ok (.getfield 79, 3) := by decide +kernel
theorem dX2_vote_63 : decode cX2_vote 63 = .ok (.iload_n 1, 1) := by decide +kernel
theorem dX2_vote_64 : decode cX2_vote 64 = .ok (.iastore, 1) := by decide +kernel
theorem dX2_vote_65 : decode cX2_vote 65 = .ok (.aload_n 0, 1) := by decide +kernel
theorem dX2_vote_66 : decode cX2_vote 66 = .ok (.getfield 30, 3) := by decide +kernel
theorem dX2_vote_69 : decode cX2_vote 69 = .ok (.aload_n 0, 1) := by decide +kernel
theorem dX2_vote_70 : decode cX2_vote 70 = .ok (.getfield 79, 3) := by decide +kernel
theorem dX2_vote_73 : decode cX2_vote 73 = .ok (.iload_n 2, 1) := by decide +kernel
theorem dX2_vote_74 : decode cX2_vote 74 = .ok (.iastore, 1) := by decide +kernel
theorem dX2_vote_75 : decode cX2_vote 75 = .ok (.aload_n 0, 1) := by decide +kernel
theorem dX2_vote_76 : decode cX2_vote 76 = .ok (.getfield 33, 3) := by decide +kernel
theorem dX2_vote_79 : decode cX2_vote 79 = .ok (.aload_n 0, 1) := by decide +kernel
theorem dX2_vote_80 : decode cX2_vote 80 = .ok (.getfield 79, 3) := by decide +kernel
theorem dX2_vote_83 : decode cX2_vote 83 = .ok (.iload_n 3, 1) := by decide +kernel
theorem dX2_vote_84 : decode cX2_vote 84 = .ok (.iastore, 1) := by decide +kernel
theorem dX2_vote_85 : decode cX2_vote 85 = .ok (.aload_n 0, 1) := by decide +kernel
theorem dX2_vote_86 : decode cX2_vote 86 = .ok (.getfield 36, 3) := by decide +kernel
theorem dX2_vote_89 : decode cX2_vote 89 = .ok (.aload_n 0, 1) := by decide +kernel
theorem dX2_vote_90 : decode cX2_vote 90 = .ok (.getfield 79, 3) := by decide +kernel
theorem dX2_vote_93 : decode cX2_vote 93 = .ok (.iload 4, 2) := by decide +kernel
theorem dX2_vote_95 : decode cX2_vote 95 = .ok (.iastore, 1) := by decide +kernel
theorem dX2_vote_96 : decode cX2_vote 96 = .ok (.aload_n 0, 1) := by decide +kernel
theorem dX2_vote_97 : decode cX2_vote 97 = .ok (.getfield 39, 3) := by decide +kernel
theorem dX2_vote_100 : decode cX2_vote 100 = .ok (.aload_n 0, 1) := by decide +kernel
theorem dX2_vote_101 : decode cX2_vote 101 = .ok (.getfield 79, 3) := by decide +kernel
theorem dX2_vote_104 : decode cX2_vote 104 = .ok (.iload 5, 2) := by decide +kernel
theorem dX2_vote_106 : decode cX2_vote 106 = .ok (.iastore, 1) := by decide +kernel
theorem dX2_vote_107 : decode cX2_vote 107 = .ok (.aload_n 0, 1) := by decide +kernel
theorem dX2_vote_108 : decode cX2_vote 108 = .ok (.getfield 42, 3) := by decide +kernel
theorem dX2_vote_111 : decode cX2_vote 111 = .ok (.iload_n 2, 1) := by decide +kernel
theorem dX2_vote_112 : decode cX2_vote 112 = .ok (.iload_n 3, 1) := by decide +kernel
theorem dX2_vote_113 : decode cX2_vote 113 = .ok (.iload 4, 2) := by decide +kernel
theorem dX2_vote_115 : decode cX2_vote 115 = .ok (.iload 5, 2) := by decide +kernel
theorem dX2_vote_117 : decode cX2_vote 117 = .ok (.invokestatic 93, 3) := by decide +kernel
theorem dX2_vote_120 : decode cX2_vote 120 = .ok (.dup2, 1) := by decide +kernel
theorem dX2_vote_121 : decode cX2_vote 121 = .ok (.iaload, 1) := by decide +kernel
theorem dX2_vote_122 : decode cX2_vote 122 = .ok (.iconst 1, 1) := by decide +kernel
theorem dX2_vote_123 : decode cX2_vote 123 = .ok (.iload_n 1, 1) := by decide +kernel
theorem dX2_vote_124 : decode cX2_vote 124 = .ok (.ishl, 1) := by decide +kernel
theorem dX2_vote_125 : decode cX2_vote 125 = .ok (.ior, 1) := by decide +kernel
theorem dX2_vote_126 : decode cX2_vote 126 = .ok (.iastore, 1) := by decide +kernel
theorem dX2_vote_127 : decode cX2_vote 127 = .ok (.aload_n 0, 1) := by decide +kernel
theorem dX2_vote_128 : decode cX2_vote 128 = .ok (.dup, 1) := by decide +kernel
theorem dX2_vote_129 : decode cX2_vote 129 = .ok (.getfield 79, 3) := by decide +kernel
theorem dX2_vote_132 : decode cX2_vote 132 = .ok (.iconst 1, 1) := by decide +kernel
theorem dX2_vote_133 : decode cX2_vote 133 = .ok (.iadd, 1) := by decide +kernel
theorem dX2_vote_134 : decode cX2_vote 134 = .ok (.putfield 79, 3) := by decide +kernel
theorem dX2_vote_137 : decode cX2_vote 137 = .ok (.aload_n 0, 1) := by decide +kernel
theorem dX2_vote_138 : decode cX2_vote 138 = .ok (.getfield 79, 3) := by decide +kernel
theorem dX2_vote_141 : decode cX2_vote 141 = .ok (.iconst 1, 1) := by decide +kernel
theorem dX2_vote_142 : decode cX2_vote 142 = .ok (.isub, 1) := by decide +kernel
theorem dX2_vote_143 : decode cX2_vote 143 = .ok (.ireturn, 1) := by decide +kernel
set_option maxRecDepth 20000 in
theorem ggX2_saidBy_X2_place : GoodIn wsX2_saidBy wsX2_place := goodIn_r _ [5] (by decide +kernel) (by decide +kernel)
set_option maxRecDepth 20000 in
theorem gX2_saidBy_X2_place : GoodIn wsX2_saidBy (va_wsS RX2 93 yX2_place wsX2_place) := goodIn_app (goodIn_of _ (by decide +kernel)) ggX2_saidBy_X2_place
theorem dX2_saidBy_0 : decode cX2_saidBy 0 = .ok (.iconst 0, 1) := by decide +kernel
theorem dX2_saidBy_1 : decode cX2_saidBy 1 = .ok (.istore 5, 2) := by decide +kernel
theorem dX2_saidBy_3 : decode cX2_saidBy 3 = .ok (.iconst 0, 1) := by decide +kernel
theorem dX2_saidBy_4 : decode cX2_saidBy 4 = .ok (.istore 6, 2) := by decide +kernel
theorem dX2_saidBy_6 : decode cX2_saidBy 6 = .ok (.iload 6, 2) := by decide +kernel
theorem dX2_saidBy_8 : decode cX2_saidBy 8 = .ok (.bipush 10, 2) := by decide +kernel
theorem dX2_saidBy_10 : decode cX2_saidBy 10 = .ok (.if_icmp .ge 35, 3) := by decide +kernel
theorem dX2_saidBy_13 : decode cX2_saidBy 13 = .ok (.iload 5, 2) := by decide +kernel
theorem dX2_saidBy_15 : decode cX2_saidBy 15 = .ok (.aload_n 0, 1) := by decide +kernel
theorem dX2_saidBy_16 : decode cX2_saidBy 16 = .ok (.getfield 42, 3) := by decide +kernel
theorem dX2_saidBy_19 : decode cX2_saidBy 19 = .ok (.iload_n 2, 1) := by decide +kernel
theorem dX2_saidBy_20 : decode cX2_saidBy 20 = .ok (.iload_n 3, 1) := by decide +kernel
theorem dX2_saidBy_21 : decode cX2_saidBy 21 = .ok (.iload 4, 2) := by decide +kernel
theorem dX2_saidBy_23 : decode cX2_saidBy 23 = .ok (.iload 6, 2) := by decide +kernel
theorem dX2_saidBy_25 : decode cX2_saidBy 25 = .ok (.invokestatic 93, 3) := by decide +kernel
theorem dX2_saidBy_28 : decode cX2_saidBy 28 = .ok (.iaload, 1) := by decide +kernel
theorem dX2_saidBy_29 : decode cX2_saidBy 29 = .ok (.iload_n 1, 1) := by decide +kernel
theorem dX2_saidBy_30 : decode cX2_saidBy 30 = .ok (.ishr, 1) := by decide +kernel
theorem dX2_saidBy_31 : decode cX2_saidBy 31 = .ok (.iconst 1, 1) := by decide +kernel
theorem dX2_saidBy_32 : decode cX2_saidBy 32 = .ok (.iand, 1) := by decide +kernel
theorem dX2_saidBy_33 : decode cX2_saidBy 33 = .ok (.iload 6, 2) := by decide +kernel
theorem dX2_saidBy_35 : decode cX2_saidBy 35 = .ok (.ishl, 1) := by decide +kernel
theorem dX2_saidBy_36 : decode cX2_saidBy 36 = .ok (.ior, 1) := by decide +kernel
theorem dX2_saidBy_37 : decode cX2_saidBy 37 = .ok (.istore 5, 2) := by decide +kernel
theorem dX2_saidBy_39 : decode cX2_saidBy 39 = .ok (.iinc 6 1, 3) := by decide +kernel
theorem dX2_saidBy_42 : decode cX2_saidBy 42 = .ok (.goto (-36), 3) := by decide +kernel
theorem dX2_saidBy_45 : decode cX2_saidBy 45 = .ok (.iload 5, 2) := by decide +kernel
theorem dX2_saidBy_47 : decode cX2_saidBy 47 = .ok (.ireturn, 1) := by decide +kernel
set_option maxRecDepth 20000 in
theorem ggX2_may_X2_refusal : GoodIn wsX2_may wsX2_refusal := goodIn_r _ [5, 6, 7, 8, 9, 10, 11, 12, 4, 13, 14, 15, 16, 17, 41, 42, 43, 44, 45, 46, 47, 48, 49, 50, 51, 52, 53, 54, 55, 56, 57, 58, 59, 60, 61, 62, 63, 64, 65, 66, 67] (by decide +kernel) (by decide +kernel)
set_option maxRecDepth 20000 in
theorem gX2_may_X2_refusal : GoodIn wsX2_may (wsV RX2 140 RX2 yX2_refusal wsX2_refusal) := goodIn_app (goodIn_of _ (by decide +kernel)) ggX2_may_X2_refusal
set_option maxRecDepth 20000 in
theorem ggX2_may_X2_saidBy : GoodIn wsX2_may wsX2_saidBy := goodIn_r _ [21, 22, 23, 24, 4, 25, 41, 42, 43, 44, 45, 46, 47, 48, 49, 50, 51, 52, 53, 54, 55, 56, 57, 58, 59, 60, 61, 62, 63, 64, 65, 66, 67] (by decide +kernel) (by decide +kernel)
set_option maxRecDepth 20000 in
theorem gX2_may_X2_saidBy : GoodIn wsX2_may (wsV RX2 147 RX2 yX2_saidBy wsX2_saidBy) := goodIn_app (goodIn_of _ (by decide +kernel)) ggX2_may_X2_saidBy
set_option maxRecDepth 20000 in
theorem ggX2_may_X2_isBacked : GoodIn wsX2_may wsX2_isBacked := goodIn_r _ [29, 22, 23, 24, 4, 25, 30, 31, 32, 33, 34, 35, 36, 37, 38, 39, 40, 9, 41, 42, 43, 44, 45, 46, 47, 48, 49, 50, 51, 52, 53, 54, 55, 56, 57, 58, 59, 60, 61, 62, 63, 64, 65, 66, 67] (by decide +kernel) (by decide +kernel)
set_option maxRecDepth 20000 in
theorem gX2_may_X2_isBacked : GoodIn wsX2_may (wsV RX2 101 RX2 yX2_isBacked wsX2_isBacked) := goodIn_app (goodIn_of _ (by decide +kernel)) ggX2_may_X2_isBacked
theorem dX2_may_0 : decode cX2_may 0 = .ok (.aload_n 0, 1) := by decide +kernel
theorem dX2_may_1 : decode cX2_may 1 = .ok (.iload_n 1, 1) := by decide +kernel
theorem dX2_may_2 : decode cX2_may 2 = .ok (.iload_n 2, 1) := by decide +kernel
theorem dX2_may_3 : decode cX2_may 3 = .ok (.iload_n 3, 1) := by decide +kernel
theorem dX2_may_4 : decode cX2_may 4 = .ok (.iload 4, 2) := by decide +kernel
theorem dX2_may_6 : decode cX2_may 6 = .ok (.iload 5, 2) := by decide +kernel
theorem dX2_may_8 : decode cX2_may 8 = .ok (.invokevirtual 140, 3) := by decide +kernel
theorem dX2_may_11 : decode cX2_may 11 = .ok (.istore 6, 2) := by decide +kernel
theorem dX2_may_13 : decode cX2_may 13 = .ok (.iload 6, 2) := by decide +kernel
theorem dX2_may_15 : decode cX2_may 15 = .ok (.ifCond .eq 6, 3) := by decide +kernel
theorem dX2_may_18 : decode cX2_may 18 = .ok (.iload 6, 2) := by decide +kernel
theorem dX2_may_20 : decode cX2_may 20 = .ok (.ireturn, 1) := by decide +kernel
theorem dX2_may_21 : decode cX2_may 21 = .ok (.aload_n 0, 1) := by decide +kernel
theorem dX2_may_22 : decode cX2_may 22 = .ok (.iload_n 1, 1) := by decide +kernel
theorem dX2_may_23 : decode cX2_may 23 = .ok (.iload_n 2, 1) := by decide +kernel
theorem dX2_may_24 : decode cX2_may 24 = .ok (.iload_n 3, 1) := by decide +kernel
theorem dX2_may_25 : decode cX2_may 25 = .ok (.iload 4, 2) := by decide +kernel
theorem dX2_may_27 : decode cX2_may 27 = .ok (.invokevirtual 147, 3) := by decide +kernel
theorem dX2_may_30 : decode cX2_may 30 = .ok (.iconst 1, 1) := by decide +kernel
theorem dX2_may_31 : decode cX2_may 31 = .ok (.iload 5, 2) := by decide +kernel
theorem dX2_may_33 : decode cX2_may 33 = .ok (.ishl, 1) := by decide +kernel
theorem dX2_may_34 : decode cX2_may 34 = .ok (.iconst (-1), 1) := by decide +kernel
theorem dX2_may_35 : decode cX2_may 35 = .ok (.ixor, 1) := by decide +kernel
theorem dX2_may_36 : decode cX2_may 36 = .ok (.iand, 1) := by decide +kernel
theorem dX2_may_37 : decode cX2_may 37 = .ok (.ifCond .eq 5, 3) := by decide +kernel
theorem dX2_may_40 : decode cX2_may 40 = .ok (.iconst 0, 1) := by decide +kernel
theorem dX2_may_41 : decode cX2_may 41 = .ok (.ireturn, 1) := by decide +kernel
theorem dX2_may_42 : decode cX2_may 42 = .ok (.iload 5, 2) := by decide +kernel
theorem dX2_may_44 : decode cX2_may 44 = .ok (.ifCond .ne 5, 3) := by decide +kernel
theorem dX2_may_47 : decode cX2_may 47 = .ok (.iconst 1, 1) := by decide +kernel
theorem dX2_may_48 : decode cX2_may 48 = .ok (.ireturn, 1) := by decide +kernel
theorem dX2_may_49 : decode cX2_may 49 = .ok (.iload 4, 2) := by decide +kernel
theorem dX2_may_51 : decode cX2_may 51 = .ok (.iconst 1, 1) := by decide +kernel
theorem dX2_may_52 : decode cX2_may 52 = .ok (.if_icmp .ne 115, 3) := by decide +kernel
theorem dX2_may_55 : decode cX2_may 55 = .ok (.aload_n 0, 1) := by decide +kernel
theorem dX2_may_56 : decode cX2_may 56 = .ok (.iload_n 2, 1) := by decide +kernel
theorem dX2_may_57 : decode cX2_may 57 = .ok (.iload_n 3, 1) := by decide +kernel
theorem dX2_may_58 : decode cX2_may 58 = .ok (.iload 5, 2) := by decide +kernel
theorem dX2_may_60 : decode cX2_may 60 = .ok (.invokevirtual 101, 3) := by decide +kernel
theorem dX2_may_63 : decode cX2_may 63 = .ok (.ifCond .ne 5, 3) := by decide +kernel
theorem dX2_may_66 : decode cX2_may 66 = .ok (.iconst 0, 1) := by decide +kernel
theorem dX2_may_67 : decode cX2_may 67 = .ok (.ireturn, 1) := by decide +kernel
theorem dX2_may_68 : decode cX2_may 68 = .ok (.iconst 1, 1) := by decide +kernel
theorem dX2_may_69 : decode cX2_may 69 = .ok (.istore 7, 2) := by decide +kernel
theorem dX2_may_71 : decode cX2_may 71 = .ok (.iload 7, 2) := by decide +kernel
theorem dX2_may_73 : decode cX2_may 73 = .ok (.bipush 10, 2) := by decide +kernel
theorem dX2_may_75 : decode cX2_may 75 = .ok (.if_icmp .ge 90, 3) := by decide +kernel
theorem dX2_may_78 : decode cX2_may 78 = .ok (.iload 7, 2) := by decide +kernel
theorem dX2_may_80 : decode cX2_may 80 = .ok (.iload 5, 2) := by decide +kernel
theorem dX2_may_82 : decode cX2_may 82 = .ok (.if_icmp .ne 7, 3) := by decide +kernel
theorem dX2_may_85 : decode cX2_may 85 = .ok (.iconst 1, 1) := by decide +kernel
theorem dX2_may_86 : decode cX2_may 86 = .ok (.goto 4, 3) := by decide +kernel
theorem dX2_may_89 : decode cX2_may 89 = .ok (.iconst 0, 1) := by decide +kernel
theorem dX2_may_90 : decode cX2_may 90 = .ok (.istore 8, 2) := by decide +kernel
theorem dX2_may_92 : decode cX2_may 92 = .ok (.iload_n 3, 1) := by decide +kernel
theorem dX2_may_93 : decode cX2_may 93 = .ok (.istore 9, 2) := by decide +kernel
theorem dX2_may_95 : decode cX2_may 95 = .ok (.iload 9, 2) := by decide +kernel
theorem dX2_may_97 : decode cX2_may 97 = .ok (.bipush 7, 2) := by decide +kernel
theorem dX2_may_99 : decode cX2_may 99 = .ok (.if_icmp .ge 60, 3) := by decide +kernel
theorem dX2_may_102 : decode cX2_may 102 = .ok (.iload 8, 2) := by decide +kernel
theorem dX2_may_104 : decode cX2_may 104 = .ok (.ifCond .ne 15, 3) := by decide +kernel
theorem dX2_may_107 : decode cX2_may 107 = .ok (.aload_n 0, 1) := by decide +kernel
theorem dX2_may_108 : decode cX2_may 108 = .ok (.iload_n 2, 1) := by decide +kernel
theorem dX2_may_109 : decode cX2_may 109 = .ok (.iload 9, 2) := by decide +kernel
theorem dX2_may_111 : decode cX2_may 111 = .ok (.iload 7, 2) := by decide +kernel
theorem dX2_may_113 : decode cX2_may 113 = .ok (.invokevirtual 101, 3) := by decide +kernel
theorem dX2_may_116 : decode cX2_may 116 = .ok (.ifCond .eq 7, 3) := by decide +kernel
theorem dX2_may_119 : decode cX2_may 119 = .ok (.iconst 1, 1) := by decide +kernel
theorem dX2_may_120 : decode cX2_may 120 = .ok (.goto 4, 3) := by decide +kernel
theorem dX2_may_123 : decode cX2_may 123 = .ok (.iconst 0, 1) := by decide +kernel
theorem dX2_may_124 : decode cX2_may 124 = .ok (.istore 8, 2) := by decide +kernel
theorem dX2_may_126 : decode cX2_may 126 = .ok (.iload 8, 2) := by decide +kernel
theorem dX2_may_128 : decode cX2_may 128 = .ok (.ifCond .ne 25, 3) := by decide +kernel
theorem dX2_may_131 : decode cX2_may 131 = .ok (.aload_n 0, 1) := by decide +kernel
theorem dX2_may_132 : decode cX2_may 132 = .ok (.iload_n 1, 1) := by decide +kernel
theorem dX2_may_133 : decode cX2_may 133 = .ok (.iload_n 2, 1) := by decide +kernel
theorem dX2_may_134 : decode cX2_may 134 = .ok (.iload 9, 2) := by decide +kernel
theorem dX2_may_136 : decode cX2_may 136 = .ok (.iconst 1, 1) := by decide +kernel
theorem dX2_may_137 : decode cX2_may 137 = .ok (.iadd, 1) := by decide +kernel
theorem dX2_may_138 : decode cX2_may 138 = .ok (.iconst 0, 1) := by decide +kernel
theorem dX2_may_139 : decode cX2_may 139 = .ok (.invokevirtual 147, 3) := by decide +kernel
theorem dX2_may_142 : decode cX2_may 142 = .ok (.iload 7, 2) := by decide +kernel
theorem dX2_may_144 : decode cX2_may 144 = .ok (.ishr, 1) := by decide +kernel
theorem dX2_may_145 : decode cX2_may 145 = .ok (.iconst 1, 1) := by decide +kernel
theorem dX2_may_146 : decode cX2_may 146 = .ok (.iand, 1) := by decide +kernel
theorem dX2_may_147 : decode cX2_may 147 = .ok (.iconst 1, 1) := by decide +kernel
theorem dX2_may_148 : decode cX2_may 148 = .ok (.if_icmp .ne 5, 3) := by decide +kernel
theorem dX2_may_151 : decode cX2_may 151 = .ok (.iconst 0, 1) := by decide +kernel
theorem dX2_may_152 : decode cX2_may 152 = .ok (.ireturn, 1) := by decide +kernel
theorem dX2_may_153 : decode cX2_may 153 = .ok (.iinc 9 1, 3) := by decide +kernel
theorem dX2_may_156 : decode cX2_may 156 = .ok (.goto (-61), 3) := by decide +kernel
theorem dX2_may_159 : decode cX2_may 159 = .ok (.iinc 7 1, 3) := by decide +kernel
theorem dX2_may_162 : decode cX2_may 162 = .ok (.goto (-91), 3) := by decide +kernel
theorem dX2_may_165 : decode cX2_may 165 = .ok (.iconst 1, 1) := by decide +kernel
theorem dX2_may_166 : decode cX2_may 166 = .ok (.ireturn, 1) := by decide +kernel
theorem dX2_may_167 : decode cX2_may 167 = .ok (.iconst 0, 1) := by decide +kernel
theorem dX2_may_168 : decode cX2_may 168 = .ok (.istore 7, 2) := by decide +kernel
theorem dX2_may_170 : decode cX2_may 170 = .ok (.iload_n 3, 1) := by decide +kernel
theorem dX2_may_171 : decode cX2_may 171 = .ok (.iconst 1, 1) := by decide +kernel
theorem dX2_may_172 : decode cX2_may 172 = .ok (.isub, 1) := by decide +kernel
theorem dX2_may_173 : decode cX2_may 173 = .ok (.istore 8, 2) := by decide +kernel
theorem dX2_may_175 : decode cX2_may 175 = .ok (.iload 8, 2) := by decide +kernel
theorem dX2_may_177 : decode cX2_may 177 = .ok (.ifCond .lt 62, 3) := by decide +kernel
theorem dX2_may_180 : decode cX2_may 180 = .ok (.iload 7, 2) := by decide +kernel
theorem dX2_may_182 : decode cX2_may 182 = .ok (.ifCond .ne 15, 3) := by decide +kernel
theorem dX2_may_185 : decode cX2_may 185 = .ok (.aload_n 0, 1) := by decide +kernel
theorem dX2_may_186 : decode cX2_may 186 = .ok (.iload_n 2, 1) := by decide +kernel
theorem dX2_may_187 : decode cX2_may 187 = .ok (.iload 8, 2) := by decide +kernel
theorem dX2_may_189 : decode cX2_may 189 = .ok (.iload 5, 2) := by decide +kernel
theorem dX2_may_191 : decode cX2_may 191 = .ok (.invokevirtual 101, 3) := by decide +kernel
theorem dX2_may_194 : decode cX2_may 194 = .ok (.ifCond .eq 7, 3) := by decide +kernel
theorem dX2_may_197 : decode cX2_may 197 = .ok (.iconst 1, 1) := by decide +kernel
theorem dX2_may_198 : decode cX2_may 198 = .ok (.goto 4, 3) := by decide +kernel
theorem dX2_may_201 : decode cX2_may 201 = .ok (.iconst 0, 1) := by decide +kernel
theorem dX2_may_202 : decode cX2_may 202 = .ok (.istore 7, 2) := by decide +kernel
theorem dX2_may_204 : decode cX2_may 204 = .ok (.iload 7, 2) := by decide +kernel
theorem dX2_may_206 : decode cX2_may 206 = .ok (.ifCond .ne 27, 3) := by decide +kernel
theorem dX2_may_209 : decode cX2_may 209 = .ok (.aload_n 0, 1) := by decide +kernel
theorem dX2_may_210 : decode cX2_may 210 = .ok (.iload_n 1, 1) := by decide +kernel
theorem dX2_may_211 : decode cX2_may 211 = .ok (.iload_n 2, 1) := by decide +kernel
theorem dX2_may_212 : decode cX2_may 212 = .ok (.iload 8, 2) := by decide +kernel
theorem dX2_may_214 : decode cX2_may 214 = .ok (.iconst 1, 1) := by decide +kernel
theorem dX2_may_215 : decode cX2_may 215 = .ok (.invokevirtual 147, 3) := by decide +kernel
theorem dX2_may_218 : decode cX2_may 218 = .ok (.bipush (-2), 2) := by decide +kernel
theorem dX2_may_220 : decode cX2_may 220 = .ok (.iand, 1) := by decide +kernel
theorem dX2_may_221 : decode cX2_may 221 = .ok (.iconst 1, 1) := by decide +kernel
theorem dX2_may_222 : decode cX2_may 222 = .ok (.iload 5, 2) := by decide +kernel
theorem dX2_may_224 : decode cX2_may 224 = .ok (.ishl, 1) := by decide +kernel
theorem dX2_may_225 : decode cX2_may 225 = .ok (.iconst (-1), 1) := by decide +kernel
theorem dX2_may_226 : decode cX2_may 226 = .ok (.ixor, 1) := by decide +kernel
theorem dX2_may_227 : decode cX2_may 227 = .ok (.iand, 1) := by decide +kernel
theorem dX2_may_228 : decode cX2_may 228 = .ok (.ifCond .eq 5, 3) := by decide +kernel
theorem dX2_may_231 : decode cX2_may 231 = .ok (.iconst 0, 1) := by decide +kernel
theorem dX2_may_232 : decode cX2_may 232 = .ok (.ireturn, 1) := by decide +kernel
theorem dX2_may_233 : decode cX2_may 233 = .ok (.iinc 8 (-1), 3) := by decide +kernel
theorem dX2_may_236 : decode cX2_may 236 = .ok (.goto (-61), 3) := by decide +kernel
theorem dX2_may_239 : decode cX2_may 239 = .ok (.iconst 1, 1) := by decide +kernel
theorem dX2_may_240 : decode cX2_may 240 = .ok (.ireturn, 1) := by decide +kernel
set_option maxRecDepth 20000 in
theorem ggX2_accuse_X2_isVote : GoodIn wsX2_accuse wsX2_isVote := goodIn_r _ [33, 34, 81, 82, 83, 84, 85, 86, 87, 88, 89, 90, 91, 92, 93, 94, 95, 96, 97, 98, 99, 100, 101, 102, 103, 104, 105, 106, 107] (by decide +kernel) (by decide +kernel)
set_option maxRecDepth 20000 in
theorem gX2_accuse_X2_isVote : GoodIn wsX2_accuse (wsV RX2 150 RX2 yX2_isVote wsX2_isVote) := goodIn_app (goodIn_of _ (by decide +kernel)) ggX2_accuse_X2_isVote
set_option maxRecDepth 20000 in
theorem ggX2_accuse_X2_isNode : GoodIn wsX2_accuse wsX2_isNode := goodIn_r _ [38, 39, 81, 82, 83, 84, 85, 86, 87, 88, 89, 90, 91, 92, 93, 94, 95, 96, 97, 98, 99, 100, 101, 102, 103, 104, 105, 106, 107] (by decide +kernel) (by decide +kernel)
set_option maxRecDepth 20000 in
theorem gX2_accuse_X2_isNode : GoodIn wsX2_accuse (wsV RX2 121 RX2 yX2_isNode wsX2_isNode) := goodIn_app (goodIn_of _ (by decide +kernel)) ggX2_accuse_X2_isNode
set_option maxRecDepth 20000 in
theorem ggX2_accuse_X2_in : GoodIn wsX2_accuse wsX2_in := goodIn_r _ [42] (by decide +kernel) (by decide +kernel)
set_option maxRecDepth 20000 in
theorem gX2_accuse_X2_in : GoodIn wsX2_accuse (va_wsS RX2 117 yX2_in wsX2_in) := goodIn_app (goodIn_of _ (by decide +kernel)) ggX2_accuse_X2_in
set_option maxRecDepth 20000 in
theorem ggX2_accuse_X2_isBreak : GoodIn wsX2_accuse wsX2_isBreak := goodIn_r _ [46, 47, 48, 49, 32, 50, 10, 5, 51, 52, 53, 54, 55, 56, 57, 58, 59, 60, 61, 62, 63, 64, 65, 66, 67, 68, 69, 70, 2, 71, 72, 73, 74, 75, 76, 77, 78, 79, 80, 81, 82, 83, 84, 85, 86, 87, 88, 89, 90, 91, 92, 93, 94, 95, 96, 97, 98, 99, 100, 101, 102, 103, 104, 105, 106, 107] (by decide +kernel) (by decide +kernel)
set_option maxRecDepth 20000 in
theorem gX2_accuse_X2_isBreak : GoodIn wsX2_accuse (wsV RX2 153 RX2 yX2_isBreak wsX2_isBreak) := goodIn_app (goodIn_of _ (by decide +kernel)) ggX2_accuse_X2_isBreak
theorem dX2_accuse_0 : decode cX2_accuse 0 = .ok (.aload_n 0, 1) := by decide +kernel
theorem dX2_accuse_1 : decode cX2_accuse 1 = .ok (.iload_n 2, 1) := by decide +kernel
theorem dX2_accuse_2 : decode cX2_accuse 2 = .ok (.invokevirtual 150, 3) := by decide +kernel
theorem dX2_accuse_5 : decode cX2_accuse 5 = .ok (.ifCond .eq 31, 3) := by decide +kernel
