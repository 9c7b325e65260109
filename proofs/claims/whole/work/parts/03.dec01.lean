theorem dX1_certain_10 : decode cX1_certain 10 = .ok (.ireturn, 1) := by decide +kernel
theorem dX1_certain_11 : decode cX1_certain 11 = .ok (.iconst 0, 1) := by decide +kernel
theorem dX1_certain_12 : decode cX1_certain 12 = .ok (.istore_n 3, 1) := by decide +kernel
theorem dX1_certain_13 : decode cX1_certain 13 = .ok (.iconst 1, 1) := by decide +kernel
theorem dX1_certain_14 : decode cX1_certain 14 = .ok (.istore 4, 2) := by decide +kernel
theorem dX1_certain_16 : decode cX1_certain 16 = .ok (.iload 4, 2) := by decide +kernel
theorem dX1_certain_18 : decode cX1_certain 18 = .ok (.bipush 10, 2) := by decide +kernel
theorem dX1_certain_20 : decode cX1_certain 20 = .ok (.if_icmp .ge 34, 3) := by decide +kernel
theorem dX1_certain_23 : decode cX1_certain 23 = .ok (.aload_n 0, 1) := by decide +kernel
theorem dX1_certain_24 : decode cX1_certain 24 = .ok (.getfield 54, 3) := by decide +kernel
theorem dX1_certain_27 : decode cX1_certain 27 = .ok (.iload_n 1, 1) := by decide +kernel
theorem dX1_certain_28 : decode cX1_certain 28 = .ok (.iaload, 1) := by decide +kernel
theorem dX1_certain_29 : decode cX1_certain 29 = .ok (.iload 4, 2) := by decide +kernel
theorem dX1_certain_31 : decode cX1_certain 31 = .ok (.invokestatic 164, 3) := by decide +kernel
theorem dX1_certain_34 : decode cX1_certain 34 = .ok (.ifCond .eq 14, 3) := by decide +kernel
theorem dX1_certain_37 : decode cX1_certain 37 = .ok (.iload_n 3, 1) := by decide +kernel
theorem dX1_certain_38 : decode cX1_certain 38 = .ok (.iload_n 2, 1) := by decide +kernel
theorem dX1_certain_39 : decode cX1_certain 39 = .ok (.if_icmp .ne 6, 3) := by decide +kernel
theorem dX1_certain_42 : decode cX1_certain 42 = .ok (.iload 4, 2) := by decide +kernel
theorem dX1_certain_44 : decode cX1_certain 44 = .ok (.ireturn, 1) := by decide +kernel
theorem dX1_certain_45 : decode cX1_certain 45 = .ok (.iinc 3 1, 3) := by decide +kernel
theorem dX1_certain_48 : decode cX1_certain 48 = .ok (.iinc 4 1, 3) := by decide +kernel
theorem dX1_certain_51 : decode cX1_certain 51 = .ok (.goto (-35), 3) := by decide +kernel
theorem dX1_certain_54 : decode cX1_certain 54 = .ok (.iconst (-1), 1) := by decide +kernel
theorem dX1_certain_55 : decode cX1_certain 55 = .ok (.ireturn, 1) := by decide +kernel
set_option maxRecDepth 20000 in
theorem ggX1_breaks_X1_hasBegun : GoodIn wsX1_breaks wsX1_hasBegun := goodIn_r _ [7, 8, 64, 65, 66, 67, 68, 69, 70, 71, 72, 73, 74, 75, 76, 77] (by decide +kernel) (by decide +kernel)
set_option maxRecDepth 20000 in
theorem gX1_breaks_X1_hasBegun : GoodIn wsX1_breaks (wsV RX1 150 RX1 yX1_hasBegun wsX1_hasBegun) := goodIn_app (goodIn_of _ (by decide +kernel)) ggX1_breaks_X1_hasBegun
set_option maxRecDepth 20000 in
theorem ggX1_breaks_X1_isKind : GoodIn wsX1_breaks wsX1_isKind := goodIn_r _ [11] (by decide +kernel) (by decide +kernel)
set_option maxRecDepth 20000 in
theorem gX1_breaks_X1_isKind : GoodIn wsX1_breaks (va_wsS RX1 168 yX1_isKind wsX1_isKind) := goodIn_app (goodIn_of _ (by decide +kernel)) ggX1_breaks_X1_isKind
set_option maxRecDepth 20000 in
theorem ggX1_breaks_X1_heightOf : GoodIn wsX1_breaks wsX1_heightOf := goodIn_r _ [14] (by decide +kernel) (by decide +kernel)
set_option maxRecDepth 20000 in
theorem gX1_breaks_X1_heightOf : GoodIn wsX1_breaks (va_wsS RX1 135 yX1_heightOf wsX1_heightOf) := goodIn_app (goodIn_of _ (by decide +kernel)) ggX1_breaks_X1_heightOf
set_option maxRecDepth 20000 in
theorem ggX1_breaks_X1_countBreaksFrom : GoodIn wsX1_breaks wsX1_countBreaksFrom := goodIn_r _ [18, 2, 1, 19, 20, 21, 6, 22, 23, 24, 25, 26, 27, 28, 29, 30, 31, 12, 13, 14, 32, 33, 34, 35, 36, 37, 38, 39, 40, 41, 42, 43, 44, 45, 46, 47, 48, 49, 50, 51, 52, 53, 54, 55, 56, 57, 58, 59, 60, 61, 62, 63, 64, 65, 66, 67, 68, 69, 70, 71, 72, 73, 74, 75, 76, 77] (by decide +kernel) (by decide +kernel)
set_option maxRecDepth 20000 in
theorem gX1_breaks_X1_countBreaksFrom : GoodIn wsX1_breaks (wsV RX1 171 RX1 yX1_countBreaksFrom wsX1_countBreaksFrom) := goodIn_app (goodIn_of _ (by decide +kernel)) ggX1_breaks_X1_countBreaksFrom
theorem dX1_breaks_0 : decode cX1_breaks 0 = .ok (.aload_n 0, 1) := by decide +kernel
theorem dX1_breaks_1 : decode cX1_breaks 1 = .ok (.iload_n 1, 1) := by decide +kernel
theorem dX1_breaks_2 : decode cX1_breaks 2 = .ok (.invokevirtual 150, 3) := by decide +kernel
theorem dX1_breaks_5 : decode cX1_breaks 5 = .ok (.ifCond .eq 10, 3) := by decide +kernel
theorem dX1_breaks_8 : decode cX1_breaks 8 = .ok (.iload_n 2, 1) := by decide +kernel
theorem dX1_breaks_9 : decode cX1_breaks 9 = .ok (.invokestatic 168, 3) := by decide +kernel
theorem dX1_breaks_12 : decode cX1_breaks 12 = .ok (.ifCond .ne 6, 3) := by decide +kernel
theorem dX1_breaks_15 : decode cX1_breaks 15 = .ok (.bipush (-102), 2) := by decide +kernel
theorem dX1_breaks_17 : decode cX1_breaks 17 = .ok (.ireturn, 1) := by decide +kernel
theorem dX1_breaks_18 : decode cX1_breaks 18 = .ok (.iconst 0, 1) := by decide +kernel
theorem dX1_breaks_19 : decode cX1_breaks 19 = .ok (.istore_n 3, 1) := by decide +kernel
theorem dX1_breaks_20 : decode cX1_breaks 20 = .ok (.iconst 0, 1) := by decide +kernel
theorem dX1_breaks_21 : decode cX1_breaks 21 = .ok (.istore 4, 2) := by decide +kernel
theorem dX1_breaks_23 : decode cX1_breaks 23 = .ok (.iload 4, 2) := by decide +kernel
theorem dX1_breaks_25 : decode cX1_breaks 25 = .ok (.aload_n 0, 1) := by decide +kernel
theorem dX1_breaks_26 : decode cX1_breaks 26 = .ok (.getfield 48, 3) := by decide +kernel
theorem dX1_breaks_29 : decode cX1_breaks 29 = .ok (.if_icmp .ge 33, 3) := by decide +kernel
theorem dX1_breaks_32 : decode cX1_breaks 32 = .ok (.aload_n 0, 1) := by decide +kernel
theorem dX1_breaks_33 : decode cX1_breaks 33 = .ok (.getfield 44, 3) := by decide +kernel
theorem dX1_breaks_36 : decode cX1_breaks 36 = .ok (.iload 4, 2) := by decide +kernel
theorem dX1_breaks_38 : decode cX1_breaks 38 = .ok (.iaload, 1) := by decide +kernel
theorem dX1_breaks_39 : decode cX1_breaks 39 = .ok (.invokestatic 135, 3) := by decide +kernel
theorem dX1_breaks_42 : decode cX1_breaks 42 = .ok (.iload_n 1, 1) := by decide +kernel
theorem dX1_breaks_43 : decode cX1_breaks 43 = .ok (.if_icmp .ne 13, 3) := by decide +kernel
theorem dX1_breaks_46 : decode cX1_breaks 46 = .ok (.iload_n 3, 1) := by decide +kernel
theorem dX1_breaks_47 : decode cX1_breaks 47 = .ok (.aload_n 0, 1) := by decide +kernel
theorem dX1_breaks_48 : decode cX1_breaks 48 = .ok (.iload_n 2, 1) := by decide +kernel
theorem dX1_breaks_49 : decode cX1_breaks 49 = .ok (.iload 4, 2) := by decide +kernel
theorem dX1_breaks_51 : decode cX1_breaks 51 = .ok (.invokevirtual 171, 3) := by decide +kernel
theorem dX1_breaks_54 : decode cX1_breaks 54 = .ok (.iadd, 1) := by decide +kernel
theorem dX1_breaks_55 : decode cX1_breaks 55 = .ok (.istore_n 3, 1) := by decide +kernel
theorem dX1_breaks_56 : decode cX1_breaks 56 = .ok (.iinc 4 1, 3) := by decide +kernel
theorem dX1_breaks_59 : decode cX1_breaks 59 = .ok (.goto (-36), 3) := by decide +kernel
theorem dX1_breaks_62 : decode cX1_breaks 62 = .ok (.iload_n 3, 1) := by decide +kernel
theorem dX1_breaks_63 : decode cX1_breaks 63 = .ok (.ireturn, 1) := by decide +kernel
set_option maxRecDepth 20000 in
theorem ggX1_broken_X1_hasBegun : GoodIn wsX1_broken wsX1_hasBegun := goodIn_r _ [7, 8, 68, 69, 70, 71, 72, 73, 74, 75, 76, 77, 78, 79, 80, 81] (by decide +kernel) (by decide +kernel)
set_option maxRecDepth 20000 in
theorem gX1_broken_X1_hasBegun : GoodIn wsX1_broken (wsV RX1 150 RX1 yX1_hasBegun wsX1_hasBegun) := goodIn_app (goodIn_of _ (by decide +kernel)) ggX1_broken_X1_hasBegun
set_option maxRecDepth 20000 in
theorem ggX1_broken_X1_isKind : GoodIn wsX1_broken wsX1_isKind := goodIn_r _ [11] (by decide +kernel) (by decide +kernel)
set_option maxRecDepth 20000 in
theorem gX1_broken_X1_isKind : GoodIn wsX1_broken (va_wsS RX1 168 yX1_isKind wsX1_isKind) := goodIn_app (goodIn_of _ (by decide +kernel)) ggX1_broken_X1_isKind
set_option maxRecDepth 20000 in
theorem ggX1_broken_X1_heightOf : GoodIn wsX1_broken wsX1_heightOf := goodIn_r _ [14] (by decide +kernel) (by decide +kernel)
set_option maxRecDepth 20000 in
theorem gX1_broken_X1_heightOf : GoodIn wsX1_broken (va_wsS RX1 135 yX1_heightOf wsX1_heightOf) := goodIn_app (goodIn_of _ (by decide +kernel)) ggX1_broken_X1_heightOf
set_option maxRecDepth 20000 in
theorem ggX1_broken_X1_countBreaksFrom : GoodIn wsX1_broken wsX1_countBreaksFrom := goodIn_r _ [18, 2, 1, 19, 20, 21, 6, 22, 23, 24, 25, 26, 27, 28, 29, 30, 31, 12, 13, 14, 32, 33, 34, 35, 36, 37, 38, 39, 40, 41, 42, 43, 44, 45, 46, 47, 48, 49, 50, 51, 52, 53, 54, 55, 56, 57, 58, 59, 60, 61, 62, 63, 68, 69, 70, 71, 72, 73, 74, 75, 76, 77, 78, 79, 80, 81] (by decide +kernel) (by decide +kernel)
set_option maxRecDepth 20000 in
theorem gX1_broken_X1_countBreaksFrom : GoodIn wsX1_broken (wsV RX1 171 RX1 yX1_countBreaksFrom wsX1_countBreaksFrom) := goodIn_app (goodIn_of _ (by decide +kernel)) ggX1_broken_X1_countBreaksFrom
set_option maxRecDepth 20000 in
theorem ggX1_broken_X1_partner : GoodIn wsX1_broken wsX1_partner := goodIn_r _ [67, 1, 2, 46, 47, 6, 48, 49, 50, 51, 52, 53, 54, 55, 56, 57, 58, 59, 23, 24, 25, 26, 27, 28, 29, 30, 31, 43, 44, 45, 32, 33, 34, 12, 13, 14, 60, 61, 62, 63, 35, 36, 37, 38, 39, 40, 41, 42, 68, 69, 70, 71, 72, 73, 74, 75, 76, 77, 78, 79, 80, 81] (by decide +kernel) (by decide +kernel)
set_option maxRecDepth 20000 in
theorem gX1_broken_X1_partner : GoodIn wsX1_broken (wsV RX1 174 RX1 yX1_partner wsX1_partner) := goodIn_app (goodIn_of _ (by decide +kernel)) ggX1_broken_X1_partner
theorem dX1_broken_0 : decode cX1_broken 0 = .ok (.aload_n 0, 1) := by decide +kernel
theorem dX1_broken_1 : decode cX1_broken 1 = .ok (.iload_n 1, 1) := by decide +kernel
theorem dX1_broken_2 : decode cX1_broken 2 = .ok (.invokevirtual 150, 3) := by decide +kernel
theorem dX1_broken_5 : decode cX1_broken 5 = .ok (.ifCond .eq 21, 3) := by decide +kernel
theorem dX1_broken_8 : decode cX1_broken 8 = .ok (.iload_n 2, 1) := by decide +kernel
theorem dX1_broken_9 : decode cX1_broken 9 = .ok (.invokestatic 168, 3) := by decide +kernel
theorem dX1_broken_12 : decode cX1_broken 12 = .ok (.ifCond .eq 14, 3) := by decide +kernel
theorem dX1_broken_15 : decode cX1_broken 15 = .ok (.iload 4, 2) := by decide +kernel
theorem dX1_broken_17 : decode cX1_broken 17 = .ok (.ifCond .lt 9, 3) := by decide +kernel
theorem dX1_broken_20 : decode cX1_broken 20 = .ok (.iload 4, 2) := by decide +kernel
theorem dX1_broken_22 : decode cX1_broken 22 = .ok (.iconst 1, 1) := by decide +kernel
theorem dX1_broken_23 : decode cX1_broken 23 = .ok (.if_icmp .le 6, 3) := by decide +kernel
theorem dX1_broken_26 : decode cX1_broken 26 = .ok (.bipush (-102), 2) := by decide +kernel
theorem dX1_broken_28 : decode cX1_broken 28 = .ok (.ireturn, 1) := by decide +kernel
theorem dX1_broken_29 : decode cX1_broken 29 = .ok (.iload_n 3, 1) := by decide +kernel
theorem dX1_broken_30 : decode cX1_broken 30 = .ok (.ifCond .ge 5, 3) := by decide +kernel
theorem dX1_broken_33 : decode cX1_broken 33 = .ok (.iconst (-1), 1) := by decide +kernel
theorem dX1_broken_34 : decode cX1_broken 34 = .ok (.ireturn, 1) := by decide +kernel
theorem dX1_broken_35 : decode cX1_broken 35 = .ok (.iload_n 3, 1) := by decide +kernel
theorem dX1_broken_36 : decode cX1_broken 36 = .ok (.istore 5, 2) := by decide +kernel
theorem dX1_broken_38 : decode cX1_broken 38 = .ok (.iconst 0, 1) := by decide +kernel
theorem dX1_broken_39 : decode cX1_broken 39 = .ok (.istore 6, 2) := by decide +kernel
theorem dX1_broken_41 : decode cX1_broken 41 = .ok (.iload 6, 2) := by decide +kernel
theorem dX1_broken_43 : decode cX1_broken 43 = .ok (.aload_n 0, 1) := by decide +kernel
theorem dX1_broken_44 : decode cX1_broken 44 = .ok (.getfield 48, 3) := by decide +kernel
theorem dX1_broken_47 : decode cX1_broken 47 = .ok (.if_icmp .ge 66, 3) := by decide +kernel
theorem dX1_broken_50 : decode cX1_broken 50 = .ok (.aload_n 0, 1) := by decide +kernel
theorem dX1_broken_51 : decode cX1_broken 51 = .ok (.getfield 44, 3) := by decide +kernel
theorem dX1_broken_54 : decode cX1_broken 54 = .ok (.iload 6, 2) := by decide +kernel
theorem dX1_broken_56 : decode cX1_broken 56 = .ok (.iaload, 1) := by decide +kernel
theorem dX1_broken_57 : decode cX1_broken 57 = .ok (.invokestatic 135, 3) := by decide +kernel
theorem dX1_broken_60 : decode cX1_broken 60 = .ok (.iload_n 1, 1) := by decide +kernel
theorem dX1_broken_61 : decode cX1_broken 61 = .ok (.if_icmp .ne 46, 3) := by decide +kernel
theorem dX1_broken_64 : decode cX1_broken 64 = .ok (.aload_n 0, 1) := by decide +kernel
theorem dX1_broken_65 : decode cX1_broken 65 = .ok (.iload_n 2, 1) := by decide +kernel
theorem dX1_broken_66 : decode cX1_broken 66 = .ok (.iload 6, 2) := by decide +kernel
theorem dX1_broken_68 : decode cX1_broken 68 = .ok (.invokevirtual 171, 3) := by decide +kernel
theorem dX1_broken_71 : decode cX1_broken 71 = .ok (.istore 7, 2) := by decide +kernel
theorem dX1_broken_73 : decode cX1_broken 73 = .ok (.iload 5, 2) := by decide +kernel
theorem dX1_broken_75 : decode cX1_broken 75 = .ok (.iload 7, 2) := by decide +kernel
theorem dX1_broken_77 : decode cX1_broken 77 = .ok (.if_icmp .ge 23, 3) := by decide +kernel
theorem dX1_broken_80 : decode cX1_broken 80 = .ok (.iload 4, 2) := by decide +kernel
theorem dX1_broken_82 : decode cX1_broken 82 = .ok (.ifCond .ne 8, 3) := by decide +kernel
theorem dX1_broken_85 : decode cX1_broken 85 = .ok (.iload 6, 2) := by decide +kernel
theorem dX1_broken_87 : decode cX1_broken 87 = .ok (.goto 12, 3) := by decide +kernel
theorem dX1_broken_90 : decode cX1_broken 90 = .ok (.aload_n 0, 1) := by decide +kernel
theorem dX1_broken_91 : decode cX1_broken 91 = .ok (.iload_n 2, 1) := by decide +kernel
theorem dX1_broken_92 : decode cX1_broken 92 = .ok (.iload 6, 2) := by decide +kernel
theorem dX1_broken_94 : decode cX1_broken 94 = .ok (.iload 5, 2) := by decide +kernel
theorem dX1_broken_96 : decode cX1_broken 96 = .ok (.invokevirtual 174, 3) := by decide +kernel
theorem dX1_broken_99 : decode cX1_broken 99 = .ok (.ireturn, 1) := by decide +kernel
theorem dX1_broken_100 : decode cX1_broken 100 = .ok (.iload 5, 2) := by decide +kernel
theorem dX1_broken_102 : decode cX1_broken 102 = .ok (.iload 7, 2) := by decide +kernel
theorem dX1_broken_104 : decode cX1_broken 104 = .ok (.isub, 1) := by decide +kernel
theorem dX1_broken_105 : decode cX1_broken 105 = .ok (.istore 5, 2) := by decide +kernel
theorem dX1_broken_107 : decode cX1_broken 107 = .ok (.iinc 6 1, 3) := by decide +kernel
theorem dX1_broken_110 : decode cX1_broken 110 = .ok (.goto (-69), 3) := by decide +kernel
theorem dX1_broken_113 : decode cX1_broken 113 = .ok (.iconst (-1), 1) := by decide +kernel
theorem dX1_broken_114 : decode cX1_broken 114 = .ok (.ireturn, 1) := by decide +kernel
set_option maxRecDepth 20000 in
theorem ggX1_named_X1_hasBegun : GoodIn wsX1_named wsX1_hasBegun := goodIn_r _ [7, 8, 61, 62, 63, 64, 65, 66, 67, 68, 69, 70, 71, 72, 73, 74] (by decide +kernel) (by decide +kernel)
set_option maxRecDepth 20000 in
theorem gX1_named_X1_hasBegun : GoodIn wsX1_named (wsV RX1 150 RX1 yX1_hasBegun wsX1_hasBegun) := goodIn_app (goodIn_of _ (by decide +kernel)) ggX1_named_X1_hasBegun
set_option maxRecDepth 20000 in
theorem ggX1_named_X1_nodeOf : GoodIn wsX1_named wsX1_nodeOf := goodIn_r _ [11] (by decide +kernel) (by decide +kernel)
set_option maxRecDepth 20000 in
theorem gX1_named_X1_nodeOf : GoodIn wsX1_named (va_wsS RX1 132 yX1_nodeOf wsX1_nodeOf) := goodIn_app (goodIn_of _ (by decide +kernel)) ggX1_named_X1_nodeOf
set_option maxRecDepth 20000 in
theorem ggX1_named_X1_heightOf : GoodIn wsX1_named wsX1_heightOf := goodIn_r _ [14] (by decide +kernel) (by decide +kernel)
set_option maxRecDepth 20000 in
theorem gX1_named_X1_heightOf : GoodIn wsX1_named (va_wsS RX1 135 yX1_heightOf wsX1_heightOf) := goodIn_app (goodIn_of _ (by decide +kernel)) ggX1_named_X1_heightOf
set_option maxRecDepth 20000 in
theorem ggX1_named_X1_makesBreak : GoodIn wsX1_named wsX1_makesBreak := goodIn_r _ [18, 1, 2, 19, 20, 21, 6, 22, 23, 24, 25, 26, 27, 28, 29, 30, 31, 12, 13, 14, 32, 33, 34, 35, 36, 37, 38, 39, 40, 41, 42, 43, 44, 45, 46, 47, 48, 49, 50, 51, 52, 53, 54, 55, 56, 57, 58, 59, 60, 61, 62, 63, 64, 65, 66, 67, 68, 69, 70, 71, 72, 73, 74] (by decide +kernel) (by decide +kernel)
set_option maxRecDepth 20000 in
theorem gX1_named_X1_makesBreak : GoodIn wsX1_named (wsV RX1 102 RX1 yX1_makesBreak wsX1_makesBreak) := goodIn_app (goodIn_of _ (by decide +kernel)) ggX1_named_X1_makesBreak
theorem dX1_named_0 : decode cX1_named 0 = .ok (.aload_n 0, 1) := by decide +kernel
theorem dX1_named_1 : decode cX1_named 1 = .ok (.iload_n 1, 1) := by decide +kernel
theorem dX1_named_2 : decode cX1_named 2 = .ok (.invokevirtual 150, 3) := by decide +kernel
theorem dX1_named_5 : decode cX1_named 5 = .ok (.ifCond .ne 6, 3) := by decide +kernel
theorem dX1_named_8 : decode cX1_named 8 = .ok (.bipush (-102), 2) := by decide +kernel
theorem dX1_named_10 : decode cX1_named 10 = .ok (.ireturn, 1) := by decide +kernel
theorem dX1_named_11 : decode cX1_named 11 = .ok (.iconst 0, 1) := by decide +kernel
theorem dX1_named_12 : decode cX1_named 12 = .ok (.istore_n 2, 1) := by decide +kernel
theorem dX1_named_13 : decode cX1_named 13 = .ok (.iconst 0, 1) := by decide +kernel
theorem dX1_named_14 : decode cX1_named 14 = .ok (.istore_n 3, 1) := by decide +kernel
theorem dX1_named_15 : decode cX1_named 15 = .ok (.iload_n 3, 1) := by decide +kernel
theorem dX1_named_16 : decode cX1_named 16 = .ok (.aload_n 0, 1) := by decide +kernel
theorem dX1_named_17 : decode cX1_named 17 = .ok (.getfield 48, 3) := by decide +kernel
theorem dX1_named_20 : decode cX1_named 20 = .ok (.if_icmp .ge 60, 3) := by decide +kernel
theorem dX1_named_23 : decode cX1_named 23 = .ok (.iconst 1, 1) := by decide +kernel
theorem dX1_named_24 : decode cX1_named 24 = .ok (.aload_n 0, 1) := by decide +kernel
theorem dX1_named_25 : decode cX1_named 25 = .ok (.getfield 44, 3) := by decide +kernel
theorem dX1_named_28 : decode cX1_named 28 = .ok (.iload_n 3, 1) := by decide +kernel
theorem dX1_named_29 : decode cX1_named 29 = .ok (.iaload, 1) := by decide +kernel
theorem dX1_named_30 : decode cX1_named 30 = .ok (.invokestatic 132, 3) := by decide +kernel
theorem dX1_named_33 : decode cX1_named 33 = .ok (.ishl, 1) := by decide +kernel
theorem dX1_named_34 : decode cX1_named 34 = .ok (.istore 4, 2) := by decide +kernel
theorem dX1_named_36 : decode cX1_named 36 = .ok (.aload_n 0, 1) := by decide +kernel
theorem dX1_named_37 : decode cX1_named 37 = .ok (.getfield 44, 3) := by decide +kernel
theorem dX1_named_40 : decode cX1_named 40 = .ok (.iload_n 3, 1) := by decide +kernel
theorem dX1_named_41 : decode cX1_named 41 = .ok (.iaload, 1) := by decide +kernel
theorem dX1_named_42 : decode cX1_named 42 = .ok (.invokestatic 135, 3) := by decide +kernel
theorem dX1_named_45 : decode cX1_named 45 = .ok (.iload_n 1, 1) := by decide +kernel
theorem dX1_named_46 : decode cX1_named 46 = .ok (.if_icmp .ne 28, 3) := by decide +kernel
theorem dX1_named_49 : decode cX1_named 49 = .ok (.iload_n 2, 1) := by decide +kernel
theorem dX1_named_50 : decode cX1_named 50 = .ok (.iload 4, 2) := by decide +kernel
theorem dX1_named_52 : decode cX1_named 52 = .ok (.iand, 1) := by decide +kernel
theorem dX1_named_53 : decode cX1_named 53 = .ok (.ifCond .ne 21, 3) := by decide +kernel
theorem dX1_named_56 : decode cX1_named 56 = .ok (.aload_n 0, 1) := by decide +kernel
theorem dX1_named_57 : decode cX1_named 57 = .ok (.aload_n 0, 1) := by decide +kernel
theorem dX1_named_58 : decode cX1_named 58 = .ok (.getfield 44, 3) := by decide +kernel
theorem dX1_named_61 : decode cX1_named 61 = .ok (.iload_n 3, 1) := by decide +kernel
theorem dX1_named_62 : decode cX1_named 62 = .ok (.iaload, 1) := by decide +kernel
theorem dX1_named_63 : decode cX1_named 63 = .ok (.invokevirtual 102, 3) := by decide +kernel
theorem dX1_named_66 : decode cX1_named 66 = .ok (.ifCond .eq 8, 3) := by decide +kernel
theorem dX1_named_69 : decode cX1_named 69 = .ok (.iload_n 2, 1) := by decide +kernel
theorem dX1_named_70 : decode cX1_named 70 = .ok (.iload 4, 2) := by decide +kernel
theorem dX1_named_72 : decode cX1_named 72 = .ok (.ior, 1) := by decide +kernel
theorem dX1_named_73 : decode cX1_named 73 = .ok (.istore_n 2, 1) := by decide +kernel
theorem dX1_named_74 : decode cX1_named 74 = .ok (.iinc 3 1, 3) := by decide +kernel
theorem dX1_named_77 : decode cX1_named 77 = .ok (.goto (-62), 3) := by decide +kernel
theorem dX1_named_80 : decode cX1_named 80 = .ok (.iload_n 2, 1) := by decide +kernel
theorem dX1_named_81 : decode cX1_named 81 = .ok (.ireturn, 1) := by decide +kernel
set_option maxRecDepth 20000 in
theorem ggX1_taken_Jx4a65c_size_8abf5 : GoodIn wsX1_taken wsJx4a65c_size_8abf5 := goodIn_r _ [9, 10, 49, 50, 51] (by decide +kernel) (by decide +kernel)
set_option maxRecDepth 20000 in
theorem gX1_taken_Jx4a65c_size_8abf5 : GoodIn wsX1_taken (wsV RX1 122 RJx4a65c yJx4a65c_size_8abf5 wsJx4a65c_size_8abf5) := goodIn_app (goodIn_of _ (by decide +kernel)) ggX1_taken_Jx4a65c_size_8abf5
set_option maxRecDepth 20000 in
theorem ggX1_taken_Jx4a65c_get_915e3 : GoodIn wsX1_taken wsJx4a65c_get_915e3 := goodIn_r _ [14, 10, 15, 16, 17, 18, 19, 20, 21, 22, 23, 24, 25, 8, 26, 27, 49, 50, 51] (by decide +kernel) (by decide +kernel)
set_option maxRecDepth 20000 in
theorem gX1_taken_Jx4a65c_get_915e3 : GoodIn wsX1_taken (wsV RX1 178 RJx4a65c yJx4a65c_get_915e3 wsJx4a65c_get_915e3) := goodIn_app (goodIn_of _ (by decide +kernel)) ggX1_taken_Jx4a65c_get_915e3
theorem dX1_taken_0 : decode cX1_taken 0 = .ok (.iload_n 1, 1) := by decide +kernel
theorem dX1_taken_1 : decode cX1_taken 1 = .ok (.ifCond .lt 14, 3) := by decide +kernel
theorem dX1_taken_4 : decode cX1_taken 4 = .ok (.iload_n 1, 1) := by decide +kernel
theorem dX1_taken_5 : decode cX1_taken 5 = .ok (.aload_n 0, 1) := by decide +kernel
theorem dX1_taken_6 : decode cX1_taken 6 = .ok (.getfield 60, 3) := by decide +kernel
theorem dX1_taken_9 : decode cX1_taken 9 = .ok (.invokevirtual 122, 3) := by decide +kernel
theorem dX1_taken_12 : decode cX1_taken 12 = .ok (.if_icmp .lt 7, 3) := by decide +kernel
theorem dX1_taken_15 : decode cX1_taken 15 = .ok (.ldc2_w 74, 3) := by decide +kernel
theorem dX1_taken_18 : decode cX1_taken 18 = .ok (.lreturn, 1) := by decide +kernel
theorem dX1_taken_19 : decode cX1_taken 19 = .ok (.aload_n 0, 1) := by decide +kernel
theorem dX1_taken_20 : decode cX1_taken 20 = .ok (.getfield 60, 3) := by decide +kernel
theorem dX1_taken_23 : decode cX1_taken 23 = .ok (.iload_n 1, 1) := by decide +kernel
theorem dX1_taken_24 : decode cX1_taken 24 = .ok (.invokevirtual 178, 3) := by decide +kernel
theorem dX1_taken_27 : decode cX1_taken 27 = .ok (.checkcast 182, 3) := by decide +kernel
theorem dX1_taken_30 : decode cX1_taken 30 = .ok (.astore_n 3, 1) := by decide +kernel
theorem dX1_taken_31 : decode cX1_taken 31 = .ok (.iload_n 2, 1) := by decide +kernel
theorem dX1_taken_32 : decode cX1_taken 32 = .ok (.tableswitch 84 0 6 #[44, 50, 56, 62, 68, 74, 79], 44) := by decide +kernel
theorem dX1_taken_76 : decode cX1_taken 76 = .ok (.aload_n 3, 1) := by decide +kernel
theorem dX1_taken_77 : decode cX1_taken 77 = .ok (.getfield 184, 3) := by decide +kernel
theorem dX1_taken_80 : decode cX1_taken 80 = .ok (.i2l, 1) := by decide +kernel
theorem dX1_taken_81 : decode cX1_taken 81 = .ok (.lreturn, 1) := by decide +kernel
theorem dX1_taken_82 : decode cX1_taken 82 = .ok (.aload_n 3, 1) := by decide +kernel
theorem dX1_taken_83 : decode cX1_taken 83 = .ok (.getfield 187, 3) := by decide +kernel
theorem dX1_taken_86 : decode cX1_taken 86 = .ok (.i2l, 1) := by decide +kernel
theorem dX1_taken_87 : decode cX1_taken 87 = .ok (.lreturn, 1) := by decide +kernel
theorem dX1_taken_88 : decode cX1_taken 88 = .ok (.aload_n 3, 1) := by decide +kernel
theorem dX1_taken_89 : decode cX1_taken 89 = .ok (.getfield 190, 3) := by decide +kernel
theorem dX1_taken_92 : decode cX1_taken 92 = .ok (.i2l, 1) := by decide +kernel
theorem dX1_taken_93 : decode cX1_taken 93 = .ok (.lreturn, 1) := by decide +kernel
theorem dX1_taken_94 : decode cX1_taken 94 = .ok (.aload_n 3, 1) := by decide +kernel
theorem dX1_taken_95 : decode cX1_taken 95 = .ok (.getfield 193, 3) := by decide +kernel
theorem dX1_taken_98 : decode cX1_taken 98 = .ok (.i2l, 1) := by decide +kernel
theorem dX1_taken_99 : decode cX1_taken 99 = .ok (.lreturn, 1) := by decide +kernel
theorem dX1_taken_100 : decode cX1_taken 100 = .ok (.aload_n 3, 1) := by decide +kernel
theorem dX1_taken_101 : decode cX1_taken 101 = .ok (.getfield 196, 3) := by decide +kernel
theorem dX1_taken_104 : decode cX1_taken 104 = .ok (.i2l, 1) := by decide +kernel
theorem dX1_taken_105 : decode cX1_taken 105 = .ok (.lreturn, 1) := by decide +kernel
theorem dX1_taken_106 : decode cX1_taken 106 = .ok (.aload_n 3, 1) := by decide +kernel
theorem dX1_taken_107 : decode cX1_taken 107 = .ok (.getfield 199, 3) := by decide +kernel
theorem dX1_taken_110 : decode cX1_taken 110 = .ok (.lreturn, 1) := by decide +kernel
theorem dX1_taken_111 : decode cX1_taken 111 = .ok (.aload_n 3, 1) := by decide +kernel
theorem dX1_taken_112 : decode cX1_taken 112 = .ok (.getfield 202, 3) := by decide +kernel
theorem dX1_taken_115 : decode cX1_taken 115 = .ok (.lreturn, 1) := by decide +kernel
theorem dX1_taken_116 : decode cX1_taken 116 = .ok (.ldc2_w 76, 3) := by decide +kernel
theorem dX1_taken_119 : decode cX1_taken 119 = .ok (.lreturn, 1) := by decide +kernel
theorem dX1_isNode_0 : decode cX1_isNode 0 = .ok (.iload_n 1, 1) := by decide +kernel
theorem dX1_isNode_1 : decode cX1_isNode 1 = .ok (.ifCond .lt 15, 3) := by decide +kernel
theorem dX1_isNode_4 : decode cX1_isNode 4 = .ok (.iload_n 1, 1) := by decide +kernel
theorem dX1_isNode_5 : decode cX1_isNode 5 = .ok (.aload_n 0, 1) := by decide +kernel
theorem dX1_isNode_6 : decode cX1_isNode 6 = .ok (.getfield 31, 3) := by decide +kernel
theorem dX1_isNode_9 : decode cX1_isNode 9 = .ok (.if_icmp .ge 7, 3) := by decide +kernel
theorem dX1_isNode_12 : decode cX1_isNode 12 = .ok (.iconst 1, 1) := by decide +kernel
theorem dX1_isNode_13 : decode cX1_isNode 13 = .ok (.goto 4, 3) := by decide +kernel
theorem dX1_isNode_16 : decode cX1_isNode 16 = .ok (.iconst 0, 1) := by decide +kernel
theorem dX1_isNode_17 : decode cX1_isNode 17 = .ok (.ireturn, 1) := by decide +kernel
set_option maxRecDepth 20000 in
theorem ggX1_isNodeOrNone_X1_isNode : GoodIn wsX1_isNodeOrNone wsX1_isNode := goodIn_r _ [5, 6, 7, 8, 9, 10, 11, 12, 13, 14, 15, 16, 17, 18, 19, 20] (by decide +kernel) (by decide +kernel)
set_option maxRecDepth 20000 in
theorem gX1_isNodeOrNone_X1_isNode : GoodIn wsX1_isNodeOrNone (wsV RX1 70 RX1 yX1_isNode wsX1_isNode) := goodIn_app (goodIn_of _ (by decide +kernel)) ggX1_isNodeOrNone_X1_isNode
theorem dX1_isNodeOrNone_0 : decode cX1_isNodeOrNone 0 = .ok (.iload_n 1, 1) := by decide +kernel
theorem dX1_isNodeOrNone_1 : decode cX1_isNodeOrNone 1 = .ok (.iconst (-1), 1) := by decide +kernel
theorem dX1_isNodeOrNone_2 : decode cX1_isNodeOrNone 2 = .ok (.if_icmp .eq 11, 3) := by decide +kernel
theorem dX1_isNodeOrNone_5 : decode cX1_isNodeOrNone 5 = .ok (.aload_n 0, 1) := by decide +kernel
theorem dX1_isNodeOrNone_6 : decode cX1_isNodeOrNone 6 = .ok (.iload_n 1, 1) := by decide +kernel
theorem dX1_isNodeOrNone_7 : decode cX1_isNodeOrNone 7 = .ok (.invokevirtual 70, 3) := by decide +kernel
theorem dX1_isNodeOrNone_10 : decode cX1_isNodeOrNone 10 = .ok (.ifCond .eq 7, 3) := by decide +kernel
theorem dX1_isNodeOrNone_13 : decode cX1_isNodeOrNone 13 = .ok (.iconst 1, 1) := by decide +kernel
theorem dX1_isNodeOrNone_14 : decode cX1_isNodeOrNone 14 = .ok (.goto 4, 3) := by decide +kernel
theorem dX1_isNodeOrNone_17 : decode cX1_isNodeOrNone 17 = .ok (.iconst 0, 1) := by decide +kernel
theorem dX1_isNodeOrNone_18 : decode cX1_isNodeOrNone 18 = .ok (.ireturn, 1) := by decide +kernel
theorem dX1_isVote_0 : decode cX1_isVote 0 = .ok (.iload_n 1, 1) := by decide +kernel
theorem dX1_isVote_1 : decode cX1_isVote 1 = .ok (.ifCond .lt 15, 3) := by decide +kernel
theorem dX1_isVote_4 : decode cX1_isVote 4 = .ok (.iload_n 1, 1) := by decide +kernel
theorem dX1_isVote_5 : decode cX1_isVote 5 = .ok (.aload_n 0, 1) := by decide +kernel
theorem dX1_isVote_6 : decode cX1_isVote 6 = .ok (.getfield 48, 3) := by decide +kernel
theorem dX1_isVote_9 : decode cX1_isVote 9 = .ok (.if_icmp .ge 7, 3) := by decide +kernel
theorem dX1_isVote_12 : decode cX1_isVote 12 = .ok (.iconst 1, 1) := by decide +kernel
theorem dX1_isVote_13 : decode cX1_isVote 13 = .ok (.goto 4, 3) := by decide +kernel
theorem dX1_isVote_16 : decode cX1_isVote 16 = .ok (.iconst 0, 1) := by decide +kernel
theorem dX1_isVote_17 : decode cX1_isVote 17 = .ok (.ireturn, 1) := by decide +kernel
theorem dX1_isKind_0 : decode cX1_isKind 0 = .ok (.iload_n 0, 1) := by decide +kernel
theorem dX1_isKind_1 : decode cX1_isKind 1 = .ok (.ifCond .lt 12, 3) := by decide +kernel
theorem dX1_isKind_4 : decode cX1_isKind 4 = .ok (.iload_n 0, 1) := by decide +kernel
theorem dX1_isKind_5 : decode cX1_isKind 5 = .ok (.iconst 3, 1) := by decide +kernel
theorem dX1_isKind_6 : decode cX1_isKind 6 = .ok (.if_icmp .ge 7, 3) := by decide +kernel
theorem dX1_isKind_9 : decode cX1_isKind 9 = .ok (.iconst 1, 1) := by decide +kernel
theorem dX1_isKind_10 : decode cX1_isKind 10 = .ok (.goto 4, 3) := by decide +kernel
theorem dX1_isKind_13 : decode cX1_isKind 13 = .ok (.iconst 0, 1) := by decide +kernel
theorem dX1_isKind_14 : decode cX1_isKind 14 = .ok (.ireturn, 1) := by decide +kernel
theorem dX1_isSayable_0 : decode cX1_isSayable 0 = .ok (.iload_n 0, 1) := by decide +kernel
theorem dX1_isSayable_1 : decode cX1_isSayable 1 = .ok (.ifCond .lt 32, 3) := by decide +kernel
theorem dX1_isSayable_4 : decode cX1_isSayable 4 = .ok (.iload_n 0, 1) := by decide +kernel
theorem dX1_isSayable_5 : decode cX1_isSayable 5 = .ok (.bipush 8, 2) := by decide +kernel
theorem dX1_isSayable_7 : decode cX1_isSayable 7 = .ok (.if_icmp .ge 26, 3) := by decide +kernel
theorem dX1_isSayable_10 : decode cX1_isSayable 10 = .ok (.iload_n 1, 1) := by decide +kernel
theorem dX1_isSayable_11 : decode cX1_isSayable 11 = .ok (.ifCond .lt 22, 3) := by decide +kernel
theorem dX1_isSayable_14 : decode cX1_isSayable 14 = .ok (.iload_n 1, 1) := by decide +kernel
theorem dX1_isSayable_15 : decode cX1_isSayable 15 = .ok (.iconst 2, 1) := by decide +kernel
theorem dX1_isSayable_16 : decode cX1_isSayable 16 = .ok (.if_icmp .ge 17, 3) := by decide +kernel
theorem dX1_isSayable_19 : decode cX1_isSayable 19 = .ok (.iload_n 2, 1) := by decide +kernel
theorem dX1_isSayable_20 : decode cX1_isSayable 20 = .ok (.ifCond .lt 13, 3) := by decide +kernel
theorem dX1_isSayable_23 : decode cX1_isSayable 23 = .ok (.iload_n 2, 1) := by decide +kernel
theorem dX1_isSayable_24 : decode cX1_isSayable 24 = .ok (.bipush 10, 2) := by decide +kernel
theorem dX1_isSayable_26 : decode cX1_isSayable 26 = .ok (.if_icmp .ge 7, 3) := by decide +kernel
theorem dX1_isSayable_29 : decode cX1_isSayable 29 = .ok (.iconst 1, 1) := by decide +kernel
theorem dX1_isSayable_30 : decode cX1_isSayable 30 = .ok (.goto 4, 3) := by decide +kernel
theorem dX1_isSayable_33 : decode cX1_isSayable 33 = .ok (.iconst 0, 1) := by decide +kernel
theorem dX1_isSayable_34 : decode cX1_isSayable 34 = .ok (.ireturn, 1) := by decide +kernel
theorem dX1_hasBegun_0 : decode cX1_hasBegun 0 = .ok (.iload_n 1, 1) := by decide +kernel
theorem dX1_hasBegun_1 : decode cX1_hasBegun 1 = .ok (.iconst 1, 1) := by decide +kernel
theorem dX1_hasBegun_2 : decode cX1_hasBegun 2 = .ok (.if_icmp .lt 15, 3) := by decide +kernel
theorem dX1_hasBegun_5 : decode cX1_hasBegun 5 = .ok (.iload_n 1, 1) := by decide +kernel
theorem dX1_hasBegun_6 : decode cX1_hasBegun 6 = .ok (.aload_n 0, 1) := by decide +kernel
theorem dX1_hasBegun_7 : decode cX1_hasBegun 7 = .ok (.getfield 35, 3) := by decide +kernel
theorem dX1_hasBegun_10 : decode cX1_hasBegun 10 = .ok (.if_icmp .gt 7, 3) := by decide +kernel
theorem dX1_hasBegun_13 : decode cX1_hasBegun 13 = .ok (.iconst 1, 1) := by decide +kernel
theorem dX1_hasBegun_14 : decode cX1_hasBegun 14 = .ok (.goto 4, 3) := by decide +kernel
theorem dX1_hasBegun_17 : decode cX1_hasBegun 17 = .ok (.iconst 0, 1) := by decide +kernel
theorem dX1_hasBegun_18 : decode cX1_hasBegun 18 = .ok (.ireturn, 1) := by decide +kernel
set_option maxRecDepth 20000 in
theorem ggX1_isOpen_X1_hasBegun : GoodIn wsX1_isOpen wsX1_hasBegun := goodIn_r _ [6, 1, 7, 8, 9, 10, 11, 12, 13, 14, 15, 16, 17, 18, 19, 20] (by decide +kernel) (by decide +kernel)
set_option maxRecDepth 20000 in
theorem gX1_isOpen_X1_hasBegun : GoodIn wsX1_isOpen (wsV RX1 150 RX1 yX1_hasBegun wsX1_hasBegun) := goodIn_app (goodIn_of _ (by decide +kernel)) ggX1_isOpen_X1_hasBegun
theorem dX1_isOpen_0 : decode cX1_isOpen 0 = .ok (.aload_n 0, 1) := by decide +kernel
theorem dX1_isOpen_1 : decode cX1_isOpen 1 = .ok (.iload_n 1, 1) := by decide +kernel
theorem dX1_isOpen_2 : decode cX1_isOpen 2 = .ok (.invokevirtual 150, 3) := by decide +kernel
theorem dX1_isOpen_5 : decode cX1_isOpen 5 = .ok (.ifCond .eq 17, 3) := by decide +kernel
theorem dX1_isOpen_8 : decode cX1_isOpen 8 = .ok (.aload_n 0, 1) := by decide +kernel
theorem dX1_isOpen_9 : decode cX1_isOpen 9 = .ok (.getfield 35, 3) := by decide +kernel
theorem dX1_isOpen_12 : decode cX1_isOpen 12 = .ok (.iload_n 1, 1) := by decide +kernel
theorem dX1_isOpen_13 : decode cX1_isOpen 13 = .ok (.isub, 1) := by decide +kernel
theorem dX1_isOpen_14 : decode cX1_isOpen 14 = .ok (.iconst 1, 1) := by decide +kernel
theorem dX1_isOpen_15 : decode cX1_isOpen 15 = .ok (.if_icmp .gt 7, 3) := by decide +kernel
theorem dX1_isOpen_18 : decode cX1_isOpen 18 = .ok (.iconst 1, 1) := by decide +kernel
theorem dX1_isOpen_19 : decode cX1_isOpen 19 = .ok (.goto 4, 3) := by decide +kernel
theorem dX1_isOpen_22 : decode cX1_isOpen 22 = .ok (.iconst 0, 1) := by decide +kernel
theorem dX1_isOpen_23 : decode cX1_isOpen 23 = .ok (.ireturn, 1) := by decide +kernel
theorem dX1_packed_0 : decode cX1_packed 0 = .ok (.iload_n 1, 1) := by decide +kernel
theorem dX1_packed_1 : decode cX1_packed 1 = .ok (.bipush 11, 2) := by decide +kernel
theorem dX1_packed_3 : decode cX1_packed 3 = .ok (.ishl, 1) := by decide +kernel
theorem dX1_packed_4 : decode cX1_packed 4 = .ok (.iload_n 0, 1) := by decide +kernel
theorem dX1_packed_5 : decode cX1_packed 5 = .ok (.bipush 8, 2) := by decide +kernel
theorem dX1_packed_7 : decode cX1_packed 7 = .ok (.ishl, 1) := by decide +kernel
theorem dX1_packed_8 : decode cX1_packed 8 = .ok (.ior, 1) := by decide +kernel
theorem dX1_packed_9 : decode cX1_packed 9 = .ok (.iload_n 2, 1) := by decide +kernel
theorem dX1_packed_10 : decode cX1_packed 10 = .ok (.iconst 5, 1) := by decide +kernel
theorem dX1_packed_11 : decode cX1_packed 11 = .ok (.ishl, 1) := by decide +kernel
theorem dX1_packed_12 : decode cX1_packed 12 = .ok (.ior, 1) := by decide +kernel
theorem dX1_packed_13 : decode cX1_packed 13 = .ok (.iload_n 3, 1) := by decide +kernel
theorem dX1_packed_14 : decode cX1_packed 14 = .ok (.iconst 4, 1) := by decide +kernel
theorem dX1_packed_15 : decode cX1_packed 15 = .ok (.ishl, 1) := by decide +kernel
theorem dX1_packed_16 : decode cX1_packed 16 = .ok (.ior, 1) := by decide +kernel
theorem dX1_packed_17 : decode cX1_packed 17 = .ok (.iload 4, 2) := by decide +kernel
theorem dX1_packed_19 : decode cX1_packed 19 = .ok (.ior, 1) := by decide +kernel
theorem dX1_packed_20 : decode cX1_packed 20 = .ok (.ireturn, 1) := by decide +kernel
theorem dX1_heightOf_0 : decode cX1_heightOf 0 = .ok (.iload_n 0, 1) := by decide +kernel
theorem dX1_heightOf_1 : decode cX1_heightOf 1 = .ok (.bipush 11, 2) := by decide +kernel
theorem dX1_heightOf_3 : decode cX1_heightOf 3 = .ok (.ishr, 1) := by decide +kernel
theorem dX1_heightOf_4 : decode cX1_heightOf 4 = .ok (.ireturn, 1) := by decide +kernel
theorem dX1_nodeOf_0 : decode cX1_nodeOf 0 = .ok (.iload_n 0, 1) := by decide +kernel
theorem dX1_nodeOf_1 : decode cX1_nodeOf 1 = .ok (.bipush 8, 2) := by decide +kernel
theorem dX1_nodeOf_3 : decode cX1_nodeOf 3 = .ok (.ishr, 1) := by decide +kernel
theorem dX1_nodeOf_4 : decode cX1_nodeOf 4 = .ok (.bipush 7, 2) := by decide +kernel
theorem dX1_nodeOf_6 : decode cX1_nodeOf 6 = .ok (.iand, 1) := by decide +kernel
theorem dX1_nodeOf_7 : decode cX1_nodeOf 7 = .ok (.ireturn, 1) := by decide +kernel
theorem dX1_roundOf_0 : decode cX1_roundOf 0 = .ok (.iload_n 0, 1) := by decide +kernel
theorem dX1_roundOf_1 : decode cX1_roundOf 1 = .ok (.iconst 5, 1) := by decide +kernel
theorem dX1_roundOf_2 : decode cX1_roundOf 2 = .ok (.ishr, 1) := by decide +kernel
theorem dX1_roundOf_3 : decode cX1_roundOf 3 = .ok (.bipush 7, 2) := by decide +kernel
theorem dX1_roundOf_5 : decode cX1_roundOf 5 = .ok (.iand, 1) := by decide +kernel
theorem dX1_roundOf_6 : decode cX1_roundOf 6 = .ok (.ireturn, 1) := by decide +kernel
theorem dX1_stepOf_0 : decode cX1_stepOf 0 = .ok (.iload_n 0, 1) := by decide +kernel
theorem dX1_stepOf_1 : decode cX1_stepOf 1 = .ok (.iconst 4, 1) := by decide +kernel
theorem dX1_stepOf_2 : decode cX1_stepOf 2 = .ok (.ishr, 1) := by decide +kernel
theorem dX1_stepOf_3 : decode cX1_stepOf 3 = .ok (.iconst 1, 1) := by decide +kernel
theorem dX1_stepOf_4 : decode cX1_stepOf 4 = .ok (.iand, 1) := by decide +kernel
theorem dX1_stepOf_5 : decode cX1_stepOf 5 = .ok (.ireturn, 1) := by decide +kernel
theorem dX1_blockOf_0 : decode cX1_blockOf 0 = .ok (.iload_n 0, 1) := by decide +kernel
theorem dX1_blockOf_1 : decode cX1_blockOf 1 = .ok (.bipush 15, 2) := by decide +kernel
theorem dX1_blockOf_3 : decode cX1_blockOf 3 = .ok (.iand, 1) := by decide +kernel
theorem dX1_blockOf_4 : decode cX1_blockOf 4 = .ok (.ireturn, 1) := by decide +kernel
theorem dX1_voterOf_0 : decode cX1_voterOf 0 = .ok (.iload_n 0, 1) := by decide +kernel
theorem dX1_voterOf_1 : decode cX1_voterOf 1 = .ok (.bipush 8, 2) := by decide +kernel
theorem dX1_voterOf_3 : decode cX1_voterOf 3 = .ok (.ishr, 1) := by decide +kernel
theorem dX1_voterOf_4 : decode cX1_voterOf 4 = .ok (.ireturn, 1) := by decide +kernel
theorem dX1_weightIndex_0 : decode cX1_weightIndex 0 = .ok (.iload_n 0, 1) := by decide +kernel
theorem dX1_weightIndex_1 : decode cX1_weightIndex 1 = .ok (.bipush 8, 2) := by decide +kernel
theorem dX1_weightIndex_3 : decode cX1_weightIndex 3 = .ok (.imul, 1) := by decide +kernel
theorem dX1_weightIndex_4 : decode cX1_weightIndex 4 = .ok (.iload_n 1, 1) := by decide +kernel
theorem dX1_weightIndex_5 : decode cX1_weightIndex 5 = .ok (.iadd, 1) := by decide +kernel
theorem dX1_weightIndex_6 : decode cX1_weightIndex 6 = .ok (.ireturn, 1) := by decide +kernel
set_option maxRecDepth 20000 in
theorem ggX1_weighNodes_X1_weightIndex : GoodIn wsX1_weighNodes wsX1_weightIndex := goodIn_r _ [9] (by decide +kernel) (by decide +kernel)
set_option maxRecDepth 20000 in
theorem gX1_weighNodes_X1_weightIndex : GoodIn wsX1_weighNodes (va_wsS RX1 153 yX1_weightIndex wsX1_weightIndex) := goodIn_app (goodIn_of _ (by decide +kernel)) ggX1_weighNodes_X1_weightIndex
theorem dX1_weighNodes_0 : decode cX1_weighNodes 0 = .ok (.lconst 0, 1) := by decide +kernel
theorem dX1_weighNodes_1 : decode cX1_weighNodes 1 = .ok (.lstore_n 2, 1) := by decide +kernel
theorem dX1_weighNodes_2 : decode cX1_weighNodes 2 = .ok (.iconst 0, 1) := by decide +kernel
theorem dX1_weighNodes_3 : decode cX1_weighNodes 3 = .ok (.istore 4, 2) := by decide +kernel
theorem dX1_weighNodes_5 : decode cX1_weighNodes 5 = .ok (.iload 4, 2) := by decide +kernel
theorem dX1_weighNodes_7 : decode cX1_weighNodes 7 = .ok (.aload_n 0, 1) := by decide +kernel
theorem dX1_weighNodes_8 : decode cX1_weighNodes 8 = .ok (.getfield 31, 3) := by decide +kernel
theorem dX1_weighNodes_11 : decode cX1_weighNodes 11 = .ok (.if_icmp .ge 50, 3) := by decide +kernel
theorem dX1_weighNodes_14 : decode cX1_weighNodes 14 = .ok (.aload_n 0, 1) := by decide +kernel
theorem dX1_weighNodes_15 : decode cX1_weighNodes 15 = .ok (.getfield 27, 3) := by decide +kernel
theorem dX1_weighNodes_18 : decode cX1_weighNodes 18 = .ok (.iload 4, 2) := by decide +kernel
theorem dX1_weighNodes_20 : decode cX1_weighNodes 20 = .ok (.baload, 1) := by decide +kernel
theorem dX1_weighNodes_21 : decode cX1_weighNodes 21 = .ok (.ifCond .eq 7, 3) := by decide +kernel
theorem dX1_weighNodes_24 : decode cX1_weighNodes 24 = .ok (.lconst 0, 1) := by decide +kernel
theorem dX1_weighNodes_25 : decode cX1_weighNodes 25 = .ok (.goto 10, 3) := by decide +kernel
theorem dX1_weighNodes_28 : decode cX1_weighNodes 28 = .ok (.aload_n 0, 1) := by decide +kernel
theorem dX1_weighNodes_29 : decode cX1_weighNodes 29 = .ok (.getfield 21, 3) := by decide +kernel
theorem dX1_weighNodes_32 : decode cX1_weighNodes 32 = .ok (.iload 4, 2) := by decide +kernel
theorem dX1_weighNodes_34 : decode cX1_weighNodes 34 = .ok (.laload, 1) := by decide +kernel
theorem dX1_weighNodes_35 : decode cX1_weighNodes 35 = .ok (.lstore 5, 2) := by decide +kernel
theorem dX1_weighNodes_37 : decode cX1_weighNodes 37 = .ok (.aload_n 0, 1) := by decide +kernel
theorem dX1_weighNodes_38 : decode cX1_weighNodes 38 = .ok (.getfield 38, 3) := by decide +kernel
theorem dX1_weighNodes_41 : decode cX1_weighNodes 41 = .ok (.iload_n 1, 1) := by decide +kernel
theorem dX1_weighNodes_42 : decode cX1_weighNodes 42 = .ok (.iload 4, 2) := by decide +kernel
theorem dX1_weighNodes_44 : decode cX1_weighNodes 44 = .ok (.invokestatic 153, 3) := by decide +kernel
theorem dX1_weighNodes_47 : decode cX1_weighNodes 47 = .ok (.lload 5, 2) := by decide +kernel
theorem dX1_weighNodes_49 : decode cX1_weighNodes 49 = .ok (.lastore, 1) := by decide +kernel
theorem dX1_weighNodes_50 : decode cX1_weighNodes 50 = .ok (.lload_n 2, 1) := by decide +kernel
theorem dX1_weighNodes_51 : decode cX1_weighNodes 51 = .ok (.lload 5, 2) := by decide +kernel
theorem dX1_weighNodes_53 : decode cX1_weighNodes 53 = .ok (.ladd, 1) := by decide +kernel
theorem dX1_weighNodes_54 : decode cX1_weighNodes 54 = .ok (.lstore_n 2, 1) := by decide +kernel
theorem dX1_weighNodes_55 : decode cX1_weighNodes 55 = .ok (.iinc 4 1, 3) := by decide +kernel
theorem dX1_weighNodes_58 : decode cX1_weighNodes 58 = .ok (.goto (-53), 3) := by decide +kernel
theorem dX1_weighNodes_61 : decode cX1_weighNodes 61 = .ok (.aload_n 0, 1) := by decide +kernel
theorem dX1_weighNodes_62 : decode cX1_weighNodes 62 = .ok (.getfield 41, 3) := by decide +kernel
theorem dX1_weighNodes_65 : decode cX1_weighNodes 65 = .ok (.iload_n 1, 1) := by decide +kernel
theorem dX1_weighNodes_66 : decode cX1_weighNodes 66 = .ok (.lload_n 2, 1) := by decide +kernel
theorem dX1_weighNodes_67 : decode cX1_weighNodes 67 = .ok (.lastore, 1) := by decide +kernel
theorem dX1_weighNodes_68 : decode cX1_weighNodes 68 = .ok (.return_, 1) := by decide +kernel
set_option maxRecDepth 20000 in
theorem ggX1_weightFor_X1_heightOf : GoodIn wsX1_weightFor wsX1_heightOf := goodIn_r _ [7] (by decide +kernel) (by decide +kernel)
set_option maxRecDepth 20000 in
theorem gX1_weightFor_X1_heightOf : GoodIn wsX1_weightFor (va_wsS RX1 135 yX1_heightOf wsX1_heightOf) := goodIn_app (goodIn_of _ (by decide +kernel)) ggX1_weightFor_X1_heightOf
set_option maxRecDepth 20000 in
theorem ggX1_weightFor_X1_nodeOf : GoodIn wsX1_weightFor wsX1_nodeOf := goodIn_r _ [10] (by decide +kernel) (by decide +kernel)
set_option maxRecDepth 20000 in
theorem gX1_weightFor_X1_nodeOf : GoodIn wsX1_weightFor (va_wsS RX1 132 yX1_nodeOf wsX1_nodeOf) := goodIn_app (goodIn_of _ (by decide +kernel)) ggX1_weightFor_X1_nodeOf
set_option maxRecDepth 20000 in
theorem ggX1_weightFor_X1_weightIndex : GoodIn wsX1_weightFor wsX1_weightIndex := goodIn_r _ [13] (by decide +kernel) (by decide +kernel)
set_option maxRecDepth 20000 in
theorem gX1_weightFor_X1_weightIndex : GoodIn wsX1_weightFor (va_wsS RX1 153 yX1_weightIndex wsX1_weightIndex) := goodIn_app (goodIn_of _ (by decide +kernel)) ggX1_weightFor_X1_weightIndex
theorem dX1_weightFor_0 : decode cX1_weightFor 0 = .ok (.iload_n 1, 1) := by decide +kernel
theorem dX1_weightFor_1 : decode cX1_weightFor 1 = .ok (.sipush (-1793), 3) := by decide +kernel
theorem dX1_weightFor_4 : decode cX1_weightFor 4 = .ok (.iand, 1) := by decide +kernel
theorem dX1_weightFor_5 : decode cX1_weightFor 5 = .ok (.istore_n 2, 1) := by decide +kernel
theorem dX1_weightFor_6 : decode cX1_weightFor 6 = .ok (.iload_n 1, 1) := by decide +kernel
theorem dX1_weightFor_7 : decode cX1_weightFor 7 = .ok (.invokestatic 135, 3) := by decide +kernel
theorem dX1_weightFor_10 : decode cX1_weightFor 10 = .ok (.istore_n 3, 1) := by decide +kernel
theorem dX1_weightFor_11 : decode cX1_weightFor 11 = .ok (.lconst 0, 1) := by decide +kernel
theorem dX1_weightFor_12 : decode cX1_weightFor 12 = .ok (.lstore 4, 2) := by decide +kernel
theorem dX1_weightFor_14 : decode cX1_weightFor 14 = .ok (.iconst 0, 1) := by decide +kernel
theorem dX1_weightFor_15 : decode cX1_weightFor 15 = .ok (.istore 6, 2) := by decide +kernel
theorem dX1_weightFor_17 : decode cX1_weightFor 17 = .ok (.iload 6, 2) := by decide +kernel
theorem dX1_weightFor_19 : decode cX1_weightFor 19 = .ok (.aload_n 0, 1) := by decide +kernel
theorem dX1_weightFor_20 : decode cX1_weightFor 20 = .ok (.getfield 48, 3) := by decide +kernel
theorem dX1_weightFor_23 : decode cX1_weightFor 23 = .ok (.if_icmp .ge 48, 3) := by decide +kernel
theorem dX1_weightFor_26 : decode cX1_weightFor 26 = .ok (.aload_n 0, 1) := by decide +kernel
theorem dX1_weightFor_27 : decode cX1_weightFor 27 = .ok (.getfield 44, 3) := by decide +kernel
theorem dX1_weightFor_30 : decode cX1_weightFor 30 = .ok (.iload 6, 2) := by decide +kernel
theorem dX1_weightFor_32 : decode cX1_weightFor 32 = .ok (.iaload, 1) := by decide +kernel
theorem dX1_weightFor_33 : decode cX1_weightFor 33 = .ok (.sipush (-1793), 3) := by decide +kernel
theorem dX1_weightFor_36 : decode cX1_weightFor 36 = .ok (.iand, 1) := by decide +kernel
theorem dX1_weightFor_37 : decode cX1_weightFor 37 = .ok (.iload_n 2, 1) := by decide +kernel
theorem dX1_weightFor_38 : decode cX1_weightFor 38 = .ok (.if_icmp .ne 27, 3) := by decide +kernel
theorem dX1_weightFor_41 : decode cX1_weightFor 41 = .ok (.lload 4, 2) := by decide +kernel
theorem dX1_weightFor_43 : decode cX1_weightFor 43 = .ok (.aload_n 0, 1) := by decide +kernel
theorem dX1_weightFor_44 : decode cX1_weightFor 44 = .ok (.getfield 38, 3) := by decide +kernel
theorem dX1_weightFor_47 : decode cX1_weightFor 47 = .ok (.iload_n 3, 1) := by decide +kernel
theorem dX1_weightFor_48 : decode cX1_weightFor 48 = .ok (.aload_n 0, 1) := by decide +kernel
theorem dX1_weightFor_49 : decode cX1_weightFor 49 = .ok (.getfield 44, 3) := by decide +kernel
theorem dX1_weightFor_52 : decode cX1_weightFor 52 = .ok (.iload 6, 2) := by decide +kernel
theorem dX1_weightFor_54 : decode cX1_weightFor 54 = .ok (.iaload, 1) := by decide +kernel
theorem dX1_weightFor_55 : decode cX1_weightFor 55 = .ok (.invokestatic 132, 3) := by decide +kernel
theorem dX1_weightFor_58 : decode cX1_weightFor 58 = .ok (.invokestatic 153, 3) := by decide +kernel
theorem dX1_weightFor_61 : decode cX1_weightFor 61 = .ok (.laload, 1) := by decide +kernel
theorem dX1_weightFor_62 : decode cX1_weightFor 62 = .ok (.ladd, 1) := by decide +kernel
theorem dX1_weightFor_63 : decode cX1_weightFor 63 = .ok (.lstore 4, 2) := by decide +kernel
theorem dX1_weightFor_65 : decode cX1_weightFor 65 = .ok (.iinc 6 1, 3) := by decide +kernel
theorem dX1_weightFor_68 : decode cX1_weightFor 68 = .ok (.goto (-51), 3) := by decide +kernel
theorem dX1_weightFor_71 : decode cX1_weightFor 71 = .ok (.lload 4, 2) := by decide +kernel
theorem dX1_weightFor_73 : decode cX1_weightFor 73 = .ok (.lreturn, 1) := by decide +kernel
theorem dX1_isTheMost_0 : decode cX1_isTheMost 0 = .ok (.ldc2_w 205, 3) := by decide +kernel
theorem dX1_isTheMost_3 : decode cX1_isTheMost 3 = .ok (.lload_n 2, 1) := by decide +kernel
theorem dX1_isTheMost_4 : decode cX1_isTheMost 4 = .ok (.lmul, 1) := by decide +kernel
theorem dX1_isTheMost_5 : decode cX1_isTheMost 5 = .ok (.ldc2_w 207, 3) := by decide +kernel
theorem dX1_isTheMost_8 : decode cX1_isTheMost 8 = .ok (.aload_n 0, 1) := by decide +kernel
theorem dX1_isTheMost_9 : decode cX1_isTheMost 9 = .ok (.getfield 41, 3) := by decide +kernel
theorem dX1_isTheMost_12 : decode cX1_isTheMost 12 = .ok (.iload_n 1, 1) := by decide +kernel
theorem dX1_isTheMost_13 : decode cX1_isTheMost 13 = .ok (.laload, 1) := by decide +kernel
theorem dX1_isTheMost_14 : decode cX1_isTheMost 14 = .ok (.lmul, 1) := by decide +kernel
theorem dX1_isTheMost_15 : decode cX1_isTheMost 15 = .ok (.lcmp, 1) := by decide +kernel
theorem dX1_isTheMost_16 : decode cX1_isTheMost 16 = .ok (.ifCond .le 7, 3) := by decide +kernel
theorem dX1_isTheMost_19 : decode cX1_isTheMost 19 = .ok (.iconst 1, 1) := by decide +kernel
theorem dX1_isTheMost_20 : decode cX1_isTheMost 20 = .ok (.goto 4, 3) := by decide +kernel
theorem dX1_isTheMost_23 : decode cX1_isTheMost 23 = .ok (.iconst 0, 1) := by decide +kernel
theorem dX1_isTheMost_24 : decode cX1_isTheMost 24 = .ok (.ireturn, 1) := by decide +kernel
set_option maxRecDepth 20000 in
theorem ggX1_voteRefusal_X1_isNode : GoodIn wsX1_voteRefusal wsX1_isNode := goodIn_r _ [6, 7, 23, 24, 25, 26, 27, 28, 29, 30, 31, 32, 33, 34, 35, 36] (by decide +kernel) (by decide +kernel)
set_option maxRecDepth 20000 in
theorem gX1_voteRefusal_X1_isNode : GoodIn wsX1_voteRefusal (wsV RX1 70 RX1 yX1_isNode wsX1_isNode) := goodIn_app (goodIn_of _ (by decide +kernel)) ggX1_voteRefusal_X1_isNode
set_option maxRecDepth 20000 in
theorem ggX1_voteRefusal_X1_isOpen : GoodIn wsX1_voteRefusal wsX1_isOpen := goodIn_r _ [11, 12, 13, 14, 15, 5, 16, 23, 24, 25, 26, 27, 28, 29, 30, 31, 32, 33, 34, 35, 36] (by decide +kernel) (by decide +kernel)
set_option maxRecDepth 20000 in
theorem gX1_voteRefusal_X1_isOpen : GoodIn wsX1_voteRefusal (wsV RX1 209 RX1 yX1_isOpen wsX1_isOpen) := goodIn_app (goodIn_of _ (by decide +kernel)) ggX1_voteRefusal_X1_isOpen
set_option maxRecDepth 20000 in
theorem ggX1_voteRefusal_X1_isSayable : GoodIn wsX1_voteRefusal wsX1_isSayable := goodIn_r _ [19] (by decide +kernel) (by decide +kernel)
set_option maxRecDepth 20000 in
theorem gX1_voteRefusal_X1_isSayable : GoodIn wsX1_voteRefusal (va_wsS RX1 156 yX1_isSayable wsX1_isSayable) := goodIn_app (goodIn_of _ (by decide +kernel)) ggX1_voteRefusal_X1_isSayable
set_option maxRecDepth 20000 in
theorem ggX1_voteRefusal_X1_weightIndex : GoodIn wsX1_voteRefusal wsX1_weightIndex := goodIn_r _ [22] (by decide +kernel) (by decide +kernel)
set_option maxRecDepth 20000 in
theorem gX1_voteRefusal_X1_weightIndex : GoodIn wsX1_voteRefusal (va_wsS RX1 153 yX1_weightIndex wsX1_weightIndex) := goodIn_app (goodIn_of _ (by decide +kernel)) ggX1_voteRefusal_X1_weightIndex
theorem dX1_voteRefusal_0 : decode cX1_voteRefusal 0 = .ok (.aload_n 0, 1) := by decide +kernel
theorem dX1_voteRefusal_1 : decode cX1_voteRefusal 1 = .ok (.iload_n 1, 1) := by decide +kernel
theorem dX1_voteRefusal_2 : decode cX1_voteRefusal 2 = .ok (.invokevirtual 70, 3) := by decide +kernel
theorem dX1_voteRefusal_5 : decode cX1_voteRefusal 5 = .ok (.ifCond .ne 6, 3) := by decide +kernel
theorem dX1_voteRefusal_8 : decode cX1_voteRefusal 8 = .ok (.bipush (-101), 2) := by decide +kernel
theorem dX1_voteRefusal_10 : decode cX1_voteRefusal 10 = .ok (.ireturn, 1) := by decide +kernel
theorem dX1_voteRefusal_11 : decode cX1_voteRefusal 11 = .ok (.aload_n 0, 1) := by decide +kernel
theorem dX1_voteRefusal_12 : decode cX1_voteRefusal 12 = .ok (.iload_n 2, 1) := by decide +kernel
theorem dX1_voteRefusal_13 : decode cX1_voteRefusal 13 = .ok (.invokevirtual 209, 3) := by decide +kernel
theorem dX1_voteRefusal_16 : decode cX1_voteRefusal 16 = .ok (.ifCond .eq 14, 3) := by decide +kernel
theorem dX1_voteRefusal_19 : decode cX1_voteRefusal 19 = .ok (.iload_n 3, 1) := by decide +kernel
theorem dX1_voteRefusal_20 : decode cX1_voteRefusal 20 = .ok (.iload 4, 2) := by decide +kernel
theorem dX1_voteRefusal_22 : decode cX1_voteRefusal 22 = .ok (.iload 5, 2) := by decide +kernel
theorem dX1_voteRefusal_24 : decode cX1_voteRefusal 24 = .ok (.invokestatic 156, 3) := by decide +kernel
theorem dX1_voteRefusal_27 : decode cX1_voteRefusal 27 = .ok (.ifCond .ne 6, 3) := by decide +kernel
theorem dX1_voteRefusal_30 : decode cX1_voteRefusal 30 = .ok (.bipush (-102), 2) := by decide +kernel
theorem dX1_voteRefusal_32 : decode cX1_voteRefusal 32 = .ok (.ireturn, 1) := by decide +kernel
theorem dX1_voteRefusal_33 : decode cX1_voteRefusal 33 = .ok (.aload_n 0, 1) := by decide +kernel
theorem dX1_voteRefusal_34 : decode cX1_voteRefusal 34 = .ok (.getfield 38, 3) := by decide +kernel
theorem dX1_voteRefusal_37 : decode cX1_voteRefusal 37 = .ok (.iload_n 2, 1) := by decide +kernel
theorem dX1_voteRefusal_38 : decode cX1_voteRefusal 38 = .ok (.iload_n 1, 1) := by decide +kernel
theorem dX1_voteRefusal_39 : decode cX1_voteRefusal 39 = .ok (.invokestatic 153, 3) := by decide +kernel
theorem dX1_voteRefusal_42 : decode cX1_voteRefusal 42 = .ok (.laload, 1) := by decide +kernel
theorem dX1_voteRefusal_43 : decode cX1_voteRefusal 43 = .ok (.lconst 0, 1) := by decide +kernel
theorem dX1_voteRefusal_44 : decode cX1_voteRefusal 44 = .ok (.lcmp, 1) := by decide +kernel
theorem dX1_voteRefusal_45 : decode cX1_voteRefusal 45 = .ok (.ifCond .ne 8, 3) := by decide +kernel
theorem dX1_voteRefusal_48 : decode cX1_voteRefusal 48 = .ok (.bipush (-103), 2) := by decide +kernel
theorem dX1_voteRefusal_50 : decode cX1_voteRefusal 50 = .ok (.goto 4, 3) := by decide +kernel
theorem dX1_voteRefusal_53 : decode cX1_voteRefusal 53 = .ok (.iconst 0, 1) := by decide +kernel
theorem dX1_voteRefusal_54 : decode cX1_voteRefusal 54 = .ok (.ireturn, 1) := by decide +kernel
theorem dX1_numberOf_0 : decode cX1_numberOf 0 = .ok (.iconst 0, 1) := by decide +kernel
theorem dX1_numberOf_1 : decode cX1_numberOf 1 = .ok (.istore_n 2, 1) := by decide +kernel
theorem dX1_numberOf_2 : decode cX1_numberOf 2 = .ok (.iload_n 2, 1) := by decide +kernel
theorem dX1_numberOf_3 : decode cX1_numberOf 3 = .ok (.aload_n 0, 1) := by decide +kernel
theorem dX1_numberOf_4 : decode cX1_numberOf 4 = .ok (.getfield 48, 3) := by decide +kernel
theorem dX1_numberOf_7 : decode cX1_numberOf 7 = .ok (.if_icmp .ge 21, 3) := by decide +kernel
theorem dX1_numberOf_10 : decode cX1_numberOf 10 = .ok (.aload_n 0, 1) := by decide +kernel
theorem dX1_numberOf_11 : decode cX1_numberOf 11 = .ok (.getfield 44, 3) := by decide +kernel
theorem dX1_numberOf_14 : decode cX1_numberOf 14 = .ok (.iload_n 2, 1) := by decide +kernel
theorem dX1_numberOf_15 : decode cX1_numberOf 15 = .ok (.iaload, 1) := by decide +kernel
theorem dX1_numberOf_16 : decode cX1_numberOf 16 = .ok (.iload_n 1, 1) := by decide +kernel
theorem dX1_numberOf_17 : decode cX1_numberOf 17 = .ok (.if_icmp .ne 5, 3) := by decide +kernel
theorem dX1_numberOf_20 : decode cX1_numberOf 20 = .ok (.iload_n 2, 1) := by decide +kernel
theorem dX1_numberOf_21 : decode cX1_numberOf 21 = .ok (.ireturn, 1) := by decide +kernel
theorem dX1_numberOf_22 : decode cX1_numberOf 22 = .ok (.iinc 2 1, 3) := by decide +kernel
theorem dX1_numberOf_25 : decode cX1_numberOf 25 = .ok (.goto (-23), 3) := by decide +kernel
theorem dX1_numberOf_28 : decode cX1_numberOf 28 = .ok (.iconst (-1), 1) := by decide +kernel
theorem dX1_numberOf_29 : decode cX1_numberOf 29 = .ok (.ireturn, 1) := by decide +kernel
set_option maxRecDepth 20000 in
theorem ggX1_keep_X1_blockOf : GoodIn wsX1_keep wsX1_blockOf := goodIn_r _ [6] (by decide +kernel) (by decide +kernel)
set_option maxRecDepth 20000 in
theorem gX1_keep_X1_blockOf : GoodIn wsX1_keep (va_wsS RX1 144 yX1_blockOf wsX1_blockOf) := goodIn_app (goodIn_of _ (by decide +kernel)) ggX1_keep_X1_blockOf
set_option maxRecDepth 20000 in
theorem ggX1_keep_X1_heightOf : GoodIn wsX1_keep wsX1_heightOf := goodIn_r _ [9] (by decide +kernel) (by decide +kernel)
set_option maxRecDepth 20000 in
theorem gX1_keep_X1_heightOf : GoodIn wsX1_keep (va_wsS RX1 135 yX1_heightOf wsX1_heightOf) := goodIn_app (goodIn_of _ (by decide +kernel)) ggX1_keep_X1_heightOf
set_option maxRecDepth 20000 in
theorem ggX1_keep_X1_weightFor : GoodIn wsX1_keep wsX1_weightFor := goodIn_r _ [13, 2, 1, 14, 7, 8, 5, 9, 15, 16, 17, 18, 19, 20, 40, 41, 42, 43, 44, 45, 46, 47, 48, 49, 50, 51, 52, 53] (by decide +kernel) (by decide +kernel)
set_option maxRecDepth 20000 in
theorem gX1_keep_X1_weightFor : GoodIn wsX1_keep (wsV RX1 160 RX1 yX1_weightFor wsX1_weightFor) := goodIn_app (goodIn_of _ (by decide +kernel)) ggX1_keep_X1_weightFor
set_option maxRecDepth 20000 in
theorem ggX1_keep_X1_isTheMost : GoodIn wsX1_keep wsX1_isTheMost := goodIn_r _ [24, 25, 26, 27, 40, 41, 42, 43, 44, 45, 46, 47, 48, 49, 50, 51, 52, 53] (by decide +kernel) (by decide +kernel)
set_option maxRecDepth 20000 in
theorem gX1_keep_X1_isTheMost : GoodIn wsX1_keep (wsV RX1 212 RX1 yX1_isTheMost wsX1_isTheMost) := goodIn_app (goodIn_of _ (by decide +kernel)) ggX1_keep_X1_isTheMost
set_option maxRecDepth 20000 in
theorem ggX1_keep_X1_noteTheMost : GoodIn wsX1_keep wsX1_noteTheMost := goodIn_r _ [31, 32, 33, 3, 4, 5, 6, 34, 35, 36, 7, 8, 9, 37, 38, 39, 40, 41, 42, 43, 44, 45, 46, 47, 48, 49, 50, 51, 52, 53] (by decide +kernel) (by decide +kernel)
set_option maxRecDepth 20000 in
theorem gX1_keep_X1_noteTheMost : GoodIn wsX1_keep (wsV RX1 216 RX1 yX1_noteTheMost wsX1_noteTheMost) := goodIn_app (goodIn_of _ (by decide +kernel)) ggX1_keep_X1_noteTheMost
theorem dX1_keep_0 : decode cX1_keep 0 = .ok (.aload_n 0, 1) := by decide +kernel
theorem dX1_keep_1 : decode cX1_keep 1 = .ok (.getfield 44, 3) := by decide +kernel
theorem dX1_keep_4 : decode cX1_keep 4 = .ok (.aload_n 0, 1) := by decide +kernel
theorem dX1_keep_5 : decode cX1_keep 5 = .ok (.getfield 48, 3) := by decide +kernel
theorem dX1_keep_8 : decode cX1_keep 8 = .ok (.iload_n 1, 1) := by decide +kernel
theorem dX1_keep_9 : decode cX1_keep 9 = .ok (.iastore, 1) := by decide +kernel
theorem dX1_keep_10 : decode cX1_keep 10 = .ok (.aload_n 0, 1) := by decide +kernel
theorem dX1_keep_11 : decode cX1_keep 11 = .ok (.dup, 1) := by decide +kernel
