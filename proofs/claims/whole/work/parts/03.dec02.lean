theorem dX1_keep_12 : decode cX1_keep 12 = .ok (.getfield 48, 3) := by decide +kernel
theorem dX1_keep_15 : decode cX1_keep 15 = .ok (.iconst 1, 1) := by decide +kernel
theorem dX1_keep_16 : decode cX1_keep 16 = .ok (.iadd, 1) := by decide +kernel
theorem dX1_keep_17 : decode cX1_keep 17 = .ok (.putfield 48, 3) := by decide +kernel
theorem dX1_keep_20 : decode cX1_keep 20 = .ok (.iload_n 1, 1) := by decide +kernel
theorem dX1_keep_21 : decode cX1_keep 21 = .ok (.invokestatic 144, 3) := by decide +kernel
theorem dX1_keep_24 : decode cX1_keep 24 = .ok (.ifCond .le 24, 3) := by decide +kernel
theorem dX1_keep_27 : decode cX1_keep 27 = .ok (.aload_n 0, 1) := by decide +kernel
theorem dX1_keep_28 : decode cX1_keep 28 = .ok (.iload_n 1, 1) := by decide +kernel
theorem dX1_keep_29 : decode cX1_keep 29 = .ok (.invokestatic 135, 3) := by decide +kernel
theorem dX1_keep_32 : decode cX1_keep 32 = .ok (.aload_n 0, 1) := by decide +kernel
theorem dX1_keep_33 : decode cX1_keep 33 = .ok (.iload_n 1, 1) := by decide +kernel
theorem dX1_keep_34 : decode cX1_keep 34 = .ok (.invokevirtual 160, 3) := by decide +kernel
theorem dX1_keep_37 : decode cX1_keep 37 = .ok (.invokevirtual 212, 3) := by decide +kernel
theorem dX1_keep_40 : decode cX1_keep 40 = .ok (.ifCond .eq 8, 3) := by decide +kernel
theorem dX1_keep_43 : decode cX1_keep 43 = .ok (.aload_n 0, 1) := by decide +kernel
theorem dX1_keep_44 : decode cX1_keep 44 = .ok (.iload_n 1, 1) := by decide +kernel
theorem dX1_keep_45 : decode cX1_keep 45 = .ok (.invokevirtual 216, 3) := by decide +kernel
theorem dX1_keep_48 : decode cX1_keep 48 = .ok (.return_, 1) := by decide +kernel
set_option maxRecDepth 20000 in
theorem ggX1_noteTheMost_X1_blockOf : GoodIn wsX1_noteTheMost wsX1_blockOf := goodIn_r _ [6] (by decide +kernel) (by decide +kernel)
set_option maxRecDepth 20000 in
theorem gX1_noteTheMost_X1_blockOf : GoodIn wsX1_noteTheMost (va_wsS RX1 144 yX1_blockOf wsX1_blockOf) := goodIn_app (goodIn_of _ (by decide +kernel)) ggX1_noteTheMost_X1_blockOf
set_option maxRecDepth 20000 in
theorem ggX1_noteTheMost_X1_stepOf : GoodIn wsX1_noteTheMost wsX1_stepOf := goodIn_r _ [9] (by decide +kernel) (by decide +kernel)
set_option maxRecDepth 20000 in
theorem gX1_noteTheMost_X1_stepOf : GoodIn wsX1_noteTheMost (va_wsS RX1 141 yX1_stepOf wsX1_stepOf) := goodIn_app (goodIn_of _ (by decide +kernel)) ggX1_noteTheMost_X1_stepOf
set_option maxRecDepth 20000 in
theorem ggX1_noteTheMost_X1_heightOf : GoodIn wsX1_noteTheMost wsX1_heightOf := goodIn_r _ [12] (by decide +kernel) (by decide +kernel)
set_option maxRecDepth 20000 in
theorem gX1_noteTheMost_X1_heightOf : GoodIn wsX1_noteTheMost (va_wsS RX1 135 yX1_heightOf wsX1_heightOf) := goodIn_app (goodIn_of _ (by decide +kernel)) ggX1_noteTheMost_X1_heightOf
set_option maxRecDepth 20000 in
theorem ggX1_noteTheMost_X1_roundOf : GoodIn wsX1_noteTheMost wsX1_roundOf := goodIn_r _ [15] (by decide +kernel) (by decide +kernel)
set_option maxRecDepth 20000 in
theorem gX1_noteTheMost_X1_roundOf : GoodIn wsX1_noteTheMost (va_wsS RX1 138 yX1_roundOf wsX1_roundOf) := goodIn_app (goodIn_of _ (by decide +kernel)) ggX1_noteTheMost_X1_roundOf
theorem dX1_noteTheMost_0 : decode cX1_noteTheMost 0 = .ok (.iconst 1, 1) := by decide +kernel
theorem dX1_noteTheMost_1 : decode cX1_noteTheMost 1 = .ok (.iload_n 1, 1) := by decide +kernel
theorem dX1_noteTheMost_2 : decode cX1_noteTheMost 2 = .ok (.invokestatic 144, 3) := by decide +kernel
theorem dX1_noteTheMost_5 : decode cX1_noteTheMost 5 = .ok (.ishl, 1) := by decide +kernel
theorem dX1_noteTheMost_6 : decode cX1_noteTheMost 6 = .ok (.istore_n 2, 1) := by decide +kernel
theorem dX1_noteTheMost_7 : decode cX1_noteTheMost 7 = .ok (.iload_n 1, 1) := by decide +kernel
theorem dX1_noteTheMost_8 : decode cX1_noteTheMost 8 = .ok (.invokestatic 141, 3) := by decide +kernel
theorem dX1_noteTheMost_11 : decode cX1_noteTheMost 11 = .ok (.ifCond .ne 27, 3) := by decide +kernel
theorem dX1_noteTheMost_14 : decode cX1_noteTheMost 14 = .ok (.aload_n 0, 1) := by decide +kernel
theorem dX1_noteTheMost_15 : decode cX1_noteTheMost 15 = .ok (.getfield 51, 3) := by decide +kernel
theorem dX1_noteTheMost_18 : decode cX1_noteTheMost 18 = .ok (.iload_n 1, 1) := by decide +kernel
theorem dX1_noteTheMost_19 : decode cX1_noteTheMost 19 = .ok (.invokestatic 135, 3) := by decide +kernel
theorem dX1_noteTheMost_22 : decode cX1_noteTheMost 22 = .ok (.bipush 8, 2) := by decide +kernel
theorem dX1_noteTheMost_24 : decode cX1_noteTheMost 24 = .ok (.imul, 1) := by decide +kernel
theorem dX1_noteTheMost_25 : decode cX1_noteTheMost 25 = .ok (.iload_n 1, 1) := by decide +kernel
theorem dX1_noteTheMost_26 : decode cX1_noteTheMost 26 = .ok (.invokestatic 138, 3) := by decide +kernel
theorem dX1_noteTheMost_29 : decode cX1_noteTheMost 29 = .ok (.iadd, 1) := by decide +kernel
theorem dX1_noteTheMost_30 : decode cX1_noteTheMost 30 = .ok (.dup2, 1) := by decide +kernel
theorem dX1_noteTheMost_31 : decode cX1_noteTheMost 31 = .ok (.iaload, 1) := by decide +kernel
theorem dX1_noteTheMost_32 : decode cX1_noteTheMost 32 = .ok (.iload_n 2, 1) := by decide +kernel
theorem dX1_noteTheMost_33 : decode cX1_noteTheMost 33 = .ok (.ior, 1) := by decide +kernel
theorem dX1_noteTheMost_34 : decode cX1_noteTheMost 34 = .ok (.iastore, 1) := by decide +kernel
theorem dX1_noteTheMost_35 : decode cX1_noteTheMost 35 = .ok (.goto 16, 3) := by decide +kernel
theorem dX1_noteTheMost_38 : decode cX1_noteTheMost 38 = .ok (.aload_n 0, 1) := by decide +kernel
theorem dX1_noteTheMost_39 : decode cX1_noteTheMost 39 = .ok (.getfield 54, 3) := by decide +kernel
theorem dX1_noteTheMost_42 : decode cX1_noteTheMost 42 = .ok (.iload_n 1, 1) := by decide +kernel
theorem dX1_noteTheMost_43 : decode cX1_noteTheMost 43 = .ok (.invokestatic 135, 3) := by decide +kernel
theorem dX1_noteTheMost_46 : decode cX1_noteTheMost 46 = .ok (.dup2, 1) := by decide +kernel
theorem dX1_noteTheMost_47 : decode cX1_noteTheMost 47 = .ok (.iaload, 1) := by decide +kernel
theorem dX1_noteTheMost_48 : decode cX1_noteTheMost 48 = .ok (.iload_n 2, 1) := by decide +kernel
theorem dX1_noteTheMost_49 : decode cX1_noteTheMost 49 = .ok (.ior, 1) := by decide +kernel
theorem dX1_noteTheMost_50 : decode cX1_noteTheMost 50 = .ok (.iastore, 1) := by decide +kernel
theorem dX1_noteTheMost_51 : decode cX1_noteTheMost 51 = .ok (.return_, 1) := by decide +kernel
theorem dX1_hasBlock_0 : decode cX1_hasBlock 0 = .ok (.iload_n 0, 1) := by decide +kernel
theorem dX1_hasBlock_1 : decode cX1_hasBlock 1 = .ok (.iconst 1, 1) := by decide +kernel
theorem dX1_hasBlock_2 : decode cX1_hasBlock 2 = .ok (.iload_n 1, 1) := by decide +kernel
theorem dX1_hasBlock_3 : decode cX1_hasBlock 3 = .ok (.ishl, 1) := by decide +kernel
theorem dX1_hasBlock_4 : decode cX1_hasBlock 4 = .ok (.iand, 1) := by decide +kernel
theorem dX1_hasBlock_5 : decode cX1_hasBlock 5 = .ok (.ifCond .eq 7, 3) := by decide +kernel
theorem dX1_hasBlock_8 : decode cX1_hasBlock 8 = .ok (.iconst 1, 1) := by decide +kernel
theorem dX1_hasBlock_9 : decode cX1_hasBlock 9 = .ok (.goto 4, 3) := by decide +kernel
theorem dX1_hasBlock_12 : decode cX1_hasBlock 12 = .ok (.iconst 0, 1) := by decide +kernel
theorem dX1_hasBlock_13 : decode cX1_hasBlock 13 = .ok (.ireturn, 1) := by decide +kernel
set_option maxRecDepth 20000 in
theorem ggX1_isBacked_X1_hasBlock : GoodIn wsX1_isBacked wsX1_hasBlock := goodIn_r _ [5] (by decide +kernel) (by decide +kernel)
set_option maxRecDepth 20000 in
theorem gX1_isBacked_X1_hasBlock : GoodIn wsX1_isBacked (va_wsS RX1 164 yX1_hasBlock wsX1_hasBlock) := goodIn_app (goodIn_of _ (by decide +kernel)) ggX1_isBacked_X1_hasBlock
theorem dX1_isBacked_0 : decode cX1_isBacked 0 = .ok (.aload_n 0, 1) := by decide +kernel
theorem dX1_isBacked_1 : decode cX1_isBacked 1 = .ok (.getfield 51, 3) := by decide +kernel
theorem dX1_isBacked_4 : decode cX1_isBacked 4 = .ok (.iload_n 1, 1) := by decide +kernel
theorem dX1_isBacked_5 : decode cX1_isBacked 5 = .ok (.bipush 8, 2) := by decide +kernel
theorem dX1_isBacked_7 : decode cX1_isBacked 7 = .ok (.imul, 1) := by decide +kernel
theorem dX1_isBacked_8 : decode cX1_isBacked 8 = .ok (.iload_n 2, 1) := by decide +kernel
theorem dX1_isBacked_9 : decode cX1_isBacked 9 = .ok (.iadd, 1) := by decide +kernel
theorem dX1_isBacked_10 : decode cX1_isBacked 10 = .ok (.iaload, 1) := by decide +kernel
theorem dX1_isBacked_11 : decode cX1_isBacked 11 = .ok (.iload_n 3, 1) := by decide +kernel
theorem dX1_isBacked_12 : decode cX1_isBacked 12 = .ok (.invokestatic 164, 3) := by decide +kernel
theorem dX1_isBacked_15 : decode cX1_isBacked 15 = .ok (.ireturn, 1) := by decide +kernel
theorem dX1_isTwice_0 : decode cX1_isTwice 0 = .ok (.iload_n 0, 1) := by decide +kernel
theorem dX1_isTwice_1 : decode cX1_isTwice 1 = .ok (.iload_n 1, 1) := by decide +kernel
theorem dX1_isTwice_2 : decode cX1_isTwice 2 = .ok (.if_icmp .eq 16, 3) := by decide +kernel
theorem dX1_isTwice_5 : decode cX1_isTwice 5 = .ok (.iload_n 0, 1) := by decide +kernel
theorem dX1_isTwice_6 : decode cX1_isTwice 6 = .ok (.iconst 4, 1) := by decide +kernel
theorem dX1_isTwice_7 : decode cX1_isTwice 7 = .ok (.ishr, 1) := by decide +kernel
theorem dX1_isTwice_8 : decode cX1_isTwice 8 = .ok (.iload_n 1, 1) := by decide +kernel
theorem dX1_isTwice_9 : decode cX1_isTwice 9 = .ok (.iconst 4, 1) := by decide +kernel
theorem dX1_isTwice_10 : decode cX1_isTwice 10 = .ok (.ishr, 1) := by decide +kernel
theorem dX1_isTwice_11 : decode cX1_isTwice 11 = .ok (.if_icmp .ne 7, 3) := by decide +kernel
theorem dX1_isTwice_14 : decode cX1_isTwice 14 = .ok (.iconst 1, 1) := by decide +kernel
theorem dX1_isTwice_15 : decode cX1_isTwice 15 = .ok (.goto 4, 3) := by decide +kernel
theorem dX1_isTwice_18 : decode cX1_isTwice 18 = .ok (.iconst 0, 1) := by decide +kernel
theorem dX1_isTwice_19 : decode cX1_isTwice 19 = .ok (.ireturn, 1) := by decide +kernel
set_option maxRecDepth 20000 in
theorem ggX1_isLocking_X1_stepOf : GoodIn wsX1_isLocking wsX1_stepOf := goodIn_r _ [4] (by decide +kernel) (by decide +kernel)
set_option maxRecDepth 20000 in
theorem gX1_isLocking_X1_stepOf : GoodIn wsX1_isLocking (va_wsS RX1 141 yX1_stepOf wsX1_stepOf) := goodIn_app (goodIn_of _ (by decide +kernel)) ggX1_isLocking_X1_stepOf
set_option maxRecDepth 20000 in
theorem ggX1_isLocking_X1_blockOf : GoodIn wsX1_isLocking wsX1_blockOf := goodIn_r _ [7] (by decide +kernel) (by decide +kernel)
set_option maxRecDepth 20000 in
theorem gX1_isLocking_X1_blockOf : GoodIn wsX1_isLocking (va_wsS RX1 144 yX1_blockOf wsX1_blockOf) := goodIn_app (goodIn_of _ (by decide +kernel)) ggX1_isLocking_X1_blockOf
theorem dX1_isLocking_0 : decode cX1_isLocking 0 = .ok (.iload_n 0, 1) := by decide +kernel
theorem dX1_isLocking_1 : decode cX1_isLocking 1 = .ok (.invokestatic 141, 3) := by decide +kernel
theorem dX1_isLocking_4 : decode cX1_isLocking 4 = .ok (.iconst 1, 1) := by decide +kernel
theorem dX1_isLocking_5 : decode cX1_isLocking 5 = .ok (.if_icmp .ne 14, 3) := by decide +kernel
theorem dX1_isLocking_8 : decode cX1_isLocking 8 = .ok (.iload_n 0, 1) := by decide +kernel
theorem dX1_isLocking_9 : decode cX1_isLocking 9 = .ok (.invokestatic 144, 3) := by decide +kernel
theorem dX1_isLocking_12 : decode cX1_isLocking 12 = .ok (.ifCond .le 7, 3) := by decide +kernel
theorem dX1_isLocking_15 : decode cX1_isLocking 15 = .ok (.iconst 1, 1) := by decide +kernel
theorem dX1_isLocking_16 : decode cX1_isLocking 16 = .ok (.goto 4, 3) := by decide +kernel
theorem dX1_isLocking_19 : decode cX1_isLocking 19 = .ok (.iconst 0, 1) := by decide +kernel
theorem dX1_isLocking_20 : decode cX1_isLocking 20 = .ok (.ireturn, 1) := by decide +kernel
set_option maxRecDepth 20000 in
theorem ggX1_isLock_X1_isLocking : GoodIn wsX1_isLock wsX1_isLocking := goodIn_r _ [4, 5, 6, 3, 7, 8, 9, 10] (by decide +kernel) (by decide +kernel)
set_option maxRecDepth 20000 in
theorem gX1_isLock_X1_isLocking : GoodIn wsX1_isLock (va_wsS RX1 219 yX1_isLocking wsX1_isLocking) := goodIn_app (goodIn_of _ (by decide +kernel)) ggX1_isLock_X1_isLocking
set_option maxRecDepth 20000 in
theorem ggX1_isLock_X1_voterOf : GoodIn wsX1_isLock wsX1_voterOf := goodIn_r _ [13] (by decide +kernel) (by decide +kernel)
set_option maxRecDepth 20000 in
theorem gX1_isLock_X1_voterOf : GoodIn wsX1_isLock (va_wsS RX1 222 yX1_voterOf wsX1_voterOf) := goodIn_app (goodIn_of _ (by decide +kernel)) ggX1_isLock_X1_voterOf
set_option maxRecDepth 20000 in
theorem ggX1_isLock_X1_roundOf : GoodIn wsX1_isLock wsX1_roundOf := goodIn_r _ [16] (by decide +kernel) (by decide +kernel)
set_option maxRecDepth 20000 in
theorem gX1_isLock_X1_roundOf : GoodIn wsX1_isLock (va_wsS RX1 138 yX1_roundOf wsX1_roundOf) := goodIn_app (goodIn_of _ (by decide +kernel)) ggX1_isLock_X1_roundOf
set_option maxRecDepth 20000 in
theorem ggX1_isLock_X1_blockOf : GoodIn wsX1_isLock wsX1_blockOf := goodIn_r _ [10] (by decide +kernel) (by decide +kernel)
set_option maxRecDepth 20000 in
theorem gX1_isLock_X1_blockOf : GoodIn wsX1_isLock (va_wsS RX1 144 yX1_blockOf wsX1_blockOf) := goodIn_app (goodIn_of _ (by decide +kernel)) ggX1_isLock_X1_blockOf
set_option maxRecDepth 20000 in
theorem ggX1_isLock_X1_stepOf : GoodIn wsX1_isLock wsX1_stepOf := goodIn_r _ [7] (by decide +kernel) (by decide +kernel)
set_option maxRecDepth 20000 in
theorem gX1_isLock_X1_stepOf : GoodIn wsX1_isLock (va_wsS RX1 141 yX1_stepOf wsX1_stepOf) := goodIn_app (goodIn_of _ (by decide +kernel)) ggX1_isLock_X1_stepOf
set_option maxRecDepth 20000 in
theorem ggX1_isLock_X1_heightOf : GoodIn wsX1_isLock wsX1_heightOf := goodIn_r _ [19] (by decide +kernel) (by decide +kernel)
set_option maxRecDepth 20000 in
theorem gX1_isLock_X1_heightOf : GoodIn wsX1_isLock (va_wsS RX1 135 yX1_heightOf wsX1_heightOf) := goodIn_app (goodIn_of _ (by decide +kernel)) ggX1_isLock_X1_heightOf
set_option maxRecDepth 20000 in
theorem ggX1_isLock_X1_isUnlocked : GoodIn wsX1_isLock wsX1_isUnlocked := goodIn_r _ [23, 24, 25, 26, 3, 27, 28, 29, 30, 31, 32, 33, 34, 35, 36, 37, 38, 39, 40, 41, 42, 43, 44, 45] (by decide +kernel) (by decide +kernel)
set_option maxRecDepth 20000 in
theorem gX1_isLock_X1_isUnlocked : GoodIn wsX1_isLock (wsV RX1 225 RX1 yX1_isUnlocked wsX1_isUnlocked) := goodIn_app (goodIn_of _ (by decide +kernel)) ggX1_isLock_X1_isUnlocked
theorem dX1_isLock_0 : decode cX1_isLock 0 = .ok (.iload_n 1, 1) := by decide +kernel
theorem dX1_isLock_1 : decode cX1_isLock 1 = .ok (.invokestatic 219, 3) := by decide +kernel
theorem dX1_isLock_4 : decode cX1_isLock 4 = .ok (.ifCond .eq 25, 3) := by decide +kernel
theorem dX1_isLock_7 : decode cX1_isLock 7 = .ok (.iload_n 1, 1) := by decide +kernel
theorem dX1_isLock_8 : decode cX1_isLock 8 = .ok (.invokestatic 222, 3) := by decide +kernel
theorem dX1_isLock_11 : decode cX1_isLock 11 = .ok (.iload_n 2, 1) := by decide +kernel
theorem dX1_isLock_12 : decode cX1_isLock 12 = .ok (.invokestatic 222, 3) := by decide +kernel
theorem dX1_isLock_15 : decode cX1_isLock 15 = .ok (.if_icmp .ne 14, 3) := by decide +kernel
theorem dX1_isLock_18 : decode cX1_isLock 18 = .ok (.iload_n 1, 1) := by decide +kernel
theorem dX1_isLock_19 : decode cX1_isLock 19 = .ok (.invokestatic 138, 3) := by decide +kernel
theorem dX1_isLock_22 : decode cX1_isLock 22 = .ok (.iload_n 2, 1) := by decide +kernel
theorem dX1_isLock_23 : decode cX1_isLock 23 = .ok (.invokestatic 138, 3) := by decide +kernel
theorem dX1_isLock_26 : decode cX1_isLock 26 = .ok (.if_icmp .lt 5, 3) := by decide +kernel
theorem dX1_isLock_29 : decode cX1_isLock 29 = .ok (.iconst 0, 1) := by decide +kernel
theorem dX1_isLock_30 : decode cX1_isLock 30 = .ok (.ireturn, 1) := by decide +kernel
theorem dX1_isLock_31 : decode cX1_isLock 31 = .ok (.iload_n 2, 1) := by decide +kernel
theorem dX1_isLock_32 : decode cX1_isLock 32 = .ok (.invokestatic 144, 3) := by decide +kernel
theorem dX1_isLock_35 : decode cX1_isLock 35 = .ok (.istore_n 3, 1) := by decide +kernel
theorem dX1_isLock_36 : decode cX1_isLock 36 = .ok (.iload_n 2, 1) := by decide +kernel
theorem dX1_isLock_37 : decode cX1_isLock 37 = .ok (.invokestatic 141, 3) := by decide +kernel
theorem dX1_isLock_40 : decode cX1_isLock 40 = .ok (.ifCond .ne 15, 3) := by decide +kernel
theorem dX1_isLock_43 : decode cX1_isLock 43 = .ok (.iload_n 3, 1) := by decide +kernel
theorem dX1_isLock_44 : decode cX1_isLock 44 = .ok (.ifCond .eq 11, 3) := by decide +kernel
theorem dX1_isLock_47 : decode cX1_isLock 47 = .ok (.iload_n 3, 1) := by decide +kernel
theorem dX1_isLock_48 : decode cX1_isLock 48 = .ok (.iload_n 1, 1) := by decide +kernel
theorem dX1_isLock_49 : decode cX1_isLock 49 = .ok (.invokestatic 144, 3) := by decide +kernel
theorem dX1_isLock_52 : decode cX1_isLock 52 = .ok (.if_icmp .ne 5, 3) := by decide +kernel
theorem dX1_isLock_55 : decode cX1_isLock 55 = .ok (.iconst 0, 1) := by decide +kernel
theorem dX1_isLock_56 : decode cX1_isLock 56 = .ok (.ireturn, 1) := by decide +kernel
theorem dX1_isLock_57 : decode cX1_isLock 57 = .ok (.aload_n 0, 1) := by decide +kernel
theorem dX1_isLock_58 : decode cX1_isLock 58 = .ok (.iload_n 2, 1) := by decide +kernel
theorem dX1_isLock_59 : decode cX1_isLock 59 = .ok (.invokestatic 135, 3) := by decide +kernel
theorem dX1_isLock_62 : decode cX1_isLock 62 = .ok (.iload_n 3, 1) := by decide +kernel
theorem dX1_isLock_63 : decode cX1_isLock 63 = .ok (.iload_n 1, 1) := by decide +kernel
theorem dX1_isLock_64 : decode cX1_isLock 64 = .ok (.invokestatic 138, 3) := by decide +kernel
theorem dX1_isLock_67 : decode cX1_isLock 67 = .ok (.iload_n 2, 1) := by decide +kernel
theorem dX1_isLock_68 : decode cX1_isLock 68 = .ok (.invokestatic 138, 3) := by decide +kernel
theorem dX1_isLock_71 : decode cX1_isLock 71 = .ok (.invokevirtual 225, 3) := by decide +kernel
theorem dX1_isLock_74 : decode cX1_isLock 74 = .ok (.ifCond .ne 7, 3) := by decide +kernel
theorem dX1_isLock_77 : decode cX1_isLock 77 = .ok (.iconst 1, 1) := by decide +kernel
theorem dX1_isLock_78 : decode cX1_isLock 78 = .ok (.goto 4, 3) := by decide +kernel
theorem dX1_isLock_81 : decode cX1_isLock 81 = .ok (.iconst 0, 1) := by decide +kernel
theorem dX1_isLock_82 : decode cX1_isLock 82 = .ok (.ireturn, 1) := by decide +kernel
set_option maxRecDepth 20000 in
theorem ggX1_isUnlocked_X1_isBacked : GoodIn wsX1_isUnlocked wsX1_isBacked := goodIn_r _ [5, 6, 7, 8, 4, 9, 10, 11, 12, 13, 14, 15, 16, 17, 18, 19, 20, 21, 22, 23] (by decide +kernel) (by decide +kernel)
set_option maxRecDepth 20000 in
theorem gX1_isUnlocked_X1_isBacked : GoodIn wsX1_isUnlocked (wsV RX1 229 RX1 yX1_isBacked wsX1_isBacked) := goodIn_app (goodIn_of _ (by decide +kernel)) ggX1_isUnlocked_X1_isBacked
theorem dX1_isUnlocked_0 : decode cX1_isUnlocked 0 = .ok (.iload_n 3, 1) := by decide +kernel
theorem dX1_isUnlocked_1 : decode cX1_isUnlocked 1 = .ok (.istore 5, 2) := by decide +kernel
theorem dX1_isUnlocked_3 : decode cX1_isUnlocked 3 = .ok (.iload 5, 2) := by decide +kernel
theorem dX1_isUnlocked_5 : decode cX1_isUnlocked 5 = .ok (.iload 4, 2) := by decide +kernel
theorem dX1_isUnlocked_7 : decode cX1_isUnlocked 7 = .ok (.if_icmp .ge 22, 3) := by decide +kernel
theorem dX1_isUnlocked_10 : decode cX1_isUnlocked 10 = .ok (.aload_n 0, 1) := by decide +kernel
theorem dX1_isUnlocked_11 : decode cX1_isUnlocked 11 = .ok (.iload_n 1, 1) := by decide +kernel
theorem dX1_isUnlocked_12 : decode cX1_isUnlocked 12 = .ok (.iload 5, 2) := by decide +kernel
theorem dX1_isUnlocked_14 : decode cX1_isUnlocked 14 = .ok (.iload_n 2, 1) := by decide +kernel
theorem dX1_isUnlocked_15 : decode cX1_isUnlocked 15 = .ok (.invokevirtual 229, 3) := by decide +kernel
theorem dX1_isUnlocked_18 : decode cX1_isUnlocked 18 = .ok (.ifCond .eq 5, 3) := by decide +kernel
theorem dX1_isUnlocked_21 : decode cX1_isUnlocked 21 = .ok (.iconst 1, 1) := by decide +kernel
theorem dX1_isUnlocked_22 : decode cX1_isUnlocked 22 = .ok (.ireturn, 1) := by decide +kernel
theorem dX1_isUnlocked_23 : decode cX1_isUnlocked 23 = .ok (.iinc 5 1, 3) := by decide +kernel
theorem dX1_isUnlocked_26 : decode cX1_isUnlocked 26 = .ok (.goto (-23), 3) := by decide +kernel
theorem dX1_isUnlocked_29 : decode cX1_isUnlocked 29 = .ok (.iconst 0, 1) := by decide +kernel
theorem dX1_isUnlocked_30 : decode cX1_isUnlocked 30 = .ok (.ireturn, 1) := by decide +kernel
set_option maxRecDepth 20000 in
theorem ggX1_isBare_X1_isLocking : GoodIn wsX1_isBare wsX1_isLocking := goodIn_r _ [4, 5, 6, 3, 7, 8, 9, 10] (by decide +kernel) (by decide +kernel)
set_option maxRecDepth 20000 in
theorem gX1_isBare_X1_isLocking : GoodIn wsX1_isBare (va_wsS RX1 219 yX1_isLocking wsX1_isLocking) := goodIn_app (goodIn_of _ (by decide +kernel)) ggX1_isBare_X1_isLocking
set_option maxRecDepth 20000 in
theorem ggX1_isBare_X1_heightOf : GoodIn wsX1_isBare wsX1_heightOf := goodIn_r _ [13] (by decide +kernel) (by decide +kernel)
set_option maxRecDepth 20000 in
theorem gX1_isBare_X1_heightOf : GoodIn wsX1_isBare (va_wsS RX1 135 yX1_heightOf wsX1_heightOf) := goodIn_app (goodIn_of _ (by decide +kernel)) ggX1_isBare_X1_heightOf
set_option maxRecDepth 20000 in
theorem ggX1_isBare_X1_roundOf : GoodIn wsX1_isBare wsX1_roundOf := goodIn_r _ [16] (by decide +kernel) (by decide +kernel)
set_option maxRecDepth 20000 in
theorem gX1_isBare_X1_roundOf : GoodIn wsX1_isBare (va_wsS RX1 138 yX1_roundOf wsX1_roundOf) := goodIn_app (goodIn_of _ (by decide +kernel)) ggX1_isBare_X1_roundOf
set_option maxRecDepth 20000 in
theorem ggX1_isBare_X1_blockOf : GoodIn wsX1_isBare wsX1_blockOf := goodIn_r _ [10] (by decide +kernel) (by decide +kernel)
set_option maxRecDepth 20000 in
theorem gX1_isBare_X1_blockOf : GoodIn wsX1_isBare (va_wsS RX1 144 yX1_blockOf wsX1_blockOf) := goodIn_app (goodIn_of _ (by decide +kernel)) ggX1_isBare_X1_blockOf
set_option maxRecDepth 20000 in
theorem ggX1_isBare_X1_isBacked : GoodIn wsX1_isBare wsX1_isBacked := goodIn_r _ [20, 21, 22, 23, 3, 24, 25, 26, 27, 28, 29, 30, 31, 32, 33, 34, 35, 36, 37, 38] (by decide +kernel) (by decide +kernel)
set_option maxRecDepth 20000 in
theorem gX1_isBare_X1_isBacked : GoodIn wsX1_isBare (wsV RX1 229 RX1 yX1_isBacked wsX1_isBacked) := goodIn_app (goodIn_of _ (by decide +kernel)) ggX1_isBare_X1_isBacked
theorem dX1_isBare_0 : decode cX1_isBare 0 = .ok (.iload_n 1, 1) := by decide +kernel
theorem dX1_isBare_1 : decode cX1_isBare 1 = .ok (.invokestatic 219, 3) := by decide +kernel
theorem dX1_isBare_4 : decode cX1_isBare 4 = .ok (.ifCond .eq 26, 3) := by decide +kernel
theorem dX1_isBare_7 : decode cX1_isBare 7 = .ok (.aload_n 0, 1) := by decide +kernel
theorem dX1_isBare_8 : decode cX1_isBare 8 = .ok (.iload_n 1, 1) := by decide +kernel
theorem dX1_isBare_9 : decode cX1_isBare 9 = .ok (.invokestatic 135, 3) := by decide +kernel
theorem dX1_isBare_12 : decode cX1_isBare 12 = .ok (.iload_n 1, 1) := by decide +kernel
theorem dX1_isBare_13 : decode cX1_isBare 13 = .ok (.invokestatic 138, 3) := by decide +kernel
theorem dX1_isBare_16 : decode cX1_isBare 16 = .ok (.iload_n 1, 1) := by decide +kernel
theorem dX1_isBare_17 : decode cX1_isBare 17 = .ok (.invokestatic 144, 3) := by decide +kernel
theorem dX1_isBare_20 : decode cX1_isBare 20 = .ok (.invokevirtual 229, 3) := by decide +kernel
theorem dX1_isBare_23 : decode cX1_isBare 23 = .ok (.ifCond .ne 7, 3) := by decide +kernel
theorem dX1_isBare_26 : decode cX1_isBare 26 = .ok (.iconst 1, 1) := by decide +kernel
theorem dX1_isBare_27 : decode cX1_isBare 27 = .ok (.goto 4, 3) := by decide +kernel
theorem dX1_isBare_30 : decode cX1_isBare 30 = .ok (.iconst 0, 1) := by decide +kernel
theorem dX1_isBare_31 : decode cX1_isBare 31 = .ok (.ireturn, 1) := by decide +kernel
set_option maxRecDepth 20000 in
theorem ggX1_isPair_X1_isTwice : GoodIn wsX1_isPair wsX1_isTwice := goodIn_r _ [4] (by decide +kernel) (by decide +kernel)
set_option maxRecDepth 20000 in
theorem gX1_isPair_X1_isTwice : GoodIn wsX1_isPair (va_wsS RX1 232 yX1_isTwice wsX1_isTwice) := goodIn_app (goodIn_of _ (by decide +kernel)) ggX1_isPair_X1_isTwice
set_option maxRecDepth 20000 in
theorem ggX1_isPair_X1_isLock : GoodIn wsX1_isPair wsX1_isLock := goodIn_r _ [8, 9, 10, 3, 11, 12, 13, 14, 15, 16, 17, 18, 19, 20, 21, 22, 23, 24, 25, 26, 27, 28, 29, 30, 31, 32, 33, 34, 35, 36, 37, 38, 39, 40, 41, 42, 43, 44, 45, 46, 47, 48, 49, 50, 51, 52] (by decide +kernel) (by decide +kernel)
set_option maxRecDepth 20000 in
theorem gX1_isPair_X1_isLock : GoodIn wsX1_isPair (wsV RX1 235 RX1 yX1_isLock wsX1_isLock) := goodIn_app (goodIn_of _ (by decide +kernel)) ggX1_isPair_X1_isLock
theorem dX1_isPair_0 : decode cX1_isPair 0 = .ok (.iload_n 1, 1) := by decide +kernel
theorem dX1_isPair_1 : decode cX1_isPair 1 = .ok (.ifCond .ne 11, 3) := by decide +kernel
theorem dX1_isPair_4 : decode cX1_isPair 4 = .ok (.iload_n 2, 1) := by decide +kernel
theorem dX1_isPair_5 : decode cX1_isPair 5 = .ok (.iload_n 3, 1) := by decide +kernel
theorem dX1_isPair_6 : decode cX1_isPair 6 = .ok (.invokestatic 232, 3) := by decide +kernel
theorem dX1_isPair_9 : decode cX1_isPair 9 = .ok (.goto 9, 3) := by decide +kernel
theorem dX1_isPair_12 : decode cX1_isPair 12 = .ok (.aload_n 0, 1) := by decide +kernel
theorem dX1_isPair_13 : decode cX1_isPair 13 = .ok (.iload_n 2, 1) := by decide +kernel
theorem dX1_isPair_14 : decode cX1_isPair 14 = .ok (.iload_n 3, 1) := by decide +kernel
theorem dX1_isPair_15 : decode cX1_isPair 15 = .ok (.invokevirtual 235, 3) := by decide +kernel
theorem dX1_isPair_18 : decode cX1_isPair 18 = .ok (.ireturn, 1) := by decide +kernel
set_option maxRecDepth 20000 in
theorem ggX1_makesBreak_X1_isBare : GoodIn wsX1_makesBreak wsX1_isBare := goodIn_r _ [7, 8, 9, 6, 10, 11, 12, 13, 14, 15, 16, 17, 18, 19, 20, 21, 22, 23, 24, 25, 26, 27, 28, 29, 30, 49, 50, 51, 52, 53, 54, 55, 56, 57, 58, 59, 60, 61, 62] (by decide +kernel) (by decide +kernel)
set_option maxRecDepth 20000 in
theorem gX1_makesBreak_X1_isBare : GoodIn wsX1_makesBreak (wsV RX1 238 RX1 yX1_isBare wsX1_isBare) := goodIn_app (goodIn_of _ (by decide +kernel)) ggX1_makesBreak_X1_isBare
set_option maxRecDepth 20000 in
theorem ggX1_makesBreak_X1_voterOf : GoodIn wsX1_makesBreak wsX1_voterOf := goodIn_r _ [33] (by decide +kernel) (by decide +kernel)
set_option maxRecDepth 20000 in
theorem gX1_makesBreak_X1_voterOf : GoodIn wsX1_makesBreak (va_wsS RX1 222 yX1_voterOf wsX1_voterOf) := goodIn_app (goodIn_of _ (by decide +kernel)) ggX1_makesBreak_X1_voterOf
set_option maxRecDepth 20000 in
theorem ggX1_makesBreak_X1_isClash : GoodIn wsX1_makesBreak wsX1_isClash := goodIn_r _ [37, 38, 39, 6, 40, 41, 42, 43, 44, 8, 9, 10, 11, 12, 13, 14, 15, 16, 31, 32, 33, 20, 21, 22, 17, 18, 19, 45, 46, 47, 48, 23, 24, 25, 26, 27, 28, 29, 30, 49, 50, 51, 52, 53, 54, 55, 56, 57, 58, 59, 60, 61, 62] (by decide +kernel) (by decide +kernel)
set_option maxRecDepth 20000 in
theorem gX1_makesBreak_X1_isClash : GoodIn wsX1_makesBreak (wsV RX1 241 RX1 yX1_isClash wsX1_isClash) := goodIn_app (goodIn_of _ (by decide +kernel)) ggX1_makesBreak_X1_isClash
theorem dX1_makesBreak_0 : decode cX1_makesBreak 0 = .ok (.aload_n 0, 1) := by decide +kernel
theorem dX1_makesBreak_1 : decode cX1_makesBreak 1 = .ok (.iload_n 1, 1) := by decide +kernel
theorem dX1_makesBreak_2 : decode cX1_makesBreak 2 = .ok (.invokevirtual 238, 3) := by decide +kernel
theorem dX1_makesBreak_5 : decode cX1_makesBreak 5 = .ok (.ifCond .eq 5, 3) := by decide +kernel
theorem dX1_makesBreak_8 : decode cX1_makesBreak 8 = .ok (.iconst 1, 1) := by decide +kernel
theorem dX1_makesBreak_9 : decode cX1_makesBreak 9 = .ok (.ireturn, 1) := by decide +kernel
theorem dX1_makesBreak_10 : decode cX1_makesBreak 10 = .ok (.iload_n 1, 1) := by decide +kernel
theorem dX1_makesBreak_11 : decode cX1_makesBreak 11 = .ok (.invokestatic 222, 3) := by decide +kernel
theorem dX1_makesBreak_14 : decode cX1_makesBreak 14 = .ok (.istore_n 2, 1) := by decide +kernel
theorem dX1_makesBreak_15 : decode cX1_makesBreak 15 = .ok (.iconst 0, 1) := by decide +kernel
theorem dX1_makesBreak_16 : decode cX1_makesBreak 16 = .ok (.istore_n 3, 1) := by decide +kernel
theorem dX1_makesBreak_17 : decode cX1_makesBreak 17 = .ok (.iload_n 3, 1) := by decide +kernel
theorem dX1_makesBreak_18 : decode cX1_makesBreak 18 = .ok (.aload_n 0, 1) := by decide +kernel
theorem dX1_makesBreak_19 : decode cX1_makesBreak 19 = .ok (.getfield 48, 3) := by decide +kernel
theorem dX1_makesBreak_22 : decode cX1_makesBreak 22 = .ok (.if_icmp .ge 38, 3) := by decide +kernel
theorem dX1_makesBreak_25 : decode cX1_makesBreak 25 = .ok (.aload_n 0, 1) := by decide +kernel
theorem dX1_makesBreak_26 : decode cX1_makesBreak 26 = .ok (.getfield 44, 3) := by decide +kernel
theorem dX1_makesBreak_29 : decode cX1_makesBreak 29 = .ok (.iload_n 3, 1) := by decide +kernel
theorem dX1_makesBreak_30 : decode cX1_makesBreak 30 = .ok (.iaload, 1) := by decide +kernel
theorem dX1_makesBreak_31 : decode cX1_makesBreak 31 = .ok (.bipush 8, 2) := by decide +kernel
theorem dX1_makesBreak_33 : decode cX1_makesBreak 33 = .ok (.ishr, 1) := by decide +kernel
theorem dX1_makesBreak_34 : decode cX1_makesBreak 34 = .ok (.iload_n 2, 1) := by decide +kernel
theorem dX1_makesBreak_35 : decode cX1_makesBreak 35 = .ok (.if_icmp .ne 19, 3) := by decide +kernel
theorem dX1_makesBreak_38 : decode cX1_makesBreak 38 = .ok (.aload_n 0, 1) := by decide +kernel
theorem dX1_makesBreak_39 : decode cX1_makesBreak 39 = .ok (.iload_n 1, 1) := by decide +kernel
theorem dX1_makesBreak_40 : decode cX1_makesBreak 40 = .ok (.aload_n 0, 1) := by decide +kernel
theorem dX1_makesBreak_41 : decode cX1_makesBreak 41 = .ok (.getfield 44, 3) := by decide +kernel
theorem dX1_makesBreak_44 : decode cX1_makesBreak 44 = .ok (.iload_n 3, 1) := by decide +kernel
theorem dX1_makesBreak_45 : decode cX1_makesBreak 45 = .ok (.iaload, 1) := by decide +kernel
theorem dX1_makesBreak_46 : decode cX1_makesBreak 46 = .ok (.invokevirtual 241, 3) := by decide +kernel
theorem dX1_makesBreak_49 : decode cX1_makesBreak 49 = .ok (.ifCond .eq 5, 3) := by decide +kernel
theorem dX1_makesBreak_52 : decode cX1_makesBreak 52 = .ok (.iconst 1, 1) := by decide +kernel
theorem dX1_makesBreak_53 : decode cX1_makesBreak 53 = .ok (.ireturn, 1) := by decide +kernel
theorem dX1_makesBreak_54 : decode cX1_makesBreak 54 = .ok (.iinc 3 1, 3) := by decide +kernel
theorem dX1_makesBreak_57 : decode cX1_makesBreak 57 = .ok (.goto (-40), 3) := by decide +kernel
theorem dX1_makesBreak_60 : decode cX1_makesBreak 60 = .ok (.iconst 0, 1) := by decide +kernel
theorem dX1_makesBreak_61 : decode cX1_makesBreak 61 = .ok (.ireturn, 1) := by decide +kernel
set_option maxRecDepth 20000 in
theorem ggX1_isClash_X1_isTwice : GoodIn wsX1_isClash wsX1_isTwice := goodIn_r _ [4] (by decide +kernel) (by decide +kernel)
set_option maxRecDepth 20000 in
theorem gX1_isClash_X1_isTwice : GoodIn wsX1_isClash (va_wsS RX1 232 yX1_isTwice wsX1_isTwice) := goodIn_app (goodIn_of _ (by decide +kernel)) ggX1_isClash_X1_isTwice
set_option maxRecDepth 20000 in
theorem ggX1_isClash_X1_isLock : GoodIn wsX1_isClash wsX1_isLock := goodIn_r _ [8, 9, 10, 3, 11, 12, 13, 14, 15, 16, 17, 18, 19, 20, 21, 22, 23, 24, 25, 26, 27, 28, 29, 30, 31, 32, 33, 34, 35, 36, 37, 38, 39, 40, 41, 42, 43, 44, 45, 46, 47, 48, 49, 50, 51, 52] (by decide +kernel) (by decide +kernel)
set_option maxRecDepth 20000 in
theorem gX1_isClash_X1_isLock : GoodIn wsX1_isClash (wsV RX1 235 RX1 yX1_isLock wsX1_isLock) := goodIn_app (goodIn_of _ (by decide +kernel)) ggX1_isClash_X1_isLock
theorem dX1_isClash_0 : decode cX1_isClash 0 = .ok (.iload_n 1, 1) := by decide +kernel
theorem dX1_isClash_1 : decode cX1_isClash 1 = .ok (.iload_n 2, 1) := by decide +kernel
theorem dX1_isClash_2 : decode cX1_isClash 2 = .ok (.invokestatic 232, 3) := by decide +kernel
theorem dX1_isClash_5 : decode cX1_isClash 5 = .ok (.ifCond .ne 21, 3) := by decide +kernel
theorem dX1_isClash_8 : decode cX1_isClash 8 = .ok (.aload_n 0, 1) := by decide +kernel
theorem dX1_isClash_9 : decode cX1_isClash 9 = .ok (.iload_n 1, 1) := by decide +kernel
theorem dX1_isClash_10 : decode cX1_isClash 10 = .ok (.iload_n 2, 1) := by decide +kernel
theorem dX1_isClash_11 : decode cX1_isClash 11 = .ok (.invokevirtual 235, 3) := by decide +kernel
theorem dX1_isClash_14 : decode cX1_isClash 14 = .ok (.ifCond .ne 12, 3) := by decide +kernel
theorem dX1_isClash_17 : decode cX1_isClash 17 = .ok (.aload_n 0, 1) := by decide +kernel
theorem dX1_isClash_18 : decode cX1_isClash 18 = .ok (.iload_n 2, 1) := by decide +kernel
theorem dX1_isClash_19 : decode cX1_isClash 19 = .ok (.iload_n 1, 1) := by decide +kernel
theorem dX1_isClash_20 : decode cX1_isClash 20 = .ok (.invokevirtual 235, 3) := by decide +kernel
theorem dX1_isClash_23 : decode cX1_isClash 23 = .ok (.ifCond .eq 7, 3) := by decide +kernel
theorem dX1_isClash_26 : decode cX1_isClash 26 = .ok (.iconst 1, 1) := by decide +kernel
theorem dX1_isClash_27 : decode cX1_isClash 27 = .ok (.goto 4, 3) := by decide +kernel
theorem dX1_isClash_30 : decode cX1_isClash 30 = .ok (.iconst 0, 1) := by decide +kernel
theorem dX1_isClash_31 : decode cX1_isClash 31 = .ok (.ireturn, 1) := by decide +kernel
set_option maxRecDepth 20000 in
theorem ggX1_countBreaksFrom_X1_isBare : GoodIn wsX1_countBreaksFrom wsX1_isBare := goodIn_r _ [7, 8, 9, 6, 10, 11, 12, 13, 14, 15, 16, 17, 18, 19, 20, 21, 22, 23, 24, 25, 26, 27, 28, 29, 30, 52, 53, 54, 55, 56, 57, 58, 59, 60, 61, 62, 63, 64, 65] (by decide +kernel) (by decide +kernel)
set_option maxRecDepth 20000 in
theorem gX1_countBreaksFrom_X1_isBare : GoodIn wsX1_countBreaksFrom (wsV RX1 238 RX1 yX1_isBare wsX1_isBare) := goodIn_app (goodIn_of _ (by decide +kernel)) ggX1_countBreaksFrom_X1_isBare
set_option maxRecDepth 20000 in
theorem ggX1_countBreaksFrom_X1_isLocking : GoodIn wsX1_countBreaksFrom wsX1_isLocking := goodIn_r _ [10, 11, 12, 6, 13, 14, 15, 16] (by decide +kernel) (by decide +kernel)
set_option maxRecDepth 20000 in
theorem gX1_countBreaksFrom_X1_isLocking : GoodIn wsX1_countBreaksFrom (va_wsS RX1 219 yX1_isLocking wsX1_isLocking) := goodIn_app (goodIn_of _ (by decide +kernel)) ggX1_countBreaksFrom_X1_isLocking
set_option maxRecDepth 20000 in
theorem ggX1_countBreaksFrom_X1_voterOf : GoodIn wsX1_countBreaksFrom wsX1_voterOf := goodIn_r _ [33] (by decide +kernel) (by decide +kernel)
set_option maxRecDepth 20000 in
theorem gX1_countBreaksFrom_X1_voterOf : GoodIn wsX1_countBreaksFrom (va_wsS RX1 222 yX1_voterOf wsX1_voterOf) := goodIn_app (goodIn_of _ (by decide +kernel)) ggX1_countBreaksFrom_X1_voterOf
set_option maxRecDepth 20000 in
theorem ggX1_countBreaksFrom_X1_firstPartner : GoodIn wsX1_countBreaksFrom wsX1_firstPartner := goodIn_r _ [36] (by decide +kernel) (by decide +kernel)
set_option maxRecDepth 20000 in
theorem gX1_countBreaksFrom_X1_firstPartner : GoodIn wsX1_countBreaksFrom (va_wsS RX1 244 yX1_firstPartner wsX1_firstPartner) := goodIn_app (goodIn_of _ (by decide +kernel)) ggX1_countBreaksFrom_X1_firstPartner
set_option maxRecDepth 20000 in
theorem ggX1_countBreaksFrom_X1_isPair : GoodIn wsX1_countBreaksFrom wsX1_isPair := goodIn_r _ [40, 41, 42, 6, 43, 44, 45, 46, 47, 8, 9, 10, 11, 12, 13, 14, 15, 16, 31, 32, 33, 20, 21, 22, 17, 18, 19, 48, 49, 50, 51, 23, 24, 25, 26, 27, 28, 29, 30, 52, 53, 54, 55, 56, 57, 58, 59, 60, 61, 62, 63, 64, 65] (by decide +kernel) (by decide +kernel)
set_option maxRecDepth 20000 in
theorem gX1_countBreaksFrom_X1_isPair : GoodIn wsX1_countBreaksFrom (wsV RX1 247 RX1 yX1_isPair wsX1_isPair) := goodIn_app (goodIn_of _ (by decide +kernel)) ggX1_countBreaksFrom_X1_isPair
theorem dX1_countBreaksFrom_0 : decode cX1_countBreaksFrom 0 = .ok (.aload_n 0, 1) := by decide +kernel
theorem dX1_countBreaksFrom_1 : decode cX1_countBreaksFrom 1 = .ok (.getfield 44, 3) := by decide +kernel
theorem dX1_countBreaksFrom_4 : decode cX1_countBreaksFrom 4 = .ok (.iload_n 2, 1) := by decide +kernel
theorem dX1_countBreaksFrom_5 : decode cX1_countBreaksFrom 5 = .ok (.iaload, 1) := by decide +kernel
theorem dX1_countBreaksFrom_6 : decode cX1_countBreaksFrom 6 = .ok (.istore_n 3, 1) := by decide +kernel
theorem dX1_countBreaksFrom_7 : decode cX1_countBreaksFrom 7 = .ok (.iload_n 1, 1) := by decide +kernel
theorem dX1_countBreaksFrom_8 : decode cX1_countBreaksFrom 8 = .ok (.iconst 2, 1) := by decide +kernel
theorem dX1_countBreaksFrom_9 : decode cX1_countBreaksFrom 9 = .ok (.if_icmp .ne 17, 3) := by decide +kernel
theorem dX1_countBreaksFrom_12 : decode cX1_countBreaksFrom 12 = .ok (.aload_n 0, 1) := by decide +kernel
theorem dX1_countBreaksFrom_13 : decode cX1_countBreaksFrom 13 = .ok (.iload_n 3, 1) := by decide +kernel
theorem dX1_countBreaksFrom_14 : decode cX1_countBreaksFrom 14 = .ok (.invokevirtual 238, 3) := by decide +kernel
theorem dX1_countBreaksFrom_17 : decode cX1_countBreaksFrom 17 = .ok (.ifCond .eq 7, 3) := by decide +kernel
theorem dX1_countBreaksFrom_20 : decode cX1_countBreaksFrom 20 = .ok (.iconst 1, 1) := by decide +kernel
theorem dX1_countBreaksFrom_21 : decode cX1_countBreaksFrom 21 = .ok (.goto 4, 3) := by decide +kernel
theorem dX1_countBreaksFrom_24 : decode cX1_countBreaksFrom 24 = .ok (.iconst 0, 1) := by decide +kernel
theorem dX1_countBreaksFrom_25 : decode cX1_countBreaksFrom 25 = .ok (.ireturn, 1) := by decide +kernel
theorem dX1_countBreaksFrom_26 : decode cX1_countBreaksFrom 26 = .ok (.iload_n 1, 1) := by decide +kernel
theorem dX1_countBreaksFrom_27 : decode cX1_countBreaksFrom 27 = .ok (.iconst 1, 1) := by decide +kernel
theorem dX1_countBreaksFrom_28 : decode cX1_countBreaksFrom 28 = .ok (.if_icmp .ne 12, 3) := by decide +kernel
theorem dX1_countBreaksFrom_31 : decode cX1_countBreaksFrom 31 = .ok (.iload_n 3, 1) := by decide +kernel
theorem dX1_countBreaksFrom_32 : decode cX1_countBreaksFrom 32 = .ok (.invokestatic 219, 3) := by decide +kernel
theorem dX1_countBreaksFrom_35 : decode cX1_countBreaksFrom 35 = .ok (.ifCond .ne 5, 3) := by decide +kernel
theorem dX1_countBreaksFrom_38 : decode cX1_countBreaksFrom 38 = .ok (.iconst 0, 1) := by decide +kernel
theorem dX1_countBreaksFrom_39 : decode cX1_countBreaksFrom 39 = .ok (.ireturn, 1) := by decide +kernel
theorem dX1_countBreaksFrom_40 : decode cX1_countBreaksFrom 40 = .ok (.iload_n 3, 1) := by decide +kernel
theorem dX1_countBreaksFrom_41 : decode cX1_countBreaksFrom 41 = .ok (.invokestatic 222, 3) := by decide +kernel
theorem dX1_countBreaksFrom_44 : decode cX1_countBreaksFrom 44 = .ok (.istore 4, 2) := by decide +kernel
theorem dX1_countBreaksFrom_46 : decode cX1_countBreaksFrom 46 = .ok (.iconst 0, 1) := by decide +kernel
theorem dX1_countBreaksFrom_47 : decode cX1_countBreaksFrom 47 = .ok (.istore 5, 2) := by decide +kernel
theorem dX1_countBreaksFrom_49 : decode cX1_countBreaksFrom 49 = .ok (.iload_n 1, 1) := by decide +kernel
theorem dX1_countBreaksFrom_50 : decode cX1_countBreaksFrom 50 = .ok (.iload_n 2, 1) := by decide +kernel
theorem dX1_countBreaksFrom_51 : decode cX1_countBreaksFrom 51 = .ok (.invokestatic 244, 3) := by decide +kernel
theorem dX1_countBreaksFrom_54 : decode cX1_countBreaksFrom 54 = .ok (.istore 6, 2) := by decide +kernel
theorem dX1_countBreaksFrom_56 : decode cX1_countBreaksFrom 56 = .ok (.iload 6, 2) := by decide +kernel
theorem dX1_countBreaksFrom_58 : decode cX1_countBreaksFrom 58 = .ok (.aload_n 0, 1) := by decide +kernel
theorem dX1_countBreaksFrom_59 : decode cX1_countBreaksFrom 59 = .ok (.getfield 48, 3) := by decide +kernel
theorem dX1_countBreaksFrom_62 : decode cX1_countBreaksFrom 62 = .ok (.if_icmp .ge 43, 3) := by decide +kernel
theorem dX1_countBreaksFrom_65 : decode cX1_countBreaksFrom 65 = .ok (.aload_n 0, 1) := by decide +kernel
theorem dX1_countBreaksFrom_66 : decode cX1_countBreaksFrom 66 = .ok (.getfield 44, 3) := by decide +kernel
theorem dX1_countBreaksFrom_69 : decode cX1_countBreaksFrom 69 = .ok (.iload 6, 2) := by decide +kernel
theorem dX1_countBreaksFrom_71 : decode cX1_countBreaksFrom 71 = .ok (.iaload, 1) := by decide +kernel
theorem dX1_countBreaksFrom_72 : decode cX1_countBreaksFrom 72 = .ok (.bipush 8, 2) := by decide +kernel
theorem dX1_countBreaksFrom_74 : decode cX1_countBreaksFrom 74 = .ok (.ishr, 1) := by decide +kernel
theorem dX1_countBreaksFrom_75 : decode cX1_countBreaksFrom 75 = .ok (.iload 4, 2) := by decide +kernel
theorem dX1_countBreaksFrom_77 : decode cX1_countBreaksFrom 77 = .ok (.if_icmp .ne 22, 3) := by decide +kernel
theorem dX1_countBreaksFrom_80 : decode cX1_countBreaksFrom 80 = .ok (.aload_n 0, 1) := by decide +kernel
theorem dX1_countBreaksFrom_81 : decode cX1_countBreaksFrom 81 = .ok (.iload_n 1, 1) := by decide +kernel
theorem dX1_countBreaksFrom_82 : decode cX1_countBreaksFrom 82 = .ok (.iload_n 3, 1) := by decide +kernel
theorem dX1_countBreaksFrom_83 : decode cX1_countBreaksFrom 83 = .ok (.aload_n 0, 1) := by decide +kernel
theorem dX1_countBreaksFrom_84 : decode cX1_countBreaksFrom 84 = .ok (.getfield 44, 3) := by decide +kernel
theorem dX1_countBreaksFrom_87 : decode cX1_countBreaksFrom 87 = .ok (.iload 6, 2) := by decide +kernel
theorem dX1_countBreaksFrom_89 : decode cX1_countBreaksFrom 89 = .ok (.iaload, 1) := by decide +kernel
theorem dX1_countBreaksFrom_90 : decode cX1_countBreaksFrom 90 = .ok (.invokevirtual 247, 3) := by decide +kernel
theorem dX1_countBreaksFrom_93 : decode cX1_countBreaksFrom 93 = .ok (.ifCond .eq 6, 3) := by decide +kernel
theorem dX1_countBreaksFrom_96 : decode cX1_countBreaksFrom 96 = .ok (.iinc 5 1, 3) := by decide +kernel
theorem dX1_countBreaksFrom_99 : decode cX1_countBreaksFrom 99 = .ok (.iinc 6 1, 3) := by decide +kernel
theorem dX1_countBreaksFrom_102 : decode cX1_countBreaksFrom 102 = .ok (.goto (-46), 3) := by decide +kernel
theorem dX1_countBreaksFrom_105 : decode cX1_countBreaksFrom 105 = .ok (.iload 5, 2) := by decide +kernel
theorem dX1_countBreaksFrom_107 : decode cX1_countBreaksFrom 107 = .ok (.ireturn, 1) := by decide +kernel
set_option maxRecDepth 20000 in
theorem ggX1_partner_X1_firstPartner : GoodIn wsX1_partner wsX1_firstPartner := goodIn_r _ [6] (by decide +kernel) (by decide +kernel)
set_option maxRecDepth 20000 in
theorem gX1_partner_X1_firstPartner : GoodIn wsX1_partner (va_wsS RX1 244 yX1_firstPartner wsX1_firstPartner) := goodIn_app (goodIn_of _ (by decide +kernel)) ggX1_partner_X1_firstPartner
set_option maxRecDepth 20000 in
theorem ggX1_partner_X1_isPair : GoodIn wsX1_partner wsX1_isPair := goodIn_r _ [10, 11, 12, 5, 13, 14, 15, 16, 17, 18, 19, 20, 21, 22, 23, 24, 25, 26, 27, 28, 29, 30, 31, 32, 33, 34, 35, 36, 37, 38, 39, 40, 41, 42, 43, 44, 45, 46, 47, 48, 49, 50, 51, 52, 53, 54, 55, 56, 57, 58, 59, 60, 61] (by decide +kernel) (by decide +kernel)
set_option maxRecDepth 20000 in
theorem gX1_partner_X1_isPair : GoodIn wsX1_partner (wsV RX1 247 RX1 yX1_isPair wsX1_isPair) := goodIn_app (goodIn_of _ (by decide +kernel)) ggX1_partner_X1_isPair
theorem dX1_partner_0 : decode cX1_partner 0 = .ok (.iload_n 1, 1) := by decide +kernel
theorem dX1_partner_1 : decode cX1_partner 1 = .ok (.iconst 2, 1) := by decide +kernel
theorem dX1_partner_2 : decode cX1_partner 2 = .ok (.if_icmp .ne 5, 3) := by decide +kernel
theorem dX1_partner_5 : decode cX1_partner 5 = .ok (.iconst (-1), 1) := by decide +kernel
theorem dX1_partner_6 : decode cX1_partner 6 = .ok (.ireturn, 1) := by decide +kernel
theorem dX1_partner_7 : decode cX1_partner 7 = .ok (.iload_n 3, 1) := by decide +kernel
theorem dX1_partner_8 : decode cX1_partner 8 = .ok (.istore 4, 2) := by decide +kernel
theorem dX1_partner_10 : decode cX1_partner 10 = .ok (.iload_n 1, 1) := by decide +kernel
theorem dX1_partner_11 : decode cX1_partner 11 = .ok (.iload_n 2, 1) := by decide +kernel
theorem dX1_partner_12 : decode cX1_partner 12 = .ok (.invokestatic 244, 3) := by decide +kernel
theorem dX1_partner_15 : decode cX1_partner 15 = .ok (.istore 5, 2) := by decide +kernel
theorem dX1_partner_17 : decode cX1_partner 17 = .ok (.iload 5, 2) := by decide +kernel
theorem dX1_partner_19 : decode cX1_partner 19 = .ok (.aload_n 0, 1) := by decide +kernel
theorem dX1_partner_20 : decode cX1_partner 20 = .ok (.getfield 48, 3) := by decide +kernel
theorem dX1_partner_23 : decode cX1_partner 23 = .ok (.if_icmp .ge 41, 3) := by decide +kernel
theorem dX1_partner_26 : decode cX1_partner 26 = .ok (.aload_n 0, 1) := by decide +kernel
theorem dX1_partner_27 : decode cX1_partner 27 = .ok (.iload_n 1, 1) := by decide +kernel
theorem dX1_partner_28 : decode cX1_partner 28 = .ok (.aload_n 0, 1) := by decide +kernel
theorem dX1_partner_29 : decode cX1_partner 29 = .ok (.getfield 44, 3) := by decide +kernel
theorem dX1_partner_32 : decode cX1_partner 32 = .ok (.iload_n 2, 1) := by decide +kernel
theorem dX1_partner_33 : decode cX1_partner 33 = .ok (.iaload, 1) := by decide +kernel
theorem dX1_partner_34 : decode cX1_partner 34 = .ok (.aload_n 0, 1) := by decide +kernel
theorem dX1_partner_35 : decode cX1_partner 35 = .ok (.getfield 44, 3) := by decide +kernel
theorem dX1_partner_38 : decode cX1_partner 38 = .ok (.iload 5, 2) := by decide +kernel
theorem dX1_partner_40 : decode cX1_partner 40 = .ok (.iaload, 1) := by decide +kernel
theorem dX1_partner_41 : decode cX1_partner 41 = .ok (.invokevirtual 247, 3) := by decide +kernel
theorem dX1_partner_44 : decode cX1_partner 44 = .ok (.ifCond .eq 14, 3) := by decide +kernel
theorem dX1_partner_47 : decode cX1_partner 47 = .ok (.iload 4, 2) := by decide +kernel
theorem dX1_partner_49 : decode cX1_partner 49 = .ok (.ifCond .ne 6, 3) := by decide +kernel
theorem dX1_partner_52 : decode cX1_partner 52 = .ok (.iload 5, 2) := by decide +kernel
theorem dX1_partner_54 : decode cX1_partner 54 = .ok (.ireturn, 1) := by decide +kernel
theorem dX1_partner_55 : decode cX1_partner 55 = .ok (.iinc 4 (-1), 3) := by decide +kernel
theorem dX1_partner_58 : decode cX1_partner 58 = .ok (.iinc 5 1, 3) := by decide +kernel
theorem dX1_partner_61 : decode cX1_partner 61 = .ok (.goto (-44), 3) := by decide +kernel
theorem dX1_partner_64 : decode cX1_partner 64 = .ok (.iconst (-1), 1) := by decide +kernel
theorem dX1_partner_65 : decode cX1_partner 65 = .ok (.ireturn, 1) := by decide +kernel
theorem dX1_firstPartner_0 : decode cX1_firstPartner 0 = .ok (.iload_n 0, 1) := by decide +kernel
theorem dX1_firstPartner_1 : decode cX1_firstPartner 1 = .ok (.ifCond .ne 9, 3) := by decide +kernel
theorem dX1_firstPartner_4 : decode cX1_firstPartner 4 = .ok (.iload_n 1, 1) := by decide +kernel
theorem dX1_firstPartner_5 : decode cX1_firstPartner 5 = .ok (.iconst 1, 1) := by decide +kernel
theorem dX1_firstPartner_6 : decode cX1_firstPartner 6 = .ok (.iadd, 1) := by decide +kernel
theorem dX1_firstPartner_7 : decode cX1_firstPartner 7 = .ok (.goto 4, 3) := by decide +kernel
theorem dX1_firstPartner_10 : decode cX1_firstPartner 10 = .ok (.iconst 0, 1) := by decide +kernel
theorem dX1_firstPartner_11 : decode cX1_firstPartner 11 = .ok (.ireturn, 1) := by decide +kernel
set_option maxRecDepth 20000 in
theorem ggX1_accuseRefusal_X1_isVote : GoodIn wsX1_accuseRefusal wsX1_isVote := goodIn_r _ [8, 9, 104, 105, 106, 107, 108, 109, 110, 111, 112, 113, 114, 115, 116, 117] (by decide +kernel) (by decide +kernel)
set_option maxRecDepth 20000 in
theorem gX1_accuseRefusal_X1_isVote : GoodIn wsX1_accuseRefusal (wsV RX1 129 RX1 yX1_isVote wsX1_isVote) := goodIn_app (goodIn_of _ (by decide +kernel)) ggX1_accuseRefusal_X1_isVote
set_option maxRecDepth 20000 in
theorem ggX1_accuseRefusal_X1_isNodeOrNone : GoodIn wsX1_accuseRefusal wsX1_isNodeOrNone := goodIn_r _ [13, 14, 15, 16, 7, 17, 18, 104, 105, 106, 107, 108, 109, 110, 111, 112, 113, 114, 115, 116, 117] (by decide +kernel) (by decide +kernel)
set_option maxRecDepth 20000 in
theorem gX1_accuseRefusal_X1_isNodeOrNone : GoodIn wsX1_accuseRefusal (wsV RX1 147 RX1 yX1_isNodeOrNone wsX1_isNodeOrNone) := goodIn_app (goodIn_of _ (by decide +kernel)) ggX1_accuseRefusal_X1_isNodeOrNone
set_option maxRecDepth 20000 in
theorem ggX1_accuseRefusal_X1_isKind : GoodIn wsX1_accuseRefusal wsX1_isKind := goodIn_r _ [21] (by decide +kernel) (by decide +kernel)
set_option maxRecDepth 20000 in
theorem gX1_accuseRefusal_X1_isKind : GoodIn wsX1_accuseRefusal (va_wsS RX1 168 yX1_isKind wsX1_isKind) := goodIn_app (goodIn_of _ (by decide +kernel)) ggX1_accuseRefusal_X1_isKind
set_option maxRecDepth 20000 in
theorem ggX1_accuseRefusal_X1_isBare : GoodIn wsX1_accuseRefusal wsX1_isBare := goodIn_r _ [25, 26, 27, 7, 28, 29, 30, 31, 32, 33, 34, 35, 36, 37, 38, 39, 40, 41, 42, 43, 44, 45, 46, 47, 48, 104, 105, 106, 107, 108, 109, 110, 111, 112, 113, 114, 115, 116, 117] (by decide +kernel) (by decide +kernel)
set_option maxRecDepth 20000 in
theorem gX1_accuseRefusal_X1_isBare : GoodIn wsX1_accuseRefusal (wsV RX1 238 RX1 yX1_isBare wsX1_isBare) := goodIn_app (goodIn_of _ (by decide +kernel)) ggX1_accuseRefusal_X1_isBare
set_option maxRecDepth 20000 in
theorem ggX1_accuseRefusal_X1_isPair : GoodIn wsX1_accuseRefusal wsX1_isPair := goodIn_r _ [52, 53, 54, 7, 55, 56, 57, 58, 59, 26, 27, 28, 29, 30, 31, 32, 33, 34, 60, 61, 62, 38, 39, 40, 35, 36, 37, 63, 64, 65, 66, 41, 42, 43, 44, 45, 46, 47, 48, 104, 105, 106, 107, 108, 109, 110, 111, 112, 113, 114, 115, 116, 117] (by decide +kernel) (by decide +kernel)
set_option maxRecDepth 20000 in
theorem gX1_accuseRefusal_X1_isPair : GoodIn wsX1_accuseRefusal (wsV RX1 247 RX1 yX1_isPair wsX1_isPair) := goodIn_app (goodIn_of _ (by decide +kernel)) ggX1_accuseRefusal_X1_isPair
set_option maxRecDepth 20000 in
theorem ggX1_accuseRefusal_X1_heightOf : GoodIn wsX1_accuseRefusal wsX1_heightOf := goodIn_r _ [37] (by decide +kernel) (by decide +kernel)
set_option maxRecDepth 20000 in
theorem gX1_accuseRefusal_X1_heightOf : GoodIn wsX1_accuseRefusal (va_wsS RX1 135 yX1_heightOf wsX1_heightOf) := goodIn_app (goodIn_of _ (by decide +kernel)) ggX1_accuseRefusal_X1_heightOf
set_option maxRecDepth 20000 in
theorem ggX1_accuseRefusal_X1_isOpen : GoodIn wsX1_accuseRefusal wsX1_isOpen := goodIn_r _ [70, 2, 71, 72, 73, 7, 74, 104, 105, 106, 107, 108, 109, 110, 111, 112, 113, 114, 115, 116, 117] (by decide +kernel) (by decide +kernel)
set_option maxRecDepth 20000 in
theorem gX1_accuseRefusal_X1_isOpen : GoodIn wsX1_accuseRefusal (wsV RX1 209 RX1 yX1_isOpen wsX1_isOpen) := goodIn_app (goodIn_of _ (by decide +kernel)) ggX1_accuseRefusal_X1_isOpen
set_option maxRecDepth 20000 in
theorem ggX1_accuseRefusal_X1_voterOf : GoodIn wsX1_accuseRefusal wsX1_voterOf := goodIn_r _ [62] (by decide +kernel) (by decide +kernel)
set_option maxRecDepth 20000 in
theorem gX1_accuseRefusal_X1_voterOf : GoodIn wsX1_accuseRefusal (va_wsS RX1 222 yX1_voterOf wsX1_voterOf) := goodIn_app (goodIn_of _ (by decide +kernel)) ggX1_accuseRefusal_X1_voterOf
set_option maxRecDepth 20000 in
theorem ggX1_accuseRefusal_X1_wasTaken : GoodIn wsX1_accuseRefusal wsX1_wasTaken := goodIn_r _ [78, 79, 80, 1, 81, 82, 83, 84, 85, 86, 87, 88, 89, 90, 91, 92, 93, 94, 95, 96, 97, 98, 99, 100, 101, 102, 103, 60, 61, 7, 62, 104, 105, 106, 107, 108, 109, 110, 111, 112, 113, 114, 115, 116, 117, 118, 119, 120, 121, 122, 123, 124, 125, 126, 127] (by decide +kernel) (by decide +kernel)
set_option maxRecDepth 20000 in
theorem gX1_accuseRefusal_X1_wasTaken : GoodIn wsX1_accuseRefusal (wsV RX1 250 RX1 yX1_wasTaken wsX1_wasTaken) := goodIn_app (goodIn_of _ (by decide +kernel)) ggX1_accuseRefusal_X1_wasTaken
theorem dX1_accuseRefusal_0 : decode cX1_accuseRefusal 0 = .ok (.aload_n 0, 1) := by decide +kernel
theorem dX1_accuseRefusal_1 : decode cX1_accuseRefusal 1 = .ok (.iload_n 2, 1) := by decide +kernel
theorem dX1_accuseRefusal_2 : decode cX1_accuseRefusal 2 = .ok (.invokevirtual 129, 3) := by decide +kernel
theorem dX1_accuseRefusal_5 : decode cX1_accuseRefusal 5 = .ok (.ifCond .eq 25, 3) := by decide +kernel
theorem dX1_accuseRefusal_8 : decode cX1_accuseRefusal 8 = .ok (.iload_n 1, 1) := by decide +kernel
theorem dX1_accuseRefusal_9 : decode cX1_accuseRefusal 9 = .ok (.iconst 2, 1) := by decide +kernel
theorem dX1_accuseRefusal_10 : decode cX1_accuseRefusal 10 = .ok (.if_icmp .eq 11, 3) := by decide +kernel
theorem dX1_accuseRefusal_13 : decode cX1_accuseRefusal 13 = .ok (.aload_n 0, 1) := by decide +kernel
theorem dX1_accuseRefusal_14 : decode cX1_accuseRefusal 14 = .ok (.iload_n 3, 1) := by decide +kernel
theorem dX1_accuseRefusal_15 : decode cX1_accuseRefusal 15 = .ok (.invokevirtual 129, 3) := by decide +kernel
theorem dX1_accuseRefusal_18 : decode cX1_accuseRefusal 18 = .ok (.ifCond .eq 12, 3) := by decide +kernel
theorem dX1_accuseRefusal_21 : decode cX1_accuseRefusal 21 = .ok (.aload_n 0, 1) := by decide +kernel
theorem dX1_accuseRefusal_22 : decode cX1_accuseRefusal 22 = .ok (.iload 4, 2) := by decide +kernel
theorem dX1_accuseRefusal_24 : decode cX1_accuseRefusal 24 = .ok (.invokevirtual 147, 3) := by decide +kernel
theorem dX1_accuseRefusal_27 : decode cX1_accuseRefusal 27 = .ok (.ifCond .ne 6, 3) := by decide +kernel
theorem dX1_accuseRefusal_30 : decode cX1_accuseRefusal 30 = .ok (.bipush (-101), 2) := by decide +kernel
theorem dX1_accuseRefusal_32 : decode cX1_accuseRefusal 32 = .ok (.ireturn, 1) := by decide +kernel
theorem dX1_accuseRefusal_33 : decode cX1_accuseRefusal 33 = .ok (.iload_n 1, 1) := by decide +kernel
theorem dX1_accuseRefusal_34 : decode cX1_accuseRefusal 34 = .ok (.invokestatic 168, 3) := by decide +kernel
theorem dX1_accuseRefusal_37 : decode cX1_accuseRefusal 37 = .ok (.ifCond .ne 6, 3) := by decide +kernel
theorem dX1_accuseRefusal_40 : decode cX1_accuseRefusal 40 = .ok (.bipush (-102), 2) := by decide +kernel
theorem dX1_accuseRefusal_42 : decode cX1_accuseRefusal 42 = .ok (.ireturn, 1) := by decide +kernel
theorem dX1_accuseRefusal_43 : decode cX1_accuseRefusal 43 = .ok (.aload_n 0, 1) := by decide +kernel
theorem dX1_accuseRefusal_44 : decode cX1_accuseRefusal 44 = .ok (.getfield 44, 3) := by decide +kernel
theorem dX1_accuseRefusal_47 : decode cX1_accuseRefusal 47 = .ok (.iload_n 2, 1) := by decide +kernel
theorem dX1_accuseRefusal_48 : decode cX1_accuseRefusal 48 = .ok (.iaload, 1) := by decide +kernel
theorem dX1_accuseRefusal_49 : decode cX1_accuseRefusal 49 = .ok (.istore 5, 2) := by decide +kernel
theorem dX1_accuseRefusal_51 : decode cX1_accuseRefusal 51 = .ok (.iload_n 1, 1) := by decide +kernel
theorem dX1_accuseRefusal_52 : decode cX1_accuseRefusal 52 = .ok (.iconst 2, 1) := by decide +kernel
theorem dX1_accuseRefusal_53 : decode cX1_accuseRefusal 53 = .ok (.if_icmp .ne 15, 3) := by decide +kernel
theorem dX1_accuseRefusal_56 : decode cX1_accuseRefusal 56 = .ok (.aload_n 0, 1) := by decide +kernel
theorem dX1_accuseRefusal_57 : decode cX1_accuseRefusal 57 = .ok (.iload 5, 2) := by decide +kernel
theorem dX1_accuseRefusal_59 : decode cX1_accuseRefusal 59 = .ok (.invokevirtual 238, 3) := by decide +kernel
theorem dX1_accuseRefusal_62 : decode cX1_accuseRefusal 62 = .ok (.ifCond .eq 22, 3) := by decide +kernel
theorem dX1_accuseRefusal_65 : decode cX1_accuseRefusal 65 = .ok (.goto 22, 3) := by decide +kernel
theorem dX1_accuseRefusal_68 : decode cX1_accuseRefusal 68 = .ok (.aload_n 0, 1) := by decide +kernel
theorem dX1_accuseRefusal_69 : decode cX1_accuseRefusal 69 = .ok (.iload_n 1, 1) := by decide +kernel
theorem dX1_accuseRefusal_70 : decode cX1_accuseRefusal 70 = .ok (.iload 5, 2) := by decide +kernel
theorem dX1_accuseRefusal_72 : decode cX1_accuseRefusal 72 = .ok (.aload_n 0, 1) := by decide +kernel
theorem dX1_accuseRefusal_73 : decode cX1_accuseRefusal 73 = .ok (.getfield 44, 3) := by decide +kernel
theorem dX1_accuseRefusal_76 : decode cX1_accuseRefusal 76 = .ok (.iload_n 3, 1) := by decide +kernel
theorem dX1_accuseRefusal_77 : decode cX1_accuseRefusal 77 = .ok (.iaload, 1) := by decide +kernel
theorem dX1_accuseRefusal_78 : decode cX1_accuseRefusal 78 = .ok (.invokevirtual 247, 3) := by decide +kernel
theorem dX1_accuseRefusal_81 : decode cX1_accuseRefusal 81 = .ok (.ifCond .ne 6, 3) := by decide +kernel
theorem dX1_accuseRefusal_84 : decode cX1_accuseRefusal 84 = .ok (.bipush (-105), 2) := by decide +kernel
theorem dX1_accuseRefusal_86 : decode cX1_accuseRefusal 86 = .ok (.ireturn, 1) := by decide +kernel
theorem dX1_accuseRefusal_87 : decode cX1_accuseRefusal 87 = .ok (.iload_n 1, 1) := by decide +kernel
theorem dX1_accuseRefusal_88 : decode cX1_accuseRefusal 88 = .ok (.ifCond .eq 18, 3) := by decide +kernel
theorem dX1_accuseRefusal_91 : decode cX1_accuseRefusal 91 = .ok (.aload_n 0, 1) := by decide +kernel
theorem dX1_accuseRefusal_92 : decode cX1_accuseRefusal 92 = .ok (.iload 5, 2) := by decide +kernel
theorem dX1_accuseRefusal_94 : decode cX1_accuseRefusal 94 = .ok (.invokestatic 135, 3) := by decide +kernel
theorem dX1_accuseRefusal_97 : decode cX1_accuseRefusal 97 = .ok (.invokevirtual 209, 3) := by decide +kernel
theorem dX1_accuseRefusal_100 : decode cX1_accuseRefusal 100 = .ok (.ifCond .eq 6, 3) := by decide +kernel
theorem dX1_accuseRefusal_103 : decode cX1_accuseRefusal 103 = .ok (.bipush (-106), 2) := by decide +kernel
theorem dX1_accuseRefusal_105 : decode cX1_accuseRefusal 105 = .ok (.ireturn, 1) := by decide +kernel
theorem dX1_accuseRefusal_106 : decode cX1_accuseRefusal 106 = .ok (.aload_n 0, 1) := by decide +kernel
theorem dX1_accuseRefusal_107 : decode cX1_accuseRefusal 107 = .ok (.getfield 35, 3) := by decide +kernel
theorem dX1_accuseRefusal_110 : decode cX1_accuseRefusal 110 = .ok (.iload 5, 2) := by decide +kernel
theorem dX1_accuseRefusal_112 : decode cX1_accuseRefusal 112 = .ok (.invokestatic 135, 3) := by decide +kernel
theorem dX1_accuseRefusal_115 : decode cX1_accuseRefusal 115 = .ok (.isub, 1) := by decide +kernel
theorem dX1_accuseRefusal_116 : decode cX1_accuseRefusal 116 = .ok (.i2l, 1) := by decide +kernel
theorem dX1_accuseRefusal_117 : decode cX1_accuseRefusal 117 = .ok (.aload_n 0, 1) := by decide +kernel
theorem dX1_accuseRefusal_118 : decode cX1_accuseRefusal 118 = .ok (.getfield 17, 3) := by decide +kernel
theorem dX1_accuseRefusal_121 : decode cX1_accuseRefusal 121 = .ok (.iconst 3, 1) := by decide +kernel
theorem dX1_accuseRefusal_122 : decode cX1_accuseRefusal 122 = .ok (.laload, 1) := by decide +kernel
theorem dX1_accuseRefusal_123 : decode cX1_accuseRefusal 123 = .ok (.lcmp, 1) := by decide +kernel
theorem dX1_accuseRefusal_124 : decode cX1_accuseRefusal 124 = .ok (.ifCond .le 6, 3) := by decide +kernel
theorem dX1_accuseRefusal_127 : decode cX1_accuseRefusal 127 = .ok (.bipush (-107), 2) := by decide +kernel
theorem dX1_accuseRefusal_129 : decode cX1_accuseRefusal 129 = .ok (.ireturn, 1) := by decide +kernel
theorem dX1_accuseRefusal_130 : decode cX1_accuseRefusal 130 = .ok (.aload_n 0, 1) := by decide +kernel
theorem dX1_accuseRefusal_131 : decode cX1_accuseRefusal 131 = .ok (.iload_n 1, 1) := by decide +kernel
theorem dX1_accuseRefusal_132 : decode cX1_accuseRefusal 132 = .ok (.iload 5, 2) := by decide +kernel
theorem dX1_accuseRefusal_134 : decode cX1_accuseRefusal 134 = .ok (.invokestatic 222, 3) := by decide +kernel
theorem dX1_accuseRefusal_137 : decode cX1_accuseRefusal 137 = .ok (.invokevirtual 250, 3) := by decide +kernel
theorem dX1_accuseRefusal_140 : decode cX1_accuseRefusal 140 = .ok (.ifCond .eq 8, 3) := by decide +kernel
theorem dX1_accuseRefusal_143 : decode cX1_accuseRefusal 143 = .ok (.bipush (-108), 2) := by decide +kernel
theorem dX1_accuseRefusal_145 : decode cX1_accuseRefusal 145 = .ok (.goto 4, 3) := by decide +kernel
theorem dX1_accuseRefusal_148 : decode cX1_accuseRefusal 148 = .ok (.iconst 0, 1) := by decide +kernel
theorem dX1_accuseRefusal_149 : decode cX1_accuseRefusal 149 = .ok (.ireturn, 1) := by decide +kernel
set_option maxRecDepth 20000 in
theorem ggX1_wasTaken_Jx4a65c_size_8abf5 : GoodIn wsX1_wasTaken wsJx4a65c_size_8abf5 := goodIn_r _ [8, 9, 52, 53, 54] (by decide +kernel) (by decide +kernel)
set_option maxRecDepth 20000 in
theorem gX1_wasTaken_Jx4a65c_size_8abf5 : GoodIn wsX1_wasTaken (wsV RX1 122 RJx4a65c yJx4a65c_size_8abf5 wsJx4a65c_size_8abf5) := goodIn_app (goodIn_of _ (by decide +kernel)) ggX1_wasTaken_Jx4a65c_size_8abf5
set_option maxRecDepth 20000 in
theorem ggX1_wasTaken_Jx4a65c_get_915e3 : GoodIn wsX1_wasTaken wsJx4a65c_get_915e3 := goodIn_r _ [13, 9, 14, 15, 16, 17, 18, 19, 20, 21, 22, 23, 24, 7, 25, 26, 52, 53, 54] (by decide +kernel) (by decide +kernel)
set_option maxRecDepth 20000 in
theorem gX1_wasTaken_Jx4a65c_get_915e3 : GoodIn wsX1_wasTaken (wsV RX1 178 RJx4a65c yJx4a65c_get_915e3 wsJx4a65c_get_915e3) := goodIn_app (goodIn_of _ (by decide +kernel)) ggX1_wasTaken_Jx4a65c_get_915e3
set_option maxRecDepth 20000 in
theorem ggX1_wasTaken_X1_voterOf : GoodIn wsX1_wasTaken wsX1_voterOf := goodIn_r _ [30] (by decide +kernel) (by decide +kernel)
set_option maxRecDepth 20000 in
theorem gX1_wasTaken_X1_voterOf : GoodIn wsX1_wasTaken (va_wsS RX1 222 yX1_voterOf wsX1_voterOf) := goodIn_app (goodIn_of _ (by decide +kernel)) ggX1_wasTaken_X1_voterOf
theorem dX1_wasTaken_0 : decode cX1_wasTaken 0 = .ok (.iconst 0, 1) := by decide +kernel
theorem dX1_wasTaken_1 : decode cX1_wasTaken 1 = .ok (.istore_n 3, 1) := by decide +kernel
theorem dX1_wasTaken_2 : decode cX1_wasTaken 2 = .ok (.iload_n 3, 1) := by decide +kernel
theorem dX1_wasTaken_3 : decode cX1_wasTaken 3 = .ok (.aload_n 0, 1) := by decide +kernel
theorem dX1_wasTaken_4 : decode cX1_wasTaken 4 = .ok (.getfield 60, 3) := by decide +kernel
theorem dX1_wasTaken_7 : decode cX1_wasTaken 7 = .ok (.invokevirtual 122, 3) := by decide +kernel
theorem dX1_wasTaken_10 : decode cX1_wasTaken 10 = .ok (.if_icmp .ge 50, 3) := by decide +kernel
theorem dX1_wasTaken_13 : decode cX1_wasTaken 13 = .ok (.aload_n 0, 1) := by decide +kernel
theorem dX1_wasTaken_14 : decode cX1_wasTaken 14 = .ok (.getfield 60, 3) := by decide +kernel
theorem dX1_wasTaken_17 : decode cX1_wasTaken 17 = .ok (.iload_n 3, 1) := by decide +kernel
theorem dX1_wasTaken_18 : decode cX1_wasTaken 18 = .ok (.invokevirtual 178, 3) := by decide +kernel
theorem dX1_wasTaken_21 : decode cX1_wasTaken 21 = .ok (.checkcast 182, 3) := by decide +kernel
theorem dX1_wasTaken_24 : decode cX1_wasTaken 24 = .ok (.astore 4, 2) := by decide +kernel
theorem dX1_wasTaken_26 : decode cX1_wasTaken 26 = .ok (.aload 4, 2) := by decide +kernel
