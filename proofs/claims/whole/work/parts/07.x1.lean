set_option maxRecDepth 20000 in
theorem ggX1_init_X1_rootOf : GoodIn wsX1_init wsX1_rootOf := goodIn_r _ [16, 17, 18, 15, 19, 20, 21, 22, 23] (by decide +kernel) (by decide +kernel)
set_option maxRecDepth 20000 in
theorem gX1_init_X1_rootOf : GoodIn wsX1_init (va_wsS RX1 31 yX1_rootOf wsX1_rootOf) := goodIn_app (goodIn_of _ (by decide +kernel)) ggX1_init_X1_rootOf
theorem dX1_init_0 : decode cX1_init 0 = .ok (.aload_n 0, 1) := by decide +kernel
theorem dX1_init_1 : decode cX1_init 1 = .ok (.invokespecial 1, 3) := by decide +kernel
theorem dX1_init_4 : decode cX1_init 4 = .ok (.aload_n 0, 1) := by decide +kernel
theorem dX1_init_5 : decode cX1_init 5 = .ok (.sipush 3072, 3) := by decide +kernel
theorem dX1_init_8 : decode cX1_init 8 = .ok (.newarray .long, 2) := by decide +kernel
theorem dX1_init_10 : decode cX1_init 10 = .ok (.putfield 7, 3) := by decide +kernel
theorem dX1_init_13 : decode cX1_init 13 = .ok (.aload_n 0, 1) := by decide +kernel
theorem dX1_init_14 : decode cX1_init 14 = .ok (.sipush 1440, 3) := by decide +kernel
theorem dX1_init_17 : decode cX1_init 17 = .ok (.newarray .long, 2) := by decide +kernel
theorem dX1_init_19 : decode cX1_init 19 = .ok (.putfield 13, 3) := by decide +kernel
theorem dX1_init_22 : decode cX1_init 22 = .ok (.aload_n 0, 1) := by decide +kernel
theorem dX1_init_23 : decode cX1_init 23 = .ok (.sipush 512, 3) := by decide +kernel
theorem dX1_init_26 : decode cX1_init 26 = .ok (.newarray .long, 2) := by decide +kernel
theorem dX1_init_28 : decode cX1_init 28 = .ok (.putfield 16, 3) := by decide +kernel
theorem dX1_init_31 : decode cX1_init 31 = .ok (.aload_n 0, 1) := by decide +kernel
theorem dX1_init_32 : decode cX1_init 32 = .ok (.sipush 512, 3) := by decide +kernel
theorem dX1_init_35 : decode cX1_init 35 = .ok (.newarray .long, 2) := by decide +kernel
theorem dX1_init_37 : decode cX1_init 37 = .ok (.putfield 19, 3) := by decide +kernel
theorem dX1_init_40 : decode cX1_init 40 = .ok (.aload_n 0, 1) := by decide +kernel
theorem dX1_init_41 : decode cX1_init 41 = .ok (.sipush 241, 3) := by decide +kernel
theorem dX1_init_44 : decode cX1_init 44 = .ok (.newarray .long, 2) := by decide +kernel
theorem dX1_init_46 : decode cX1_init 46 = .ok (.putfield 22, 3) := by decide +kernel
theorem dX1_init_49 : decode cX1_init 49 = .ok (.aload_n 0, 1) := by decide +kernel
theorem dX1_init_50 : decode cX1_init 50 = .ok (.ldc2_w 25, 3) := by decide +kernel
theorem dX1_init_53 : decode cX1_init 53 = .ok (.putfield 27, 3) := by decide +kernel
theorem dX1_init_56 : decode cX1_init 56 = .ok (.aload_n 0, 1) := by decide +kernel
theorem dX1_init_57 : decode cX1_init 57 = .ok (.aload_n 0, 1) := by decide +kernel
theorem dX1_init_58 : decode cX1_init 58 = .ok (.getfield 27, 3) := by decide +kernel
theorem dX1_init_61 : decode cX1_init 61 = .ok (.invokestatic 31, 3) := by decide +kernel
theorem dX1_init_64 : decode cX1_init 64 = .ok (.putfield 35, 3) := by decide +kernel
theorem dX1_init_67 : decode cX1_init 67 = .ok (.return_, 1) := by decide +kernel
theorem dX1_thrown_0 : decode cX1_thrown 0 = .ok (.aload_n 0, 1) := by decide +kernel
theorem dX1_thrown_1 : decode cX1_thrown 1 = .ok (.getfield 38, 3) := by decide +kernel
theorem dX1_thrown_4 : decode cX1_thrown 4 = .ok (.ireturn, 1) := by decide +kernel
theorem dX1_rest_0 : decode cX1_rest 0 = .ok (.lload_n 1, 1) := by decide +kernel
theorem dX1_rest_1 : decode cX1_rest 1 = .ok (.aload_n 0, 1) := by decide +kernel
theorem dX1_rest_2 : decode cX1_rest 2 = .ok (.getfield 27, 3) := by decide +kernel
theorem dX1_rest_5 : decode cX1_rest 5 = .ok (.lrem, 1) := by decide +kernel
theorem dX1_rest_6 : decode cX1_rest 6 = .ok (.lstore_n 3, 1) := by decide +kernel
theorem dX1_rest_7 : decode cX1_rest 7 = .ok (.lload_n 3, 1) := by decide +kernel
theorem dX1_rest_8 : decode cX1_rest 8 = .ok (.lconst 0, 1) := by decide +kernel
theorem dX1_rest_9 : decode cX1_rest 9 = .ok (.lcmp, 1) := by decide +kernel
theorem dX1_rest_10 : decode cX1_rest 10 = .ok (.ifCond .ge 12, 3) := by decide +kernel
theorem dX1_rest_13 : decode cX1_rest 13 = .ok (.lload_n 3, 1) := by decide +kernel
theorem dX1_rest_14 : decode cX1_rest 14 = .ok (.aload_n 0, 1) := by decide +kernel
theorem dX1_rest_15 : decode cX1_rest 15 = .ok (.getfield 27, 3) := by decide +kernel
theorem dX1_rest_18 : decode cX1_rest 18 = .ok (.ladd, 1) := by decide +kernel
theorem dX1_rest_19 : decode cX1_rest 19 = .ok (.goto 4, 3) := by decide +kernel
theorem dX1_rest_22 : decode cX1_rest 22 = .ok (.lload_n 3, 1) := by decide +kernel
theorem dX1_rest_23 : decode cX1_rest 23 = .ok (.lreturn, 1) := by decide +kernel
theorem dX1_raise_0 : decode cX1_raise 0 = .ok (.lconst 1, 1) := by decide +kernel
theorem dX1_raise_1 : decode cX1_raise 1 = .ok (.lstore 6, 2) := by decide +kernel
theorem dX1_raise_3 : decode cX1_raise 3 = .ok (.lload_n 0, 1) := by decide +kernel
theorem dX1_raise_4 : decode cX1_raise 4 = .ok (.lload 4, 2) := by decide +kernel
theorem dX1_raise_6 : decode cX1_raise 6 = .ok (.lrem, 1) := by decide +kernel
theorem dX1_raise_7 : decode cX1_raise 7 = .ok (.lstore 8, 2) := by decide +kernel
theorem dX1_raise_9 : decode cX1_raise 9 = .ok (.lload_n 2, 1) := by decide +kernel
theorem dX1_raise_10 : decode cX1_raise 10 = .ok (.lstore 10, 2) := by decide +kernel
theorem dX1_raise_12 : decode cX1_raise 12 = .ok (.lload 10, 2) := by decide +kernel
theorem dX1_raise_14 : decode cX1_raise 14 = .ok (.lconst 0, 1) := by decide +kernel
theorem dX1_raise_15 : decode cX1_raise 15 = .ok (.lcmp, 1) := by decide +kernel
theorem dX1_raise_16 : decode cX1_raise 16 = .ok (.ifCond .le 50, 3) := by decide +kernel
theorem dX1_raise_19 : decode cX1_raise 19 = .ok (.lload 10, 2) := by decide +kernel
theorem dX1_raise_21 : decode cX1_raise 21 = .ok (.ldc2_w 42, 3) := by decide +kernel
theorem dX1_raise_24 : decode cX1_raise 24 = .ok (.lrem, 1) := by decide +kernel
theorem dX1_raise_25 : decode cX1_raise 25 = .ok (.lconst 1, 1) := by decide +kernel
theorem dX1_raise_26 : decode cX1_raise 26 = .ok (.lcmp, 1) := by decide +kernel
theorem dX1_raise_27 : decode cX1_raise 27 = .ok (.ifCond .ne 14, 3) := by decide +kernel
theorem dX1_raise_30 : decode cX1_raise 30 = .ok (.lload 6, 2) := by decide +kernel
theorem dX1_raise_32 : decode cX1_raise 32 = .ok (.lload 8, 2) := by decide +kernel
theorem dX1_raise_34 : decode cX1_raise 34 = .ok (.lmul, 1) := by decide +kernel
theorem dX1_raise_35 : decode cX1_raise 35 = .ok (.lload 4, 2) := by decide +kernel
theorem dX1_raise_37 : decode cX1_raise 37 = .ok (.lrem, 1) := by decide +kernel
theorem dX1_raise_38 : decode cX1_raise 38 = .ok (.goto 5, 3) := by decide +kernel
theorem dX1_raise_41 : decode cX1_raise 41 = .ok (.lload 6, 2) := by decide +kernel
theorem dX1_raise_43 : decode cX1_raise 43 = .ok (.lstore 6, 2) := by decide +kernel
theorem dX1_raise_45 : decode cX1_raise 45 = .ok (.lload 8, 2) := by decide +kernel
theorem dX1_raise_47 : decode cX1_raise 47 = .ok (.lload 8, 2) := by decide +kernel
theorem dX1_raise_49 : decode cX1_raise 49 = .ok (.lmul, 1) := by decide +kernel
theorem dX1_raise_50 : decode cX1_raise 50 = .ok (.lload 4, 2) := by decide +kernel
theorem dX1_raise_52 : decode cX1_raise 52 = .ok (.lrem, 1) := by decide +kernel
theorem dX1_raise_53 : decode cX1_raise 53 = .ok (.lstore 8, 2) := by decide +kernel
theorem dX1_raise_55 : decode cX1_raise 55 = .ok (.lload 10, 2) := by decide +kernel
theorem dX1_raise_57 : decode cX1_raise 57 = .ok (.ldc2_w 42, 3) := by decide +kernel
theorem dX1_raise_60 : decode cX1_raise 60 = .ok (.ldiv, 1) := by decide +kernel
theorem dX1_raise_61 : decode cX1_raise 61 = .ok (.lstore 10, 2) := by decide +kernel
theorem dX1_raise_63 : decode cX1_raise 63 = .ok (.goto (-51), 3) := by decide +kernel
theorem dX1_raise_66 : decode cX1_raise 66 = .ok (.lload 6, 2) := by decide +kernel
theorem dX1_raise_68 : decode cX1_raise 68 = .ok (.lreturn, 1) := by decide +kernel
theorem dX1_isPrime_0 : decode cX1_isPrime 0 = .ok (.lload_n 0, 1) := by decide +kernel
theorem dX1_isPrime_1 : decode cX1_isPrime 1 = .ok (.ldc2_w 42, 3) := by decide +kernel
theorem dX1_isPrime_4 : decode cX1_isPrime 4 = .ok (.lcmp, 1) := by decide +kernel
theorem dX1_isPrime_5 : decode cX1_isPrime 5 = .ok (.ifCond .ge 5, 3) := by decide +kernel
theorem dX1_isPrime_8 : decode cX1_isPrime 8 = .ok (.iconst 0, 1) := by decide +kernel
theorem dX1_isPrime_9 : decode cX1_isPrime 9 = .ok (.ireturn, 1) := by decide +kernel
theorem dX1_isPrime_10 : decode cX1_isPrime 10 = .ok (.ldc2_w 42, 3) := by decide +kernel
theorem dX1_isPrime_13 : decode cX1_isPrime 13 = .ok (.lstore_n 2, 1) := by decide +kernel
theorem dX1_isPrime_14 : decode cX1_isPrime 14 = .ok (.lload_n 2, 1) := by decide +kernel
theorem dX1_isPrime_15 : decode cX1_isPrime 15 = .ok (.lload_n 2, 1) := by decide +kernel
theorem dX1_isPrime_16 : decode cX1_isPrime 16 = .ok (.lmul, 1) := by decide +kernel
theorem dX1_isPrime_17 : decode cX1_isPrime 17 = .ok (.lload_n 0, 1) := by decide +kernel
theorem dX1_isPrime_18 : decode cX1_isPrime 18 = .ok (.lcmp, 1) := by decide +kernel
theorem dX1_isPrime_19 : decode cX1_isPrime 19 = .ok (.ifCond .gt 20, 3) := by decide +kernel
theorem dX1_isPrime_22 : decode cX1_isPrime 22 = .ok (.lload_n 0, 1) := by decide +kernel
theorem dX1_isPrime_23 : decode cX1_isPrime 23 = .ok (.lload_n 2, 1) := by decide +kernel
theorem dX1_isPrime_24 : decode cX1_isPrime 24 = .ok (.lrem, 1) := by decide +kernel
theorem dX1_isPrime_25 : decode cX1_isPrime 25 = .ok (.lconst 0, 1) := by decide +kernel
theorem dX1_isPrime_26 : decode cX1_isPrime 26 = .ok (.lcmp, 1) := by decide +kernel
theorem dX1_isPrime_27 : decode cX1_isPrime 27 = .ok (.ifCond .ne 5, 3) := by decide +kernel
theorem dX1_isPrime_30 : decode cX1_isPrime 30 = .ok (.iconst 0, 1) := by decide +kernel
theorem dX1_isPrime_31 : decode cX1_isPrime 31 = .ok (.ireturn, 1) := by decide +kernel
theorem dX1_isPrime_32 : decode cX1_isPrime 32 = .ok (.lload_n 2, 1) := by decide +kernel
theorem dX1_isPrime_33 : decode cX1_isPrime 33 = .ok (.lconst 1, 1) := by decide +kernel
theorem dX1_isPrime_34 : decode cX1_isPrime 34 = .ok (.ladd, 1) := by decide +kernel
theorem dX1_isPrime_35 : decode cX1_isPrime 35 = .ok (.lstore_n 2, 1) := by decide +kernel
theorem dX1_isPrime_36 : decode cX1_isPrime 36 = .ok (.goto (-22), 3) := by decide +kernel
theorem dX1_isPrime_39 : decode cX1_isPrime 39 = .ok (.iconst 1, 1) := by decide +kernel
theorem dX1_isPrime_40 : decode cX1_isPrime 40 = .ok (.ireturn, 1) := by decide +kernel
set_option maxRecDepth 20000 in
theorem ggX1_isRoot_X1_raise : GoodIn wsX1_isRoot wsX1_raise := goodIn_r _ [5, 1] (by decide +kernel) (by decide +kernel)
set_option maxRecDepth 20000 in
theorem gX1_isRoot_X1_raise : GoodIn wsX1_isRoot (va_wsS RX1 44 yX1_raise wsX1_raise) := goodIn_app (goodIn_of _ (by decide +kernel)) ggX1_isRoot_X1_raise
theorem dX1_isRoot_0 : decode cX1_isRoot 0 = .ok (.lload_n 2, 1) := by decide +kernel
theorem dX1_isRoot_1 : decode cX1_isRoot 1 = .ok (.lconst 1, 1) := by decide +kernel
theorem dX1_isRoot_2 : decode cX1_isRoot 2 = .ok (.lsub, 1) := by decide +kernel
theorem dX1_isRoot_3 : decode cX1_isRoot 3 = .ok (.lstore 4, 2) := by decide +kernel
theorem dX1_isRoot_5 : decode cX1_isRoot 5 = .ok (.iconst 1, 1) := by decide +kernel
theorem dX1_isRoot_6 : decode cX1_isRoot 6 = .ok (.istore 6, 2) := by decide +kernel
theorem dX1_isRoot_8 : decode cX1_isRoot 8 = .ok (.ldc2_w 42, 3) := by decide +kernel
theorem dX1_isRoot_11 : decode cX1_isRoot 11 = .ok (.lstore 7, 2) := by decide +kernel
theorem dX1_isRoot_13 : decode cX1_isRoot 13 = .ok (.lload 7, 2) := by decide +kernel
theorem dX1_isRoot_15 : decode cX1_isRoot 15 = .ok (.lload 7, 2) := by decide +kernel
theorem dX1_isRoot_17 : decode cX1_isRoot 17 = .ok (.lmul, 1) := by decide +kernel
theorem dX1_isRoot_18 : decode cX1_isRoot 18 = .ok (.lload 4, 2) := by decide +kernel
theorem dX1_isRoot_20 : decode cX1_isRoot 20 = .ok (.lcmp, 1) := by decide +kernel
theorem dX1_isRoot_21 : decode cX1_isRoot 21 = .ok (.ifCond .gt 70, 3) := by decide +kernel
theorem dX1_isRoot_24 : decode cX1_isRoot 24 = .ok (.iload 6, 2) := by decide +kernel
theorem dX1_isRoot_26 : decode cX1_isRoot 26 = .ok (.ifCond .eq 65, 3) := by decide +kernel
theorem dX1_isRoot_29 : decode cX1_isRoot 29 = .ok (.lload 4, 2) := by decide +kernel
theorem dX1_isRoot_31 : decode cX1_isRoot 31 = .ok (.lload 7, 2) := by decide +kernel
theorem dX1_isRoot_33 : decode cX1_isRoot 33 = .ok (.lrem, 1) := by decide +kernel
theorem dX1_isRoot_34 : decode cX1_isRoot 34 = .ok (.lconst 0, 1) := by decide +kernel
theorem dX1_isRoot_35 : decode cX1_isRoot 35 = .ok (.lcmp, 1) := by decide +kernel
theorem dX1_isRoot_36 : decode cX1_isRoot 36 = .ok (.ifCond .ne 46, 3) := by decide +kernel
theorem dX1_isRoot_39 : decode cX1_isRoot 39 = .ok (.lload_n 0, 1) := by decide +kernel
theorem dX1_isRoot_40 : decode cX1_isRoot 40 = .ok (.lload_n 2, 1) := by decide +kernel
theorem dX1_isRoot_41 : decode cX1_isRoot 41 = .ok (.lconst 1, 1) := by decide +kernel
theorem dX1_isRoot_42 : decode cX1_isRoot 42 = .ok (.lsub, 1) := by decide +kernel
theorem dX1_isRoot_43 : decode cX1_isRoot 43 = .ok (.lload 7, 2) := by decide +kernel
theorem dX1_isRoot_45 : decode cX1_isRoot 45 = .ok (.ldiv, 1) := by decide +kernel
theorem dX1_isRoot_46 : decode cX1_isRoot 46 = .ok (.lload_n 2, 1) := by decide +kernel
theorem dX1_isRoot_47 : decode cX1_isRoot 47 = .ok (.invokestatic 44, 3) := by decide +kernel
theorem dX1_isRoot_50 : decode cX1_isRoot 50 = .ok (.lconst 1, 1) := by decide +kernel
theorem dX1_isRoot_51 : decode cX1_isRoot 51 = .ok (.lcmp, 1) := by decide +kernel
theorem dX1_isRoot_52 : decode cX1_isRoot 52 = .ok (.ifCond .eq 7, 3) := by decide +kernel
theorem dX1_isRoot_55 : decode cX1_isRoot 55 = .ok (.iconst 1, 1) := by decide +kernel
theorem dX1_isRoot_56 : decode cX1_isRoot 56 = .ok (.goto 4, 3) := by decide +kernel
theorem dX1_isRoot_59 : decode cX1_isRoot 59 = .ok (.iconst 0, 1) := by decide +kernel
theorem dX1_isRoot_60 : decode cX1_isRoot 60 = .ok (.istore 6, 2) := by decide +kernel
theorem dX1_isRoot_62 : decode cX1_isRoot 62 = .ok (.lload 4, 2) := by decide +kernel
theorem dX1_isRoot_64 : decode cX1_isRoot 64 = .ok (.lload 7, 2) := by decide +kernel
theorem dX1_isRoot_66 : decode cX1_isRoot 66 = .ok (.lrem, 1) := by decide +kernel
theorem dX1_isRoot_67 : decode cX1_isRoot 67 = .ok (.lconst 0, 1) := by decide +kernel
theorem dX1_isRoot_68 : decode cX1_isRoot 68 = .ok (.lcmp, 1) := by decide +kernel
theorem dX1_isRoot_69 : decode cX1_isRoot 69 = .ok (.ifCond .ne 13, 3) := by decide +kernel
theorem dX1_isRoot_72 : decode cX1_isRoot 72 = .ok (.lload 4, 2) := by decide +kernel
theorem dX1_isRoot_74 : decode cX1_isRoot 74 = .ok (.lload 7, 2) := by decide +kernel
theorem dX1_isRoot_76 : decode cX1_isRoot 76 = .ok (.ldiv, 1) := by decide +kernel
theorem dX1_isRoot_77 : decode cX1_isRoot 77 = .ok (.lstore 4, 2) := by decide +kernel
theorem dX1_isRoot_79 : decode cX1_isRoot 79 = .ok (.goto (-17), 3) := by decide +kernel
theorem dX1_isRoot_82 : decode cX1_isRoot 82 = .ok (.lload 7, 2) := by decide +kernel
theorem dX1_isRoot_84 : decode cX1_isRoot 84 = .ok (.lconst 1, 1) := by decide +kernel
theorem dX1_isRoot_85 : decode cX1_isRoot 85 = .ok (.ladd, 1) := by decide +kernel
theorem dX1_isRoot_86 : decode cX1_isRoot 86 = .ok (.lstore 7, 2) := by decide +kernel
theorem dX1_isRoot_88 : decode cX1_isRoot 88 = .ok (.goto (-75), 3) := by decide +kernel
theorem dX1_isRoot_91 : decode cX1_isRoot 91 = .ok (.iload 6, 2) := by decide +kernel
theorem dX1_isRoot_93 : decode cX1_isRoot 93 = .ok (.ifCond .eq 30, 3) := by decide +kernel
theorem dX1_isRoot_96 : decode cX1_isRoot 96 = .ok (.lload 4, 2) := by decide +kernel
theorem dX1_isRoot_98 : decode cX1_isRoot 98 = .ok (.lconst 1, 1) := by decide +kernel
theorem dX1_isRoot_99 : decode cX1_isRoot 99 = .ok (.lcmp, 1) := by decide +kernel
theorem dX1_isRoot_100 : decode cX1_isRoot 100 = .ok (.ifCond .eq 19, 3) := by decide +kernel
theorem dX1_isRoot_103 : decode cX1_isRoot 103 = .ok (.lload_n 0, 1) := by decide +kernel
theorem dX1_isRoot_104 : decode cX1_isRoot 104 = .ok (.lload_n 2, 1) := by decide +kernel
theorem dX1_isRoot_105 : decode cX1_isRoot 105 = .ok (.lconst 1, 1) := by decide +kernel
theorem dX1_isRoot_106 : decode cX1_isRoot 106 = .ok (.lsub, 1) := by decide +kernel
theorem dX1_isRoot_107 : decode cX1_isRoot 107 = .ok (.lload 4, 2) := by decide +kernel
theorem dX1_isRoot_109 : decode cX1_isRoot 109 = .ok (.ldiv, 1) := by decide +kernel
theorem dX1_isRoot_110 : decode cX1_isRoot 110 = .ok (.lload_n 2, 1) := by decide +kernel
theorem dX1_isRoot_111 : decode cX1_isRoot 111 = .ok (.invokestatic 44, 3) := by decide +kernel
theorem dX1_isRoot_114 : decode cX1_isRoot 114 = .ok (.lconst 1, 1) := by decide +kernel
theorem dX1_isRoot_115 : decode cX1_isRoot 115 = .ok (.lcmp, 1) := by decide +kernel
theorem dX1_isRoot_116 : decode cX1_isRoot 116 = .ok (.ifCond .eq 7, 3) := by decide +kernel
theorem dX1_isRoot_119 : decode cX1_isRoot 119 = .ok (.iconst 1, 1) := by decide +kernel
theorem dX1_isRoot_120 : decode cX1_isRoot 120 = .ok (.goto 4, 3) := by decide +kernel
theorem dX1_isRoot_123 : decode cX1_isRoot 123 = .ok (.iconst 0, 1) := by decide +kernel
theorem dX1_isRoot_124 : decode cX1_isRoot 124 = .ok (.ireturn, 1) := by decide +kernel
set_option maxRecDepth 20000 in
theorem ggX1_rootOf_X1_isRoot : GoodIn wsX1_rootOf wsX1_isRoot := goodIn_r _ [4, 5, 6, 7, 3, 8] (by decide +kernel) (by decide +kernel)
set_option maxRecDepth 20000 in
theorem gX1_rootOf_X1_isRoot : GoodIn wsX1_rootOf (va_wsS RX1 48 yX1_isRoot wsX1_isRoot) := goodIn_app (goodIn_of _ (by decide +kernel)) ggX1_rootOf_X1_isRoot
theorem dX1_rootOf_0 : decode cX1_rootOf 0 = .ok (.lconst 1, 1) := by decide +kernel
theorem dX1_rootOf_1 : decode cX1_rootOf 1 = .ok (.lstore_n 2, 1) := by decide +kernel
theorem dX1_rootOf_2 : decode cX1_rootOf 2 = .ok (.lload_n 2, 1) := by decide +kernel
theorem dX1_rootOf_3 : decode cX1_rootOf 3 = .ok (.lload_n 0, 1) := by decide +kernel
theorem dX1_rootOf_4 : decode cX1_rootOf 4 = .ok (.invokestatic 48, 3) := by decide +kernel
theorem dX1_rootOf_7 : decode cX1_rootOf 7 = .ok (.ifCond .ne 10, 3) := by decide +kernel
theorem dX1_rootOf_10 : decode cX1_rootOf 10 = .ok (.lload_n 2, 1) := by decide +kernel
theorem dX1_rootOf_11 : decode cX1_rootOf 11 = .ok (.lconst 1, 1) := by decide +kernel
theorem dX1_rootOf_12 : decode cX1_rootOf 12 = .ok (.ladd, 1) := by decide +kernel
theorem dX1_rootOf_13 : decode cX1_rootOf 13 = .ok (.lstore_n 2, 1) := by decide +kernel
theorem dX1_rootOf_14 : decode cX1_rootOf 14 = .ok (.goto (-12), 3) := by decide +kernel
theorem dX1_rootOf_17 : decode cX1_rootOf 17 = .ok (.lload_n 2, 1) := by decide +kernel
theorem dX1_rootOf_18 : decode cX1_rootOf 18 = .ok (.lreturn, 1) := by decide +kernel
set_option maxRecDepth 20000 in
theorem ggX1_field_X1_isPrime : GoodIn wsX1_field wsX1_isPrime := goodIn_r _ [10, 11] (by decide +kernel) (by decide +kernel)
set_option maxRecDepth 20000 in
theorem gX1_field_X1_isPrime : GoodIn wsX1_field (va_wsS RX1 56 yX1_isPrime wsX1_isPrime) := goodIn_app (goodIn_of _ (by decide +kernel)) ggX1_field_X1_isPrime
set_option maxRecDepth 20000 in
theorem ggX1_field_X1_rootOf : GoodIn wsX1_field wsX1_rootOf := goodIn_r _ [14, 15, 16, 9, 17, 11, 18, 19, 20] (by decide +kernel) (by decide +kernel)
set_option maxRecDepth 20000 in
theorem gX1_field_X1_rootOf : GoodIn wsX1_field (va_wsS RX1 31 yX1_rootOf wsX1_rootOf) := goodIn_app (goodIn_of _ (by decide +kernel)) ggX1_field_X1_rootOf
theorem dX1_field_0 : decode cX1_field 0 = .ok (.aload_n 0, 1) := by decide +kernel
theorem dX1_field_1 : decode cX1_field 1 = .ok (.lload_n 1, 1) := by decide +kernel
theorem dX1_field_2 : decode cX1_field 2 = .ok (.lconst 1, 1) := by decide +kernel
theorem dX1_field_3 : decode cX1_field 3 = .ok (.lcmp, 1) := by decide +kernel
theorem dX1_field_4 : decode cX1_field 4 = .ok (.ifCond .le 34, 3) := by decide +kernel
theorem dX1_field_7 : decode cX1_field 7 = .ok (.lload_n 1, 1) := by decide +kernel
theorem dX1_field_8 : decode cX1_field 8 = .ok (.ldc2_w 52, 3) := by decide +kernel
theorem dX1_field_11 : decode cX1_field 11 = .ok (.lcmp, 1) := by decide +kernel
theorem dX1_field_12 : decode cX1_field 12 = .ok (.ifCond .gt 26, 3) := by decide +kernel
theorem dX1_field_15 : decode cX1_field 15 = .ok (.lload_n 1, 1) := by decide +kernel
theorem dX1_field_16 : decode cX1_field 16 = .ok (.lconst 1, 1) := by decide +kernel
theorem dX1_field_17 : decode cX1_field 17 = .ok (.lsub, 1) := by decide +kernel
theorem dX1_field_18 : decode cX1_field 18 = .ok (.ldc2_w 54, 3) := by decide +kernel
theorem dX1_field_21 : decode cX1_field 21 = .ok (.lrem, 1) := by decide +kernel
theorem dX1_field_22 : decode cX1_field 22 = .ok (.lconst 0, 1) := by decide +kernel
theorem dX1_field_23 : decode cX1_field 23 = .ok (.lcmp, 1) := by decide +kernel
theorem dX1_field_24 : decode cX1_field 24 = .ok (.ifCond .ne 14, 3) := by decide +kernel
theorem dX1_field_27 : decode cX1_field 27 = .ok (.lload_n 1, 1) := by decide +kernel
theorem dX1_field_28 : decode cX1_field 28 = .ok (.invokestatic 56, 3) := by decide +kernel
theorem dX1_field_31 : decode cX1_field 31 = .ok (.ifCond .eq 7, 3) := by decide +kernel
theorem dX1_field_34 : decode cX1_field 34 = .ok (.iconst 0, 1) := by decide +kernel
theorem dX1_field_35 : decode cX1_field 35 = .ok (.goto 4, 3) := by decide +kernel
theorem dX1_field_38 : decode cX1_field 38 = .ok (.iconst 1, 1) := by decide +kernel
theorem dX1_field_39 : decode cX1_field 39 = .ok (.putfield 38, 3) := by decide +kernel
theorem dX1_field_42 : decode cX1_field 42 = .ok (.aload_n 0, 1) := by decide +kernel
theorem dX1_field_43 : decode cX1_field 43 = .ok (.getfield 38, 3) := by decide +kernel
theorem dX1_field_46 : decode cX1_field 46 = .ok (.ifCond .le 5, 3) := by decide +kernel
theorem dX1_field_49 : decode cX1_field 49 = .ok (.lconst 0, 1) := by decide +kernel
theorem dX1_field_50 : decode cX1_field 50 = .ok (.lreturn, 1) := by decide +kernel
theorem dX1_field_51 : decode cX1_field 51 = .ok (.aload_n 0, 1) := by decide +kernel
theorem dX1_field_52 : decode cX1_field 52 = .ok (.lload_n 1, 1) := by decide +kernel
theorem dX1_field_53 : decode cX1_field 53 = .ok (.putfield 27, 3) := by decide +kernel
theorem dX1_field_56 : decode cX1_field 56 = .ok (.aload_n 0, 1) := by decide +kernel
theorem dX1_field_57 : decode cX1_field 57 = .ok (.lload_n 1, 1) := by decide +kernel
theorem dX1_field_58 : decode cX1_field 58 = .ok (.invokestatic 31, 3) := by decide +kernel
theorem dX1_field_61 : decode cX1_field 61 = .ok (.putfield 35, 3) := by decide +kernel
theorem dX1_field_64 : decode cX1_field 64 = .ok (.iconst 0, 1) := by decide +kernel
theorem dX1_field_65 : decode cX1_field 65 = .ok (.istore_n 3, 1) := by decide +kernel
theorem dX1_field_66 : decode cX1_field 66 = .ok (.iload_n 3, 1) := by decide +kernel
theorem dX1_field_67 : decode cX1_field 67 = .ok (.sipush 3072, 3) := by decide +kernel
theorem dX1_field_70 : decode cX1_field 70 = .ok (.if_icmp .ge 16, 3) := by decide +kernel
theorem dX1_field_73 : decode cX1_field 73 = .ok (.aload_n 0, 1) := by decide +kernel
theorem dX1_field_74 : decode cX1_field 74 = .ok (.getfield 7, 3) := by decide +kernel
theorem dX1_field_77 : decode cX1_field 77 = .ok (.iload_n 3, 1) := by decide +kernel
theorem dX1_field_78 : decode cX1_field 78 = .ok (.lconst 0, 1) := by decide +kernel
theorem dX1_field_79 : decode cX1_field 79 = .ok (.lastore, 1) := by decide +kernel
theorem dX1_field_80 : decode cX1_field 80 = .ok (.iinc 3 1, 3) := by decide +kernel
theorem dX1_field_83 : decode cX1_field 83 = .ok (.goto (-17), 3) := by decide +kernel
theorem dX1_field_86 : decode cX1_field 86 = .ok (.aload_n 0, 1) := by decide +kernel
theorem dX1_field_87 : decode cX1_field 87 = .ok (.getfield 35, 3) := by decide +kernel
theorem dX1_field_90 : decode cX1_field 90 = .ok (.lreturn, 1) := by decide +kernel
set_option maxRecDepth 20000 in
theorem ggX1_times_X1_rest : GoodIn wsX1_times wsX1_rest := goodIn_r _ [7, 2, 8, 9, 10, 11, 12, 13, 14, 15] (by decide +kernel) (by decide +kernel)
set_option maxRecDepth 20000 in
theorem gX1_times_X1_rest : GoodIn wsX1_times (wsV RX1 60 RX1 yX1_rest wsX1_rest) := goodIn_app (goodIn_of _ (by decide +kernel)) ggX1_times_X1_rest
theorem dX1_times_0 : decode cX1_times 0 = .ok (.aload_n 0, 1) := by decide +kernel
theorem dX1_times_1 : decode cX1_times 1 = .ok (.iconst 0, 1) := by decide +kernel
theorem dX1_times_2 : decode cX1_times 2 = .ok (.putfield 38, 3) := by decide +kernel
theorem dX1_times_5 : decode cX1_times 5 = .ok (.aload_n 0, 1) := by decide +kernel
theorem dX1_times_6 : decode cX1_times 6 = .ok (.lload_n 1, 1) := by decide +kernel
theorem dX1_times_7 : decode cX1_times 7 = .ok (.invokevirtual 60, 3) := by decide +kernel
theorem dX1_times_10 : decode cX1_times 10 = .ok (.aload_n 0, 1) := by decide +kernel
theorem dX1_times_11 : decode cX1_times 11 = .ok (.lload_n 3, 1) := by decide +kernel
theorem dX1_times_12 : decode cX1_times 12 = .ok (.invokevirtual 60, 3) := by decide +kernel
theorem dX1_times_15 : decode cX1_times 15 = .ok (.lmul, 1) := by decide +kernel
theorem dX1_times_16 : decode cX1_times 16 = .ok (.aload_n 0, 1) := by decide +kernel
theorem dX1_times_17 : decode cX1_times 17 = .ok (.getfield 27, 3) := by decide +kernel
theorem dX1_times_20 : decode cX1_times 20 = .ok (.lrem, 1) := by decide +kernel
theorem dX1_times_21 : decode cX1_times 21 = .ok (.lreturn, 1) := by decide +kernel
set_option maxRecDepth 20000 in
theorem ggX1_power_X1_rest : GoodIn wsX1_power wsX1_rest := goodIn_r _ [7, 2, 12, 13, 14, 15, 16, 17, 18, 19] (by decide +kernel) (by decide +kernel)
set_option maxRecDepth 20000 in
theorem gX1_power_X1_rest : GoodIn wsX1_power (wsV RX1 60 RX1 yX1_rest wsX1_rest) := goodIn_app (goodIn_of _ (by decide +kernel)) ggX1_power_X1_rest
set_option maxRecDepth 20000 in
theorem ggX1_power_X1_raise : GoodIn wsX1_power wsX1_raise := goodIn_r _ [10, 11] (by decide +kernel) (by decide +kernel)
set_option maxRecDepth 20000 in
theorem gX1_power_X1_raise : GoodIn wsX1_power (va_wsS RX1 44 yX1_raise wsX1_raise) := goodIn_app (goodIn_of _ (by decide +kernel)) ggX1_power_X1_raise
theorem dX1_power_0 : decode cX1_power 0 = .ok (.aload_n 0, 1) := by decide +kernel
theorem dX1_power_1 : decode cX1_power 1 = .ok (.lload_n 3, 1) := by decide +kernel
theorem dX1_power_2 : decode cX1_power 2 = .ok (.lconst 0, 1) := by decide +kernel
theorem dX1_power_3 : decode cX1_power 3 = .ok (.lcmp, 1) := by decide +kernel
theorem dX1_power_4 : decode cX1_power 4 = .ok (.ifCond .ge 7, 3) := by decide +kernel
theorem dX1_power_7 : decode cX1_power 7 = .ok (.iconst 1, 1) := by decide +kernel
theorem dX1_power_8 : decode cX1_power 8 = .ok (.goto 4, 3) := by decide +kernel
theorem dX1_power_11 : decode cX1_power 11 = .ok (.iconst 0, 1) := by decide +kernel
theorem dX1_power_12 : decode cX1_power 12 = .ok (.putfield 38, 3) := by decide +kernel
theorem dX1_power_15 : decode cX1_power 15 = .ok (.aload_n 0, 1) := by decide +kernel
theorem dX1_power_16 : decode cX1_power 16 = .ok (.getfield 38, 3) := by decide +kernel
theorem dX1_power_19 : decode cX1_power 19 = .ok (.ifCond .le 7, 3) := by decide +kernel
theorem dX1_power_22 : decode cX1_power 22 = .ok (.lconst 0, 1) := by decide +kernel
theorem dX1_power_23 : decode cX1_power 23 = .ok (.goto 16, 3) := by decide +kernel
theorem dX1_power_26 : decode cX1_power 26 = .ok (.aload_n 0, 1) := by decide +kernel
theorem dX1_power_27 : decode cX1_power 27 = .ok (.lload_n 1, 1) := by decide +kernel
theorem dX1_power_28 : decode cX1_power 28 = .ok (.invokevirtual 60, 3) := by decide +kernel
theorem dX1_power_31 : decode cX1_power 31 = .ok (.lload_n 3, 1) := by decide +kernel
theorem dX1_power_32 : decode cX1_power 32 = .ok (.aload_n 0, 1) := by decide +kernel
theorem dX1_power_33 : decode cX1_power 33 = .ok (.getfield 27, 3) := by decide +kernel
theorem dX1_power_36 : decode cX1_power 36 = .ok (.invokestatic 44, 3) := by decide +kernel
theorem dX1_power_39 : decode cX1_power 39 = .ok (.lreturn, 1) := by decide +kernel
set_option maxRecDepth 20000 in
theorem ggX1_inverse_X1_rest : GoodIn wsX1_inverse wsX1_rest := goodIn_r _ [8, 2, 12, 13, 14, 15, 16, 17, 18, 19] (by decide +kernel) (by decide +kernel)
set_option maxRecDepth 20000 in
theorem gX1_inverse_X1_rest : GoodIn wsX1_inverse (wsV RX1 60 RX1 yX1_rest wsX1_rest) := goodIn_app (goodIn_of _ (by decide +kernel)) ggX1_inverse_X1_rest
set_option maxRecDepth 20000 in
theorem ggX1_inverse_X1_raise : GoodIn wsX1_inverse wsX1_raise := goodIn_r _ [11, 3] (by decide +kernel) (by decide +kernel)
set_option maxRecDepth 20000 in
theorem gX1_inverse_X1_raise : GoodIn wsX1_inverse (va_wsS RX1 44 yX1_raise wsX1_raise) := goodIn_app (goodIn_of _ (by decide +kernel)) ggX1_inverse_X1_raise
theorem dX1_inverse_0 : decode cX1_inverse 0 = .ok (.aload_n 0, 1) := by decide +kernel
theorem dX1_inverse_1 : decode cX1_inverse 1 = .ok (.aload_n 0, 1) := by decide +kernel
theorem dX1_inverse_2 : decode cX1_inverse 2 = .ok (.lload_n 1, 1) := by decide +kernel
theorem dX1_inverse_3 : decode cX1_inverse 3 = .ok (.invokevirtual 60, 3) := by decide +kernel
theorem dX1_inverse_6 : decode cX1_inverse 6 = .ok (.lconst 0, 1) := by decide +kernel
theorem dX1_inverse_7 : decode cX1_inverse 7 = .ok (.lcmp, 1) := by decide +kernel
theorem dX1_inverse_8 : decode cX1_inverse 8 = .ok (.ifCond .ne 7, 3) := by decide +kernel
theorem dX1_inverse_11 : decode cX1_inverse 11 = .ok (.iconst 1, 1) := by decide +kernel
theorem dX1_inverse_12 : decode cX1_inverse 12 = .ok (.goto 4, 3) := by decide +kernel
theorem dX1_inverse_15 : decode cX1_inverse 15 = .ok (.iconst 0, 1) := by decide +kernel
theorem dX1_inverse_16 : decode cX1_inverse 16 = .ok (.putfield 38, 3) := by decide +kernel
theorem dX1_inverse_19 : decode cX1_inverse 19 = .ok (.aload_n 0, 1) := by decide +kernel
theorem dX1_inverse_20 : decode cX1_inverse 20 = .ok (.getfield 38, 3) := by decide +kernel
theorem dX1_inverse_23 : decode cX1_inverse 23 = .ok (.ifCond .le 7, 3) := by decide +kernel
theorem dX1_inverse_26 : decode cX1_inverse 26 = .ok (.lconst 0, 1) := by decide +kernel
theorem dX1_inverse_27 : decode cX1_inverse 27 = .ok (.goto 23, 3) := by decide +kernel
theorem dX1_inverse_30 : decode cX1_inverse 30 = .ok (.aload_n 0, 1) := by decide +kernel
theorem dX1_inverse_31 : decode cX1_inverse 31 = .ok (.lload_n 1, 1) := by decide +kernel
theorem dX1_inverse_32 : decode cX1_inverse 32 = .ok (.invokevirtual 60, 3) := by decide +kernel
theorem dX1_inverse_35 : decode cX1_inverse 35 = .ok (.aload_n 0, 1) := by decide +kernel
theorem dX1_inverse_36 : decode cX1_inverse 36 = .ok (.getfield 27, 3) := by decide +kernel
theorem dX1_inverse_39 : decode cX1_inverse 39 = .ok (.ldc2_w 42, 3) := by decide +kernel
theorem dX1_inverse_42 : decode cX1_inverse 42 = .ok (.lsub, 1) := by decide +kernel
theorem dX1_inverse_43 : decode cX1_inverse 43 = .ok (.aload_n 0, 1) := by decide +kernel
theorem dX1_inverse_44 : decode cX1_inverse 44 = .ok (.getfield 27, 3) := by decide +kernel
theorem dX1_inverse_47 : decode cX1_inverse 47 = .ok (.invokestatic 44, 3) := by decide +kernel
theorem dX1_inverse_50 : decode cX1_inverse 50 = .ok (.lreturn, 1) := by decide +kernel
theorem dX1_isRow_0 : decode cX1_isRow 0 = .ok (.iload_n 0, 1) := by decide +kernel
theorem dX1_isRow_1 : decode cX1_isRow 1 = .ok (.ifCond .lt 13, 3) := by decide +kernel
theorem dX1_isRow_4 : decode cX1_isRow 4 = .ok (.iload_n 0, 1) := by decide +kernel
theorem dX1_isRow_5 : decode cX1_isRow 5 = .ok (.bipush 6, 2) := by decide +kernel
theorem dX1_isRow_7 : decode cX1_isRow 7 = .ok (.if_icmp .ge 7, 3) := by decide +kernel
theorem dX1_isRow_10 : decode cX1_isRow 10 = .ok (.iconst 1, 1) := by decide +kernel
theorem dX1_isRow_11 : decode cX1_isRow 11 = .ok (.goto 4, 3) := by decide +kernel
theorem dX1_isRow_14 : decode cX1_isRow 14 = .ok (.iconst 0, 1) := by decide +kernel
theorem dX1_isRow_15 : decode cX1_isRow 15 = .ok (.ireturn, 1) := by decide +kernel
set_option maxRecDepth 20000 in
theorem ggX1_put_X1_isRow : GoodIn wsX1_put wsX1_isRow := goodIn_r _ [6] (by decide +kernel) (by decide +kernel)
set_option maxRecDepth 20000 in
theorem gX1_put_X1_isRow : GoodIn wsX1_put (va_wsS RX1 63 yX1_isRow wsX1_isRow) := goodIn_app (goodIn_of _ (by decide +kernel)) ggX1_put_X1_isRow
set_option maxRecDepth 20000 in
theorem ggX1_put_X1_rest : GoodIn wsX1_put wsX1_rest := goodIn_r _ [10, 11, 12, 13, 14, 15, 16, 17, 18, 19] (by decide +kernel) (by decide +kernel)
set_option maxRecDepth 20000 in
theorem gX1_put_X1_rest : GoodIn wsX1_put (wsV RX1 60 RX1 yX1_rest wsX1_rest) := goodIn_app (goodIn_of _ (by decide +kernel)) ggX1_put_X1_rest
theorem dX1_put_0 : decode cX1_put 0 = .ok (.aload_n 0, 1) := by decide +kernel
theorem dX1_put_1 : decode cX1_put 1 = .ok (.iload_n 1, 1) := by decide +kernel
theorem dX1_put_2 : decode cX1_put 2 = .ok (.invokestatic 63, 3) := by decide +kernel
theorem dX1_put_5 : decode cX1_put 5 = .ok (.ifCond .eq 18, 3) := by decide +kernel
theorem dX1_put_8 : decode cX1_put 8 = .ok (.iload_n 2, 1) := by decide +kernel
theorem dX1_put_9 : decode cX1_put 9 = .ok (.ifCond .lt 14, 3) := by decide +kernel
theorem dX1_put_12 : decode cX1_put 12 = .ok (.iload_n 2, 1) := by decide +kernel
theorem dX1_put_13 : decode cX1_put 13 = .ok (.sipush 512, 3) := by decide +kernel
theorem dX1_put_16 : decode cX1_put 16 = .ok (.if_icmp .ge 7, 3) := by decide +kernel
theorem dX1_put_19 : decode cX1_put 19 = .ok (.iconst 0, 1) := by decide +kernel
theorem dX1_put_20 : decode cX1_put 20 = .ok (.goto 4, 3) := by decide +kernel
theorem dX1_put_23 : decode cX1_put 23 = .ok (.iconst 1, 1) := by decide +kernel
theorem dX1_put_24 : decode cX1_put 24 = .ok (.putfield 38, 3) := by decide +kernel
theorem dX1_put_27 : decode cX1_put 27 = .ok (.aload_n 0, 1) := by decide +kernel
theorem dX1_put_28 : decode cX1_put 28 = .ok (.getfield 38, 3) := by decide +kernel
theorem dX1_put_31 : decode cX1_put 31 = .ok (.ifCond .le 5, 3) := by decide +kernel
theorem dX1_put_34 : decode cX1_put 34 = .ok (.iconst 0, 1) := by decide +kernel
theorem dX1_put_35 : decode cX1_put 35 = .ok (.ireturn, 1) := by decide +kernel
theorem dX1_put_36 : decode cX1_put 36 = .ok (.sipush 512, 3) := by decide +kernel
theorem dX1_put_39 : decode cX1_put 39 = .ok (.iload_n 1, 1) := by decide +kernel
theorem dX1_put_40 : decode cX1_put 40 = .ok (.imul, 1) := by decide +kernel
theorem dX1_put_41 : decode cX1_put 41 = .ok (.iload_n 2, 1) := by decide +kernel
theorem dX1_put_42 : decode cX1_put 42 = .ok (.iadd, 1) := by decide +kernel
theorem dX1_put_43 : decode cX1_put 43 = .ok (.istore 5, 2) := by decide +kernel
theorem dX1_put_45 : decode cX1_put 45 = .ok (.aload_n 0, 1) := by decide +kernel
theorem dX1_put_46 : decode cX1_put 46 = .ok (.getfield 7, 3) := by decide +kernel
theorem dX1_put_49 : decode cX1_put 49 = .ok (.iload 5, 2) := by decide +kernel
theorem dX1_put_51 : decode cX1_put 51 = .ok (.laload, 1) := by decide +kernel
theorem dX1_put_52 : decode cX1_put 52 = .ok (.aload_n 0, 1) := by decide +kernel
theorem dX1_put_53 : decode cX1_put 53 = .ok (.lload_n 3, 1) := by decide +kernel
theorem dX1_put_54 : decode cX1_put 54 = .ok (.invokevirtual 60, 3) := by decide +kernel
theorem dX1_put_57 : decode cX1_put 57 = .ok (.lcmp, 1) := by decide +kernel
theorem dX1_put_58 : decode cX1_put 58 = .ok (.ifCond .eq 7, 3) := by decide +kernel
theorem dX1_put_61 : decode cX1_put 61 = .ok (.iconst 1, 1) := by decide +kernel
theorem dX1_put_62 : decode cX1_put 62 = .ok (.goto 4, 3) := by decide +kernel
theorem dX1_put_65 : decode cX1_put 65 = .ok (.iconst 0, 1) := by decide +kernel
theorem dX1_put_66 : decode cX1_put 66 = .ok (.istore 6, 2) := by decide +kernel
theorem dX1_put_68 : decode cX1_put 68 = .ok (.aload_n 0, 1) := by decide +kernel
theorem dX1_put_69 : decode cX1_put 69 = .ok (.getfield 7, 3) := by decide +kernel
theorem dX1_put_72 : decode cX1_put 72 = .ok (.iload 5, 2) := by decide +kernel
theorem dX1_put_74 : decode cX1_put 74 = .ok (.aload_n 0, 1) := by decide +kernel
theorem dX1_put_75 : decode cX1_put 75 = .ok (.lload_n 3, 1) := by decide +kernel
theorem dX1_put_76 : decode cX1_put 76 = .ok (.invokevirtual 60, 3) := by decide +kernel
theorem dX1_put_79 : decode cX1_put 79 = .ok (.lastore, 1) := by decide +kernel
theorem dX1_put_80 : decode cX1_put 80 = .ok (.iload 6, 2) := by decide +kernel
theorem dX1_put_82 : decode cX1_put 82 = .ok (.ireturn, 1) := by decide +kernel
set_option maxRecDepth 20000 in
theorem ggX1_get_X1_isRow : GoodIn wsX1_get wsX1_isRow := goodIn_r _ [6] (by decide +kernel) (by decide +kernel)
set_option maxRecDepth 20000 in
theorem gX1_get_X1_isRow : GoodIn wsX1_get (va_wsS RX1 63 yX1_isRow wsX1_isRow) := goodIn_app (goodIn_of _ (by decide +kernel)) ggX1_get_X1_isRow
theorem dX1_get_0 : decode cX1_get 0 = .ok (.aload_n 0, 1) := by decide +kernel
theorem dX1_get_1 : decode cX1_get 1 = .ok (.iload_n 1, 1) := by decide +kernel
theorem dX1_get_2 : decode cX1_get 2 = .ok (.invokestatic 63, 3) := by decide +kernel
theorem dX1_get_5 : decode cX1_get 5 = .ok (.ifCond .eq 18, 3) := by decide +kernel
theorem dX1_get_8 : decode cX1_get 8 = .ok (.iload_n 2, 1) := by decide +kernel
theorem dX1_get_9 : decode cX1_get 9 = .ok (.ifCond .lt 14, 3) := by decide +kernel
theorem dX1_get_12 : decode cX1_get 12 = .ok (.iload_n 2, 1) := by decide +kernel
theorem dX1_get_13 : decode cX1_get 13 = .ok (.sipush 512, 3) := by decide +kernel
theorem dX1_get_16 : decode cX1_get 16 = .ok (.if_icmp .ge 7, 3) := by decide +kernel
theorem dX1_get_19 : decode cX1_get 19 = .ok (.iconst 0, 1) := by decide +kernel
theorem dX1_get_20 : decode cX1_get 20 = .ok (.goto 4, 3) := by decide +kernel
theorem dX1_get_23 : decode cX1_get 23 = .ok (.iconst 1, 1) := by decide +kernel
theorem dX1_get_24 : decode cX1_get 24 = .ok (.putfield 38, 3) := by decide +kernel
theorem dX1_get_27 : decode cX1_get 27 = .ok (.aload_n 0, 1) := by decide +kernel
theorem dX1_get_28 : decode cX1_get 28 = .ok (.getfield 38, 3) := by decide +kernel
theorem dX1_get_31 : decode cX1_get 31 = .ok (.ifCond .le 7, 3) := by decide +kernel
theorem dX1_get_34 : decode cX1_get 34 = .ok (.lconst 0, 1) := by decide +kernel
theorem dX1_get_35 : decode cX1_get 35 = .ok (.goto 15, 3) := by decide +kernel
theorem dX1_get_38 : decode cX1_get 38 = .ok (.aload_n 0, 1) := by decide +kernel
theorem dX1_get_39 : decode cX1_get 39 = .ok (.getfield 7, 3) := by decide +kernel
theorem dX1_get_42 : decode cX1_get 42 = .ok (.sipush 512, 3) := by decide +kernel
theorem dX1_get_45 : decode cX1_get 45 = .ok (.iload_n 1, 1) := by decide +kernel
theorem dX1_get_46 : decode cX1_get 46 = .ok (.imul, 1) := by decide +kernel
theorem dX1_get_47 : decode cX1_get 47 = .ok (.iload_n 2, 1) := by decide +kernel
theorem dX1_get_48 : decode cX1_get 48 = .ok (.iadd, 1) := by decide +kernel
theorem dX1_get_49 : decode cX1_get 49 = .ok (.laload, 1) := by decide +kernel
theorem dX1_get_50 : decode cX1_get 50 = .ok (.lreturn, 1) := by decide +kernel
theorem dX1_lengthOf_0 : decode cX1_lengthOf 0 = .ok (.sipush 512, 3) := by decide +kernel
theorem dX1_lengthOf_3 : decode cX1_lengthOf 3 = .ok (.istore_n 2, 1) := by decide +kernel
theorem dX1_lengthOf_4 : decode cX1_lengthOf 4 = .ok (.iload_n 2, 1) := by decide +kernel
theorem dX1_lengthOf_5 : decode cX1_lengthOf 5 = .ok (.ifCond .le 28, 3) := by decide +kernel
theorem dX1_lengthOf_8 : decode cX1_lengthOf 8 = .ok (.aload_n 0, 1) := by decide +kernel
theorem dX1_lengthOf_9 : decode cX1_lengthOf 9 = .ok (.getfield 7, 3) := by decide +kernel
theorem dX1_lengthOf_12 : decode cX1_lengthOf 12 = .ok (.sipush 512, 3) := by decide +kernel
theorem dX1_lengthOf_15 : decode cX1_lengthOf 15 = .ok (.iload_n 1, 1) := by decide +kernel
theorem dX1_lengthOf_16 : decode cX1_lengthOf 16 = .ok (.imul, 1) := by decide +kernel
theorem dX1_lengthOf_17 : decode cX1_lengthOf 17 = .ok (.iload_n 2, 1) := by decide +kernel
theorem dX1_lengthOf_18 : decode cX1_lengthOf 18 = .ok (.iadd, 1) := by decide +kernel
theorem dX1_lengthOf_19 : decode cX1_lengthOf 19 = .ok (.iconst 1, 1) := by decide +kernel
theorem dX1_lengthOf_20 : decode cX1_lengthOf 20 = .ok (.isub, 1) := by decide +kernel
theorem dX1_lengthOf_21 : decode cX1_lengthOf 21 = .ok (.laload, 1) := by decide +kernel
theorem dX1_lengthOf_22 : decode cX1_lengthOf 22 = .ok (.lconst 0, 1) := by decide +kernel
theorem dX1_lengthOf_23 : decode cX1_lengthOf 23 = .ok (.lcmp, 1) := by decide +kernel
theorem dX1_lengthOf_24 : decode cX1_lengthOf 24 = .ok (.ifCond .ne 9, 3) := by decide +kernel
theorem dX1_lengthOf_27 : decode cX1_lengthOf 27 = .ok (.iinc 2 (-1), 3) := by decide +kernel
theorem dX1_lengthOf_30 : decode cX1_lengthOf 30 = .ok (.goto (-26), 3) := by decide +kernel
theorem dX1_lengthOf_33 : decode cX1_lengthOf 33 = .ok (.iload_n 2, 1) := by decide +kernel
theorem dX1_lengthOf_34 : decode cX1_lengthOf 34 = .ok (.ireturn, 1) := by decide +kernel
set_option maxRecDepth 20000 in
theorem ggX1_length_X1_isRow : GoodIn wsX1_length wsX1_isRow := goodIn_r _ [5] (by decide +kernel) (by decide +kernel)
set_option maxRecDepth 20000 in
theorem gX1_length_X1_isRow : GoodIn wsX1_length (va_wsS RX1 63 yX1_isRow wsX1_isRow) := goodIn_app (goodIn_of _ (by decide +kernel)) ggX1_length_X1_isRow
set_option maxRecDepth 20000 in
theorem ggX1_length_X1_lengthOf : GoodIn wsX1_length wsX1_lengthOf := goodIn_r _ [9, 10, 11, 12, 13, 14, 15, 16, 17, 18] (by decide +kernel) (by decide +kernel)
set_option maxRecDepth 20000 in
theorem gX1_length_X1_lengthOf : GoodIn wsX1_length (wsV RX1 67 RX1 yX1_lengthOf wsX1_lengthOf) := goodIn_app (goodIn_of _ (by decide +kernel)) ggX1_length_X1_lengthOf
theorem dX1_length_0 : decode cX1_length 0 = .ok (.aload_n 0, 1) := by decide +kernel
theorem dX1_length_1 : decode cX1_length 1 = .ok (.iload_n 1, 1) := by decide +kernel
theorem dX1_length_2 : decode cX1_length 2 = .ok (.invokestatic 63, 3) := by decide +kernel
theorem dX1_length_5 : decode cX1_length 5 = .ok (.ifCond .eq 7, 3) := by decide +kernel
theorem dX1_length_8 : decode cX1_length 8 = .ok (.iconst 0, 1) := by decide +kernel
theorem dX1_length_9 : decode cX1_length 9 = .ok (.goto 4, 3) := by decide +kernel
theorem dX1_length_12 : decode cX1_length 12 = .ok (.iconst 1, 1) := by decide +kernel
theorem dX1_length_13 : decode cX1_length 13 = .ok (.putfield 38, 3) := by decide +kernel
theorem dX1_length_16 : decode cX1_length 16 = .ok (.aload_n 0, 1) := by decide +kernel
theorem dX1_length_17 : decode cX1_length 17 = .ok (.getfield 38, 3) := by decide +kernel
theorem dX1_length_20 : decode cX1_length 20 = .ok (.ifCond .le 7, 3) := by decide +kernel
theorem dX1_length_23 : decode cX1_length 23 = .ok (.iconst 0, 1) := by decide +kernel
theorem dX1_length_24 : decode cX1_length 24 = .ok (.goto 8, 3) := by decide +kernel
theorem dX1_length_27 : decode cX1_length 27 = .ok (.aload_n 0, 1) := by decide +kernel
theorem dX1_length_28 : decode cX1_length 28 = .ok (.iload_n 1, 1) := by decide +kernel
theorem dX1_length_29 : decode cX1_length 29 = .ok (.invokevirtual 67, 3) := by decide +kernel
theorem dX1_length_32 : decode cX1_length 32 = .ok (.ireturn, 1) := by decide +kernel
set_option maxRecDepth 20000 in
theorem ggX1_turn_X1_isRow : GoodIn wsX1_turn wsX1_isRow := goodIn_r _ [11] (by decide +kernel) (by decide +kernel)
set_option maxRecDepth 20000 in
theorem gX1_turn_X1_isRow : GoodIn wsX1_turn (va_wsS RX1 63 yX1_isRow wsX1_isRow) := goodIn_app (goodIn_of _ (by decide +kernel)) ggX1_turn_X1_isRow
set_option maxRecDepth 20000 in
theorem ggX1_turn_X1_raise : GoodIn wsX1_turn wsX1_raise := goodIn_r _ [14, 4] (by decide +kernel) (by decide +kernel)
set_option maxRecDepth 20000 in
theorem gX1_turn_X1_raise : GoodIn wsX1_turn (va_wsS RX1 44 yX1_raise wsX1_raise) := goodIn_app (goodIn_of _ (by decide +kernel)) ggX1_turn_X1_raise
theorem dX1_turn_0 : decode cX1_turn 0 = .ok (.iload_n 2, 1) := by decide +kernel
theorem dX1_turn_1 : decode cX1_turn 1 = .ok (.iconst 1, 1) := by decide +kernel
theorem dX1_turn_2 : decode cX1_turn 2 = .ok (.if_icmp .lt 22, 3) := by decide +kernel
theorem dX1_turn_5 : decode cX1_turn 5 = .ok (.iload_n 2, 1) := by decide +kernel
theorem dX1_turn_6 : decode cX1_turn 6 = .ok (.sipush 512, 3) := by decide +kernel
theorem dX1_turn_9 : decode cX1_turn 9 = .ok (.if_icmp .gt 15, 3) := by decide +kernel
theorem dX1_turn_12 : decode cX1_turn 12 = .ok (.iload_n 2, 1) := by decide +kernel
theorem dX1_turn_13 : decode cX1_turn 13 = .ok (.iload_n 2, 1) := by decide +kernel
theorem dX1_turn_14 : decode cX1_turn 14 = .ok (.iconst 1, 1) := by decide +kernel
theorem dX1_turn_15 : decode cX1_turn 15 = .ok (.isub, 1) := by decide +kernel
theorem dX1_turn_16 : decode cX1_turn 16 = .ok (.iand, 1) := by decide +kernel
theorem dX1_turn_17 : decode cX1_turn 17 = .ok (.ifCond .ne 7, 3) := by decide +kernel
theorem dX1_turn_20 : decode cX1_turn 20 = .ok (.iconst 1, 1) := by decide +kernel
theorem dX1_turn_21 : decode cX1_turn 21 = .ok (.goto 4, 3) := by decide +kernel
theorem dX1_turn_24 : decode cX1_turn 24 = .ok (.iconst 0, 1) := by decide +kernel
theorem dX1_turn_25 : decode cX1_turn 25 = .ok (.istore 4, 2) := by decide +kernel
theorem dX1_turn_27 : decode cX1_turn 27 = .ok (.aload_n 0, 1) := by decide +kernel
theorem dX1_turn_28 : decode cX1_turn 28 = .ok (.iload_n 1, 1) := by decide +kernel
theorem dX1_turn_29 : decode cX1_turn 29 = .ok (.invokestatic 63, 3) := by decide +kernel
theorem dX1_turn_32 : decode cX1_turn 32 = .ok (.ifCond .ne 7, 3) := by decide +kernel
theorem dX1_turn_35 : decode cX1_turn 35 = .ok (.iconst 1, 1) := by decide +kernel
theorem dX1_turn_36 : decode cX1_turn 36 = .ok (.goto 13, 3) := by decide +kernel
theorem dX1_turn_39 : decode cX1_turn 39 = .ok (.iload 4, 2) := by decide +kernel
theorem dX1_turn_41 : decode cX1_turn 41 = .ok (.ifCond .ne 7, 3) := by decide +kernel
theorem dX1_turn_44 : decode cX1_turn 44 = .ok (.iconst 2, 1) := by decide +kernel
theorem dX1_turn_45 : decode cX1_turn 45 = .ok (.goto 4, 3) := by decide +kernel
theorem dX1_turn_48 : decode cX1_turn 48 = .ok (.iconst 0, 1) := by decide +kernel
theorem dX1_turn_49 : decode cX1_turn 49 = .ok (.putfield 38, 3) := by decide +kernel
theorem dX1_turn_52 : decode cX1_turn 52 = .ok (.aload_n 0, 1) := by decide +kernel
theorem dX1_turn_53 : decode cX1_turn 53 = .ok (.getfield 38, 3) := by decide +kernel
theorem dX1_turn_56 : decode cX1_turn 56 = .ok (.ifCond .le 4, 3) := by decide +kernel
theorem dX1_turn_59 : decode cX1_turn 59 = .ok (.return_, 1) := by decide +kernel
theorem dX1_turn_60 : decode cX1_turn 60 = .ok (.aload_n 0, 1) := by decide +kernel
theorem dX1_turn_61 : decode cX1_turn 61 = .ok (.getfield 35, 3) := by decide +kernel
theorem dX1_turn_64 : decode cX1_turn 64 = .ok (.aload_n 0, 1) := by decide +kernel
theorem dX1_turn_65 : decode cX1_turn 65 = .ok (.getfield 27, 3) := by decide +kernel
theorem dX1_turn_68 : decode cX1_turn 68 = .ok (.lconst 1, 1) := by decide +kernel
theorem dX1_turn_69 : decode cX1_turn 69 = .ok (.lsub, 1) := by decide +kernel
theorem dX1_turn_70 : decode cX1_turn 70 = .ok (.iload_n 2, 1) := by decide +kernel
theorem dX1_turn_71 : decode cX1_turn 71 = .ok (.i2l, 1) := by decide +kernel
theorem dX1_turn_72 : decode cX1_turn 72 = .ok (.ldiv, 1) := by decide +kernel
theorem dX1_turn_73 : decode cX1_turn 73 = .ok (.aload_n 0, 1) := by decide +kernel
theorem dX1_turn_74 : decode cX1_turn 74 = .ok (.getfield 27, 3) := by decide +kernel
theorem dX1_turn_77 : decode cX1_turn 77 = .ok (.invokestatic 44, 3) := by decide +kernel
theorem dX1_turn_80 : decode cX1_turn 80 = .ok (.lstore 5, 2) := by decide +kernel
theorem dX1_turn_82 : decode cX1_turn 82 = .ok (.iload_n 3, 1) := by decide +kernel
theorem dX1_turn_83 : decode cX1_turn 83 = .ok (.ifCond .eq 23, 3) := by decide +kernel
theorem dX1_turn_86 : decode cX1_turn 86 = .ok (.lload 5, 2) := by decide +kernel
theorem dX1_turn_88 : decode cX1_turn 88 = .ok (.aload_n 0, 1) := by decide +kernel
theorem dX1_turn_89 : decode cX1_turn 89 = .ok (.getfield 27, 3) := by decide +kernel
theorem dX1_turn_92 : decode cX1_turn 92 = .ok (.ldc2_w 42, 3) := by decide +kernel
theorem dX1_turn_95 : decode cX1_turn 95 = .ok (.lsub, 1) := by decide +kernel
theorem dX1_turn_96 : decode cX1_turn 96 = .ok (.aload_n 0, 1) := by decide +kernel
theorem dX1_turn_97 : decode cX1_turn 97 = .ok (.getfield 27, 3) := by decide +kernel
theorem dX1_turn_100 : decode cX1_turn 100 = .ok (.invokestatic 44, 3) := by decide +kernel
theorem dX1_turn_103 : decode cX1_turn 103 = .ok (.goto 5, 3) := by decide +kernel
theorem dX1_turn_106 : decode cX1_turn 106 = .ok (.lload 5, 2) := by decide +kernel
theorem dX1_turn_108 : decode cX1_turn 108 = .ok (.lstore 7, 2) := by decide +kernel
theorem dX1_turn_110 : decode cX1_turn 110 = .ok (.iload_n 3, 1) := by decide +kernel
theorem dX1_turn_111 : decode cX1_turn 111 = .ok (.ifCond .eq 23, 3) := by decide +kernel
theorem dX1_turn_114 : decode cX1_turn 114 = .ok (.iload_n 2, 1) := by decide +kernel
theorem dX1_turn_115 : decode cX1_turn 115 = .ok (.i2l, 1) := by decide +kernel
theorem dX1_turn_116 : decode cX1_turn 116 = .ok (.aload_n 0, 1) := by decide +kernel
theorem dX1_turn_117 : decode cX1_turn 117 = .ok (.getfield 27, 3) := by decide +kernel
theorem dX1_turn_120 : decode cX1_turn 120 = .ok (.ldc2_w 42, 3) := by decide +kernel
theorem dX1_turn_123 : decode cX1_turn 123 = .ok (.lsub, 1) := by decide +kernel
theorem dX1_turn_124 : decode cX1_turn 124 = .ok (.aload_n 0, 1) := by decide +kernel
theorem dX1_turn_125 : decode cX1_turn 125 = .ok (.getfield 27, 3) := by decide +kernel
theorem dX1_turn_128 : decode cX1_turn 128 = .ok (.invokestatic 44, 3) := by decide +kernel
theorem dX1_turn_131 : decode cX1_turn 131 = .ok (.goto 4, 3) := by decide +kernel
theorem dX1_turn_134 : decode cX1_turn 134 = .ok (.lconst 1, 1) := by decide +kernel
theorem dX1_turn_135 : decode cX1_turn 135 = .ok (.lstore 9, 2) := by decide +kernel
theorem dX1_turn_137 : decode cX1_turn 137 = .ok (.aload_n 0, 1) := by decide +kernel
theorem dX1_turn_138 : decode cX1_turn 138 = .ok (.getfield 19, 3) := by decide +kernel
theorem dX1_turn_141 : decode cX1_turn 141 = .ok (.iconst 0, 1) := by decide +kernel
theorem dX1_turn_142 : decode cX1_turn 142 = .ok (.lconst 1, 1) := by decide +kernel
theorem dX1_turn_143 : decode cX1_turn 143 = .ok (.lastore, 1) := by decide +kernel
theorem dX1_turn_144 : decode cX1_turn 144 = .ok (.iconst 1, 1) := by decide +kernel
theorem dX1_turn_145 : decode cX1_turn 145 = .ok (.istore 11, 2) := by decide +kernel
theorem dX1_turn_147 : decode cX1_turn 147 = .ok (.iload 11, 2) := by decide +kernel
theorem dX1_turn_149 : decode cX1_turn 149 = .ok (.iload_n 2, 1) := by decide +kernel
theorem dX1_turn_150 : decode cX1_turn 150 = .ok (.if_icmp .ge 33, 3) := by decide +kernel
theorem dX1_turn_153 : decode cX1_turn 153 = .ok (.aload_n 0, 1) := by decide +kernel
theorem dX1_turn_154 : decode cX1_turn 154 = .ok (.getfield 19, 3) := by decide +kernel
theorem dX1_turn_157 : decode cX1_turn 157 = .ok (.iload 11, 2) := by decide +kernel
theorem dX1_turn_159 : decode cX1_turn 159 = .ok (.aload_n 0, 1) := by decide +kernel
theorem dX1_turn_160 : decode cX1_turn 160 = .ok (.getfield 19, 3) := by decide +kernel
theorem dX1_turn_163 : decode cX1_turn 163 = .ok (.iload 11, 2) := by decide +kernel
theorem dX1_turn_165 : decode cX1_turn 165 = .ok (.iconst 1, 1) := by decide +kernel
theorem dX1_turn_166 : decode cX1_turn 166 = .ok (.isub, 1) := by decide +kernel
theorem dX1_turn_167 : decode cX1_turn 167 = .ok (.laload, 1) := by decide +kernel
theorem dX1_turn_168 : decode cX1_turn 168 = .ok (.lload 7, 2) := by decide +kernel
theorem dX1_turn_170 : decode cX1_turn 170 = .ok (.lmul, 1) := by decide +kernel
theorem dX1_turn_171 : decode cX1_turn 171 = .ok (.aload_n 0, 1) := by decide +kernel
theorem dX1_turn_172 : decode cX1_turn 172 = .ok (.getfield 27, 3) := by decide +kernel
theorem dX1_turn_175 : decode cX1_turn 175 = .ok (.lrem, 1) := by decide +kernel
theorem dX1_turn_176 : decode cX1_turn 176 = .ok (.lastore, 1) := by decide +kernel
theorem dX1_turn_177 : decode cX1_turn 177 = .ok (.iinc 11 1, 3) := by decide +kernel
theorem dX1_turn_180 : decode cX1_turn 180 = .ok (.goto (-33), 3) := by decide +kernel
theorem dX1_turn_183 : decode cX1_turn 183 = .ok (.iconst 0, 1) := by decide +kernel
theorem dX1_turn_184 : decode cX1_turn 184 = .ok (.istore 11, 2) := by decide +kernel
theorem dX1_turn_186 : decode cX1_turn 186 = .ok (.iload 11, 2) := by decide +kernel
theorem dX1_turn_188 : decode cX1_turn 188 = .ok (.iload_n 2, 1) := by decide +kernel
theorem dX1_turn_189 : decode cX1_turn 189 = .ok (.if_icmp .ge 89, 3) := by decide +kernel
theorem dX1_turn_192 : decode cX1_turn 192 = .ok (.lconst 0, 1) := by decide +kernel
theorem dX1_turn_193 : decode cX1_turn 193 = .ok (.lstore 12, 2) := by decide +kernel
theorem dX1_turn_195 : decode cX1_turn 195 = .ok (.iconst 0, 1) := by decide +kernel
theorem dX1_turn_196 : decode cX1_turn 196 = .ok (.istore 14, 2) := by decide +kernel
theorem dX1_turn_198 : decode cX1_turn 198 = .ok (.iconst 0, 1) := by decide +kernel
theorem dX1_turn_199 : decode cX1_turn 199 = .ok (.istore 15, 2) := by decide +kernel
theorem dX1_turn_201 : decode cX1_turn 201 = .ok (.iload 15, 2) := by decide +kernel
theorem dX1_turn_203 : decode cX1_turn 203 = .ok (.iload_n 2, 1) := by decide +kernel
theorem dX1_turn_204 : decode cX1_turn 204 = .ok (.if_icmp .ge 51, 3) := by decide +kernel
theorem dX1_turn_207 : decode cX1_turn 207 = .ok (.lload 12, 2) := by decide +kernel
theorem dX1_turn_209 : decode cX1_turn 209 = .ok (.aload_n 0, 1) := by decide +kernel
theorem dX1_turn_210 : decode cX1_turn 210 = .ok (.getfield 7, 3) := by decide +kernel
theorem dX1_turn_213 : decode cX1_turn 213 = .ok (.sipush 512, 3) := by decide +kernel
theorem dX1_turn_216 : decode cX1_turn 216 = .ok (.iload_n 1, 1) := by decide +kernel
theorem dX1_turn_217 : decode cX1_turn 217 = .ok (.imul, 1) := by decide +kernel
theorem dX1_turn_218 : decode cX1_turn 218 = .ok (.iload 15, 2) := by decide +kernel
theorem dX1_turn_220 : decode cX1_turn 220 = .ok (.iadd, 1) := by decide +kernel
theorem dX1_turn_221 : decode cX1_turn 221 = .ok (.laload, 1) := by decide +kernel
theorem dX1_turn_222 : decode cX1_turn 222 = .ok (.aload_n 0, 1) := by decide +kernel
theorem dX1_turn_223 : decode cX1_turn 223 = .ok (.getfield 19, 3) := by decide +kernel
theorem dX1_turn_226 : decode cX1_turn 226 = .ok (.iload 14, 2) := by decide +kernel
theorem dX1_turn_228 : decode cX1_turn 228 = .ok (.laload, 1) := by decide +kernel
theorem dX1_turn_229 : decode cX1_turn 229 = .ok (.lmul, 1) := by decide +kernel
theorem dX1_turn_230 : decode cX1_turn 230 = .ok (.ladd, 1) := by decide +kernel
theorem dX1_turn_231 : decode cX1_turn 231 = .ok (.aload_n 0, 1) := by decide +kernel
theorem dX1_turn_232 : decode cX1_turn 232 = .ok (.getfield 27, 3) := by decide +kernel
theorem dX1_turn_235 : decode cX1_turn 235 = .ok (.lrem, 1) := by decide +kernel
theorem dX1_turn_236 : decode cX1_turn 236 = .ok (.lstore 12, 2) := by decide +kernel
theorem dX1_turn_238 : decode cX1_turn 238 = .ok (.iload 14, 2) := by decide +kernel
theorem dX1_turn_240 : decode cX1_turn 240 = .ok (.iload 11, 2) := by decide +kernel
theorem dX1_turn_242 : decode cX1_turn 242 = .ok (.iadd, 1) := by decide +kernel
theorem dX1_turn_243 : decode cX1_turn 243 = .ok (.iload_n 2, 1) := by decide +kernel
theorem dX1_turn_244 : decode cX1_turn 244 = .ok (.iconst 1, 1) := by decide +kernel
theorem dX1_turn_245 : decode cX1_turn 245 = .ok (.isub, 1) := by decide +kernel
theorem dX1_turn_246 : decode cX1_turn 246 = .ok (.iand, 1) := by decide +kernel
theorem dX1_turn_247 : decode cX1_turn 247 = .ok (.istore 14, 2) := by decide +kernel
theorem dX1_turn_249 : decode cX1_turn 249 = .ok (.iinc 15 1, 3) := by decide +kernel
theorem dX1_turn_252 : decode cX1_turn 252 = .ok (.goto (-51), 3) := by decide +kernel
theorem dX1_turn_255 : decode cX1_turn 255 = .ok (.aload_n 0, 1) := by decide +kernel
theorem dX1_turn_256 : decode cX1_turn 256 = .ok (.getfield 16, 3) := by decide +kernel
theorem dX1_turn_259 : decode cX1_turn 259 = .ok (.iload 11, 2) := by decide +kernel
theorem dX1_turn_261 : decode cX1_turn 261 = .ok (.lload 12, 2) := by decide +kernel
theorem dX1_turn_263 : decode cX1_turn 263 = .ok (.lload 9, 2) := by decide +kernel
theorem dX1_turn_265 : decode cX1_turn 265 = .ok (.lmul, 1) := by decide +kernel
theorem dX1_turn_266 : decode cX1_turn 266 = .ok (.aload_n 0, 1) := by decide +kernel
theorem dX1_turn_267 : decode cX1_turn 267 = .ok (.getfield 27, 3) := by decide +kernel
theorem dX1_turn_270 : decode cX1_turn 270 = .ok (.lrem, 1) := by decide +kernel
theorem dX1_turn_271 : decode cX1_turn 271 = .ok (.lastore, 1) := by decide +kernel
theorem dX1_turn_272 : decode cX1_turn 272 = .ok (.iinc 11 1, 3) := by decide +kernel
theorem dX1_turn_275 : decode cX1_turn 275 = .ok (.goto (-89), 3) := by decide +kernel
theorem dX1_turn_278 : decode cX1_turn 278 = .ok (.iconst 0, 1) := by decide +kernel
theorem dX1_turn_279 : decode cX1_turn 279 = .ok (.istore 11, 2) := by decide +kernel
theorem dX1_turn_281 : decode cX1_turn 281 = .ok (.iload 11, 2) := by decide +kernel
theorem dX1_turn_283 : decode cX1_turn 283 = .ok (.iload_n 2, 1) := by decide +kernel
theorem dX1_turn_284 : decode cX1_turn 284 = .ok (.if_icmp .ge 29, 3) := by decide +kernel
theorem dX1_turn_287 : decode cX1_turn 287 = .ok (.aload_n 0, 1) := by decide +kernel
theorem dX1_turn_288 : decode cX1_turn 288 = .ok (.getfield 7, 3) := by decide +kernel
theorem dX1_turn_291 : decode cX1_turn 291 = .ok (.sipush 512, 3) := by decide +kernel
theorem dX1_turn_294 : decode cX1_turn 294 = .ok (.iload_n 1, 1) := by decide +kernel
theorem dX1_turn_295 : decode cX1_turn 295 = .ok (.imul, 1) := by decide +kernel
theorem dX1_turn_296 : decode cX1_turn 296 = .ok (.iload 11, 2) := by decide +kernel
theorem dX1_turn_298 : decode cX1_turn 298 = .ok (.iadd, 1) := by decide +kernel
theorem dX1_turn_299 : decode cX1_turn 299 = .ok (.aload_n 0, 1) := by decide +kernel
theorem dX1_turn_300 : decode cX1_turn 300 = .ok (.getfield 16, 3) := by decide +kernel
theorem dX1_turn_303 : decode cX1_turn 303 = .ok (.iload 11, 2) := by decide +kernel
theorem dX1_turn_305 : decode cX1_turn 305 = .ok (.laload, 1) := by decide +kernel
theorem dX1_turn_306 : decode cX1_turn 306 = .ok (.lastore, 1) := by decide +kernel
theorem dX1_turn_307 : decode cX1_turn 307 = .ok (.iinc 11 1, 3) := by decide +kernel
theorem dX1_turn_310 : decode cX1_turn 310 = .ok (.goto (-29), 3) := by decide +kernel
theorem dX1_turn_313 : decode cX1_turn 313 = .ok (.return_, 1) := by decide +kernel
set_option maxRecDepth 20000 in
theorem ggX1_product_X1_isRow : GoodIn wsX1_product wsX1_isRow := goodIn_r _ [8] (by decide +kernel) (by decide +kernel)
set_option maxRecDepth 20000 in
theorem gX1_product_X1_isRow : GoodIn wsX1_product (va_wsS RX1 63 yX1_isRow wsX1_isRow) := goodIn_app (goodIn_of _ (by decide +kernel)) ggX1_product_X1_isRow
set_option maxRecDepth 20000 in
theorem ggX1_product_X1_lengthOf : GoodIn wsX1_product wsX1_lengthOf := goodIn_r _ [12, 3, 13, 14, 15, 16, 17, 18, 19, 20] (by decide +kernel) (by decide +kernel)
set_option maxRecDepth 20000 in
theorem gX1_product_X1_lengthOf : GoodIn wsX1_product (wsV RX1 67 RX1 yX1_lengthOf wsX1_lengthOf) := goodIn_app (goodIn_of _ (by decide +kernel)) ggX1_product_X1_lengthOf
theorem dX1_product_0 : decode cX1_product 0 = .ok (.iload_n 1, 1) := by decide +kernel
theorem dX1_product_1 : decode cX1_product 1 = .ok (.invokestatic 63, 3) := by decide +kernel
theorem dX1_product_4 : decode cX1_product 4 = .ok (.ifCond .eq 21, 3) := by decide +kernel
theorem dX1_product_7 : decode cX1_product 7 = .ok (.iload_n 2, 1) := by decide +kernel
theorem dX1_product_8 : decode cX1_product 8 = .ok (.invokestatic 63, 3) := by decide +kernel
theorem dX1_product_11 : decode cX1_product 11 = .ok (.ifCond .eq 14, 3) := by decide +kernel
theorem dX1_product_14 : decode cX1_product 14 = .ok (.iload_n 3, 1) := by decide +kernel
theorem dX1_product_15 : decode cX1_product 15 = .ok (.invokestatic 63, 3) := by decide +kernel
theorem dX1_product_18 : decode cX1_product 18 = .ok (.ifCond .eq 7, 3) := by decide +kernel
theorem dX1_product_21 : decode cX1_product 21 = .ok (.iconst 1, 1) := by decide +kernel
theorem dX1_product_22 : decode cX1_product 22 = .ok (.goto 4, 3) := by decide +kernel
theorem dX1_product_25 : decode cX1_product 25 = .ok (.iconst 0, 1) := by decide +kernel
theorem dX1_product_26 : decode cX1_product 26 = .ok (.istore 4, 2) := by decide +kernel
theorem dX1_product_28 : decode cX1_product 28 = .ok (.iload 4, 2) := by decide +kernel
theorem dX1_product_30 : decode cX1_product 30 = .ok (.ifCond .eq 11, 3) := by decide +kernel
theorem dX1_product_33 : decode cX1_product 33 = .ok (.aload_n 0, 1) := by decide +kernel
theorem dX1_product_34 : decode cX1_product 34 = .ok (.iload_n 2, 1) := by decide +kernel
theorem dX1_product_35 : decode cX1_product 35 = .ok (.invokevirtual 67, 3) := by decide +kernel
theorem dX1_product_38 : decode cX1_product 38 = .ok (.goto 4, 3) := by decide +kernel
theorem dX1_product_41 : decode cX1_product 41 = .ok (.iconst 0, 1) := by decide +kernel
theorem dX1_product_42 : decode cX1_product 42 = .ok (.istore 5, 2) := by decide +kernel
theorem dX1_product_44 : decode cX1_product 44 = .ok (.iload 4, 2) := by decide +kernel
theorem dX1_product_46 : decode cX1_product 46 = .ok (.ifCond .eq 11, 3) := by decide +kernel
theorem dX1_product_49 : decode cX1_product 49 = .ok (.aload_n 0, 1) := by decide +kernel
theorem dX1_product_50 : decode cX1_product 50 = .ok (.iload_n 3, 1) := by decide +kernel
theorem dX1_product_51 : decode cX1_product 51 = .ok (.invokevirtual 67, 3) := by decide +kernel
theorem dX1_product_54 : decode cX1_product 54 = .ok (.goto 4, 3) := by decide +kernel
theorem dX1_product_57 : decode cX1_product 57 = .ok (.iconst 0, 1) := by decide +kernel
theorem dX1_product_58 : decode cX1_product 58 = .ok (.istore 6, 2) := by decide +kernel
theorem dX1_product_60 : decode cX1_product 60 = .ok (.aload_n 0, 1) := by decide +kernel
theorem dX1_product_61 : decode cX1_product 61 = .ok (.iload 4, 2) := by decide +kernel
theorem dX1_product_63 : decode cX1_product 63 = .ok (.ifCond .ne 7, 3) := by decide +kernel
theorem dX1_product_66 : decode cX1_product 66 = .ok (.iconst 1, 1) := by decide +kernel
theorem dX1_product_67 : decode cX1_product 67 = .ok (.goto 31, 3) := by decide +kernel
theorem dX1_product_70 : decode cX1_product 70 = .ok (.iload 5, 2) := by decide +kernel
theorem dX1_product_72 : decode cX1_product 72 = .ok (.ifCond .le 25, 3) := by decide +kernel
theorem dX1_product_75 : decode cX1_product 75 = .ok (.iload 6, 2) := by decide +kernel
theorem dX1_product_77 : decode cX1_product 77 = .ok (.ifCond .le 20, 3) := by decide +kernel
theorem dX1_product_80 : decode cX1_product 80 = .ok (.iload 5, 2) := by decide +kernel
theorem dX1_product_82 : decode cX1_product 82 = .ok (.iload 6, 2) := by decide +kernel
theorem dX1_product_84 : decode cX1_product 84 = .ok (.iadd, 1) := by decide +kernel
theorem dX1_product_85 : decode cX1_product 85 = .ok (.iconst 1, 1) := by decide +kernel
theorem dX1_product_86 : decode cX1_product 86 = .ok (.isub, 1) := by decide +kernel
theorem dX1_product_87 : decode cX1_product 87 = .ok (.sipush 512, 3) := by decide +kernel
theorem dX1_product_90 : decode cX1_product 90 = .ok (.if_icmp .le 7, 3) := by decide +kernel
theorem dX1_product_93 : decode cX1_product 93 = .ok (.iconst 2, 1) := by decide +kernel
theorem dX1_product_94 : decode cX1_product 94 = .ok (.goto 4, 3) := by decide +kernel
theorem dX1_product_97 : decode cX1_product 97 = .ok (.iconst 0, 1) := by decide +kernel
theorem dX1_product_98 : decode cX1_product 98 = .ok (.putfield 38, 3) := by decide +kernel
theorem dX1_product_101 : decode cX1_product 101 = .ok (.aload_n 0, 1) := by decide +kernel
theorem dX1_product_102 : decode cX1_product 102 = .ok (.getfield 38, 3) := by decide +kernel
theorem dX1_product_105 : decode cX1_product 105 = .ok (.ifCond .le 5, 3) := by decide +kernel
theorem dX1_product_108 : decode cX1_product 108 = .ok (.iconst 0, 1) := by decide +kernel
theorem dX1_product_109 : decode cX1_product 109 = .ok (.ireturn, 1) := by decide +kernel
theorem dX1_product_110 : decode cX1_product 110 = .ok (.iconst 0, 1) := by decide +kernel
theorem dX1_product_111 : decode cX1_product 111 = .ok (.istore 7, 2) := by decide +kernel
theorem dX1_product_113 : decode cX1_product 113 = .ok (.iload 7, 2) := by decide +kernel
theorem dX1_product_115 : decode cX1_product 115 = .ok (.sipush 512, 3) := by decide +kernel
theorem dX1_product_118 : decode cX1_product 118 = .ok (.if_icmp .ge 17, 3) := by decide +kernel
theorem dX1_product_121 : decode cX1_product 121 = .ok (.aload_n 0, 1) := by decide +kernel
theorem dX1_product_122 : decode cX1_product 122 = .ok (.getfield 16, 3) := by decide +kernel
theorem dX1_product_125 : decode cX1_product 125 = .ok (.iload 7, 2) := by decide +kernel
theorem dX1_product_127 : decode cX1_product 127 = .ok (.lconst 0, 1) := by decide +kernel
theorem dX1_product_128 : decode cX1_product 128 = .ok (.lastore, 1) := by decide +kernel
theorem dX1_product_129 : decode cX1_product 129 = .ok (.iinc 7 1, 3) := by decide +kernel
theorem dX1_product_132 : decode cX1_product 132 = .ok (.goto (-19), 3) := by decide +kernel
theorem dX1_product_135 : decode cX1_product 135 = .ok (.iconst 0, 1) := by decide +kernel
theorem dX1_product_136 : decode cX1_product 136 = .ok (.istore 7, 2) := by decide +kernel
theorem dX1_product_138 : decode cX1_product 138 = .ok (.iload 7, 2) := by decide +kernel
theorem dX1_product_140 : decode cX1_product 140 = .ok (.iload 5, 2) := by decide +kernel
theorem dX1_product_142 : decode cX1_product 142 = .ok (.if_icmp .ge 78, 3) := by decide +kernel
theorem dX1_product_145 : decode cX1_product 145 = .ok (.iconst 0, 1) := by decide +kernel
theorem dX1_product_146 : decode cX1_product 146 = .ok (.istore 8, 2) := by decide +kernel
theorem dX1_product_148 : decode cX1_product 148 = .ok (.iload 8, 2) := by decide +kernel
theorem dX1_product_150 : decode cX1_product 150 = .ok (.iload 6, 2) := by decide +kernel
theorem dX1_product_152 : decode cX1_product 152 = .ok (.if_icmp .ge 62, 3) := by decide +kernel
theorem dX1_product_155 : decode cX1_product 155 = .ok (.aload_n 0, 1) := by decide +kernel
theorem dX1_product_156 : decode cX1_product 156 = .ok (.getfield 16, 3) := by decide +kernel
theorem dX1_product_159 : decode cX1_product 159 = .ok (.iload 7, 2) := by decide +kernel
theorem dX1_product_161 : decode cX1_product 161 = .ok (.iload 8, 2) := by decide +kernel
theorem dX1_product_163 : decode cX1_product 163 = .ok (.iadd, 1) := by decide +kernel
theorem dX1_product_164 : decode cX1_product 164 = .ok (.aload_n 0, 1) := by decide +kernel
theorem dX1_product_165 : decode cX1_product 165 = .ok (.getfield 16, 3) := by decide +kernel
theorem dX1_product_168 : decode cX1_product 168 = .ok (.iload 7, 2) := by decide +kernel
theorem dX1_product_170 : decode cX1_product 170 = .ok (.iload 8, 2) := by decide +kernel
theorem dX1_product_172 : decode cX1_product 172 = .ok (.iadd, 1) := by decide +kernel
theorem dX1_product_173 : decode cX1_product 173 = .ok (.laload, 1) := by decide +kernel
theorem dX1_product_174 : decode cX1_product 174 = .ok (.aload_n 0, 1) := by decide +kernel
theorem dX1_product_175 : decode cX1_product 175 = .ok (.getfield 7, 3) := by decide +kernel
theorem dX1_product_178 : decode cX1_product 178 = .ok (.sipush 512, 3) := by decide +kernel
theorem dX1_product_181 : decode cX1_product 181 = .ok (.iload_n 2, 1) := by decide +kernel
theorem dX1_product_182 : decode cX1_product 182 = .ok (.imul, 1) := by decide +kernel
theorem dX1_product_183 : decode cX1_product 183 = .ok (.iload 7, 2) := by decide +kernel
theorem dX1_product_185 : decode cX1_product 185 = .ok (.iadd, 1) := by decide +kernel
theorem dX1_product_186 : decode cX1_product 186 = .ok (.laload, 1) := by decide +kernel
theorem dX1_product_187 : decode cX1_product 187 = .ok (.aload_n 0, 1) := by decide +kernel
theorem dX1_product_188 : decode cX1_product 188 = .ok (.getfield 7, 3) := by decide +kernel
theorem dX1_product_191 : decode cX1_product 191 = .ok (.sipush 512, 3) := by decide +kernel
theorem dX1_product_194 : decode cX1_product 194 = .ok (.iload_n 3, 1) := by decide +kernel
theorem dX1_product_195 : decode cX1_product 195 = .ok (.imul, 1) := by decide +kernel
theorem dX1_product_196 : decode cX1_product 196 = .ok (.iload 8, 2) := by decide +kernel
theorem dX1_product_198 : decode cX1_product 198 = .ok (.iadd, 1) := by decide +kernel
theorem dX1_product_199 : decode cX1_product 199 = .ok (.laload, 1) := by decide +kernel
theorem dX1_product_200 : decode cX1_product 200 = .ok (.lmul, 1) := by decide +kernel
theorem dX1_product_201 : decode cX1_product 201 = .ok (.ladd, 1) := by decide +kernel
theorem dX1_product_202 : decode cX1_product 202 = .ok (.aload_n 0, 1) := by decide +kernel
theorem dX1_product_203 : decode cX1_product 203 = .ok (.getfield 27, 3) := by decide +kernel
theorem dX1_product_206 : decode cX1_product 206 = .ok (.lrem, 1) := by decide +kernel
theorem dX1_product_207 : decode cX1_product 207 = .ok (.lastore, 1) := by decide +kernel
theorem dX1_product_208 : decode cX1_product 208 = .ok (.iinc 8 1, 3) := by decide +kernel
theorem dX1_product_211 : decode cX1_product 211 = .ok (.goto (-63), 3) := by decide +kernel
theorem dX1_product_214 : decode cX1_product 214 = .ok (.iinc 7 1, 3) := by decide +kernel
theorem dX1_product_217 : decode cX1_product 217 = .ok (.goto (-79), 3) := by decide +kernel
theorem dX1_product_220 : decode cX1_product 220 = .ok (.iconst 0, 1) := by decide +kernel
theorem dX1_product_221 : decode cX1_product 221 = .ok (.istore 7, 2) := by decide +kernel
theorem dX1_product_223 : decode cX1_product 223 = .ok (.iload 7, 2) := by decide +kernel
theorem dX1_product_225 : decode cX1_product 225 = .ok (.sipush 512, 3) := by decide +kernel
theorem dX1_product_228 : decode cX1_product 228 = .ok (.if_icmp .ge 29, 3) := by decide +kernel
theorem dX1_product_231 : decode cX1_product 231 = .ok (.aload_n 0, 1) := by decide +kernel
theorem dX1_product_232 : decode cX1_product 232 = .ok (.getfield 7, 3) := by decide +kernel
theorem dX1_product_235 : decode cX1_product 235 = .ok (.sipush 512, 3) := by decide +kernel
theorem dX1_product_238 : decode cX1_product 238 = .ok (.iload_n 1, 1) := by decide +kernel
theorem dX1_product_239 : decode cX1_product 239 = .ok (.imul, 1) := by decide +kernel
theorem dX1_product_240 : decode cX1_product 240 = .ok (.iload 7, 2) := by decide +kernel
theorem dX1_product_242 : decode cX1_product 242 = .ok (.iadd, 1) := by decide +kernel
theorem dX1_product_243 : decode cX1_product 243 = .ok (.aload_n 0, 1) := by decide +kernel
theorem dX1_product_244 : decode cX1_product 244 = .ok (.getfield 16, 3) := by decide +kernel
theorem dX1_product_247 : decode cX1_product 247 = .ok (.iload 7, 2) := by decide +kernel
theorem dX1_product_249 : decode cX1_product 249 = .ok (.laload, 1) := by decide +kernel
theorem dX1_product_250 : decode cX1_product 250 = .ok (.lastore, 1) := by decide +kernel
theorem dX1_product_251 : decode cX1_product 251 = .ok (.iinc 7 1, 3) := by decide +kernel
theorem dX1_product_254 : decode cX1_product 254 = .ok (.goto (-31), 3) := by decide +kernel
theorem dX1_product_257 : decode cX1_product 257 = .ok (.aload_n 0, 1) := by decide +kernel
theorem dX1_product_258 : decode cX1_product 258 = .ok (.iload_n 1, 1) := by decide +kernel
theorem dX1_product_259 : decode cX1_product 259 = .ok (.invokevirtual 67, 3) := by decide +kernel
theorem dX1_product_262 : decode cX1_product 262 = .ok (.ireturn, 1) := by decide +kernel
set_option maxRecDepth 20000 in
theorem ggX1_at_X1_isRow : GoodIn wsX1_at wsX1_isRow := goodIn_r _ [7] (by decide +kernel) (by decide +kernel)
set_option maxRecDepth 20000 in
theorem gX1_at_X1_isRow : GoodIn wsX1_at (va_wsS RX1 63 yX1_isRow wsX1_isRow) := goodIn_app (goodIn_of _ (by decide +kernel)) ggX1_at_X1_isRow
set_option maxRecDepth 20000 in
theorem ggX1_at_X1_rest : GoodIn wsX1_at wsX1_rest := goodIn_r _ [11, 3, 12, 13, 14, 15, 16, 17, 18, 19] (by decide +kernel) (by decide +kernel)
set_option maxRecDepth 20000 in
theorem gX1_at_X1_rest : GoodIn wsX1_at (wsV RX1 60 RX1 yX1_rest wsX1_rest) := goodIn_app (goodIn_of _ (by decide +kernel)) ggX1_at_X1_rest
theorem dX1_at_0 : decode cX1_at 0 = .ok (.aload_n 0, 1) := by decide +kernel
theorem dX1_at_1 : decode cX1_at 1 = .ok (.iload_n 1, 1) := by decide +kernel
theorem dX1_at_2 : decode cX1_at 2 = .ok (.invokestatic 63, 3) := by decide +kernel
theorem dX1_at_5 : decode cX1_at 5 = .ok (.ifCond .eq 7, 3) := by decide +kernel
theorem dX1_at_8 : decode cX1_at 8 = .ok (.iconst 0, 1) := by decide +kernel
theorem dX1_at_9 : decode cX1_at 9 = .ok (.goto 4, 3) := by decide +kernel
theorem dX1_at_12 : decode cX1_at 12 = .ok (.iconst 1, 1) := by decide +kernel
theorem dX1_at_13 : decode cX1_at 13 = .ok (.putfield 38, 3) := by decide +kernel
theorem dX1_at_16 : decode cX1_at 16 = .ok (.lconst 0, 1) := by decide +kernel
theorem dX1_at_17 : decode cX1_at 17 = .ok (.lstore 4, 2) := by decide +kernel
theorem dX1_at_19 : decode cX1_at 19 = .ok (.aload_n 0, 1) := by decide +kernel
theorem dX1_at_20 : decode cX1_at 20 = .ok (.lload_n 2, 1) := by decide +kernel
theorem dX1_at_21 : decode cX1_at 21 = .ok (.invokevirtual 60, 3) := by decide +kernel
theorem dX1_at_24 : decode cX1_at 24 = .ok (.lstore 6, 2) := by decide +kernel
theorem dX1_at_26 : decode cX1_at 26 = .ok (.sipush 511, 3) := by decide +kernel
theorem dX1_at_29 : decode cX1_at 29 = .ok (.istore 8, 2) := by decide +kernel
theorem dX1_at_31 : decode cX1_at 31 = .ok (.iload 8, 2) := by decide +kernel
theorem dX1_at_33 : decode cX1_at 33 = .ok (.ifCond .lt 42, 3) := by decide +kernel
theorem dX1_at_36 : decode cX1_at 36 = .ok (.aload_n 0, 1) := by decide +kernel
theorem dX1_at_37 : decode cX1_at 37 = .ok (.getfield 38, 3) := by decide +kernel
theorem dX1_at_40 : decode cX1_at 40 = .ok (.ifCond .ne 35, 3) := by decide +kernel
theorem dX1_at_43 : decode cX1_at 43 = .ok (.lload 4, 2) := by decide +kernel
theorem dX1_at_45 : decode cX1_at 45 = .ok (.lload 6, 2) := by decide +kernel
theorem dX1_at_47 : decode cX1_at 47 = .ok (.lmul, 1) := by decide +kernel
theorem dX1_at_48 : decode cX1_at 48 = .ok (.aload_n 0, 1) := by decide +kernel
theorem dX1_at_49 : decode cX1_at 49 = .ok (.getfield 7, 3) := by decide +kernel
theorem dX1_at_52 : decode cX1_at 52 = .ok (.sipush 512, 3) := by decide +kernel
theorem dX1_at_55 : decode cX1_at 55 = .ok (.iload_n 1, 1) := by decide +kernel
theorem dX1_at_56 : decode cX1_at 56 = .ok (.imul, 1) := by decide +kernel
theorem dX1_at_57 : decode cX1_at 57 = .ok (.iload 8, 2) := by decide +kernel
theorem dX1_at_59 : decode cX1_at 59 = .ok (.iadd, 1) := by decide +kernel
theorem dX1_at_60 : decode cX1_at 60 = .ok (.laload, 1) := by decide +kernel
theorem dX1_at_61 : decode cX1_at 61 = .ok (.ladd, 1) := by decide +kernel
theorem dX1_at_62 : decode cX1_at 62 = .ok (.aload_n 0, 1) := by decide +kernel
theorem dX1_at_63 : decode cX1_at 63 = .ok (.getfield 27, 3) := by decide +kernel
theorem dX1_at_66 : decode cX1_at 66 = .ok (.lrem, 1) := by decide +kernel
theorem dX1_at_67 : decode cX1_at 67 = .ok (.lstore 4, 2) := by decide +kernel
theorem dX1_at_69 : decode cX1_at 69 = .ok (.iinc 8 (-1), 3) := by decide +kernel
theorem dX1_at_72 : decode cX1_at 72 = .ok (.goto (-41), 3) := by decide +kernel
theorem dX1_at_75 : decode cX1_at 75 = .ok (.lload 4, 2) := by decide +kernel
theorem dX1_at_77 : decode cX1_at 77 = .ok (.lreturn, 1) := by decide +kernel
set_option maxRecDepth 20000 in
theorem ggX1_word_X1_isRow : GoodIn wsX1_word wsX1_isRow := goodIn_r _ [7] (by decide +kernel) (by decide +kernel)
set_option maxRecDepth 20000 in
theorem gX1_word_X1_isRow : GoodIn wsX1_word (va_wsS RX1 63 yX1_isRow wsX1_isRow) := goodIn_app (goodIn_of _ (by decide +kernel)) ggX1_word_X1_isRow
theorem dX1_word_0 : decode cX1_word 0 = .ok (.aload_n 0, 1) := by decide +kernel
theorem dX1_word_1 : decode cX1_word 1 = .ok (.iload_n 1, 1) := by decide +kernel
theorem dX1_word_2 : decode cX1_word 2 = .ok (.invokestatic 63, 3) := by decide +kernel
theorem dX1_word_5 : decode cX1_word 5 = .ok (.ifCond .eq 18, 3) := by decide +kernel
theorem dX1_word_8 : decode cX1_word 8 = .ok (.iload_n 2, 1) := by decide +kernel
theorem dX1_word_9 : decode cX1_word 9 = .ok (.ifCond .lt 14, 3) := by decide +kernel
theorem dX1_word_12 : decode cX1_word 12 = .ok (.iload_n 2, 1) := by decide +kernel
theorem dX1_word_13 : decode cX1_word 13 = .ok (.sipush 240, 3) := by decide +kernel
theorem dX1_word_16 : decode cX1_word 16 = .ok (.if_icmp .ge 7, 3) := by decide +kernel
theorem dX1_word_19 : decode cX1_word 19 = .ok (.iconst 0, 1) := by decide +kernel
theorem dX1_word_20 : decode cX1_word 20 = .ok (.goto 4, 3) := by decide +kernel
theorem dX1_word_23 : decode cX1_word 23 = .ok (.iconst 1, 1) := by decide +kernel
theorem dX1_word_24 : decode cX1_word 24 = .ok (.putfield 38, 3) := by decide +kernel
theorem dX1_word_27 : decode cX1_word 27 = .ok (.aload_n 0, 1) := by decide +kernel
theorem dX1_word_28 : decode cX1_word 28 = .ok (.getfield 38, 3) := by decide +kernel
theorem dX1_word_31 : decode cX1_word 31 = .ok (.ifCond .le 5, 3) := by decide +kernel
theorem dX1_word_34 : decode cX1_word 34 = .ok (.iconst 0, 1) := by decide +kernel
theorem dX1_word_35 : decode cX1_word 35 = .ok (.ireturn, 1) := by decide +kernel
theorem dX1_word_36 : decode cX1_word 36 = .ok (.sipush 240, 3) := by decide +kernel
theorem dX1_word_39 : decode cX1_word 39 = .ok (.iload_n 1, 1) := by decide +kernel
theorem dX1_word_40 : decode cX1_word 40 = .ok (.imul, 1) := by decide +kernel
theorem dX1_word_41 : decode cX1_word 41 = .ok (.iload_n 2, 1) := by decide +kernel
theorem dX1_word_42 : decode cX1_word 42 = .ok (.iadd, 1) := by decide +kernel
theorem dX1_word_43 : decode cX1_word 43 = .ok (.istore 5, 2) := by decide +kernel
theorem dX1_word_45 : decode cX1_word 45 = .ok (.aload_n 0, 1) := by decide +kernel
theorem dX1_word_46 : decode cX1_word 46 = .ok (.getfield 13, 3) := by decide +kernel
theorem dX1_word_49 : decode cX1_word 49 = .ok (.iload 5, 2) := by decide +kernel
theorem dX1_word_51 : decode cX1_word 51 = .ok (.laload, 1) := by decide +kernel
theorem dX1_word_52 : decode cX1_word 52 = .ok (.lload_n 3, 1) := by decide +kernel
theorem dX1_word_53 : decode cX1_word 53 = .ok (.ldc2_w 71, 3) := by decide +kernel
theorem dX1_word_56 : decode cX1_word 56 = .ok (.land, 1) := by decide +kernel
theorem dX1_word_57 : decode cX1_word 57 = .ok (.lcmp, 1) := by decide +kernel
theorem dX1_word_58 : decode cX1_word 58 = .ok (.ifCond .eq 7, 3) := by decide +kernel
theorem dX1_word_61 : decode cX1_word 61 = .ok (.iconst 1, 1) := by decide +kernel
theorem dX1_word_62 : decode cX1_word 62 = .ok (.goto 4, 3) := by decide +kernel
theorem dX1_word_65 : decode cX1_word 65 = .ok (.iconst 0, 1) := by decide +kernel
theorem dX1_word_66 : decode cX1_word 66 = .ok (.istore 6, 2) := by decide +kernel
theorem dX1_word_68 : decode cX1_word 68 = .ok (.aload_n 0, 1) := by decide +kernel
theorem dX1_word_69 : decode cX1_word 69 = .ok (.getfield 13, 3) := by decide +kernel
theorem dX1_word_72 : decode cX1_word 72 = .ok (.iload 5, 2) := by decide +kernel
theorem dX1_word_74 : decode cX1_word 74 = .ok (.lload_n 3, 1) := by decide +kernel
theorem dX1_word_75 : decode cX1_word 75 = .ok (.ldc2_w 71, 3) := by decide +kernel
theorem dX1_word_78 : decode cX1_word 78 = .ok (.land, 1) := by decide +kernel
theorem dX1_word_79 : decode cX1_word 79 = .ok (.lastore, 1) := by decide +kernel
theorem dX1_word_80 : decode cX1_word 80 = .ok (.iload 6, 2) := by decide +kernel
theorem dX1_word_82 : decode cX1_word 82 = .ok (.ireturn, 1) := by decide +kernel
set_option maxRecDepth 20000 in
theorem ggX1_wordAt_X1_isRow : GoodIn wsX1_wordAt wsX1_isRow := goodIn_r _ [6] (by decide +kernel) (by decide +kernel)
set_option maxRecDepth 20000 in
theorem gX1_wordAt_X1_isRow : GoodIn wsX1_wordAt (va_wsS RX1 63 yX1_isRow wsX1_isRow) := goodIn_app (goodIn_of _ (by decide +kernel)) ggX1_wordAt_X1_isRow
theorem dX1_wordAt_0 : decode cX1_wordAt 0 = .ok (.aload_n 0, 1) := by decide +kernel
theorem dX1_wordAt_1 : decode cX1_wordAt 1 = .ok (.iload_n 1, 1) := by decide +kernel
theorem dX1_wordAt_2 : decode cX1_wordAt 2 = .ok (.invokestatic 63, 3) := by decide +kernel
theorem dX1_wordAt_5 : decode cX1_wordAt 5 = .ok (.ifCond .eq 18, 3) := by decide +kernel
theorem dX1_wordAt_8 : decode cX1_wordAt 8 = .ok (.iload_n 2, 1) := by decide +kernel
theorem dX1_wordAt_9 : decode cX1_wordAt 9 = .ok (.ifCond .lt 14, 3) := by decide +kernel
theorem dX1_wordAt_12 : decode cX1_wordAt 12 = .ok (.iload_n 2, 1) := by decide +kernel
theorem dX1_wordAt_13 : decode cX1_wordAt 13 = .ok (.sipush 240, 3) := by decide +kernel
theorem dX1_wordAt_16 : decode cX1_wordAt 16 = .ok (.if_icmp .ge 7, 3) := by decide +kernel
theorem dX1_wordAt_19 : decode cX1_wordAt 19 = .ok (.iconst 0, 1) := by decide +kernel
theorem dX1_wordAt_20 : decode cX1_wordAt 20 = .ok (.goto 4, 3) := by decide +kernel
theorem dX1_wordAt_23 : decode cX1_wordAt 23 = .ok (.iconst 1, 1) := by decide +kernel
theorem dX1_wordAt_24 : decode cX1_wordAt 24 = .ok (.putfield 38, 3) := by decide +kernel
theorem dX1_wordAt_27 : decode cX1_wordAt 27 = .ok (.aload_n 0, 1) := by decide +kernel
theorem dX1_wordAt_28 : decode cX1_wordAt 28 = .ok (.getfield 38, 3) := by decide +kernel
theorem dX1_wordAt_31 : decode cX1_wordAt 31 = .ok (.ifCond .le 7, 3) := by decide +kernel
theorem dX1_wordAt_34 : decode cX1_wordAt 34 = .ok (.lconst 0, 1) := by decide +kernel
theorem dX1_wordAt_35 : decode cX1_wordAt 35 = .ok (.goto 15, 3) := by decide +kernel
theorem dX1_wordAt_38 : decode cX1_wordAt 38 = .ok (.aload_n 0, 1) := by decide +kernel
theorem dX1_wordAt_39 : decode cX1_wordAt 39 = .ok (.getfield 13, 3) := by decide +kernel
theorem dX1_wordAt_42 : decode cX1_wordAt 42 = .ok (.sipush 240, 3) := by decide +kernel
theorem dX1_wordAt_45 : decode cX1_wordAt 45 = .ok (.iload_n 1, 1) := by decide +kernel
theorem dX1_wordAt_46 : decode cX1_wordAt 46 = .ok (.imul, 1) := by decide +kernel
theorem dX1_wordAt_47 : decode cX1_wordAt 47 = .ok (.iload_n 2, 1) := by decide +kernel
theorem dX1_wordAt_48 : decode cX1_wordAt 48 = .ok (.iadd, 1) := by decide +kernel
theorem dX1_wordAt_49 : decode cX1_wordAt 49 = .ok (.laload, 1) := by decide +kernel
theorem dX1_wordAt_50 : decode cX1_wordAt 50 = .ok (.lreturn, 1) := by decide +kernel
theorem dX1_sizeOf_0 : decode cX1_sizeOf 0 = .ok (.sipush 240, 3) := by decide +kernel
theorem dX1_sizeOf_3 : decode cX1_sizeOf 3 = .ok (.istore_n 2, 1) := by decide +kernel
theorem dX1_sizeOf_4 : decode cX1_sizeOf 4 = .ok (.iload_n 2, 1) := by decide +kernel
theorem dX1_sizeOf_5 : decode cX1_sizeOf 5 = .ok (.ifCond .le 28, 3) := by decide +kernel
theorem dX1_sizeOf_8 : decode cX1_sizeOf 8 = .ok (.aload_n 0, 1) := by decide +kernel
theorem dX1_sizeOf_9 : decode cX1_sizeOf 9 = .ok (.getfield 13, 3) := by decide +kernel
theorem dX1_sizeOf_12 : decode cX1_sizeOf 12 = .ok (.sipush 240, 3) := by decide +kernel
theorem dX1_sizeOf_15 : decode cX1_sizeOf 15 = .ok (.iload_n 1, 1) := by decide +kernel
theorem dX1_sizeOf_16 : decode cX1_sizeOf 16 = .ok (.imul, 1) := by decide +kernel
theorem dX1_sizeOf_17 : decode cX1_sizeOf 17 = .ok (.iload_n 2, 1) := by decide +kernel
theorem dX1_sizeOf_18 : decode cX1_sizeOf 18 = .ok (.iadd, 1) := by decide +kernel
theorem dX1_sizeOf_19 : decode cX1_sizeOf 19 = .ok (.iconst 1, 1) := by decide +kernel
theorem dX1_sizeOf_20 : decode cX1_sizeOf 20 = .ok (.isub, 1) := by decide +kernel
theorem dX1_sizeOf_21 : decode cX1_sizeOf 21 = .ok (.laload, 1) := by decide +kernel
theorem dX1_sizeOf_22 : decode cX1_sizeOf 22 = .ok (.lconst 0, 1) := by decide +kernel
theorem dX1_sizeOf_23 : decode cX1_sizeOf 23 = .ok (.lcmp, 1) := by decide +kernel
theorem dX1_sizeOf_24 : decode cX1_sizeOf 24 = .ok (.ifCond .ne 9, 3) := by decide +kernel
theorem dX1_sizeOf_27 : decode cX1_sizeOf 27 = .ok (.iinc 2 (-1), 3) := by decide +kernel
theorem dX1_sizeOf_30 : decode cX1_sizeOf 30 = .ok (.goto (-26), 3) := by decide +kernel
theorem dX1_sizeOf_33 : decode cX1_sizeOf 33 = .ok (.iload_n 2, 1) := by decide +kernel
theorem dX1_sizeOf_34 : decode cX1_sizeOf 34 = .ok (.ireturn, 1) := by decide +kernel
set_option maxRecDepth 20000 in
theorem ggX1_size_X1_isRow : GoodIn wsX1_size wsX1_isRow := goodIn_r _ [5] (by decide +kernel) (by decide +kernel)
set_option maxRecDepth 20000 in
theorem gX1_size_X1_isRow : GoodIn wsX1_size (va_wsS RX1 63 yX1_isRow wsX1_isRow) := goodIn_app (goodIn_of _ (by decide +kernel)) ggX1_size_X1_isRow
set_option maxRecDepth 20000 in
theorem ggX1_size_X1_sizeOf : GoodIn wsX1_size wsX1_sizeOf := goodIn_r _ [9, 10, 11, 12, 13, 14, 15, 16, 17, 18] (by decide +kernel) (by decide +kernel)
set_option maxRecDepth 20000 in
theorem gX1_size_X1_sizeOf : GoodIn wsX1_size (wsV RX1 73 RX1 yX1_sizeOf wsX1_sizeOf) := goodIn_app (goodIn_of _ (by decide +kernel)) ggX1_size_X1_sizeOf
theorem dX1_size_0 : decode cX1_size 0 = .ok (.aload_n 0, 1) := by decide +kernel
theorem dX1_size_1 : decode cX1_size 1 = .ok (.iload_n 1, 1) := by decide +kernel
theorem dX1_size_2 : decode cX1_size 2 = .ok (.invokestatic 63, 3) := by decide +kernel
theorem dX1_size_5 : decode cX1_size 5 = .ok (.ifCond .eq 7, 3) := by decide +kernel
theorem dX1_size_8 : decode cX1_size 8 = .ok (.iconst 0, 1) := by decide +kernel
theorem dX1_size_9 : decode cX1_size 9 = .ok (.goto 4, 3) := by decide +kernel
theorem dX1_size_12 : decode cX1_size 12 = .ok (.iconst 1, 1) := by decide +kernel
theorem dX1_size_13 : decode cX1_size 13 = .ok (.putfield 38, 3) := by decide +kernel
theorem dX1_size_16 : decode cX1_size 16 = .ok (.aload_n 0, 1) := by decide +kernel
theorem dX1_size_17 : decode cX1_size 17 = .ok (.getfield 38, 3) := by decide +kernel
theorem dX1_size_20 : decode cX1_size 20 = .ok (.ifCond .le 7, 3) := by decide +kernel
theorem dX1_size_23 : decode cX1_size 23 = .ok (.iconst 0, 1) := by decide +kernel
theorem dX1_size_24 : decode cX1_size 24 = .ok (.goto 8, 3) := by decide +kernel
theorem dX1_size_27 : decode cX1_size 27 = .ok (.aload_n 0, 1) := by decide +kernel
theorem dX1_size_28 : decode cX1_size 28 = .ok (.iload_n 1, 1) := by decide +kernel
theorem dX1_size_29 : decode cX1_size 29 = .ok (.invokevirtual 73, 3) := by decide +kernel
theorem dX1_size_32 : decode cX1_size 32 = .ok (.ireturn, 1) := by decide +kernel
theorem dX1_clearSums_0 : decode cX1_clearSums 0 = .ok (.iconst 0, 1) := by decide +kernel
theorem dX1_clearSums_1 : decode cX1_clearSums 1 = .ok (.istore_n 1, 1) := by decide +kernel
theorem dX1_clearSums_2 : decode cX1_clearSums 2 = .ok (.iload_n 1, 1) := by decide +kernel
theorem dX1_clearSums_3 : decode cX1_clearSums 3 = .ok (.sipush 240, 3) := by decide +kernel
theorem dX1_clearSums_6 : decode cX1_clearSums 6 = .ok (.if_icmp .gt 16, 3) := by decide +kernel
theorem dX1_clearSums_9 : decode cX1_clearSums 9 = .ok (.aload_n 0, 1) := by decide +kernel
theorem dX1_clearSums_10 : decode cX1_clearSums 10 = .ok (.getfield 22, 3) := by decide +kernel
theorem dX1_clearSums_13 : decode cX1_clearSums 13 = .ok (.iload_n 1, 1) := by decide +kernel
theorem dX1_clearSums_14 : decode cX1_clearSums 14 = .ok (.lconst 0, 1) := by decide +kernel
theorem dX1_clearSums_15 : decode cX1_clearSums 15 = .ok (.lastore, 1) := by decide +kernel
theorem dX1_clearSums_16 : decode cX1_clearSums 16 = .ok (.iinc 1 1, 3) := by decide +kernel
theorem dX1_clearSums_19 : decode cX1_clearSums 19 = .ok (.goto (-17), 3) := by decide +kernel
theorem dX1_clearSums_22 : decode cX1_clearSums 22 = .ok (.return_, 1) := by decide +kernel
set_option maxRecDepth 20000 in
theorem ggX1_take_X1_sizeOf : GoodIn wsX1_take wsX1_sizeOf := goodIn_r _ [7, 1, 8, 9, 10, 11, 12, 13, 14, 15] (by decide +kernel) (by decide +kernel)
set_option maxRecDepth 20000 in
theorem gX1_take_X1_sizeOf : GoodIn wsX1_take (wsV RX1 73 RX1 yX1_sizeOf wsX1_sizeOf) := goodIn_app (goodIn_of _ (by decide +kernel)) ggX1_take_X1_sizeOf
theorem dX1_take_0 : decode cX1_take 0 = .ok (.iconst 0, 1) := by decide +kernel
theorem dX1_take_1 : decode cX1_take 1 = .ok (.istore_n 2, 1) := by decide +kernel
theorem dX1_take_2 : decode cX1_take 2 = .ok (.iload_n 2, 1) := by decide +kernel
theorem dX1_take_3 : decode cX1_take 3 = .ok (.sipush 240, 3) := by decide +kernel
theorem dX1_take_6 : decode cX1_take 6 = .ok (.if_icmp .ge 27, 3) := by decide +kernel
theorem dX1_take_9 : decode cX1_take 9 = .ok (.aload_n 0, 1) := by decide +kernel
theorem dX1_take_10 : decode cX1_take 10 = .ok (.getfield 13, 3) := by decide +kernel
theorem dX1_take_13 : decode cX1_take 13 = .ok (.sipush 240, 3) := by decide +kernel
theorem dX1_take_16 : decode cX1_take 16 = .ok (.iload_n 1, 1) := by decide +kernel
theorem dX1_take_17 : decode cX1_take 17 = .ok (.imul, 1) := by decide +kernel
theorem dX1_take_18 : decode cX1_take 18 = .ok (.iload_n 2, 1) := by decide +kernel
theorem dX1_take_19 : decode cX1_take 19 = .ok (.iadd, 1) := by decide +kernel
theorem dX1_take_20 : decode cX1_take 20 = .ok (.aload_n 0, 1) := by decide +kernel
theorem dX1_take_21 : decode cX1_take 21 = .ok (.getfield 22, 3) := by decide +kernel
theorem dX1_take_24 : decode cX1_take 24 = .ok (.iload_n 2, 1) := by decide +kernel
theorem dX1_take_25 : decode cX1_take 25 = .ok (.laload, 1) := by decide +kernel
theorem dX1_take_26 : decode cX1_take 26 = .ok (.lastore, 1) := by decide +kernel
theorem dX1_take_27 : decode cX1_take 27 = .ok (.iinc 2 1, 3) := by decide +kernel
theorem dX1_take_30 : decode cX1_take 30 = .ok (.goto (-28), 3) := by decide +kernel
theorem dX1_take_33 : decode cX1_take 33 = .ok (.aload_n 0, 1) := by decide +kernel
theorem dX1_take_34 : decode cX1_take 34 = .ok (.iload_n 1, 1) := by decide +kernel
theorem dX1_take_35 : decode cX1_take 35 = .ok (.invokevirtual 73, 3) := by decide +kernel
theorem dX1_take_38 : decode cX1_take 38 = .ok (.ireturn, 1) := by decide +kernel
set_option maxRecDepth 20000 in
theorem ggX1_multiply_X1_isRow : GoodIn wsX1_multiply wsX1_isRow := goodIn_r _ [8] (by decide +kernel) (by decide +kernel)
set_option maxRecDepth 20000 in
theorem gX1_multiply_X1_isRow : GoodIn wsX1_multiply (va_wsS RX1 63 yX1_isRow wsX1_isRow) := goodIn_app (goodIn_of _ (by decide +kernel)) ggX1_multiply_X1_isRow
set_option maxRecDepth 20000 in
theorem ggX1_multiply_X1_sizeOf : GoodIn wsX1_multiply wsX1_sizeOf := goodIn_r _ [12, 2, 21, 22, 23, 24, 25, 26, 27, 28] (by decide +kernel) (by decide +kernel)
set_option maxRecDepth 20000 in
theorem gX1_multiply_X1_sizeOf : GoodIn wsX1_multiply (wsV RX1 73 RX1 yX1_sizeOf wsX1_sizeOf) := goodIn_app (goodIn_of _ (by decide +kernel)) ggX1_multiply_X1_sizeOf
set_option maxRecDepth 20000 in
theorem ggX1_multiply_X1_clearSums : GoodIn wsX1_multiply wsX1_clearSums := goodIn_r _ [16, 3, 21, 22, 23, 24, 25, 26, 27, 28] (by decide +kernel) (by decide +kernel)
set_option maxRecDepth 20000 in
theorem gX1_multiply_X1_clearSums : GoodIn wsX1_multiply (wsV RX1 76 RX1 yX1_clearSums wsX1_clearSums) := goodIn_app (goodIn_of _ (by decide +kernel)) ggX1_multiply_X1_clearSums
set_option maxRecDepth 20000 in
theorem ggX1_multiply_X1_take : GoodIn wsX1_multiply wsX1_take := goodIn_r _ [20, 2, 3, 9, 10, 11, 7, 12, 21, 22, 23, 24, 25, 26, 27, 28] (by decide +kernel) (by decide +kernel)
set_option maxRecDepth 20000 in
theorem gX1_multiply_X1_take : GoodIn wsX1_multiply (wsV RX1 79 RX1 yX1_take wsX1_take) := goodIn_app (goodIn_of _ (by decide +kernel)) ggX1_multiply_X1_take
theorem dX1_multiply_0 : decode cX1_multiply 0 = .ok (.iload_n 1, 1) := by decide +kernel
theorem dX1_multiply_1 : decode cX1_multiply 1 = .ok (.invokestatic 63, 3) := by decide +kernel
theorem dX1_multiply_4 : decode cX1_multiply 4 = .ok (.ifCond .eq 21, 3) := by decide +kernel
theorem dX1_multiply_7 : decode cX1_multiply 7 = .ok (.iload_n 2, 1) := by decide +kernel
theorem dX1_multiply_8 : decode cX1_multiply 8 = .ok (.invokestatic 63, 3) := by decide +kernel
theorem dX1_multiply_11 : decode cX1_multiply 11 = .ok (.ifCond .eq 14, 3) := by decide +kernel
theorem dX1_multiply_14 : decode cX1_multiply 14 = .ok (.iload_n 3, 1) := by decide +kernel
theorem dX1_multiply_15 : decode cX1_multiply 15 = .ok (.invokestatic 63, 3) := by decide +kernel
theorem dX1_multiply_18 : decode cX1_multiply 18 = .ok (.ifCond .eq 7, 3) := by decide +kernel
theorem dX1_multiply_21 : decode cX1_multiply 21 = .ok (.iconst 1, 1) := by decide +kernel
theorem dX1_multiply_22 : decode cX1_multiply 22 = .ok (.goto 4, 3) := by decide +kernel
theorem dX1_multiply_25 : decode cX1_multiply 25 = .ok (.iconst 0, 1) := by decide +kernel
theorem dX1_multiply_26 : decode cX1_multiply 26 = .ok (.istore 4, 2) := by decide +kernel
theorem dX1_multiply_28 : decode cX1_multiply 28 = .ok (.iload 4, 2) := by decide +kernel
theorem dX1_multiply_30 : decode cX1_multiply 30 = .ok (.ifCond .eq 11, 3) := by decide +kernel
theorem dX1_multiply_33 : decode cX1_multiply 33 = .ok (.aload_n 0, 1) := by decide +kernel
theorem dX1_multiply_34 : decode cX1_multiply 34 = .ok (.iload_n 2, 1) := by decide +kernel
theorem dX1_multiply_35 : decode cX1_multiply 35 = .ok (.invokevirtual 73, 3) := by decide +kernel
theorem dX1_multiply_38 : decode cX1_multiply 38 = .ok (.goto 4, 3) := by decide +kernel
theorem dX1_multiply_41 : decode cX1_multiply 41 = .ok (.iconst 0, 1) := by decide +kernel
theorem dX1_multiply_42 : decode cX1_multiply 42 = .ok (.istore 5, 2) := by decide +kernel
theorem dX1_multiply_44 : decode cX1_multiply 44 = .ok (.iload 4, 2) := by decide +kernel
theorem dX1_multiply_46 : decode cX1_multiply 46 = .ok (.ifCond .eq 11, 3) := by decide +kernel
theorem dX1_multiply_49 : decode cX1_multiply 49 = .ok (.aload_n 0, 1) := by decide +kernel
theorem dX1_multiply_50 : decode cX1_multiply 50 = .ok (.iload_n 3, 1) := by decide +kernel
theorem dX1_multiply_51 : decode cX1_multiply 51 = .ok (.invokevirtual 73, 3) := by decide +kernel
theorem dX1_multiply_54 : decode cX1_multiply 54 = .ok (.goto 4, 3) := by decide +kernel
theorem dX1_multiply_57 : decode cX1_multiply 57 = .ok (.iconst 0, 1) := by decide +kernel
theorem dX1_multiply_58 : decode cX1_multiply 58 = .ok (.istore 6, 2) := by decide +kernel
theorem dX1_multiply_60 : decode cX1_multiply 60 = .ok (.aload_n 0, 1) := by decide +kernel
theorem dX1_multiply_61 : decode cX1_multiply 61 = .ok (.iload 4, 2) := by decide +kernel
theorem dX1_multiply_63 : decode cX1_multiply 63 = .ok (.ifCond .ne 7, 3) := by decide +kernel
theorem dX1_multiply_66 : decode cX1_multiply 66 = .ok (.iconst 1, 1) := by decide +kernel
theorem dX1_multiply_67 : decode cX1_multiply 67 = .ok (.goto 29, 3) := by decide +kernel
theorem dX1_multiply_70 : decode cX1_multiply 70 = .ok (.iload 5, 2) := by decide +kernel
theorem dX1_multiply_72 : decode cX1_multiply 72 = .ok (.ifCond .le 23, 3) := by decide +kernel
theorem dX1_multiply_75 : decode cX1_multiply 75 = .ok (.iload 6, 2) := by decide +kernel
theorem dX1_multiply_77 : decode cX1_multiply 77 = .ok (.ifCond .le 18, 3) := by decide +kernel
theorem dX1_multiply_80 : decode cX1_multiply 80 = .ok (.iload 5, 2) := by decide +kernel
theorem dX1_multiply_82 : decode cX1_multiply 82 = .ok (.iload 6, 2) := by decide +kernel
theorem dX1_multiply_84 : decode cX1_multiply 84 = .ok (.iadd, 1) := by decide +kernel
theorem dX1_multiply_85 : decode cX1_multiply 85 = .ok (.sipush 240, 3) := by decide +kernel
theorem dX1_multiply_88 : decode cX1_multiply 88 = .ok (.if_icmp .le 7, 3) := by decide +kernel
theorem dX1_multiply_91 : decode cX1_multiply 91 = .ok (.iconst 2, 1) := by decide +kernel
theorem dX1_multiply_92 : decode cX1_multiply 92 = .ok (.goto 4, 3) := by decide +kernel
theorem dX1_multiply_95 : decode cX1_multiply 95 = .ok (.iconst 0, 1) := by decide +kernel
theorem dX1_multiply_96 : decode cX1_multiply 96 = .ok (.putfield 38, 3) := by decide +kernel
theorem dX1_multiply_99 : decode cX1_multiply 99 = .ok (.aload_n 0, 1) := by decide +kernel
theorem dX1_multiply_100 : decode cX1_multiply 100 = .ok (.getfield 38, 3) := by decide +kernel
theorem dX1_multiply_103 : decode cX1_multiply 103 = .ok (.ifCond .le 5, 3) := by decide +kernel
theorem dX1_multiply_106 : decode cX1_multiply 106 = .ok (.iconst 0, 1) := by decide +kernel
theorem dX1_multiply_107 : decode cX1_multiply 107 = .ok (.ireturn, 1) := by decide +kernel
theorem dX1_multiply_108 : decode cX1_multiply 108 = .ok (.aload_n 0, 1) := by decide +kernel
theorem dX1_multiply_109 : decode cX1_multiply 109 = .ok (.invokevirtual 76, 3) := by decide +kernel
theorem dX1_multiply_112 : decode cX1_multiply 112 = .ok (.iconst 0, 1) := by decide +kernel
theorem dX1_multiply_113 : decode cX1_multiply 113 = .ok (.istore 7, 2) := by decide +kernel
theorem dX1_multiply_115 : decode cX1_multiply 115 = .ok (.iload 7, 2) := by decide +kernel
theorem dX1_multiply_117 : decode cX1_multiply 117 = .ok (.iload 5, 2) := by decide +kernel
theorem dX1_multiply_119 : decode cX1_multiply 119 = .ok (.if_icmp .ge 106, 3) := by decide +kernel
theorem dX1_multiply_122 : decode cX1_multiply 122 = .ok (.lconst 0, 1) := by decide +kernel
theorem dX1_multiply_123 : decode cX1_multiply 123 = .ok (.lstore 8, 2) := by decide +kernel
theorem dX1_multiply_125 : decode cX1_multiply 125 = .ok (.iconst 0, 1) := by decide +kernel
theorem dX1_multiply_126 : decode cX1_multiply 126 = .ok (.istore 10, 2) := by decide +kernel
theorem dX1_multiply_128 : decode cX1_multiply 128 = .ok (.iload 10, 2) := by decide +kernel
theorem dX1_multiply_130 : decode cX1_multiply 130 = .ok (.iload 6, 2) := by decide +kernel
theorem dX1_multiply_132 : decode cX1_multiply 132 = .ok (.if_icmp .ge 75, 3) := by decide +kernel
theorem dX1_multiply_135 : decode cX1_multiply 135 = .ok (.aload_n 0, 1) := by decide +kernel
theorem dX1_multiply_136 : decode cX1_multiply 136 = .ok (.getfield 13, 3) := by decide +kernel
theorem dX1_multiply_139 : decode cX1_multiply 139 = .ok (.sipush 240, 3) := by decide +kernel
theorem dX1_multiply_142 : decode cX1_multiply 142 = .ok (.iload_n 2, 1) := by decide +kernel
theorem dX1_multiply_143 : decode cX1_multiply 143 = .ok (.imul, 1) := by decide +kernel
theorem dX1_multiply_144 : decode cX1_multiply 144 = .ok (.iload 7, 2) := by decide +kernel
theorem dX1_multiply_146 : decode cX1_multiply 146 = .ok (.iadd, 1) := by decide +kernel
theorem dX1_multiply_147 : decode cX1_multiply 147 = .ok (.laload, 1) := by decide +kernel
theorem dX1_multiply_148 : decode cX1_multiply 148 = .ok (.aload_n 0, 1) := by decide +kernel
theorem dX1_multiply_149 : decode cX1_multiply 149 = .ok (.getfield 13, 3) := by decide +kernel
theorem dX1_multiply_152 : decode cX1_multiply 152 = .ok (.sipush 240, 3) := by decide +kernel
theorem dX1_multiply_155 : decode cX1_multiply 155 = .ok (.iload_n 3, 1) := by decide +kernel
theorem dX1_multiply_156 : decode cX1_multiply 156 = .ok (.imul, 1) := by decide +kernel
theorem dX1_multiply_157 : decode cX1_multiply 157 = .ok (.iload 10, 2) := by decide +kernel
theorem dX1_multiply_159 : decode cX1_multiply 159 = .ok (.iadd, 1) := by decide +kernel
theorem dX1_multiply_160 : decode cX1_multiply 160 = .ok (.laload, 1) := by decide +kernel
theorem dX1_multiply_161 : decode cX1_multiply 161 = .ok (.lmul, 1) := by decide +kernel
theorem dX1_multiply_162 : decode cX1_multiply 162 = .ok (.aload_n 0, 1) := by decide +kernel
theorem dX1_multiply_163 : decode cX1_multiply 163 = .ok (.getfield 22, 3) := by decide +kernel
theorem dX1_multiply_166 : decode cX1_multiply 166 = .ok (.iload 7, 2) := by decide +kernel
theorem dX1_multiply_168 : decode cX1_multiply 168 = .ok (.iload 10, 2) := by decide +kernel
theorem dX1_multiply_170 : decode cX1_multiply 170 = .ok (.iadd, 1) := by decide +kernel
theorem dX1_multiply_171 : decode cX1_multiply 171 = .ok (.laload, 1) := by decide +kernel
theorem dX1_multiply_172 : decode cX1_multiply 172 = .ok (.ladd, 1) := by decide +kernel
theorem dX1_multiply_173 : decode cX1_multiply 173 = .ok (.lload 8, 2) := by decide +kernel
theorem dX1_multiply_175 : decode cX1_multiply 175 = .ok (.ladd, 1) := by decide +kernel
theorem dX1_multiply_176 : decode cX1_multiply 176 = .ok (.lstore 11, 2) := by decide +kernel
theorem dX1_multiply_178 : decode cX1_multiply 178 = .ok (.aload_n 0, 1) := by decide +kernel
theorem dX1_multiply_179 : decode cX1_multiply 179 = .ok (.getfield 22, 3) := by decide +kernel
theorem dX1_multiply_182 : decode cX1_multiply 182 = .ok (.iload 7, 2) := by decide +kernel
theorem dX1_multiply_184 : decode cX1_multiply 184 = .ok (.iload 10, 2) := by decide +kernel
theorem dX1_multiply_186 : decode cX1_multiply 186 = .ok (.iadd, 1) := by decide +kernel
theorem dX1_multiply_187 : decode cX1_multiply 187 = .ok (.lload 11, 2) := by decide +kernel
theorem dX1_multiply_189 : decode cX1_multiply 189 = .ok (.ldc2_w 71, 3) := by decide +kernel
theorem dX1_multiply_192 : decode cX1_multiply 192 = .ok (.land, 1) := by decide +kernel
theorem dX1_multiply_193 : decode cX1_multiply 193 = .ok (.lastore, 1) := by decide +kernel
theorem dX1_multiply_194 : decode cX1_multiply 194 = .ok (.lload 11, 2) := by decide +kernel
theorem dX1_multiply_196 : decode cX1_multiply 196 = .ok (.bipush 32, 2) := by decide +kernel
theorem dX1_multiply_198 : decode cX1_multiply 198 = .ok (.lushr, 1) := by decide +kernel
theorem dX1_multiply_199 : decode cX1_multiply 199 = .ok (.lstore 8, 2) := by decide +kernel
theorem dX1_multiply_201 : decode cX1_multiply 201 = .ok (.iinc 10 1, 3) := by decide +kernel
theorem dX1_multiply_204 : decode cX1_multiply 204 = .ok (.goto (-76), 3) := by decide +kernel
theorem dX1_multiply_207 : decode cX1_multiply 207 = .ok (.aload_n 0, 1) := by decide +kernel
theorem dX1_multiply_208 : decode cX1_multiply 208 = .ok (.getfield 22, 3) := by decide +kernel
theorem dX1_multiply_211 : decode cX1_multiply 211 = .ok (.iload 7, 2) := by decide +kernel
theorem dX1_multiply_213 : decode cX1_multiply 213 = .ok (.iload 6, 2) := by decide +kernel
theorem dX1_multiply_215 : decode cX1_multiply 215 = .ok (.iadd, 1) := by decide +kernel
theorem dX1_multiply_216 : decode cX1_multiply 216 = .ok (.lload 8, 2) := by decide +kernel
theorem dX1_multiply_218 : decode cX1_multiply 218 = .ok (.lastore, 1) := by decide +kernel
theorem dX1_multiply_219 : decode cX1_multiply 219 = .ok (.iinc 7 1, 3) := by decide +kernel
theorem dX1_multiply_222 : decode cX1_multiply 222 = .ok (.goto (-107), 3) := by decide +kernel
theorem dX1_multiply_225 : decode cX1_multiply 225 = .ok (.aload_n 0, 1) := by decide +kernel
theorem dX1_multiply_226 : decode cX1_multiply 226 = .ok (.iload_n 1, 1) := by decide +kernel
theorem dX1_multiply_227 : decode cX1_multiply 227 = .ok (.invokevirtual 79, 3) := by decide +kernel
theorem dX1_multiply_230 : decode cX1_multiply 230 = .ok (.ireturn, 1) := by decide +kernel
set_option maxRecDepth 20000 in
theorem ggX1_sum_X1_isRow : GoodIn wsX1_sum wsX1_isRow := goodIn_r _ [8] (by decide +kernel) (by decide +kernel)
set_option maxRecDepth 20000 in
theorem gX1_sum_X1_isRow : GoodIn wsX1_sum (va_wsS RX1 63 yX1_isRow wsX1_isRow) := goodIn_app (goodIn_of _ (by decide +kernel)) ggX1_sum_X1_isRow
set_option maxRecDepth 20000 in
theorem ggX1_sum_X1_clearSums : GoodIn wsX1_sum wsX1_clearSums := goodIn_r _ [12, 3, 21, 22, 23, 24, 25, 26, 27, 28] (by decide +kernel) (by decide +kernel)
set_option maxRecDepth 20000 in
theorem gX1_sum_X1_clearSums : GoodIn wsX1_sum (wsV RX1 76 RX1 yX1_clearSums wsX1_clearSums) := goodIn_app (goodIn_of _ (by decide +kernel)) ggX1_sum_X1_clearSums
set_option maxRecDepth 20000 in
theorem ggX1_sum_X1_take : GoodIn wsX1_sum wsX1_take := goodIn_r _ [16, 2, 3, 17, 18, 19, 7, 20, 21, 22, 23, 24, 25, 26, 27, 28] (by decide +kernel) (by decide +kernel)
set_option maxRecDepth 20000 in
theorem gX1_sum_X1_take : GoodIn wsX1_sum (wsV RX1 79 RX1 yX1_take wsX1_take) := goodIn_app (goodIn_of _ (by decide +kernel)) ggX1_sum_X1_take
theorem dX1_sum_0 : decode cX1_sum 0 = .ok (.iload_n 1, 1) := by decide +kernel
theorem dX1_sum_1 : decode cX1_sum 1 = .ok (.invokestatic 63, 3) := by decide +kernel
theorem dX1_sum_4 : decode cX1_sum 4 = .ok (.ifCond .eq 21, 3) := by decide +kernel
theorem dX1_sum_7 : decode cX1_sum 7 = .ok (.iload_n 2, 1) := by decide +kernel
theorem dX1_sum_8 : decode cX1_sum 8 = .ok (.invokestatic 63, 3) := by decide +kernel
theorem dX1_sum_11 : decode cX1_sum 11 = .ok (.ifCond .eq 14, 3) := by decide +kernel
theorem dX1_sum_14 : decode cX1_sum 14 = .ok (.iload_n 3, 1) := by decide +kernel
theorem dX1_sum_15 : decode cX1_sum 15 = .ok (.invokestatic 63, 3) := by decide +kernel
theorem dX1_sum_18 : decode cX1_sum 18 = .ok (.ifCond .eq 7, 3) := by decide +kernel
theorem dX1_sum_21 : decode cX1_sum 21 = .ok (.iconst 1, 1) := by decide +kernel
theorem dX1_sum_22 : decode cX1_sum 22 = .ok (.goto 4, 3) := by decide +kernel
theorem dX1_sum_25 : decode cX1_sum 25 = .ok (.iconst 0, 1) := by decide +kernel
theorem dX1_sum_26 : decode cX1_sum 26 = .ok (.istore 4, 2) := by decide +kernel
theorem dX1_sum_28 : decode cX1_sum 28 = .ok (.aload_n 0, 1) := by decide +kernel
theorem dX1_sum_29 : decode cX1_sum 29 = .ok (.iload 4, 2) := by decide +kernel
theorem dX1_sum_31 : decode cX1_sum 31 = .ok (.ifCond .eq 7, 3) := by decide +kernel
theorem dX1_sum_34 : decode cX1_sum 34 = .ok (.iconst 0, 1) := by decide +kernel
theorem dX1_sum_35 : decode cX1_sum 35 = .ok (.goto 4, 3) := by decide +kernel
theorem dX1_sum_38 : decode cX1_sum 38 = .ok (.iconst 1, 1) := by decide +kernel
theorem dX1_sum_39 : decode cX1_sum 39 = .ok (.putfield 38, 3) := by decide +kernel
theorem dX1_sum_42 : decode cX1_sum 42 = .ok (.lconst 0, 1) := by decide +kernel
theorem dX1_sum_43 : decode cX1_sum 43 = .ok (.lstore 5, 2) := by decide +kernel
theorem dX1_sum_45 : decode cX1_sum 45 = .ok (.aload_n 0, 1) := by decide +kernel
theorem dX1_sum_46 : decode cX1_sum 46 = .ok (.invokevirtual 76, 3) := by decide +kernel
theorem dX1_sum_49 : decode cX1_sum 49 = .ok (.iconst 0, 1) := by decide +kernel
theorem dX1_sum_50 : decode cX1_sum 50 = .ok (.istore 7, 2) := by decide +kernel
theorem dX1_sum_52 : decode cX1_sum 52 = .ok (.iload 7, 2) := by decide +kernel
theorem dX1_sum_54 : decode cX1_sum 54 = .ok (.sipush 240, 3) := by decide +kernel
theorem dX1_sum_57 : decode cX1_sum 57 = .ok (.if_icmp .ge 66, 3) := by decide +kernel
theorem dX1_sum_60 : decode cX1_sum 60 = .ok (.iload 4, 2) := by decide +kernel
theorem dX1_sum_62 : decode cX1_sum 62 = .ok (.ifCond .eq 61, 3) := by decide +kernel
theorem dX1_sum_65 : decode cX1_sum 65 = .ok (.aload_n 0, 1) := by decide +kernel
theorem dX1_sum_66 : decode cX1_sum 66 = .ok (.getfield 13, 3) := by decide +kernel
theorem dX1_sum_69 : decode cX1_sum 69 = .ok (.sipush 240, 3) := by decide +kernel
theorem dX1_sum_72 : decode cX1_sum 72 = .ok (.iload_n 2, 1) := by decide +kernel
theorem dX1_sum_73 : decode cX1_sum 73 = .ok (.imul, 1) := by decide +kernel
theorem dX1_sum_74 : decode cX1_sum 74 = .ok (.iload 7, 2) := by decide +kernel
theorem dX1_sum_76 : decode cX1_sum 76 = .ok (.iadd, 1) := by decide +kernel
theorem dX1_sum_77 : decode cX1_sum 77 = .ok (.laload, 1) := by decide +kernel
theorem dX1_sum_78 : decode cX1_sum 78 = .ok (.aload_n 0, 1) := by decide +kernel
theorem dX1_sum_79 : decode cX1_sum 79 = .ok (.getfield 13, 3) := by decide +kernel
theorem dX1_sum_82 : decode cX1_sum 82 = .ok (.sipush 240, 3) := by decide +kernel
theorem dX1_sum_85 : decode cX1_sum 85 = .ok (.iload_n 3, 1) := by decide +kernel
theorem dX1_sum_86 : decode cX1_sum 86 = .ok (.imul, 1) := by decide +kernel
theorem dX1_sum_87 : decode cX1_sum 87 = .ok (.iload 7, 2) := by decide +kernel
theorem dX1_sum_89 : decode cX1_sum 89 = .ok (.iadd, 1) := by decide +kernel
theorem dX1_sum_90 : decode cX1_sum 90 = .ok (.laload, 1) := by decide +kernel
theorem dX1_sum_91 : decode cX1_sum 91 = .ok (.ladd, 1) := by decide +kernel
theorem dX1_sum_92 : decode cX1_sum 92 = .ok (.lload 5, 2) := by decide +kernel
theorem dX1_sum_94 : decode cX1_sum 94 = .ok (.ladd, 1) := by decide +kernel
theorem dX1_sum_95 : decode cX1_sum 95 = .ok (.lstore 8, 2) := by decide +kernel
theorem dX1_sum_97 : decode cX1_sum 97 = .ok (.aload_n 0, 1) := by decide +kernel
theorem dX1_sum_98 : decode cX1_sum 98 = .ok (.getfield 22, 3) := by decide +kernel
theorem dX1_sum_101 : decode cX1_sum 101 = .ok (.iload 7, 2) := by decide +kernel
theorem dX1_sum_103 : decode cX1_sum 103 = .ok (.lload 8, 2) := by decide +kernel
theorem dX1_sum_105 : decode cX1_sum 105 = .ok (.ldc2_w 71, 3) := by decide +kernel
theorem dX1_sum_108 : decode cX1_sum 108 = .ok (.land, 1) := by decide +kernel
theorem dX1_sum_109 : decode cX1_sum 109 = .ok (.lastore, 1) := by decide +kernel
theorem dX1_sum_110 : decode cX1_sum 110 = .ok (.lload 8, 2) := by decide +kernel
theorem dX1_sum_112 : decode cX1_sum 112 = .ok (.bipush 32, 2) := by decide +kernel
theorem dX1_sum_114 : decode cX1_sum 114 = .ok (.lshr, 1) := by decide +kernel
theorem dX1_sum_115 : decode cX1_sum 115 = .ok (.lstore 5, 2) := by decide +kernel
theorem dX1_sum_117 : decode cX1_sum 117 = .ok (.iinc 7 1, 3) := by decide +kernel
theorem dX1_sum_120 : decode cX1_sum 120 = .ok (.goto (-68), 3) := by decide +kernel
theorem dX1_sum_123 : decode cX1_sum 123 = .ok (.aload_n 0, 1) := by decide +kernel
theorem dX1_sum_124 : decode cX1_sum 124 = .ok (.aload_n 0, 1) := by decide +kernel
theorem dX1_sum_125 : decode cX1_sum 125 = .ok (.getfield 38, 3) := by decide +kernel
theorem dX1_sum_128 : decode cX1_sum 128 = .ok (.ifCond .ne 14, 3) := by decide +kernel
theorem dX1_sum_131 : decode cX1_sum 131 = .ok (.lload 5, 2) := by decide +kernel
theorem dX1_sum_133 : decode cX1_sum 133 = .ok (.lconst 0, 1) := by decide +kernel
theorem dX1_sum_134 : decode cX1_sum 134 = .ok (.lcmp, 1) := by decide +kernel
theorem dX1_sum_135 : decode cX1_sum 135 = .ok (.ifCond .le 7, 3) := by decide +kernel
theorem dX1_sum_138 : decode cX1_sum 138 = .ok (.iconst 2, 1) := by decide +kernel
theorem dX1_sum_139 : decode cX1_sum 139 = .ok (.goto 7, 3) := by decide +kernel
theorem dX1_sum_142 : decode cX1_sum 142 = .ok (.aload_n 0, 1) := by decide +kernel
theorem dX1_sum_143 : decode cX1_sum 143 = .ok (.getfield 38, 3) := by decide +kernel
theorem dX1_sum_146 : decode cX1_sum 146 = .ok (.putfield 38, 3) := by decide +kernel
theorem dX1_sum_149 : decode cX1_sum 149 = .ok (.aload_n 0, 1) := by decide +kernel
theorem dX1_sum_150 : decode cX1_sum 150 = .ok (.getfield 38, 3) := by decide +kernel
theorem dX1_sum_153 : decode cX1_sum 153 = .ok (.ifCond .le 7, 3) := by decide +kernel
theorem dX1_sum_156 : decode cX1_sum 156 = .ok (.iconst 0, 1) := by decide +kernel
theorem dX1_sum_157 : decode cX1_sum 157 = .ok (.goto 8, 3) := by decide +kernel
theorem dX1_sum_160 : decode cX1_sum 160 = .ok (.aload_n 0, 1) := by decide +kernel
theorem dX1_sum_161 : decode cX1_sum 161 = .ok (.iload_n 1, 1) := by decide +kernel
theorem dX1_sum_162 : decode cX1_sum 162 = .ok (.invokevirtual 79, 3) := by decide +kernel
theorem dX1_sum_165 : decode cX1_sum 165 = .ok (.ireturn, 1) := by decide +kernel
