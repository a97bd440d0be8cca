set_option maxRecDepth 20000 in
theorem ggX0_init_X0_usePrime : GoodIn wsX0_init wsX0_usePrime := goodIn_r _ [19, 20, 21, 5, 22, 23, 18, 24, 25, 26, 27, 28, 29, 30, 31, 32] (by decide +kernel) (by decide +kernel)
set_option maxRecDepth 20000 in
theorem gX0_init_X0_usePrime : GoodIn wsX0_init (wsV RX0 37 RX0 yX0_usePrime wsX0_usePrime) := goodIn_app (goodIn_of _ (by decide +kernel)) ggX0_init_X0_usePrime
theorem dX0_init_0 : decode cX0_init 0 = .ok (.aload_n 0, 1) := by decide +kernel
theorem dX0_init_1 : decode cX0_init 1 = .ok (.invokespecial 1, 3) := by decide +kernel
theorem dX0_init_4 : decode cX0_init 4 = .ok (.aload_n 0, 1) := by decide +kernel
theorem dX0_init_5 : decode cX0_init 5 = .ok (.sipush 512, 3) := by decide +kernel
theorem dX0_init_8 : decode cX0_init 8 = .ok (.newarray .long, 2) := by decide +kernel
theorem dX0_init_10 : decode cX0_init 10 = .ok (.putfield 9, 3) := by decide +kernel
theorem dX0_init_13 : decode cX0_init 13 = .ok (.aload_n 0, 1) := by decide +kernel
theorem dX0_init_14 : decode cX0_init 14 = .ok (.bipush 6, 2) := by decide +kernel
theorem dX0_init_16 : decode cX0_init 16 = .ok (.sipush 512, 3) := by decide +kernel
theorem dX0_init_19 : decode cX0_init 19 = .ok (.multianewarray 13 2, 4) := by decide +kernel
theorem dX0_init_23 : decode cX0_init 23 = .ok (.putfield 15, 3) := by decide +kernel
theorem dX0_init_26 : decode cX0_init 26 = .ok (.aload_n 0, 1) := by decide +kernel
theorem dX0_init_27 : decode cX0_init 27 = .ok (.bipush 6, 2) := by decide +kernel
theorem dX0_init_29 : decode cX0_init 29 = .ok (.sipush 240, 3) := by decide +kernel
theorem dX0_init_32 : decode cX0_init 32 = .ok (.multianewarray 13 2, 4) := by decide +kernel
theorem dX0_init_36 : decode cX0_init 36 = .ok (.putfield 18, 3) := by decide +kernel
theorem dX0_init_39 : decode cX0_init 39 = .ok (.aload_n 0, 1) := by decide +kernel
theorem dX0_init_40 : decode cX0_init 40 = .ok (.bipush 9, 2) := by decide +kernel
theorem dX0_init_42 : decode cX0_init 42 = .ok (.newarray .long, 2) := by decide +kernel
theorem dX0_init_44 : decode cX0_init 44 = .ok (.putfield 21, 3) := by decide +kernel
theorem dX0_init_47 : decode cX0_init 47 = .ok (.aload_n 0, 1) := by decide +kernel
theorem dX0_init_48 : decode cX0_init 48 = .ok (.sipush 512, 3) := by decide +kernel
theorem dX0_init_51 : decode cX0_init 51 = .ok (.newarray .long, 2) := by decide +kernel
theorem dX0_init_53 : decode cX0_init 53 = .ok (.putfield 24, 3) := by decide +kernel
theorem dX0_init_56 : decode cX0_init 56 = .ok (.aload_n 0, 1) := by decide +kernel
theorem dX0_init_57 : decode cX0_init 57 = .ok (.sipush 512, 3) := by decide +kernel
theorem dX0_init_60 : decode cX0_init 60 = .ok (.newarray .long, 2) := by decide +kernel
theorem dX0_init_62 : decode cX0_init 62 = .ok (.putfield 27, 3) := by decide +kernel
theorem dX0_init_65 : decode cX0_init 65 = .ok (.aload_n 0, 1) := by decide +kernel
theorem dX0_init_66 : decode cX0_init 66 = .ok (.sipush 240, 3) := by decide +kernel
theorem dX0_init_69 : decode cX0_init 69 = .ok (.newarray .long, 2) := by decide +kernel
theorem dX0_init_71 : decode cX0_init 71 = .ok (.putfield 30, 3) := by decide +kernel
theorem dX0_init_74 : decode cX0_init 74 = .ok (.aload_n 0, 1) := by decide +kernel
theorem dX0_init_75 : decode cX0_init 75 = .ok (.ldc2_w 33, 3) := by decide +kernel
theorem dX0_init_78 : decode cX0_init 78 = .ok (.ldc2_w 35, 3) := by decide +kernel
theorem dX0_init_81 : decode cX0_init 81 = .ok (.invokevirtual 37, 3) := by decide +kernel
theorem dX0_init_84 : decode cX0_init 84 = .ok (.return_, 1) := by decide +kernel
set_option maxRecDepth 20000 in
theorem ggX0_field_X0_leastRoot : GoodIn wsX0_field wsX0_leastRoot := goodIn_r _ [12, 3, 6, 13, 14, 15, 11, 16, 17, 18, 19, 20, 21, 22, 23, 24, 25, 26, 27, 38, 39, 40, 41, 42, 43, 44, 45] (by decide +kernel) (by decide +kernel)
set_option maxRecDepth 20000 in
theorem gX0_field_X0_leastRoot : GoodIn wsX0_field (wsV RX0 54 RX0 yX0_leastRoot wsX0_leastRoot) := goodIn_app (goodIn_of _ (by decide +kernel)) ggX0_field_X0_leastRoot
set_option maxRecDepth 20000 in
theorem ggX0_field_X0_usePrime : GoodIn wsX0_field wsX0_usePrime := goodIn_r _ [31, 32, 5, 33, 21, 22, 11, 23, 38, 39, 40, 41, 42, 43, 44, 45] (by decide +kernel) (by decide +kernel)
set_option maxRecDepth 20000 in
theorem gX0_field_X0_usePrime : GoodIn wsX0_field (wsV RX0 37 RX0 yX0_usePrime wsX0_usePrime) := goodIn_app (goodIn_of _ (by decide +kernel)) ggX0_field_X0_usePrime
set_option maxRecDepth 20000 in
theorem ggX0_field_J7_fill_d0a16 : GoodIn wsX0_field wsJ7_fill_d0a16 := goodIn_r _ [37] (by decide +kernel) (by decide +kernel)
set_option maxRecDepth 20000 in
theorem gX0_field_J7_fill_d0a16 : GoodIn wsX0_field (va_wsS RX0 62 yJ7_fill_d0a16 wsJ7_fill_d0a16) := goodIn_app (goodIn_of _ (by decide +kernel)) ggX0_field_J7_fill_d0a16
theorem dX0_field_0 : decode cX0_field 0 = .ok (.lload_n 1, 1) := by decide +kernel
theorem dX0_field_1 : decode cX0_field 1 = .ok (.ldc2_w 41, 3) := by decide +kernel
theorem dX0_field_4 : decode cX0_field 4 = .ok (.lcmp, 1) := by decide +kernel
theorem dX0_field_5 : decode cX0_field 5 = .ok (.ifCond .lt 23, 3) := by decide +kernel
theorem dX0_field_8 : decode cX0_field 8 = .ok (.lload_n 1, 1) := by decide +kernel
theorem dX0_field_9 : decode cX0_field 9 = .ok (.ldc2_w 43, 3) := by decide +kernel
theorem dX0_field_12 : decode cX0_field 12 = .ok (.lcmp, 1) := by decide +kernel
theorem dX0_field_13 : decode cX0_field 13 = .ok (.ifCond .ge 15, 3) := by decide +kernel
theorem dX0_field_16 : decode cX0_field 16 = .ok (.lload_n 1, 1) := by decide +kernel
theorem dX0_field_17 : decode cX0_field 17 = .ok (.lconst 1, 1) := by decide +kernel
theorem dX0_field_18 : decode cX0_field 18 = .ok (.lsub, 1) := by decide +kernel
theorem dX0_field_19 : decode cX0_field 19 = .ok (.ldc2_w 45, 3) := by decide +kernel
theorem dX0_field_22 : decode cX0_field 22 = .ok (.lrem, 1) := by decide +kernel
theorem dX0_field_23 : decode cX0_field 23 = .ok (.lconst 0, 1) := by decide +kernel
theorem dX0_field_24 : decode cX0_field 24 = .ok (.lcmp, 1) := by decide +kernel
theorem dX0_field_25 : decode cX0_field 25 = .ok (.ifCond .eq 13, 3) := by decide +kernel
theorem dX0_field_28 : decode cX0_field 28 = .ok (.new 47, 3) := by decide +kernel
theorem dX0_field_31 : decode cX0_field 31 = .ok (.dup, 1) := by decide +kernel
theorem dX0_field_32 : decode cX0_field 32 = .ok (.ldc 49, 2) := by decide +kernel
theorem dX0_field_34 : decode cX0_field 34 = .ok (.invokespecial 51, 3) := by decide +kernel
theorem dX0_field_37 : decode cX0_field 37 = .ok (.athrow, 1) := by decide +kernel
theorem dX0_field_38 : decode cX0_field 38 = .ok (.aload_n 0, 1) := by decide +kernel
theorem dX0_field_39 : decode cX0_field 39 = .ok (.lload_n 1, 1) := by decide +kernel
theorem dX0_field_40 : decode cX0_field 40 = .ok (.invokevirtual 54, 3) := by decide +kernel
theorem dX0_field_43 : decode cX0_field 43 = .ok (.lstore_n 3, 1) := by decide +kernel
theorem dX0_field_44 : decode cX0_field 44 = .ok (.lload_n 3, 1) := by decide +kernel
theorem dX0_field_45 : decode cX0_field 45 = .ok (.ldc2_w 58, 3) := by decide +kernel
theorem dX0_field_48 : decode cX0_field 48 = .ok (.lcmp, 1) := by decide +kernel
theorem dX0_field_49 : decode cX0_field 49 = .ok (.ifCond .ne 13, 3) := by decide +kernel
theorem dX0_field_52 : decode cX0_field 52 = .ok (.new 47, 3) := by decide +kernel
theorem dX0_field_55 : decode cX0_field 55 = .ok (.dup, 1) := by decide +kernel
theorem dX0_field_56 : decode cX0_field 56 = .ok (.ldc 60, 2) := by decide +kernel
theorem dX0_field_58 : decode cX0_field 58 = .ok (.invokespecial 51, 3) := by decide +kernel
theorem dX0_field_61 : decode cX0_field 61 = .ok (.athrow, 1) := by decide +kernel
theorem dX0_field_62 : decode cX0_field 62 = .ok (.aload_n 0, 1) := by decide +kernel
theorem dX0_field_63 : decode cX0_field 63 = .ok (.lload_n 1, 1) := by decide +kernel
theorem dX0_field_64 : decode cX0_field 64 = .ok (.lload_n 3, 1) := by decide +kernel
theorem dX0_field_65 : decode cX0_field 65 = .ok (.invokevirtual 37, 3) := by decide +kernel
theorem dX0_field_68 : decode cX0_field 68 = .ok (.iconst 0, 1) := by decide +kernel
theorem dX0_field_69 : decode cX0_field 69 = .ok (.istore 5, 2) := by decide +kernel
theorem dX0_field_71 : decode cX0_field 71 = .ok (.iload 5, 2) := by decide +kernel
theorem dX0_field_73 : decode cX0_field 73 = .ok (.bipush 6, 2) := by decide +kernel
theorem dX0_field_75 : decode cX0_field 75 = .ok (.if_icmp .ge 20, 3) := by decide +kernel
theorem dX0_field_78 : decode cX0_field 78 = .ok (.aload_n 0, 1) := by decide +kernel
theorem dX0_field_79 : decode cX0_field 79 = .ok (.getfield 15, 3) := by decide +kernel
theorem dX0_field_82 : decode cX0_field 82 = .ok (.iload 5, 2) := by decide +kernel
theorem dX0_field_84 : decode cX0_field 84 = .ok (.aaload, 1) := by decide +kernel
theorem dX0_field_85 : decode cX0_field 85 = .ok (.lconst 0, 1) := by decide +kernel
theorem dX0_field_86 : decode cX0_field 86 = .ok (.invokestatic 62, 3) := by decide +kernel
theorem dX0_field_89 : decode cX0_field 89 = .ok (.iinc 5 1, 3) := by decide +kernel
theorem dX0_field_92 : decode cX0_field 92 = .ok (.goto (-21), 3) := by decide +kernel
theorem dX0_field_95 : decode cX0_field 95 = .ok (.lload_n 3, 1) := by decide +kernel
theorem dX0_field_96 : decode cX0_field 96 = .ok (.lreturn, 1) := by decide +kernel
set_option maxRecDepth 20000 in
theorem ggX0_times_X0_rest : GoodIn wsX0_times wsX0_rest := goodIn_r _ [6, 1, 7, 8, 9, 10, 11, 12, 13, 14, 15, 16, 17, 18] (by decide +kernel) (by decide +kernel)
set_option maxRecDepth 20000 in
theorem gX0_times_X0_rest : GoodIn wsX0_times (wsV RX0 68 RX0 yX0_rest wsX0_rest) := goodIn_app (goodIn_of _ (by decide +kernel)) ggX0_times_X0_rest
theorem dX0_times_0 : decode cX0_times 0 = .ok (.aload_n 0, 1) := by decide +kernel
theorem dX0_times_1 : decode cX0_times 1 = .ok (.lload_n 1, 1) := by decide +kernel
theorem dX0_times_2 : decode cX0_times 2 = .ok (.invokevirtual 68, 3) := by decide +kernel
theorem dX0_times_5 : decode cX0_times 5 = .ok (.aload_n 0, 1) := by decide +kernel
theorem dX0_times_6 : decode cX0_times 6 = .ok (.lload_n 3, 1) := by decide +kernel
theorem dX0_times_7 : decode cX0_times 7 = .ok (.invokevirtual 68, 3) := by decide +kernel
theorem dX0_times_10 : decode cX0_times 10 = .ok (.lmul, 1) := by decide +kernel
theorem dX0_times_11 : decode cX0_times 11 = .ok (.aload_n 0, 1) := by decide +kernel
theorem dX0_times_12 : decode cX0_times 12 = .ok (.getfield 71, 3) := by decide +kernel
theorem dX0_times_15 : decode cX0_times 15 = .ok (.lrem, 1) := by decide +kernel
theorem dX0_times_16 : decode cX0_times 16 = .ok (.lreturn, 1) := by decide +kernel
set_option maxRecDepth 20000 in
theorem ggX0_power_X0_rest : GoodIn wsX0_power wsX0_rest := goodIn_r _ [8, 3, 9, 10, 11, 12, 16, 17, 18, 19, 20, 21, 22, 23] (by decide +kernel) (by decide +kernel)
set_option maxRecDepth 20000 in
theorem gX0_power_X0_rest : GoodIn wsX0_power (wsV RX0 68 RX0 yX0_rest wsX0_rest) := goodIn_app (goodIn_of _ (by decide +kernel)) ggX0_power_X0_rest
set_option maxRecDepth 20000 in
theorem ggX0_power_X0_powerModulo : GoodIn wsX0_power wsX0_powerModulo := goodIn_r _ [15] (by decide +kernel) (by decide +kernel)
set_option maxRecDepth 20000 in
theorem gX0_power_X0_powerModulo : GoodIn wsX0_power (va_wsS RX0 77 yX0_powerModulo wsX0_powerModulo) := goodIn_app (goodIn_of _ (by decide +kernel)) ggX0_power_X0_powerModulo
theorem dX0_power_0 : decode cX0_power 0 = .ok (.lload_n 3, 1) := by decide +kernel
theorem dX0_power_1 : decode cX0_power 1 = .ok (.lconst 0, 1) := by decide +kernel
theorem dX0_power_2 : decode cX0_power 2 = .ok (.lcmp, 1) := by decide +kernel
theorem dX0_power_3 : decode cX0_power 3 = .ok (.ifCond .ge 13, 3) := by decide +kernel
theorem dX0_power_6 : decode cX0_power 6 = .ok (.new 47, 3) := by decide +kernel
theorem dX0_power_9 : decode cX0_power 9 = .ok (.dup, 1) := by decide +kernel
theorem dX0_power_10 : decode cX0_power 10 = .ok (.ldc 75, 2) := by decide +kernel
theorem dX0_power_12 : decode cX0_power 12 = .ok (.invokespecial 51, 3) := by decide +kernel
theorem dX0_power_15 : decode cX0_power 15 = .ok (.athrow, 1) := by decide +kernel
theorem dX0_power_16 : decode cX0_power 16 = .ok (.aload_n 0, 1) := by decide +kernel
theorem dX0_power_17 : decode cX0_power 17 = .ok (.lload_n 1, 1) := by decide +kernel
theorem dX0_power_18 : decode cX0_power 18 = .ok (.invokevirtual 68, 3) := by decide +kernel
theorem dX0_power_21 : decode cX0_power 21 = .ok (.lload_n 3, 1) := by decide +kernel
theorem dX0_power_22 : decode cX0_power 22 = .ok (.aload_n 0, 1) := by decide +kernel
theorem dX0_power_23 : decode cX0_power 23 = .ok (.getfield 71, 3) := by decide +kernel
theorem dX0_power_26 : decode cX0_power 26 = .ok (.invokestatic 77, 3) := by decide +kernel
theorem dX0_power_29 : decode cX0_power 29 = .ok (.lreturn, 1) := by decide +kernel
set_option maxRecDepth 20000 in
theorem ggX0_inverse_X0_rest : GoodIn wsX0_inverse wsX0_rest := goodIn_r _ [7, 8, 9, 10, 11, 12, 21, 22, 23, 24, 25, 26, 27, 28] (by decide +kernel) (by decide +kernel)
set_option maxRecDepth 20000 in
theorem gX0_inverse_X0_rest : GoodIn wsX0_inverse (wsV RX0 68 RX0 yX0_rest wsX0_rest) := goodIn_app (goodIn_of _ (by decide +kernel)) ggX0_inverse_X0_rest
set_option maxRecDepth 20000 in
theorem ggX0_inverse_X0_inverseOf : GoodIn wsX0_inverse wsX0_inverseOf := goodIn_r _ [16, 8, 17, 18, 19, 6, 20, 21, 22, 23, 24, 25, 26, 27, 28] (by decide +kernel) (by decide +kernel)
set_option maxRecDepth 20000 in
theorem gX0_inverse_X0_inverseOf : GoodIn wsX0_inverse (wsV RX0 83 RX0 yX0_inverseOf wsX0_inverseOf) := goodIn_app (goodIn_of _ (by decide +kernel)) ggX0_inverse_X0_inverseOf
theorem dX0_inverse_0 : decode cX0_inverse 0 = .ok (.aload_n 0, 1) := by decide +kernel
theorem dX0_inverse_1 : decode cX0_inverse 1 = .ok (.lload_n 1, 1) := by decide +kernel
theorem dX0_inverse_2 : decode cX0_inverse 2 = .ok (.invokevirtual 68, 3) := by decide +kernel
theorem dX0_inverse_5 : decode cX0_inverse 5 = .ok (.lstore_n 3, 1) := by decide +kernel
theorem dX0_inverse_6 : decode cX0_inverse 6 = .ok (.lload_n 3, 1) := by decide +kernel
theorem dX0_inverse_7 : decode cX0_inverse 7 = .ok (.lconst 0, 1) := by decide +kernel
theorem dX0_inverse_8 : decode cX0_inverse 8 = .ok (.lcmp, 1) := by decide +kernel
theorem dX0_inverse_9 : decode cX0_inverse 9 = .ok (.ifCond .ne 13, 3) := by decide +kernel
theorem dX0_inverse_12 : decode cX0_inverse 12 = .ok (.new 47, 3) := by decide +kernel
theorem dX0_inverse_15 : decode cX0_inverse 15 = .ok (.dup, 1) := by decide +kernel
theorem dX0_inverse_16 : decode cX0_inverse 16 = .ok (.ldc 81, 2) := by decide +kernel
theorem dX0_inverse_18 : decode cX0_inverse 18 = .ok (.invokespecial 51, 3) := by decide +kernel
theorem dX0_inverse_21 : decode cX0_inverse 21 = .ok (.athrow, 1) := by decide +kernel
theorem dX0_inverse_22 : decode cX0_inverse 22 = .ok (.aload_n 0, 1) := by decide +kernel
theorem dX0_inverse_23 : decode cX0_inverse 23 = .ok (.lload_n 3, 1) := by decide +kernel
theorem dX0_inverse_24 : decode cX0_inverse 24 = .ok (.invokevirtual 83, 3) := by decide +kernel
theorem dX0_inverse_27 : decode cX0_inverse 27 = .ok (.lreturn, 1) := by decide +kernel
set_option maxRecDepth 20000 in
theorem ggX0_put_X0_checkRow : GoodIn wsX0_put wsX0_checkRow := goodIn_ca (goodIn_r _ [5, 6, 7] (by decide +kernel) (by decide +kernel)) (goodIn_sub (fun _ h => List.mem_cons_of_mem _ (List.mem_append_right _ h)) (by decide +kernel))
set_option maxRecDepth 20000 in
theorem gX0_put_X0_checkRow : GoodIn wsX0_put (va_wsS RX0 86 yX0_checkRow wsX0_checkRow) := goodIn_app (goodIn_of _ (by decide +kernel)) ggX0_put_X0_checkRow
set_option maxRecDepth 20000 in
theorem ggX0_put_X0_checkCoefficient : GoodIn wsX0_put wsX0_checkCoefficient := goodIn_ca (goodIn_r _ [10, 6, 7] (by decide +kernel) (by decide +kernel)) (goodIn_sub (fun _ h => List.mem_cons_of_mem _ (List.mem_append_right _ h)) (by decide +kernel))
set_option maxRecDepth 20000 in
theorem gX0_put_X0_checkCoefficient : GoodIn wsX0_put (va_wsS RX0 90 yX0_checkCoefficient wsX0_checkCoefficient) := goodIn_app (goodIn_of _ (by decide +kernel)) ggX0_put_X0_checkCoefficient
set_option maxRecDepth 20000 in
theorem ggX0_put_X0_rest : GoodIn wsX0_put wsX0_rest := goodIn_r _ [14, 15, 16, 17, 18, 19, 20, 21, 22, 23, 24, 25, 26, 27] (by decide +kernel) (by decide +kernel)
set_option maxRecDepth 20000 in
theorem gX0_put_X0_rest : GoodIn wsX0_put (wsV RX0 68 RX0 yX0_rest wsX0_rest) := goodIn_app (goodIn_of _ (by decide +kernel)) ggX0_put_X0_rest
theorem dX0_put_0 : decode cX0_put 0 = .ok (.iload_n 1, 1) := by decide +kernel
theorem dX0_put_1 : decode cX0_put 1 = .ok (.invokestatic 86, 3) := by decide +kernel
theorem dX0_put_4 : decode cX0_put 4 = .ok (.iload_n 2, 1) := by decide +kernel
theorem dX0_put_5 : decode cX0_put 5 = .ok (.invokestatic 90, 3) := by decide +kernel
theorem dX0_put_8 : decode cX0_put 8 = .ok (.aload_n 0, 1) := by decide +kernel
theorem dX0_put_9 : decode cX0_put 9 = .ok (.getfield 15, 3) := by decide +kernel
theorem dX0_put_12 : decode cX0_put 12 = .ok (.iload_n 1, 1) := by decide +kernel
theorem dX0_put_13 : decode cX0_put 13 = .ok (.aaload, 1) := by decide +kernel
theorem dX0_put_14 : decode cX0_put 14 = .ok (.iload_n 2, 1) := by decide +kernel
theorem dX0_put_15 : decode cX0_put 15 = .ok (.laload, 1) := by decide +kernel
theorem dX0_put_16 : decode cX0_put 16 = .ok (.lstore 5, 2) := by decide +kernel
theorem dX0_put_18 : decode cX0_put 18 = .ok (.aload_n 0, 1) := by decide +kernel
theorem dX0_put_19 : decode cX0_put 19 = .ok (.lload_n 3, 1) := by decide +kernel
theorem dX0_put_20 : decode cX0_put 20 = .ok (.invokevirtual 68, 3) := by decide +kernel
theorem dX0_put_23 : decode cX0_put 23 = .ok (.lstore 7, 2) := by decide +kernel
theorem dX0_put_25 : decode cX0_put 25 = .ok (.aload_n 0, 1) := by decide +kernel
theorem dX0_put_26 : decode cX0_put 26 = .ok (.getfield 15, 3) := by decide +kernel
theorem dX0_put_29 : decode cX0_put 29 = .ok (.iload_n 1, 1) := by decide +kernel
theorem dX0_put_30 : decode cX0_put 30 = .ok (.aaload, 1) := by decide +kernel
theorem dX0_put_31 : decode cX0_put 31 = .ok (.iload_n 2, 1) := by decide +kernel
theorem dX0_put_32 : decode cX0_put 32 = .ok (.lload 7, 2) := by decide +kernel
theorem dX0_put_34 : decode cX0_put 34 = .ok (.lastore, 1) := by decide +kernel
theorem dX0_put_35 : decode cX0_put 35 = .ok (.lload 5, 2) := by decide +kernel
theorem dX0_put_37 : decode cX0_put 37 = .ok (.lload 7, 2) := by decide +kernel
theorem dX0_put_39 : decode cX0_put 39 = .ok (.lcmp, 1) := by decide +kernel
theorem dX0_put_40 : decode cX0_put 40 = .ok (.ifCond .eq 7, 3) := by decide +kernel
theorem dX0_put_43 : decode cX0_put 43 = .ok (.iconst 1, 1) := by decide +kernel
theorem dX0_put_44 : decode cX0_put 44 = .ok (.goto 4, 3) := by decide +kernel
theorem dX0_put_47 : decode cX0_put 47 = .ok (.iconst 0, 1) := by decide +kernel
theorem dX0_put_48 : decode cX0_put 48 = .ok (.ireturn, 1) := by decide +kernel
set_option maxRecDepth 20000 in
theorem ggX0_get_X0_checkRow : GoodIn wsX0_get wsX0_checkRow := goodIn_ca (goodIn_r _ [5, 6, 7] (by decide +kernel) (by decide +kernel)) (goodIn_sub (fun _ h => List.mem_cons_of_mem _ (List.mem_append_right _ h)) (by decide +kernel))
set_option maxRecDepth 20000 in
theorem gX0_get_X0_checkRow : GoodIn wsX0_get (va_wsS RX0 86 yX0_checkRow wsX0_checkRow) := goodIn_app (goodIn_of _ (by decide +kernel)) ggX0_get_X0_checkRow
set_option maxRecDepth 20000 in
theorem ggX0_get_X0_checkCoefficient : GoodIn wsX0_get wsX0_checkCoefficient := goodIn_ca (goodIn_r _ [10, 6, 7] (by decide +kernel) (by decide +kernel)) (goodIn_sub (fun _ h => List.mem_cons_of_mem _ (List.mem_append_right _ h)) (by decide +kernel))
set_option maxRecDepth 20000 in
theorem gX0_get_X0_checkCoefficient : GoodIn wsX0_get (va_wsS RX0 90 yX0_checkCoefficient wsX0_checkCoefficient) := goodIn_app (goodIn_of _ (by decide +kernel)) ggX0_get_X0_checkCoefficient
theorem dX0_get_0 : decode cX0_get 0 = .ok (.iload_n 1, 1) := by decide +kernel
theorem dX0_get_1 : decode cX0_get 1 = .ok (.invokestatic 86, 3) := by decide +kernel
theorem dX0_get_4 : decode cX0_get 4 = .ok (.iload_n 2, 1) := by decide +kernel
theorem dX0_get_5 : decode cX0_get 5 = .ok (.invokestatic 90, 3) := by decide +kernel
theorem dX0_get_8 : decode cX0_get 8 = .ok (.aload_n 0, 1) := by decide +kernel
theorem dX0_get_9 : decode cX0_get 9 = .ok (.getfield 15, 3) := by decide +kernel
theorem dX0_get_12 : decode cX0_get 12 = .ok (.iload_n 1, 1) := by decide +kernel
theorem dX0_get_13 : decode cX0_get 13 = .ok (.aaload, 1) := by decide +kernel
theorem dX0_get_14 : decode cX0_get 14 = .ok (.iload_n 2, 1) := by decide +kernel
theorem dX0_get_15 : decode cX0_get 15 = .ok (.laload, 1) := by decide +kernel
theorem dX0_get_16 : decode cX0_get 16 = .ok (.lreturn, 1) := by decide +kernel
set_option maxRecDepth 20000 in
theorem ggX0_length_X0_checkRow : GoodIn wsX0_length wsX0_checkRow := goodIn_ca (goodIn_r _ [5, 6, 7] (by decide +kernel) (by decide +kernel)) (goodIn_sub (fun _ h => List.mem_cons_of_mem _ (List.mem_append_right _ h)) (by decide +kernel))
set_option maxRecDepth 20000 in
theorem gX0_length_X0_checkRow : GoodIn wsX0_length (va_wsS RX0 86 yX0_checkRow wsX0_checkRow) := goodIn_app (goodIn_of _ (by decide +kernel)) ggX0_length_X0_checkRow
set_option maxRecDepth 20000 in
theorem ggX0_length_X0_usedPart : GoodIn wsX0_length wsX0_usedPart := goodIn_r _ [10] (by decide +kernel) (by decide +kernel)
set_option maxRecDepth 20000 in
theorem gX0_length_X0_usedPart : GoodIn wsX0_length (va_wsS RX0 93 yX0_usedPart wsX0_usedPart) := goodIn_app (goodIn_of _ (by decide +kernel)) ggX0_length_X0_usedPart
theorem dX0_length_0 : decode cX0_length 0 = .ok (.iload_n 1, 1) := by decide +kernel
theorem dX0_length_1 : decode cX0_length 1 = .ok (.invokestatic 86, 3) := by decide +kernel
theorem dX0_length_4 : decode cX0_length 4 = .ok (.aload_n 0, 1) := by decide +kernel
theorem dX0_length_5 : decode cX0_length 5 = .ok (.getfield 15, 3) := by decide +kernel
theorem dX0_length_8 : decode cX0_length 8 = .ok (.iload_n 1, 1) := by decide +kernel
theorem dX0_length_9 : decode cX0_length 9 = .ok (.aaload, 1) := by decide +kernel
theorem dX0_length_10 : decode cX0_length 10 = .ok (.invokestatic 93, 3) := by decide +kernel
theorem dX0_length_13 : decode cX0_length 13 = .ok (.ireturn, 1) := by decide +kernel
set_option maxRecDepth 20000 in
theorem ggX0_turn_X0_checkRow : GoodIn wsX0_turn wsX0_checkRow := goodIn_ca (goodIn_r _ [5, 6, 7] (by decide +kernel) (by decide +kernel)) (goodIn_sub (fun _ h => List.mem_cons_of_mem _ (List.mem_append_left _ (List.mem_append_right _ h))) (by decide +kernel))
set_option maxRecDepth 20000 in
theorem gX0_turn_X0_checkRow : GoodIn wsX0_turn (va_wsS RX0 86 yX0_checkRow wsX0_checkRow) := goodIn_app (goodIn_of _ (by decide +kernel)) ggX0_turn_X0_checkRow
set_option maxRecDepth 20000 in
theorem ggX0_turn_X0_checkTurn : GoodIn wsX0_turn wsX0_checkTurn := goodIn_ca (goodIn_r _ [10, 11, 12] (by decide +kernel) (by decide +kernel)) (goodIn_sub (fun _ h => List.mem_cons_of_mem _ (List.mem_append_right _ h)) (by decide +kernel))
set_option maxRecDepth 20000 in
theorem gX0_turn_X0_checkTurn : GoodIn wsX0_turn (va_wsS RX0 97 yX0_checkTurn wsX0_checkTurn) := goodIn_app (goodIn_of _ (by decide +kernel)) ggX0_turn_X0_checkTurn
set_option maxRecDepth 20000 in
theorem ggX0_turn_X0_turnBackward : GoodIn wsX0_turn wsX0_turnBackward := goodIn_r _ [16, 17, 18, 19, 20, 4, 21, 22, 23, 24, 25, 26, 27, 28, 29, 30, 31, 32, 33, 34, 35, 36, 37, 38, 39, 40, 41, 42, 43, 44, 45, 46, 47, 48, 49, 50, 51] (by decide +kernel) (by decide +kernel)
set_option maxRecDepth 20000 in
theorem gX0_turn_X0_turnBackward : GoodIn wsX0_turn (wsV RX0 100 RX0 yX0_turnBackward wsX0_turnBackward) := goodIn_app (goodIn_of _ (by decide +kernel)) ggX0_turn_X0_turnBackward
set_option maxRecDepth 20000 in
theorem ggX0_turn_X0_turnForward : GoodIn wsX0_turn wsX0_turnForward := goodIn_r _ [21, 22, 23, 4, 24, 25, 26, 27, 28, 29, 30, 31, 32, 33, 34, 35, 17, 44, 45, 46, 47, 48, 49, 50, 51] (by decide +kernel) (by decide +kernel)
set_option maxRecDepth 20000 in
theorem gX0_turn_X0_turnForward : GoodIn wsX0_turn (wsV RX0 104 RX0 yX0_turnForward wsX0_turnForward) := goodIn_app (goodIn_of _ (by decide +kernel)) ggX0_turn_X0_turnForward
theorem dX0_turn_0 : decode cX0_turn 0 = .ok (.iload_n 1, 1) := by decide +kernel
theorem dX0_turn_1 : decode cX0_turn 1 = .ok (.invokestatic 86, 3) := by decide +kernel
theorem dX0_turn_4 : decode cX0_turn 4 = .ok (.iload_n 2, 1) := by decide +kernel
theorem dX0_turn_5 : decode cX0_turn 5 = .ok (.invokestatic 97, 3) := by decide +kernel
theorem dX0_turn_8 : decode cX0_turn 8 = .ok (.iload_n 3, 1) := by decide +kernel
theorem dX0_turn_9 : decode cX0_turn 9 = .ok (.ifCond .eq 17, 3) := by decide +kernel
theorem dX0_turn_12 : decode cX0_turn 12 = .ok (.aload_n 0, 1) := by decide +kernel
theorem dX0_turn_13 : decode cX0_turn 13 = .ok (.aload_n 0, 1) := by decide +kernel
theorem dX0_turn_14 : decode cX0_turn 14 = .ok (.getfield 15, 3) := by decide +kernel
theorem dX0_turn_17 : decode cX0_turn 17 = .ok (.iload_n 1, 1) := by decide +kernel
theorem dX0_turn_18 : decode cX0_turn 18 = .ok (.aaload, 1) := by decide +kernel
theorem dX0_turn_19 : decode cX0_turn 19 = .ok (.iload_n 2, 1) := by decide +kernel
theorem dX0_turn_20 : decode cX0_turn 20 = .ok (.invokevirtual 100, 3) := by decide +kernel
theorem dX0_turn_23 : decode cX0_turn 23 = .ok (.goto 14, 3) := by decide +kernel
theorem dX0_turn_26 : decode cX0_turn 26 = .ok (.aload_n 0, 1) := by decide +kernel
theorem dX0_turn_27 : decode cX0_turn 27 = .ok (.aload_n 0, 1) := by decide +kernel
theorem dX0_turn_28 : decode cX0_turn 28 = .ok (.getfield 15, 3) := by decide +kernel
theorem dX0_turn_31 : decode cX0_turn 31 = .ok (.iload_n 1, 1) := by decide +kernel
theorem dX0_turn_32 : decode cX0_turn 32 = .ok (.aaload, 1) := by decide +kernel
theorem dX0_turn_33 : decode cX0_turn 33 = .ok (.iload_n 2, 1) := by decide +kernel
theorem dX0_turn_34 : decode cX0_turn 34 = .ok (.invokevirtual 104, 3) := by decide +kernel
theorem dX0_turn_37 : decode cX0_turn 37 = .ok (.return_, 1) := by decide +kernel
set_option maxRecDepth 20000 in
theorem ggX0_product_X0_checkRow : GoodIn wsX0_product wsX0_checkRow := goodIn_ca (goodIn_r _ [7, 8, 9] (by decide +kernel) (by decide +kernel)) (goodIn_sub (fun _ h => List.mem_cons_of_mem _ (List.mem_append_right _ h)) (by decide +kernel))
set_option maxRecDepth 20000 in
theorem gX0_product_X0_checkRow : GoodIn wsX0_product (va_wsS RX0 86 yX0_checkRow wsX0_checkRow) := goodIn_app (goodIn_of _ (by decide +kernel)) ggX0_product_X0_checkRow
set_option maxRecDepth 20000 in
theorem ggX0_product_X0_usedPart : GoodIn wsX0_product wsX0_usedPart := goodIn_r _ [12] (by decide +kernel) (by decide +kernel)
set_option maxRecDepth 20000 in
theorem gX0_product_X0_usedPart : GoodIn wsX0_product (va_wsS RX0 93 yX0_usedPart wsX0_usedPart) := goodIn_app (goodIn_of _ (by decide +kernel)) ggX0_product_X0_usedPart
set_option maxRecDepth 20000 in
theorem ggX0_product_J7_fill_d0a16 : GoodIn wsX0_product wsJ7_fill_d0a16 := goodIn_r _ [16] (by decide +kernel) (by decide +kernel)
set_option maxRecDepth 20000 in
theorem gX0_product_J7_fill_d0a16 : GoodIn wsX0_product (va_wsS RX0 62 yJ7_fill_d0a16 wsJ7_fill_d0a16) := goodIn_app (goodIn_of _ (by decide +kernel)) ggX0_product_J7_fill_d0a16
set_option maxRecDepth 20000 in
theorem ggX0_product_X0_turnThatHolds : GoodIn wsX0_product wsX0_turnThatHolds := goodIn_r _ [19] (by decide +kernel) (by decide +kernel)
set_option maxRecDepth 20000 in
theorem gX0_product_X0_turnThatHolds : GoodIn wsX0_product (va_wsS RX0 112 yX0_turnThatHolds wsX0_turnThatHolds) := goodIn_app (goodIn_of _ (by decide +kernel)) ggX0_product_X0_turnThatHolds
set_option maxRecDepth 20000 in
theorem ggX0_product_X0_multiplyRows : GoodIn wsX0_product wsX0_multiplyRows := goodIn_r _ [23, 24, 25, 26, 27, 28, 29, 30, 31, 32, 33, 6, 34, 35, 36, 37, 38, 39, 40, 41, 42, 43, 44, 45, 46, 47, 48, 49, 50, 51, 52, 53, 54, 55, 56, 57, 58, 59, 60, 13, 14, 15, 16, 61, 62, 63, 64, 65, 66, 67, 68] (by decide +kernel) (by decide +kernel)
set_option maxRecDepth 20000 in
theorem gX0_product_X0_multiplyRows : GoodIn wsX0_product (wsV RX0 116 RX0 yX0_multiplyRows wsX0_multiplyRows) := goodIn_app (goodIn_of _ (by decide +kernel)) ggX0_product_X0_multiplyRows
theorem dX0_product_0 : decode cX0_product 0 = .ok (.iload_n 1, 1) := by decide +kernel
theorem dX0_product_1 : decode cX0_product 1 = .ok (.invokestatic 86, 3) := by decide +kernel
theorem dX0_product_4 : decode cX0_product 4 = .ok (.iload_n 2, 1) := by decide +kernel
theorem dX0_product_5 : decode cX0_product 5 = .ok (.invokestatic 86, 3) := by decide +kernel
theorem dX0_product_8 : decode cX0_product 8 = .ok (.iload_n 3, 1) := by decide +kernel
theorem dX0_product_9 : decode cX0_product 9 = .ok (.invokestatic 86, 3) := by decide +kernel
theorem dX0_product_12 : decode cX0_product 12 = .ok (.aload_n 0, 1) := by decide +kernel
theorem dX0_product_13 : decode cX0_product 13 = .ok (.getfield 15, 3) := by decide +kernel
theorem dX0_product_16 : decode cX0_product 16 = .ok (.iload_n 2, 1) := by decide +kernel
theorem dX0_product_17 : decode cX0_product 17 = .ok (.aaload, 1) := by decide +kernel
theorem dX0_product_18 : decode cX0_product 18 = .ok (.invokestatic 93, 3) := by decide +kernel
theorem dX0_product_21 : decode cX0_product 21 = .ok (.istore 4, 2) := by decide +kernel
theorem dX0_product_23 : decode cX0_product 23 = .ok (.aload_n 0, 1) := by decide +kernel
theorem dX0_product_24 : decode cX0_product 24 = .ok (.getfield 15, 3) := by decide +kernel
theorem dX0_product_27 : decode cX0_product 27 = .ok (.iload_n 3, 1) := by decide +kernel
theorem dX0_product_28 : decode cX0_product 28 = .ok (.aaload, 1) := by decide +kernel
theorem dX0_product_29 : decode cX0_product 29 = .ok (.invokestatic 93, 3) := by decide +kernel
theorem dX0_product_32 : decode cX0_product 32 = .ok (.istore 5, 2) := by decide +kernel
theorem dX0_product_34 : decode cX0_product 34 = .ok (.iload 4, 2) := by decide +kernel
theorem dX0_product_36 : decode cX0_product 36 = .ok (.ifCond .eq 8, 3) := by decide +kernel
theorem dX0_product_39 : decode cX0_product 39 = .ok (.iload 5, 2) := by decide +kernel
theorem dX0_product_41 : decode cX0_product 41 = .ok (.ifCond .ne 15, 3) := by decide +kernel
theorem dX0_product_44 : decode cX0_product 44 = .ok (.aload_n 0, 1) := by decide +kernel
theorem dX0_product_45 : decode cX0_product 45 = .ok (.getfield 15, 3) := by decide +kernel
theorem dX0_product_48 : decode cX0_product 48 = .ok (.iload_n 1, 1) := by decide +kernel
theorem dX0_product_49 : decode cX0_product 49 = .ok (.aaload, 1) := by decide +kernel
theorem dX0_product_50 : decode cX0_product 50 = .ok (.lconst 0, 1) := by decide +kernel
theorem dX0_product_51 : decode cX0_product 51 = .ok (.invokestatic 62, 3) := by decide +kernel
theorem dX0_product_54 : decode cX0_product 54 = .ok (.iconst 0, 1) := by decide +kernel
theorem dX0_product_55 : decode cX0_product 55 = .ok (.ireturn, 1) := by decide +kernel
theorem dX0_product_56 : decode cX0_product 56 = .ok (.iload 4, 2) := by decide +kernel
theorem dX0_product_58 : decode cX0_product 58 = .ok (.iload 5, 2) := by decide +kernel
theorem dX0_product_60 : decode cX0_product 60 = .ok (.iadd, 1) := by decide +kernel
theorem dX0_product_61 : decode cX0_product 61 = .ok (.iconst 1, 1) := by decide +kernel
theorem dX0_product_62 : decode cX0_product 62 = .ok (.isub, 1) := by decide +kernel
theorem dX0_product_63 : decode cX0_product 63 = .ok (.istore 6, 2) := by decide +kernel
theorem dX0_product_65 : decode cX0_product 65 = .ok (.iload 6, 2) := by decide +kernel
theorem dX0_product_67 : decode cX0_product 67 = .ok (.sipush 512, 3) := by decide +kernel
theorem dX0_product_70 : decode cX0_product 70 = .ok (.if_icmp .le 13, 3) := by decide +kernel
theorem dX0_product_73 : decode cX0_product 73 = .ok (.new 107, 3) := by decide +kernel
theorem dX0_product_76 : decode cX0_product 76 = .ok (.dup, 1) := by decide +kernel
theorem dX0_product_77 : decode cX0_product 77 = .ok (.ldc 109, 2) := by decide +kernel
theorem dX0_product_79 : decode cX0_product 79 = .ok (.invokespecial 111, 3) := by decide +kernel
theorem dX0_product_82 : decode cX0_product 82 = .ok (.athrow, 1) := by decide +kernel
theorem dX0_product_83 : decode cX0_product 83 = .ok (.aload_n 0, 1) := by decide +kernel
theorem dX0_product_84 : decode cX0_product 84 = .ok (.aload_n 0, 1) := by decide +kernel
theorem dX0_product_85 : decode cX0_product 85 = .ok (.getfield 15, 3) := by decide +kernel
theorem dX0_product_88 : decode cX0_product 88 = .ok (.iload_n 1, 1) := by decide +kernel
theorem dX0_product_89 : decode cX0_product 89 = .ok (.aaload, 1) := by decide +kernel
theorem dX0_product_90 : decode cX0_product 90 = .ok (.aload_n 0, 1) := by decide +kernel
theorem dX0_product_91 : decode cX0_product 91 = .ok (.getfield 15, 3) := by decide +kernel
theorem dX0_product_94 : decode cX0_product 94 = .ok (.iload_n 2, 1) := by decide +kernel
theorem dX0_product_95 : decode cX0_product 95 = .ok (.aaload, 1) := by decide +kernel
theorem dX0_product_96 : decode cX0_product 96 = .ok (.aload_n 0, 1) := by decide +kernel
theorem dX0_product_97 : decode cX0_product 97 = .ok (.getfield 15, 3) := by decide +kernel
theorem dX0_product_100 : decode cX0_product 100 = .ok (.iload_n 3, 1) := by decide +kernel
theorem dX0_product_101 : decode cX0_product 101 = .ok (.aaload, 1) := by decide +kernel
theorem dX0_product_102 : decode cX0_product 102 = .ok (.iload 6, 2) := by decide +kernel
theorem dX0_product_104 : decode cX0_product 104 = .ok (.invokestatic 112, 3) := by decide +kernel
theorem dX0_product_107 : decode cX0_product 107 = .ok (.invokevirtual 116, 3) := by decide +kernel
theorem dX0_product_110 : decode cX0_product 110 = .ok (.iload 6, 2) := by decide +kernel
theorem dX0_product_112 : decode cX0_product 112 = .ok (.ireturn, 1) := by decide +kernel
set_option maxRecDepth 20000 in
theorem ggX0_at_X0_checkRow : GoodIn wsX0_at wsX0_checkRow := goodIn_ca (goodIn_r _ [6, 7, 8] (by decide +kernel) (by decide +kernel)) (goodIn_sub (fun _ h => List.mem_cons_of_mem _ (List.mem_append_right _ h)) (by decide +kernel))
set_option maxRecDepth 20000 in
theorem gX0_at_X0_checkRow : GoodIn wsX0_at (va_wsS RX0 86 yX0_checkRow wsX0_checkRow) := goodIn_app (goodIn_of _ (by decide +kernel)) ggX0_at_X0_checkRow
set_option maxRecDepth 20000 in
theorem ggX0_at_X0_rest : GoodIn wsX0_at wsX0_rest := goodIn_r _ [12, 2, 13, 14, 15, 16, 20, 21, 22, 23, 24, 25, 26, 27] (by decide +kernel) (by decide +kernel)
set_option maxRecDepth 20000 in
theorem gX0_at_X0_rest : GoodIn wsX0_at (wsV RX0 68 RX0 yX0_rest wsX0_rest) := goodIn_app (goodIn_of _ (by decide +kernel)) ggX0_at_X0_rest
set_option maxRecDepth 20000 in
theorem ggX0_at_X0_usedPart : GoodIn wsX0_at wsX0_usedPart := goodIn_r _ [19] (by decide +kernel) (by decide +kernel)
set_option maxRecDepth 20000 in
theorem gX0_at_X0_usedPart : GoodIn wsX0_at (va_wsS RX0 93 yX0_usedPart wsX0_usedPart) := goodIn_app (goodIn_of _ (by decide +kernel)) ggX0_at_X0_usedPart
theorem dX0_at_0 : decode cX0_at 0 = .ok (.iload_n 1, 1) := by decide +kernel
theorem dX0_at_1 : decode cX0_at 1 = .ok (.invokestatic 86, 3) := by decide +kernel
theorem dX0_at_4 : decode cX0_at 4 = .ok (.aload_n 0, 1) := by decide +kernel
theorem dX0_at_5 : decode cX0_at 5 = .ok (.getfield 15, 3) := by decide +kernel
theorem dX0_at_8 : decode cX0_at 8 = .ok (.iload_n 1, 1) := by decide +kernel
theorem dX0_at_9 : decode cX0_at 9 = .ok (.aaload, 1) := by decide +kernel
theorem dX0_at_10 : decode cX0_at 10 = .ok (.astore 4, 2) := by decide +kernel
theorem dX0_at_12 : decode cX0_at 12 = .ok (.aload_n 0, 1) := by decide +kernel
theorem dX0_at_13 : decode cX0_at 13 = .ok (.lload_n 2, 1) := by decide +kernel
theorem dX0_at_14 : decode cX0_at 14 = .ok (.invokevirtual 68, 3) := by decide +kernel
theorem dX0_at_17 : decode cX0_at 17 = .ok (.lstore 5, 2) := by decide +kernel
theorem dX0_at_19 : decode cX0_at 19 = .ok (.lconst 0, 1) := by decide +kernel
theorem dX0_at_20 : decode cX0_at 20 = .ok (.lstore 7, 2) := by decide +kernel
theorem dX0_at_22 : decode cX0_at 22 = .ok (.aload 4, 2) := by decide +kernel
theorem dX0_at_24 : decode cX0_at 24 = .ok (.invokestatic 93, 3) := by decide +kernel
theorem dX0_at_27 : decode cX0_at 27 = .ok (.iconst 1, 1) := by decide +kernel
theorem dX0_at_28 : decode cX0_at 28 = .ok (.isub, 1) := by decide +kernel
theorem dX0_at_29 : decode cX0_at 29 = .ok (.istore 9, 2) := by decide +kernel
theorem dX0_at_31 : decode cX0_at 31 = .ok (.iload 9, 2) := by decide +kernel
theorem dX0_at_33 : decode cX0_at 33 = .ok (.ifCond .lt 27, 3) := by decide +kernel
theorem dX0_at_36 : decode cX0_at 36 = .ok (.lload 7, 2) := by decide +kernel
theorem dX0_at_38 : decode cX0_at 38 = .ok (.lload 5, 2) := by decide +kernel
theorem dX0_at_40 : decode cX0_at 40 = .ok (.lmul, 1) := by decide +kernel
theorem dX0_at_41 : decode cX0_at 41 = .ok (.aload 4, 2) := by decide +kernel
theorem dX0_at_43 : decode cX0_at 43 = .ok (.iload 9, 2) := by decide +kernel
theorem dX0_at_45 : decode cX0_at 45 = .ok (.laload, 1) := by decide +kernel
theorem dX0_at_46 : decode cX0_at 46 = .ok (.ladd, 1) := by decide +kernel
theorem dX0_at_47 : decode cX0_at 47 = .ok (.aload_n 0, 1) := by decide +kernel
theorem dX0_at_48 : decode cX0_at 48 = .ok (.getfield 71, 3) := by decide +kernel
theorem dX0_at_51 : decode cX0_at 51 = .ok (.lrem, 1) := by decide +kernel
theorem dX0_at_52 : decode cX0_at 52 = .ok (.lstore 7, 2) := by decide +kernel
theorem dX0_at_54 : decode cX0_at 54 = .ok (.iinc 9 (-1), 3) := by decide +kernel
theorem dX0_at_57 : decode cX0_at 57 = .ok (.goto (-26), 3) := by decide +kernel
theorem dX0_at_60 : decode cX0_at 60 = .ok (.lload 7, 2) := by decide +kernel
theorem dX0_at_62 : decode cX0_at 62 = .ok (.lreturn, 1) := by decide +kernel
set_option maxRecDepth 20000 in
theorem ggX0_word_X0_checkNatural : GoodIn wsX0_word wsX0_checkNatural := goodIn_ca (goodIn_r _ [6, 7, 8] (by decide +kernel) (by decide +kernel)) (goodIn_sub (fun _ h => List.mem_cons_of_mem _ (List.mem_append_right _ h)) (by decide +kernel))
set_option maxRecDepth 20000 in
theorem gX0_word_X0_checkNatural : GoodIn wsX0_word (va_wsS RX0 120 yX0_checkNatural wsX0_checkNatural) := goodIn_app (goodIn_of _ (by decide +kernel)) ggX0_word_X0_checkNatural
set_option maxRecDepth 20000 in
theorem ggX0_word_X0_checkWord : GoodIn wsX0_word wsX0_checkWord := goodIn_ca (goodIn_r _ [11, 7, 8] (by decide +kernel) (by decide +kernel)) (goodIn_sub (fun _ h => List.mem_cons_of_mem _ (List.mem_append_right _ h)) (by decide +kernel))
set_option maxRecDepth 20000 in
theorem gX0_word_X0_checkWord : GoodIn wsX0_word (va_wsS RX0 123 yX0_checkWord wsX0_checkWord) := goodIn_app (goodIn_of _ (by decide +kernel)) ggX0_word_X0_checkWord
theorem dX0_word_0 : decode cX0_word 0 = .ok (.iload_n 1, 1) := by decide +kernel
theorem dX0_word_1 : decode cX0_word 1 = .ok (.invokestatic 120, 3) := by decide +kernel
theorem dX0_word_4 : decode cX0_word 4 = .ok (.iload_n 2, 1) := by decide +kernel
theorem dX0_word_5 : decode cX0_word 5 = .ok (.invokestatic 123, 3) := by decide +kernel
theorem dX0_word_8 : decode cX0_word 8 = .ok (.aload_n 0, 1) := by decide +kernel
theorem dX0_word_9 : decode cX0_word 9 = .ok (.getfield 18, 3) := by decide +kernel
theorem dX0_word_12 : decode cX0_word 12 = .ok (.iload_n 1, 1) := by decide +kernel
theorem dX0_word_13 : decode cX0_word 13 = .ok (.aaload, 1) := by decide +kernel
theorem dX0_word_14 : decode cX0_word 14 = .ok (.iload_n 2, 1) := by decide +kernel
theorem dX0_word_15 : decode cX0_word 15 = .ok (.laload, 1) := by decide +kernel
theorem dX0_word_16 : decode cX0_word 16 = .ok (.lstore 5, 2) := by decide +kernel
theorem dX0_word_18 : decode cX0_word 18 = .ok (.lload_n 3, 1) := by decide +kernel
theorem dX0_word_19 : decode cX0_word 19 = .ok (.ldc2_w 126, 3) := by decide +kernel
theorem dX0_word_22 : decode cX0_word 22 = .ok (.land, 1) := by decide +kernel
theorem dX0_word_23 : decode cX0_word 23 = .ok (.lstore 7, 2) := by decide +kernel
theorem dX0_word_25 : decode cX0_word 25 = .ok (.aload_n 0, 1) := by decide +kernel
theorem dX0_word_26 : decode cX0_word 26 = .ok (.getfield 18, 3) := by decide +kernel
theorem dX0_word_29 : decode cX0_word 29 = .ok (.iload_n 1, 1) := by decide +kernel
theorem dX0_word_30 : decode cX0_word 30 = .ok (.aaload, 1) := by decide +kernel
theorem dX0_word_31 : decode cX0_word 31 = .ok (.iload_n 2, 1) := by decide +kernel
theorem dX0_word_32 : decode cX0_word 32 = .ok (.lload 7, 2) := by decide +kernel
theorem dX0_word_34 : decode cX0_word 34 = .ok (.lastore, 1) := by decide +kernel
theorem dX0_word_35 : decode cX0_word 35 = .ok (.lload 5, 2) := by decide +kernel
theorem dX0_word_37 : decode cX0_word 37 = .ok (.lload 7, 2) := by decide +kernel
theorem dX0_word_39 : decode cX0_word 39 = .ok (.lcmp, 1) := by decide +kernel
theorem dX0_word_40 : decode cX0_word 40 = .ok (.ifCond .eq 7, 3) := by decide +kernel
theorem dX0_word_43 : decode cX0_word 43 = .ok (.iconst 1, 1) := by decide +kernel
theorem dX0_word_44 : decode cX0_word 44 = .ok (.goto 4, 3) := by decide +kernel
theorem dX0_word_47 : decode cX0_word 47 = .ok (.iconst 0, 1) := by decide +kernel
theorem dX0_word_48 : decode cX0_word 48 = .ok (.ireturn, 1) := by decide +kernel
set_option maxRecDepth 20000 in
theorem ggX0_wordAt_X0_checkNatural : GoodIn wsX0_wordAt wsX0_checkNatural := goodIn_ca (goodIn_r _ [5, 6, 7] (by decide +kernel) (by decide +kernel)) (goodIn_sub (fun _ h => List.mem_cons_of_mem _ (List.mem_append_right _ h)) (by decide +kernel))
set_option maxRecDepth 20000 in
theorem gX0_wordAt_X0_checkNatural : GoodIn wsX0_wordAt (va_wsS RX0 120 yX0_checkNatural wsX0_checkNatural) := goodIn_app (goodIn_of _ (by decide +kernel)) ggX0_wordAt_X0_checkNatural
set_option maxRecDepth 20000 in
theorem ggX0_wordAt_X0_checkWord : GoodIn wsX0_wordAt wsX0_checkWord := goodIn_ca (goodIn_r _ [10, 6, 7] (by decide +kernel) (by decide +kernel)) (goodIn_sub (fun _ h => List.mem_cons_of_mem _ (List.mem_append_right _ h)) (by decide +kernel))
set_option maxRecDepth 20000 in
theorem gX0_wordAt_X0_checkWord : GoodIn wsX0_wordAt (va_wsS RX0 123 yX0_checkWord wsX0_checkWord) := goodIn_app (goodIn_of _ (by decide +kernel)) ggX0_wordAt_X0_checkWord
theorem dX0_wordAt_0 : decode cX0_wordAt 0 = .ok (.iload_n 1, 1) := by decide +kernel
theorem dX0_wordAt_1 : decode cX0_wordAt 1 = .ok (.invokestatic 120, 3) := by decide +kernel
theorem dX0_wordAt_4 : decode cX0_wordAt 4 = .ok (.iload_n 2, 1) := by decide +kernel
theorem dX0_wordAt_5 : decode cX0_wordAt 5 = .ok (.invokestatic 123, 3) := by decide +kernel
theorem dX0_wordAt_8 : decode cX0_wordAt 8 = .ok (.aload_n 0, 1) := by decide +kernel
theorem dX0_wordAt_9 : decode cX0_wordAt 9 = .ok (.getfield 18, 3) := by decide +kernel
theorem dX0_wordAt_12 : decode cX0_wordAt 12 = .ok (.iload_n 1, 1) := by decide +kernel
theorem dX0_wordAt_13 : decode cX0_wordAt 13 = .ok (.aaload, 1) := by decide +kernel
theorem dX0_wordAt_14 : decode cX0_wordAt 14 = .ok (.iload_n 2, 1) := by decide +kernel
theorem dX0_wordAt_15 : decode cX0_wordAt 15 = .ok (.laload, 1) := by decide +kernel
theorem dX0_wordAt_16 : decode cX0_wordAt 16 = .ok (.lreturn, 1) := by decide +kernel
set_option maxRecDepth 20000 in
theorem ggX0_size_X0_checkNatural : GoodIn wsX0_size wsX0_checkNatural := goodIn_ca (goodIn_r _ [5, 6, 7] (by decide +kernel) (by decide +kernel)) (goodIn_sub (fun _ h => List.mem_cons_of_mem _ (List.mem_append_right _ h)) (by decide +kernel))
set_option maxRecDepth 20000 in
theorem gX0_size_X0_checkNatural : GoodIn wsX0_size (va_wsS RX0 120 yX0_checkNatural wsX0_checkNatural) := goodIn_app (goodIn_of _ (by decide +kernel)) ggX0_size_X0_checkNatural
set_option maxRecDepth 20000 in
theorem ggX0_size_X0_usedPart : GoodIn wsX0_size wsX0_usedPart := goodIn_r _ [10] (by decide +kernel) (by decide +kernel)
set_option maxRecDepth 20000 in
theorem gX0_size_X0_usedPart : GoodIn wsX0_size (va_wsS RX0 93 yX0_usedPart wsX0_usedPart) := goodIn_app (goodIn_of _ (by decide +kernel)) ggX0_size_X0_usedPart
theorem dX0_size_0 : decode cX0_size 0 = .ok (.iload_n 1, 1) := by decide +kernel
theorem dX0_size_1 : decode cX0_size 1 = .ok (.invokestatic 120, 3) := by decide +kernel
theorem dX0_size_4 : decode cX0_size 4 = .ok (.aload_n 0, 1) := by decide +kernel
theorem dX0_size_5 : decode cX0_size 5 = .ok (.getfield 18, 3) := by decide +kernel
theorem dX0_size_8 : decode cX0_size 8 = .ok (.iload_n 1, 1) := by decide +kernel
theorem dX0_size_9 : decode cX0_size 9 = .ok (.aaload, 1) := by decide +kernel
theorem dX0_size_10 : decode cX0_size 10 = .ok (.invokestatic 93, 3) := by decide +kernel
theorem dX0_size_13 : decode cX0_size 13 = .ok (.ireturn, 1) := by decide +kernel
set_option maxRecDepth 20000 in
theorem ggX0_multiply_X0_checkNatural : GoodIn wsX0_multiply wsX0_checkNatural := goodIn_ca (goodIn_r _ [12, 13, 14] (by decide +kernel) (by decide +kernel)) (goodIn_sub (fun _ h => List.mem_cons_of_mem _ (List.mem_append_right _ h)) (by decide +kernel))
set_option maxRecDepth 20000 in
theorem gX0_multiply_X0_checkNatural : GoodIn wsX0_multiply (va_wsS RX0 120 yX0_checkNatural wsX0_checkNatural) := goodIn_app (goodIn_of _ (by decide +kernel)) ggX0_multiply_X0_checkNatural
set_option maxRecDepth 20000 in
theorem ggX0_multiply_X0_usedPart : GoodIn wsX0_multiply wsX0_usedPart := goodIn_r _ [17] (by decide +kernel) (by decide +kernel)
set_option maxRecDepth 20000 in
theorem gX0_multiply_X0_usedPart : GoodIn wsX0_multiply (va_wsS RX0 93 yX0_usedPart wsX0_usedPart) := goodIn_app (goodIn_of _ (by decide +kernel)) ggX0_multiply_X0_usedPart
set_option maxRecDepth 20000 in
theorem ggX0_multiply_J7_fill_d0a16 : GoodIn wsX0_multiply wsJ7_fill_d0a16 := goodIn_r _ [21] (by decide +kernel) (by decide +kernel)
set_option maxRecDepth 20000 in
theorem gX0_multiply_J7_fill_d0a16 : GoodIn wsX0_multiply (va_wsS RX0 62 yJ7_fill_d0a16 wsJ7_fill_d0a16) := goodIn_app (goodIn_of _ (by decide +kernel)) ggX0_multiply_J7_fill_d0a16
set_option maxRecDepth 20000 in
theorem ggX0_multiply_X0_multiplyWords : GoodIn wsX0_multiply wsX0_multiplyWords := goodIn_r _ [25, 4, 26, 18, 19, 20, 21, 27, 28, 29, 30, 31, 32, 33, 34] (by decide +kernel) (by decide +kernel)
set_option maxRecDepth 20000 in
theorem gX0_multiply_X0_multiplyWords : GoodIn wsX0_multiply (wsV RX0 130 RX0 yX0_multiplyWords wsX0_multiplyWords) := goodIn_app (goodIn_of _ (by decide +kernel)) ggX0_multiply_X0_multiplyWords
theorem dX0_multiply_0 : decode cX0_multiply 0 = .ok (.iload_n 1, 1) := by decide +kernel
theorem dX0_multiply_1 : decode cX0_multiply 1 = .ok (.invokestatic 120, 3) := by decide +kernel
theorem dX0_multiply_4 : decode cX0_multiply 4 = .ok (.iload_n 2, 1) := by decide +kernel
theorem dX0_multiply_5 : decode cX0_multiply 5 = .ok (.invokestatic 120, 3) := by decide +kernel
theorem dX0_multiply_8 : decode cX0_multiply 8 = .ok (.iload_n 3, 1) := by decide +kernel
theorem dX0_multiply_9 : decode cX0_multiply 9 = .ok (.invokestatic 120, 3) := by decide +kernel
theorem dX0_multiply_12 : decode cX0_multiply 12 = .ok (.aload_n 0, 1) := by decide +kernel
theorem dX0_multiply_13 : decode cX0_multiply 13 = .ok (.getfield 18, 3) := by decide +kernel
theorem dX0_multiply_16 : decode cX0_multiply 16 = .ok (.iload_n 2, 1) := by decide +kernel
theorem dX0_multiply_17 : decode cX0_multiply 17 = .ok (.aaload, 1) := by decide +kernel
theorem dX0_multiply_18 : decode cX0_multiply 18 = .ok (.invokestatic 93, 3) := by decide +kernel
theorem dX0_multiply_21 : decode cX0_multiply 21 = .ok (.istore 4, 2) := by decide +kernel
theorem dX0_multiply_23 : decode cX0_multiply 23 = .ok (.aload_n 0, 1) := by decide +kernel
theorem dX0_multiply_24 : decode cX0_multiply 24 = .ok (.getfield 18, 3) := by decide +kernel
theorem dX0_multiply_27 : decode cX0_multiply 27 = .ok (.iload_n 3, 1) := by decide +kernel
theorem dX0_multiply_28 : decode cX0_multiply 28 = .ok (.aaload, 1) := by decide +kernel
theorem dX0_multiply_29 : decode cX0_multiply 29 = .ok (.invokestatic 93, 3) := by decide +kernel
theorem dX0_multiply_32 : decode cX0_multiply 32 = .ok (.istore 5, 2) := by decide +kernel
theorem dX0_multiply_34 : decode cX0_multiply 34 = .ok (.iload 4, 2) := by decide +kernel
theorem dX0_multiply_36 : decode cX0_multiply 36 = .ok (.ifCond .eq 8, 3) := by decide +kernel
theorem dX0_multiply_39 : decode cX0_multiply 39 = .ok (.iload 5, 2) := by decide +kernel
theorem dX0_multiply_41 : decode cX0_multiply 41 = .ok (.ifCond .ne 15, 3) := by decide +kernel
theorem dX0_multiply_44 : decode cX0_multiply 44 = .ok (.aload_n 0, 1) := by decide +kernel
theorem dX0_multiply_45 : decode cX0_multiply 45 = .ok (.getfield 18, 3) := by decide +kernel
theorem dX0_multiply_48 : decode cX0_multiply 48 = .ok (.iload_n 1, 1) := by decide +kernel
theorem dX0_multiply_49 : decode cX0_multiply 49 = .ok (.aaload, 1) := by decide +kernel
theorem dX0_multiply_50 : decode cX0_multiply 50 = .ok (.lconst 0, 1) := by decide +kernel
theorem dX0_multiply_51 : decode cX0_multiply 51 = .ok (.invokestatic 62, 3) := by decide +kernel
theorem dX0_multiply_54 : decode cX0_multiply 54 = .ok (.iconst 0, 1) := by decide +kernel
theorem dX0_multiply_55 : decode cX0_multiply 55 = .ok (.ireturn, 1) := by decide +kernel
theorem dX0_multiply_56 : decode cX0_multiply 56 = .ok (.iload 4, 2) := by decide +kernel
theorem dX0_multiply_58 : decode cX0_multiply 58 = .ok (.iload 5, 2) := by decide +kernel
theorem dX0_multiply_60 : decode cX0_multiply 60 = .ok (.iadd, 1) := by decide +kernel
theorem dX0_multiply_61 : decode cX0_multiply 61 = .ok (.sipush 240, 3) := by decide +kernel
theorem dX0_multiply_64 : decode cX0_multiply 64 = .ok (.if_icmp .le 13, 3) := by decide +kernel
theorem dX0_multiply_67 : decode cX0_multiply 67 = .ok (.new 107, 3) := by decide +kernel
theorem dX0_multiply_70 : decode cX0_multiply 70 = .ok (.dup, 1) := by decide +kernel
theorem dX0_multiply_71 : decode cX0_multiply 71 = .ok (.ldc 128, 2) := by decide +kernel
theorem dX0_multiply_73 : decode cX0_multiply 73 = .ok (.invokespecial 111, 3) := by decide +kernel
theorem dX0_multiply_76 : decode cX0_multiply 76 = .ok (.athrow, 1) := by decide +kernel
theorem dX0_multiply_77 : decode cX0_multiply 77 = .ok (.aload_n 0, 1) := by decide +kernel
theorem dX0_multiply_78 : decode cX0_multiply 78 = .ok (.aload_n 0, 1) := by decide +kernel
theorem dX0_multiply_79 : decode cX0_multiply 79 = .ok (.getfield 18, 3) := by decide +kernel
theorem dX0_multiply_82 : decode cX0_multiply 82 = .ok (.iload_n 2, 1) := by decide +kernel
theorem dX0_multiply_83 : decode cX0_multiply 83 = .ok (.aaload, 1) := by decide +kernel
theorem dX0_multiply_84 : decode cX0_multiply 84 = .ok (.iload 4, 2) := by decide +kernel
theorem dX0_multiply_86 : decode cX0_multiply 86 = .ok (.aload_n 0, 1) := by decide +kernel
theorem dX0_multiply_87 : decode cX0_multiply 87 = .ok (.getfield 18, 3) := by decide +kernel
theorem dX0_multiply_90 : decode cX0_multiply 90 = .ok (.iload_n 3, 1) := by decide +kernel
theorem dX0_multiply_91 : decode cX0_multiply 91 = .ok (.aaload, 1) := by decide +kernel
theorem dX0_multiply_92 : decode cX0_multiply 92 = .ok (.iload 5, 2) := by decide +kernel
theorem dX0_multiply_94 : decode cX0_multiply 94 = .ok (.invokevirtual 130, 3) := by decide +kernel
theorem dX0_multiply_97 : decode cX0_multiply 97 = .ok (.aload_n 0, 1) := by decide +kernel
theorem dX0_multiply_98 : decode cX0_multiply 98 = .ok (.getfield 30, 3) := by decide +kernel
theorem dX0_multiply_101 : decode cX0_multiply 101 = .ok (.iconst 0, 1) := by decide +kernel
theorem dX0_multiply_102 : decode cX0_multiply 102 = .ok (.aload_n 0, 1) := by decide +kernel
theorem dX0_multiply_103 : decode cX0_multiply 103 = .ok (.getfield 18, 3) := by decide +kernel
theorem dX0_multiply_106 : decode cX0_multiply 106 = .ok (.iload_n 1, 1) := by decide +kernel
theorem dX0_multiply_107 : decode cX0_multiply 107 = .ok (.aaload, 1) := by decide +kernel
theorem dX0_multiply_108 : decode cX0_multiply 108 = .ok (.iconst 0, 1) := by decide +kernel
theorem dX0_multiply_109 : decode cX0_multiply 109 = .ok (.sipush 240, 3) := by decide +kernel
theorem dX0_multiply_112 : decode cX0_multiply 112 = .ok (.invokestatic 134, 3) := by decide +kernel
theorem dX0_multiply_115 : decode cX0_multiply 115 = .ok (.aload_n 0, 1) := by decide +kernel
theorem dX0_multiply_116 : decode cX0_multiply 116 = .ok (.getfield 30, 3) := by decide +kernel
theorem dX0_multiply_119 : decode cX0_multiply 119 = .ok (.invokestatic 93, 3) := by decide +kernel
theorem dX0_multiply_122 : decode cX0_multiply 122 = .ok (.ireturn, 1) := by decide +kernel
set_option maxRecDepth 20000 in
theorem ggX0_sum_X0_checkNatural : GoodIn wsX0_sum wsX0_checkNatural := goodIn_ca (goodIn_r _ [12, 13, 14] (by decide +kernel) (by decide +kernel)) (goodIn_sub (fun _ h => List.mem_cons_of_mem _ (List.mem_append_right _ h)) (by decide +kernel))
set_option maxRecDepth 20000 in
theorem gX0_sum_X0_checkNatural : GoodIn wsX0_sum (va_wsS RX0 120 yX0_checkNatural wsX0_checkNatural) := goodIn_app (goodIn_of _ (by decide +kernel)) ggX0_sum_X0_checkNatural
set_option maxRecDepth 20000 in
theorem ggX0_sum_X0_addWords : GoodIn wsX0_sum wsX0_addWords := goodIn_r _ [18, 4, 19, 23, 24, 25, 26, 27, 28, 29, 30] (by decide +kernel) (by decide +kernel)
set_option maxRecDepth 20000 in
theorem gX0_sum_X0_addWords : GoodIn wsX0_sum (wsV RX0 140 RX0 yX0_addWords wsX0_addWords) := goodIn_app (goodIn_of _ (by decide +kernel)) ggX0_sum_X0_addWords
set_option maxRecDepth 20000 in
theorem ggX0_sum_X0_usedPart : GoodIn wsX0_sum wsX0_usedPart := goodIn_r _ [22] (by decide +kernel) (by decide +kernel)
set_option maxRecDepth 20000 in
theorem gX0_sum_X0_usedPart : GoodIn wsX0_sum (va_wsS RX0 93 yX0_usedPart wsX0_usedPart) := goodIn_app (goodIn_of _ (by decide +kernel)) ggX0_sum_X0_usedPart
theorem dX0_sum_0 : decode cX0_sum 0 = .ok (.iload_n 1, 1) := by decide +kernel
theorem dX0_sum_1 : decode cX0_sum 1 = .ok (.invokestatic 120, 3) := by decide +kernel
theorem dX0_sum_4 : decode cX0_sum 4 = .ok (.iload_n 2, 1) := by decide +kernel
theorem dX0_sum_5 : decode cX0_sum 5 = .ok (.invokestatic 120, 3) := by decide +kernel
theorem dX0_sum_8 : decode cX0_sum 8 = .ok (.iload_n 3, 1) := by decide +kernel
theorem dX0_sum_9 : decode cX0_sum 9 = .ok (.invokestatic 120, 3) := by decide +kernel
theorem dX0_sum_12 : decode cX0_sum 12 = .ok (.aload_n 0, 1) := by decide +kernel
theorem dX0_sum_13 : decode cX0_sum 13 = .ok (.aload_n 0, 1) := by decide +kernel
theorem dX0_sum_14 : decode cX0_sum 14 = .ok (.getfield 18, 3) := by decide +kernel
theorem dX0_sum_17 : decode cX0_sum 17 = .ok (.iload_n 2, 1) := by decide +kernel
theorem dX0_sum_18 : decode cX0_sum 18 = .ok (.aaload, 1) := by decide +kernel
theorem dX0_sum_19 : decode cX0_sum 19 = .ok (.aload_n 0, 1) := by decide +kernel
theorem dX0_sum_20 : decode cX0_sum 20 = .ok (.getfield 18, 3) := by decide +kernel
theorem dX0_sum_23 : decode cX0_sum 23 = .ok (.iload_n 3, 1) := by decide +kernel
theorem dX0_sum_24 : decode cX0_sum 24 = .ok (.aaload, 1) := by decide +kernel
theorem dX0_sum_25 : decode cX0_sum 25 = .ok (.invokevirtual 140, 3) := by decide +kernel
theorem dX0_sum_28 : decode cX0_sum 28 = .ok (.lconst 0, 1) := by decide +kernel
theorem dX0_sum_29 : decode cX0_sum 29 = .ok (.lcmp, 1) := by decide +kernel
theorem dX0_sum_30 : decode cX0_sum 30 = .ok (.ifCond .eq 13, 3) := by decide +kernel
theorem dX0_sum_33 : decode cX0_sum 33 = .ok (.new 107, 3) := by decide +kernel
theorem dX0_sum_36 : decode cX0_sum 36 = .ok (.dup, 1) := by decide +kernel
theorem dX0_sum_37 : decode cX0_sum 37 = .ok (.ldc 144, 2) := by decide +kernel
theorem dX0_sum_39 : decode cX0_sum 39 = .ok (.invokespecial 111, 3) := by decide +kernel
theorem dX0_sum_42 : decode cX0_sum 42 = .ok (.athrow, 1) := by decide +kernel
theorem dX0_sum_43 : decode cX0_sum 43 = .ok (.aload_n 0, 1) := by decide +kernel
theorem dX0_sum_44 : decode cX0_sum 44 = .ok (.getfield 30, 3) := by decide +kernel
theorem dX0_sum_47 : decode cX0_sum 47 = .ok (.iconst 0, 1) := by decide +kernel
theorem dX0_sum_48 : decode cX0_sum 48 = .ok (.aload_n 0, 1) := by decide +kernel
theorem dX0_sum_49 : decode cX0_sum 49 = .ok (.getfield 18, 3) := by decide +kernel
theorem dX0_sum_52 : decode cX0_sum 52 = .ok (.iload_n 1, 1) := by decide +kernel
theorem dX0_sum_53 : decode cX0_sum 53 = .ok (.aaload, 1) := by decide +kernel
theorem dX0_sum_54 : decode cX0_sum 54 = .ok (.iconst 0, 1) := by decide +kernel
theorem dX0_sum_55 : decode cX0_sum 55 = .ok (.sipush 240, 3) := by decide +kernel
theorem dX0_sum_58 : decode cX0_sum 58 = .ok (.invokestatic 134, 3) := by decide +kernel
theorem dX0_sum_61 : decode cX0_sum 61 = .ok (.aload_n 0, 1) := by decide +kernel
theorem dX0_sum_62 : decode cX0_sum 62 = .ok (.getfield 30, 3) := by decide +kernel
theorem dX0_sum_65 : decode cX0_sum 65 = .ok (.invokestatic 93, 3) := by decide +kernel
theorem dX0_sum_68 : decode cX0_sum 68 = .ok (.ireturn, 1) := by decide +kernel
theorem dX0_checkRow_0 : decode cX0_checkRow 0 = .ok (.iload_n 0, 1) := by decide +kernel
theorem dX0_checkRow_1 : decode cX0_checkRow 1 = .ok (.ifCond .lt 9, 3) := by decide +kernel
theorem dX0_checkRow_4 : decode cX0_checkRow 4 = .ok (.iload_n 0, 1) := by decide +kernel
theorem dX0_checkRow_5 : decode cX0_checkRow 5 = .ok (.bipush 6, 2) := by decide +kernel
theorem dX0_checkRow_7 : decode cX0_checkRow 7 = .ok (.if_icmp .lt 13, 3) := by decide +kernel
theorem dX0_checkRow_10 : decode cX0_checkRow 10 = .ok (.new 146, 3) := by decide +kernel
theorem dX0_checkRow_13 : decode cX0_checkRow 13 = .ok (.dup, 1) := by decide +kernel
theorem dX0_checkRow_14 : decode cX0_checkRow 14 = .ok (.ldc 148, 2) := by decide +kernel
theorem dX0_checkRow_16 : decode cX0_checkRow 16 = .ok (.invokespecial 150, 3) := by decide +kernel
theorem dX0_checkRow_19 : decode cX0_checkRow 19 = .ok (.athrow, 1) := by decide +kernel
theorem dX0_checkRow_20 : decode cX0_checkRow 20 = .ok (.return_, 1) := by decide +kernel
theorem dX0_checkCoefficient_0 : decode cX0_checkCoefficient 0 = .ok (.iload_n 0, 1) := by decide +kernel
theorem dX0_checkCoefficient_1 : decode cX0_checkCoefficient 1 = .ok (.ifCond .lt 10, 3) := by decide +kernel
theorem dX0_checkCoefficient_4 : decode cX0_checkCoefficient 4 = .ok (.iload_n 0, 1) := by decide +kernel
theorem dX0_checkCoefficient_5 : decode cX0_checkCoefficient 5 = .ok (.sipush 512, 3) := by decide +kernel
theorem dX0_checkCoefficient_8 : decode cX0_checkCoefficient 8 = .ok (.if_icmp .lt 13, 3) := by decide +kernel
theorem dX0_checkCoefficient_11 : decode cX0_checkCoefficient 11 = .ok (.new 146, 3) := by decide +kernel
theorem dX0_checkCoefficient_14 : decode cX0_checkCoefficient 14 = .ok (.dup, 1) := by decide +kernel
theorem dX0_checkCoefficient_15 : decode cX0_checkCoefficient 15 = .ok (.ldc 151, 2) := by decide +kernel
theorem dX0_checkCoefficient_17 : decode cX0_checkCoefficient 17 = .ok (.invokespecial 150, 3) := by decide +kernel
theorem dX0_checkCoefficient_20 : decode cX0_checkCoefficient 20 = .ok (.athrow, 1) := by decide +kernel
theorem dX0_checkCoefficient_21 : decode cX0_checkCoefficient 21 = .ok (.return_, 1) := by decide +kernel
theorem dX0_checkNatural_0 : decode cX0_checkNatural 0 = .ok (.iload_n 0, 1) := by decide +kernel
theorem dX0_checkNatural_1 : decode cX0_checkNatural 1 = .ok (.ifCond .lt 9, 3) := by decide +kernel
theorem dX0_checkNatural_4 : decode cX0_checkNatural 4 = .ok (.iload_n 0, 1) := by decide +kernel
theorem dX0_checkNatural_5 : decode cX0_checkNatural 5 = .ok (.bipush 6, 2) := by decide +kernel
theorem dX0_checkNatural_7 : decode cX0_checkNatural 7 = .ok (.if_icmp .lt 13, 3) := by decide +kernel
theorem dX0_checkNatural_10 : decode cX0_checkNatural 10 = .ok (.new 146, 3) := by decide +kernel
theorem dX0_checkNatural_13 : decode cX0_checkNatural 13 = .ok (.dup, 1) := by decide +kernel
theorem dX0_checkNatural_14 : decode cX0_checkNatural 14 = .ok (.ldc 153, 2) := by decide +kernel
theorem dX0_checkNatural_16 : decode cX0_checkNatural 16 = .ok (.invokespecial 150, 3) := by decide +kernel
theorem dX0_checkNatural_19 : decode cX0_checkNatural 19 = .ok (.athrow, 1) := by decide +kernel
theorem dX0_checkNatural_20 : decode cX0_checkNatural 20 = .ok (.return_, 1) := by decide +kernel
theorem dX0_checkWord_0 : decode cX0_checkWord 0 = .ok (.iload_n 0, 1) := by decide +kernel
theorem dX0_checkWord_1 : decode cX0_checkWord 1 = .ok (.ifCond .lt 10, 3) := by decide +kernel
theorem dX0_checkWord_4 : decode cX0_checkWord 4 = .ok (.iload_n 0, 1) := by decide +kernel
theorem dX0_checkWord_5 : decode cX0_checkWord 5 = .ok (.sipush 240, 3) := by decide +kernel
theorem dX0_checkWord_8 : decode cX0_checkWord 8 = .ok (.if_icmp .lt 13, 3) := by decide +kernel
theorem dX0_checkWord_11 : decode cX0_checkWord 11 = .ok (.new 146, 3) := by decide +kernel
theorem dX0_checkWord_14 : decode cX0_checkWord 14 = .ok (.dup, 1) := by decide +kernel
theorem dX0_checkWord_15 : decode cX0_checkWord 15 = .ok (.ldc 155, 2) := by decide +kernel
theorem dX0_checkWord_17 : decode cX0_checkWord 17 = .ok (.invokespecial 150, 3) := by decide +kernel
theorem dX0_checkWord_20 : decode cX0_checkWord 20 = .ok (.athrow, 1) := by decide +kernel
theorem dX0_checkWord_21 : decode cX0_checkWord 21 = .ok (.return_, 1) := by decide +kernel
theorem dX0_checkTurn_0 : decode cX0_checkTurn 0 = .ok (.iload_n 0, 1) := by decide +kernel
theorem dX0_checkTurn_1 : decode cX0_checkTurn 1 = .ok (.iconst 1, 1) := by decide +kernel
theorem dX0_checkTurn_2 : decode cX0_checkTurn 2 = .ok (.if_icmp .lt 18, 3) := by decide +kernel
theorem dX0_checkTurn_5 : decode cX0_checkTurn 5 = .ok (.iload_n 0, 1) := by decide +kernel
theorem dX0_checkTurn_6 : decode cX0_checkTurn 6 = .ok (.sipush 512, 3) := by decide +kernel
theorem dX0_checkTurn_9 : decode cX0_checkTurn 9 = .ok (.if_icmp .gt 11, 3) := by decide +kernel
theorem dX0_checkTurn_12 : decode cX0_checkTurn 12 = .ok (.iload_n 0, 1) := by decide +kernel
theorem dX0_checkTurn_13 : decode cX0_checkTurn 13 = .ok (.iload_n 0, 1) := by decide +kernel
theorem dX0_checkTurn_14 : decode cX0_checkTurn 14 = .ok (.iconst 1, 1) := by decide +kernel
theorem dX0_checkTurn_15 : decode cX0_checkTurn 15 = .ok (.isub, 1) := by decide +kernel
theorem dX0_checkTurn_16 : decode cX0_checkTurn 16 = .ok (.iand, 1) := by decide +kernel
theorem dX0_checkTurn_17 : decode cX0_checkTurn 17 = .ok (.ifCond .eq 13, 3) := by decide +kernel
theorem dX0_checkTurn_20 : decode cX0_checkTurn 20 = .ok (.new 47, 3) := by decide +kernel
theorem dX0_checkTurn_23 : decode cX0_checkTurn 23 = .ok (.dup, 1) := by decide +kernel
theorem dX0_checkTurn_24 : decode cX0_checkTurn 24 = .ok (.ldc 157, 2) := by decide +kernel
theorem dX0_checkTurn_26 : decode cX0_checkTurn 26 = .ok (.invokespecial 51, 3) := by decide +kernel
theorem dX0_checkTurn_29 : decode cX0_checkTurn 29 = .ok (.athrow, 1) := by decide +kernel
theorem dX0_checkTurn_30 : decode cX0_checkTurn 30 = .ok (.return_, 1) := by decide +kernel
theorem dX0_usedPart_0 : decode cX0_usedPart 0 = .ok (.aload_n 0, 1) := by decide +kernel
theorem dX0_usedPart_1 : decode cX0_usedPart 1 = .ok (.arraylength, 1) := by decide +kernel
theorem dX0_usedPart_2 : decode cX0_usedPart 2 = .ok (.istore_n 1, 1) := by decide +kernel
theorem dX0_usedPart_3 : decode cX0_usedPart 3 = .ok (.iload_n 1, 1) := by decide +kernel
theorem dX0_usedPart_4 : decode cX0_usedPart 4 = .ok (.ifCond .le 19, 3) := by decide +kernel
theorem dX0_usedPart_7 : decode cX0_usedPart 7 = .ok (.aload_n 0, 1) := by decide +kernel
theorem dX0_usedPart_8 : decode cX0_usedPart 8 = .ok (.iload_n 1, 1) := by decide +kernel
theorem dX0_usedPart_9 : decode cX0_usedPart 9 = .ok (.iconst 1, 1) := by decide +kernel
theorem dX0_usedPart_10 : decode cX0_usedPart 10 = .ok (.isub, 1) := by decide +kernel
theorem dX0_usedPart_11 : decode cX0_usedPart 11 = .ok (.laload, 1) := by decide +kernel
theorem dX0_usedPart_12 : decode cX0_usedPart 12 = .ok (.lconst 0, 1) := by decide +kernel
theorem dX0_usedPart_13 : decode cX0_usedPart 13 = .ok (.lcmp, 1) := by decide +kernel
theorem dX0_usedPart_14 : decode cX0_usedPart 14 = .ok (.ifCond .ne 9, 3) := by decide +kernel
theorem dX0_usedPart_17 : decode cX0_usedPart 17 = .ok (.iinc 1 (-1), 3) := by decide +kernel
theorem dX0_usedPart_20 : decode cX0_usedPart 20 = .ok (.goto (-17), 3) := by decide +kernel
theorem dX0_usedPart_23 : decode cX0_usedPart 23 = .ok (.iload_n 1, 1) := by decide +kernel
theorem dX0_usedPart_24 : decode cX0_usedPart 24 = .ok (.ireturn, 1) := by decide +kernel
set_option maxRecDepth 20000 in
theorem ggX0_usePrime_X0_powerModulo : GoodIn wsX0_usePrime wsX0_powerModulo := goodIn_r _ [7] (by decide +kernel) (by decide +kernel)
set_option maxRecDepth 20000 in
theorem gX0_usePrime_X0_powerModulo : GoodIn wsX0_usePrime (va_wsS RX0 77 yX0_powerModulo wsX0_powerModulo) := goodIn_app (goodIn_of _ (by decide +kernel)) ggX0_usePrime_X0_powerModulo
theorem dX0_usePrime_0 : decode cX0_usePrime 0 = .ok (.aload_n 0, 1) := by decide +kernel
theorem dX0_usePrime_1 : decode cX0_usePrime 1 = .ok (.lload_n 1, 1) := by decide +kernel
theorem dX0_usePrime_2 : decode cX0_usePrime 2 = .ok (.putfield 71, 3) := by decide +kernel
theorem dX0_usePrime_5 : decode cX0_usePrime 5 = .ok (.lload_n 3, 1) := by decide +kernel
theorem dX0_usePrime_6 : decode cX0_usePrime 6 = .ok (.lload_n 1, 1) := by decide +kernel
theorem dX0_usePrime_7 : decode cX0_usePrime 7 = .ok (.lconst 1, 1) := by decide +kernel
theorem dX0_usePrime_8 : decode cX0_usePrime 8 = .ok (.lsub, 1) := by decide +kernel
theorem dX0_usePrime_9 : decode cX0_usePrime 9 = .ok (.ldc2_w 45, 3) := by decide +kernel
theorem dX0_usePrime_12 : decode cX0_usePrime 12 = .ok (.ldiv, 1) := by decide +kernel
theorem dX0_usePrime_13 : decode cX0_usePrime 13 = .ok (.lload_n 1, 1) := by decide +kernel
theorem dX0_usePrime_14 : decode cX0_usePrime 14 = .ok (.invokestatic 77, 3) := by decide +kernel
theorem dX0_usePrime_17 : decode cX0_usePrime 17 = .ok (.lstore 5, 2) := by decide +kernel
theorem dX0_usePrime_19 : decode cX0_usePrime 19 = .ok (.lconst 1, 1) := by decide +kernel
theorem dX0_usePrime_20 : decode cX0_usePrime 20 = .ok (.lstore 7, 2) := by decide +kernel
theorem dX0_usePrime_22 : decode cX0_usePrime 22 = .ok (.iconst 0, 1) := by decide +kernel
theorem dX0_usePrime_23 : decode cX0_usePrime 23 = .ok (.istore 9, 2) := by decide +kernel
theorem dX0_usePrime_25 : decode cX0_usePrime 25 = .ok (.iload 9, 2) := by decide +kernel
theorem dX0_usePrime_27 : decode cX0_usePrime 27 = .ok (.sipush 512, 3) := by decide +kernel
theorem dX0_usePrime_30 : decode cX0_usePrime 30 = .ok (.if_icmp .ge 27, 3) := by decide +kernel
theorem dX0_usePrime_33 : decode cX0_usePrime 33 = .ok (.aload_n 0, 1) := by decide +kernel
theorem dX0_usePrime_34 : decode cX0_usePrime 34 = .ok (.getfield 9, 3) := by decide +kernel
theorem dX0_usePrime_37 : decode cX0_usePrime 37 = .ok (.iload 9, 2) := by decide +kernel
theorem dX0_usePrime_39 : decode cX0_usePrime 39 = .ok (.lload 7, 2) := by decide +kernel
theorem dX0_usePrime_41 : decode cX0_usePrime 41 = .ok (.lastore, 1) := by decide +kernel
theorem dX0_usePrime_42 : decode cX0_usePrime 42 = .ok (.lload 7, 2) := by decide +kernel
theorem dX0_usePrime_44 : decode cX0_usePrime 44 = .ok (.lload 5, 2) := by decide +kernel
theorem dX0_usePrime_46 : decode cX0_usePrime 46 = .ok (.lmul, 1) := by decide +kernel
theorem dX0_usePrime_47 : decode cX0_usePrime 47 = .ok (.lload_n 1, 1) := by decide +kernel
theorem dX0_usePrime_48 : decode cX0_usePrime 48 = .ok (.lrem, 1) := by decide +kernel
theorem dX0_usePrime_49 : decode cX0_usePrime 49 = .ok (.lstore 7, 2) := by decide +kernel
theorem dX0_usePrime_51 : decode cX0_usePrime 51 = .ok (.iinc 9 1, 3) := by decide +kernel
theorem dX0_usePrime_54 : decode cX0_usePrime 54 = .ok (.goto (-29), 3) := by decide +kernel
theorem dX0_usePrime_57 : decode cX0_usePrime 57 = .ok (.return_, 1) := by decide +kernel
set_option maxRecDepth 20000 in
theorem ggX0_leastRoot_X0_findFactors : GoodIn wsX0_leastRoot wsX0_findFactors := goodIn_r _ [7, 1, 8, 9, 10, 6, 11, 19, 20, 21, 22, 23, 24, 25, 26] (by decide +kernel) (by decide +kernel)
set_option maxRecDepth 20000 in
theorem gX0_leastRoot_X0_findFactors : GoodIn wsX0_leastRoot (wsV RX0 159 RX0 yX0_findFactors wsX0_findFactors) := goodIn_app (goodIn_of _ (by decide +kernel)) ggX0_leastRoot_X0_findFactors
set_option maxRecDepth 20000 in
theorem ggX0_leastRoot_X0_powerModulo : GoodIn wsX0_leastRoot wsX0_powerModulo := goodIn_r _ [14] (by decide +kernel) (by decide +kernel)
set_option maxRecDepth 20000 in
theorem gX0_leastRoot_X0_powerModulo : GoodIn wsX0_leastRoot (va_wsS RX0 77 yX0_powerModulo wsX0_powerModulo) := goodIn_app (goodIn_of _ (by decide +kernel)) ggX0_leastRoot_X0_powerModulo
set_option maxRecDepth 20000 in
theorem ggX0_leastRoot_X0_comesToOneOnlyAtTheEnd : GoodIn wsX0_leastRoot wsX0_comesToOneOnlyAtTheEnd := goodIn_r _ [18, 8, 12, 13, 6, 14, 19, 20, 21, 22, 23, 24, 25, 26] (by decide +kernel) (by decide +kernel)
set_option maxRecDepth 20000 in
theorem gX0_leastRoot_X0_comesToOneOnlyAtTheEnd : GoodIn wsX0_leastRoot (wsV RX0 163 RX0 yX0_comesToOneOnlyAtTheEnd wsX0_comesToOneOnlyAtTheEnd) := goodIn_app (goodIn_of _ (by decide +kernel)) ggX0_leastRoot_X0_comesToOneOnlyAtTheEnd
theorem dX0_leastRoot_0 : decode cX0_leastRoot 0 = .ok (.aload_n 0, 1) := by decide +kernel
theorem dX0_leastRoot_1 : decode cX0_leastRoot 1 = .ok (.lload_n 1, 1) := by decide +kernel
theorem dX0_leastRoot_2 : decode cX0_leastRoot 2 = .ok (.lconst 1, 1) := by decide +kernel
theorem dX0_leastRoot_3 : decode cX0_leastRoot 3 = .ok (.lsub, 1) := by decide +kernel
theorem dX0_leastRoot_4 : decode cX0_leastRoot 4 = .ok (.invokevirtual 159, 3) := by decide +kernel
theorem dX0_leastRoot_7 : decode cX0_leastRoot 7 = .ok (.istore_n 3, 1) := by decide +kernel
theorem dX0_leastRoot_8 : decode cX0_leastRoot 8 = .ok (.ldc2_w 41, 3) := by decide +kernel
theorem dX0_leastRoot_11 : decode cX0_leastRoot 11 = .ok (.lstore 4, 2) := by decide +kernel
theorem dX0_leastRoot_13 : decode cX0_leastRoot 13 = .ok (.lload 4, 2) := by decide +kernel
theorem dX0_leastRoot_15 : decode cX0_leastRoot 15 = .ok (.lload_n 1, 1) := by decide +kernel
theorem dX0_leastRoot_16 : decode cX0_leastRoot 16 = .ok (.lcmp, 1) := by decide +kernel
theorem dX0_leastRoot_17 : decode cX0_leastRoot 17 = .ok (.ifCond .ge 44, 3) := by decide +kernel
theorem dX0_leastRoot_20 : decode cX0_leastRoot 20 = .ok (.lload 4, 2) := by decide +kernel
theorem dX0_leastRoot_22 : decode cX0_leastRoot 22 = .ok (.lload_n 1, 1) := by decide +kernel
theorem dX0_leastRoot_23 : decode cX0_leastRoot 23 = .ok (.lconst 1, 1) := by decide +kernel
theorem dX0_leastRoot_24 : decode cX0_leastRoot 24 = .ok (.lsub, 1) := by decide +kernel
theorem dX0_leastRoot_25 : decode cX0_leastRoot 25 = .ok (.lload_n 1, 1) := by decide +kernel
theorem dX0_leastRoot_26 : decode cX0_leastRoot 26 = .ok (.invokestatic 77, 3) := by decide +kernel
theorem dX0_leastRoot_29 : decode cX0_leastRoot 29 = .ok (.lconst 1, 1) := by decide +kernel
theorem dX0_leastRoot_30 : decode cX0_leastRoot 30 = .ok (.lcmp, 1) := by decide +kernel
theorem dX0_leastRoot_31 : decode cX0_leastRoot 31 = .ok (.ifCond .eq 7, 3) := by decide +kernel
theorem dX0_leastRoot_34 : decode cX0_leastRoot 34 = .ok (.ldc2_w 58, 3) := by decide +kernel
theorem dX0_leastRoot_37 : decode cX0_leastRoot 37 = .ok (.lreturn, 1) := by decide +kernel
theorem dX0_leastRoot_38 : decode cX0_leastRoot 38 = .ok (.aload_n 0, 1) := by decide +kernel
theorem dX0_leastRoot_39 : decode cX0_leastRoot 39 = .ok (.lload 4, 2) := by decide +kernel
theorem dX0_leastRoot_41 : decode cX0_leastRoot 41 = .ok (.lload_n 1, 1) := by decide +kernel
theorem dX0_leastRoot_42 : decode cX0_leastRoot 42 = .ok (.iload_n 3, 1) := by decide +kernel
theorem dX0_leastRoot_43 : decode cX0_leastRoot 43 = .ok (.invokevirtual 163, 3) := by decide +kernel
theorem dX0_leastRoot_46 : decode cX0_leastRoot 46 = .ok (.ifCond .eq 6, 3) := by decide +kernel
theorem dX0_leastRoot_49 : decode cX0_leastRoot 49 = .ok (.lload 4, 2) := by decide +kernel
theorem dX0_leastRoot_51 : decode cX0_leastRoot 51 = .ok (.lreturn, 1) := by decide +kernel
theorem dX0_leastRoot_52 : decode cX0_leastRoot 52 = .ok (.lload 4, 2) := by decide +kernel
theorem dX0_leastRoot_54 : decode cX0_leastRoot 54 = .ok (.lconst 1, 1) := by decide +kernel
theorem dX0_leastRoot_55 : decode cX0_leastRoot 55 = .ok (.ladd, 1) := by decide +kernel
theorem dX0_leastRoot_56 : decode cX0_leastRoot 56 = .ok (.lstore 4, 2) := by decide +kernel
theorem dX0_leastRoot_58 : decode cX0_leastRoot 58 = .ok (.goto (-45), 3) := by decide +kernel
theorem dX0_leastRoot_61 : decode cX0_leastRoot 61 = .ok (.ldc2_w 58, 3) := by decide +kernel
theorem dX0_leastRoot_64 : decode cX0_leastRoot 64 = .ok (.lreturn, 1) := by decide +kernel
set_option maxRecDepth 20000 in
theorem ggX0_comesToOneOnlyAtTheEnd_X0_powerModulo : GoodIn wsX0_comesToOneOnlyAtTheEnd wsX0_powerModulo := goodIn_r _ [5] (by decide +kernel) (by decide +kernel)
set_option maxRecDepth 20000 in
theorem gX0_comesToOneOnlyAtTheEnd_X0_powerModulo : GoodIn wsX0_comesToOneOnlyAtTheEnd (va_wsS RX0 77 yX0_powerModulo wsX0_powerModulo) := goodIn_app (goodIn_of _ (by decide +kernel)) ggX0_comesToOneOnlyAtTheEnd_X0_powerModulo
theorem dX0_comesToOneOnlyAtTheEnd_0 : decode cX0_comesToOneOnlyAtTheEnd 0 = .ok (.iconst 0, 1) := by decide +kernel
theorem dX0_comesToOneOnlyAtTheEnd_1 : decode cX0_comesToOneOnlyAtTheEnd 1 = .ok (.istore 6, 2) := by decide +kernel
theorem dX0_comesToOneOnlyAtTheEnd_3 : decode cX0_comesToOneOnlyAtTheEnd 3 = .ok (.iload 6, 2) := by decide +kernel
theorem dX0_comesToOneOnlyAtTheEnd_5 : decode cX0_comesToOneOnlyAtTheEnd 5 = .ok (.iload 5, 2) := by decide +kernel
theorem dX0_comesToOneOnlyAtTheEnd_7 : decode cX0_comesToOneOnlyAtTheEnd 7 = .ok (.if_icmp .ge 32, 3) := by decide +kernel
theorem dX0_comesToOneOnlyAtTheEnd_10 : decode cX0_comesToOneOnlyAtTheEnd 10 = .ok (.lload_n 1, 1) := by decide +kernel
theorem dX0_comesToOneOnlyAtTheEnd_11 : decode cX0_comesToOneOnlyAtTheEnd 11 = .ok (.lload_n 3, 1) := by decide +kernel
theorem dX0_comesToOneOnlyAtTheEnd_12 : decode cX0_comesToOneOnlyAtTheEnd 12 = .ok (.lconst 1, 1) := by decide +kernel
theorem dX0_comesToOneOnlyAtTheEnd_13 : decode cX0_comesToOneOnlyAtTheEnd 13 = .ok (.lsub, 1) := by decide +kernel
theorem dX0_comesToOneOnlyAtTheEnd_14 : decode cX0_comesToOneOnlyAtTheEnd 14 = .ok (.aload_n 0, 1) := by decide +kernel
theorem dX0_comesToOneOnlyAtTheEnd_15 : decode cX0_comesToOneOnlyAtTheEnd 15 = .ok (.getfield 21, 3) := by decide +kernel
theorem dX0_comesToOneOnlyAtTheEnd_18 : decode cX0_comesToOneOnlyAtTheEnd 18 = .ok (.iload 6, 2) := by decide +kernel
theorem dX0_comesToOneOnlyAtTheEnd_20 : decode cX0_comesToOneOnlyAtTheEnd 20 = .ok (.laload, 1) := by decide +kernel
theorem dX0_comesToOneOnlyAtTheEnd_21 : decode cX0_comesToOneOnlyAtTheEnd 21 = .ok (.ldiv, 1) := by decide +kernel
theorem dX0_comesToOneOnlyAtTheEnd_22 : decode cX0_comesToOneOnlyAtTheEnd 22 = .ok (.lload_n 3, 1) := by decide +kernel
theorem dX0_comesToOneOnlyAtTheEnd_23 : decode cX0_comesToOneOnlyAtTheEnd 23 = .ok (.invokestatic 77, 3) := by decide +kernel
theorem dX0_comesToOneOnlyAtTheEnd_26 : decode cX0_comesToOneOnlyAtTheEnd 26 = .ok (.lconst 1, 1) := by decide +kernel
theorem dX0_comesToOneOnlyAtTheEnd_27 : decode cX0_comesToOneOnlyAtTheEnd 27 = .ok (.lcmp, 1) := by decide +kernel
theorem dX0_comesToOneOnlyAtTheEnd_28 : decode cX0_comesToOneOnlyAtTheEnd 28 = .ok (.ifCond .ne 5, 3) := by decide +kernel
theorem dX0_comesToOneOnlyAtTheEnd_31 : decode cX0_comesToOneOnlyAtTheEnd 31 = .ok (.iconst 0, 1) := by decide +kernel
theorem dX0_comesToOneOnlyAtTheEnd_32 : decode cX0_comesToOneOnlyAtTheEnd 32 = .ok (.ireturn, 1) := by decide +kernel
theorem dX0_comesToOneOnlyAtTheEnd_33 : decode cX0_comesToOneOnlyAtTheEnd 33 = .ok (.iinc 6 1, 3) := by decide +kernel
theorem dX0_comesToOneOnlyAtTheEnd_36 : decode cX0_comesToOneOnlyAtTheEnd 36 = .ok (.goto (-33), 3) := by decide +kernel
theorem dX0_comesToOneOnlyAtTheEnd_39 : decode cX0_comesToOneOnlyAtTheEnd 39 = .ok (.iconst 1, 1) := by decide +kernel
theorem dX0_comesToOneOnlyAtTheEnd_40 : decode cX0_comesToOneOnlyAtTheEnd 40 = .ok (.ireturn, 1) := by decide +kernel
set_option maxRecDepth 20000 in
theorem ggX0_findFactors_X0_without : GoodIn wsX0_findFactors wsX0_without := goodIn_r _ [6] (by decide +kernel) (by decide +kernel)
set_option maxRecDepth 20000 in
theorem gX0_findFactors_X0_without : GoodIn wsX0_findFactors (va_wsS RX0 167 yX0_without wsX0_without) := goodIn_app (goodIn_of _ (by decide +kernel)) ggX0_findFactors_X0_without
theorem dX0_findFactors_0 : decode cX0_findFactors 0 = .ok (.iconst 0, 1) := by decide +kernel
theorem dX0_findFactors_1 : decode cX0_findFactors 1 = .ok (.istore_n 3, 1) := by decide +kernel
theorem dX0_findFactors_2 : decode cX0_findFactors 2 = .ok (.lload_n 1, 1) := by decide +kernel
theorem dX0_findFactors_3 : decode cX0_findFactors 3 = .ok (.lstore 4, 2) := by decide +kernel
theorem dX0_findFactors_5 : decode cX0_findFactors 5 = .ok (.ldc2_w 41, 3) := by decide +kernel
theorem dX0_findFactors_8 : decode cX0_findFactors 8 = .ok (.lstore 6, 2) := by decide +kernel
theorem dX0_findFactors_10 : decode cX0_findFactors 10 = .ok (.lload 6, 2) := by decide +kernel
theorem dX0_findFactors_12 : decode cX0_findFactors 12 = .ok (.lload 6, 2) := by decide +kernel
theorem dX0_findFactors_14 : decode cX0_findFactors 14 = .ok (.lmul, 1) := by decide +kernel
theorem dX0_findFactors_15 : decode cX0_findFactors 15 = .ok (.lload 4, 2) := by decide +kernel
theorem dX0_findFactors_17 : decode cX0_findFactors 17 = .ok (.lcmp, 1) := by decide +kernel
theorem dX0_findFactors_18 : decode cX0_findFactors 18 = .ok (.ifCond .gt 48, 3) := by decide +kernel
theorem dX0_findFactors_21 : decode cX0_findFactors 21 = .ok (.lload 4, 2) := by decide +kernel
theorem dX0_findFactors_23 : decode cX0_findFactors 23 = .ok (.lload 6, 2) := by decide +kernel
theorem dX0_findFactors_25 : decode cX0_findFactors 25 = .ok (.lrem, 1) := by decide +kernel
theorem dX0_findFactors_26 : decode cX0_findFactors 26 = .ok (.lconst 0, 1) := by decide +kernel
theorem dX0_findFactors_27 : decode cX0_findFactors 27 = .ok (.lcmp, 1) := by decide +kernel
theorem dX0_findFactors_28 : decode cX0_findFactors 28 = .ok (.ifCond .ne 29, 3) := by decide +kernel
theorem dX0_findFactors_31 : decode cX0_findFactors 31 = .ok (.iload_n 3, 1) := by decide +kernel
theorem dX0_findFactors_32 : decode cX0_findFactors 32 = .ok (.bipush 9, 2) := by decide +kernel
theorem dX0_findFactors_34 : decode cX0_findFactors 34 = .ok (.if_icmp .ge 23, 3) := by decide +kernel
theorem dX0_findFactors_37 : decode cX0_findFactors 37 = .ok (.aload_n 0, 1) := by decide +kernel
theorem dX0_findFactors_38 : decode cX0_findFactors 38 = .ok (.getfield 21, 3) := by decide +kernel
theorem dX0_findFactors_41 : decode cX0_findFactors 41 = .ok (.iload_n 3, 1) := by decide +kernel
theorem dX0_findFactors_42 : decode cX0_findFactors 42 = .ok (.lload 6, 2) := by decide +kernel
theorem dX0_findFactors_44 : decode cX0_findFactors 44 = .ok (.lastore, 1) := by decide +kernel
theorem dX0_findFactors_45 : decode cX0_findFactors 45 = .ok (.iinc 3 1, 3) := by decide +kernel
theorem dX0_findFactors_48 : decode cX0_findFactors 48 = .ok (.lload 4, 2) := by decide +kernel
theorem dX0_findFactors_50 : decode cX0_findFactors 50 = .ok (.lload 6, 2) := by decide +kernel
theorem dX0_findFactors_52 : decode cX0_findFactors 52 = .ok (.invokestatic 167, 3) := by decide +kernel
theorem dX0_findFactors_55 : decode cX0_findFactors 55 = .ok (.lstore 4, 2) := by decide +kernel
theorem dX0_findFactors_57 : decode cX0_findFactors 57 = .ok (.lload 6, 2) := by decide +kernel
theorem dX0_findFactors_59 : decode cX0_findFactors 59 = .ok (.lconst 1, 1) := by decide +kernel
theorem dX0_findFactors_60 : decode cX0_findFactors 60 = .ok (.ladd, 1) := by decide +kernel
theorem dX0_findFactors_61 : decode cX0_findFactors 61 = .ok (.lstore 6, 2) := by decide +kernel
theorem dX0_findFactors_63 : decode cX0_findFactors 63 = .ok (.goto (-53), 3) := by decide +kernel
theorem dX0_findFactors_66 : decode cX0_findFactors 66 = .ok (.lload 4, 2) := by decide +kernel
theorem dX0_findFactors_68 : decode cX0_findFactors 68 = .ok (.lconst 1, 1) := by decide +kernel
theorem dX0_findFactors_69 : decode cX0_findFactors 69 = .ok (.lcmp, 1) := by decide +kernel
theorem dX0_findFactors_70 : decode cX0_findFactors 70 = .ok (.ifCond .le 20, 3) := by decide +kernel
theorem dX0_findFactors_73 : decode cX0_findFactors 73 = .ok (.iload_n 3, 1) := by decide +kernel
theorem dX0_findFactors_74 : decode cX0_findFactors 74 = .ok (.bipush 9, 2) := by decide +kernel
theorem dX0_findFactors_76 : decode cX0_findFactors 76 = .ok (.if_icmp .ge 14, 3) := by decide +kernel
theorem dX0_findFactors_79 : decode cX0_findFactors 79 = .ok (.aload_n 0, 1) := by decide +kernel
theorem dX0_findFactors_80 : decode cX0_findFactors 80 = .ok (.getfield 21, 3) := by decide +kernel
theorem dX0_findFactors_83 : decode cX0_findFactors 83 = .ok (.iload_n 3, 1) := by decide +kernel
theorem dX0_findFactors_84 : decode cX0_findFactors 84 = .ok (.lload 4, 2) := by decide +kernel
theorem dX0_findFactors_86 : decode cX0_findFactors 86 = .ok (.lastore, 1) := by decide +kernel
theorem dX0_findFactors_87 : decode cX0_findFactors 87 = .ok (.iinc 3 1, 3) := by decide +kernel
theorem dX0_findFactors_90 : decode cX0_findFactors 90 = .ok (.iload_n 3, 1) := by decide +kernel
theorem dX0_findFactors_91 : decode cX0_findFactors 91 = .ok (.ireturn, 1) := by decide +kernel
theorem dX0_without_0 : decode cX0_without 0 = .ok (.lload_n 0, 1) := by decide +kernel
theorem dX0_without_1 : decode cX0_without 1 = .ok (.lstore 4, 2) := by decide +kernel
theorem dX0_without_3 : decode cX0_without 3 = .ok (.iconst 0, 1) := by decide +kernel
theorem dX0_without_4 : decode cX0_without 4 = .ok (.istore 6, 2) := by decide +kernel
theorem dX0_without_6 : decode cX0_without 6 = .ok (.iload 6, 2) := by decide +kernel
theorem dX0_without_8 : decode cX0_without 8 = .ok (.bipush 31, 2) := by decide +kernel
theorem dX0_without_10 : decode cX0_without 10 = .ok (.if_icmp .ge 24, 3) := by decide +kernel
theorem dX0_without_13 : decode cX0_without 13 = .ok (.lload 4, 2) := by decide +kernel
theorem dX0_without_15 : decode cX0_without 15 = .ok (.lload_n 2, 1) := by decide +kernel
theorem dX0_without_16 : decode cX0_without 16 = .ok (.lrem, 1) := by decide +kernel
theorem dX0_without_17 : decode cX0_without 17 = .ok (.lconst 0, 1) := by decide +kernel
theorem dX0_without_18 : decode cX0_without 18 = .ok (.lcmp, 1) := by decide +kernel
theorem dX0_without_19 : decode cX0_without 19 = .ok (.ifCond .ne 15, 3) := by decide +kernel
theorem dX0_without_22 : decode cX0_without 22 = .ok (.lload 4, 2) := by decide +kernel
theorem dX0_without_24 : decode cX0_without 24 = .ok (.lload_n 2, 1) := by decide +kernel
theorem dX0_without_25 : decode cX0_without 25 = .ok (.ldiv, 1) := by decide +kernel
theorem dX0_without_26 : decode cX0_without 26 = .ok (.lstore 4, 2) := by decide +kernel
theorem dX0_without_28 : decode cX0_without 28 = .ok (.iinc 6 1, 3) := by decide +kernel
theorem dX0_without_31 : decode cX0_without 31 = .ok (.goto (-25), 3) := by decide +kernel
theorem dX0_without_34 : decode cX0_without 34 = .ok (.lload 4, 2) := by decide +kernel
theorem dX0_without_36 : decode cX0_without 36 = .ok (.lreturn, 1) := by decide +kernel
set_option maxRecDepth 20000 in
theorem ggX0_rest_J9_floorMod_f86c9 : GoodIn wsX0_rest wsJ9_floorMod_f86c9 := goodIn_r _ [5] (by decide +kernel) (by decide +kernel)
set_option maxRecDepth 20000 in
theorem gX0_rest_J9_floorMod_f86c9 : GoodIn wsX0_rest (va_wsS RX0 171 yJ9_floorMod_f86c9 wsJ9_floorMod_f86c9) := goodIn_app (goodIn_of _ (by decide +kernel)) ggX0_rest_J9_floorMod_f86c9
theorem dX0_rest_0 : decode cX0_rest 0 = .ok (.lload_n 1, 1) := by decide +kernel
theorem dX0_rest_1 : decode cX0_rest 1 = .ok (.aload_n 0, 1) := by decide +kernel
theorem dX0_rest_2 : decode cX0_rest 2 = .ok (.getfield 71, 3) := by decide +kernel
theorem dX0_rest_5 : decode cX0_rest 5 = .ok (.invokestatic 171, 3) := by decide +kernel
theorem dX0_rest_8 : decode cX0_rest 8 = .ok (.lreturn, 1) := by decide +kernel
theorem dX0_powerModulo_0 : decode cX0_powerModulo 0 = .ok (.lconst 1, 1) := by decide +kernel
theorem dX0_powerModulo_1 : decode cX0_powerModulo 1 = .ok (.lstore 6, 2) := by decide +kernel
theorem dX0_powerModulo_3 : decode cX0_powerModulo 3 = .ok (.lload_n 0, 1) := by decide +kernel
theorem dX0_powerModulo_4 : decode cX0_powerModulo 4 = .ok (.lstore 8, 2) := by decide +kernel
theorem dX0_powerModulo_6 : decode cX0_powerModulo 6 = .ok (.lload_n 2, 1) := by decide +kernel
theorem dX0_powerModulo_7 : decode cX0_powerModulo 7 = .ok (.lstore 10, 2) := by decide +kernel
theorem dX0_powerModulo_9 : decode cX0_powerModulo 9 = .ok (.lload 10, 2) := by decide +kernel
theorem dX0_powerModulo_11 : decode cX0_powerModulo 11 = .ok (.lconst 0, 1) := by decide +kernel
theorem dX0_powerModulo_12 : decode cX0_powerModulo 12 = .ok (.lcmp, 1) := by decide +kernel
theorem dX0_powerModulo_13 : decode cX0_powerModulo 13 = .ok (.ifCond .le 41, 3) := by decide +kernel
theorem dX0_powerModulo_16 : decode cX0_powerModulo 16 = .ok (.lload 10, 2) := by decide +kernel
theorem dX0_powerModulo_18 : decode cX0_powerModulo 18 = .ok (.lconst 1, 1) := by decide +kernel
theorem dX0_powerModulo_19 : decode cX0_powerModulo 19 = .ok (.land, 1) := by decide +kernel
theorem dX0_powerModulo_20 : decode cX0_powerModulo 20 = .ok (.lconst 1, 1) := by decide +kernel
theorem dX0_powerModulo_21 : decode cX0_powerModulo 21 = .ok (.lcmp, 1) := by decide +kernel
theorem dX0_powerModulo_22 : decode cX0_powerModulo 22 = .ok (.ifCond .ne 13, 3) := by decide +kernel
theorem dX0_powerModulo_25 : decode cX0_powerModulo 25 = .ok (.lload 6, 2) := by decide +kernel
theorem dX0_powerModulo_27 : decode cX0_powerModulo 27 = .ok (.lload 8, 2) := by decide +kernel
theorem dX0_powerModulo_29 : decode cX0_powerModulo 29 = .ok (.lmul, 1) := by decide +kernel
theorem dX0_powerModulo_30 : decode cX0_powerModulo 30 = .ok (.lload 4, 2) := by decide +kernel
theorem dX0_powerModulo_32 : decode cX0_powerModulo 32 = .ok (.lrem, 1) := by decide +kernel
theorem dX0_powerModulo_33 : decode cX0_powerModulo 33 = .ok (.lstore 6, 2) := by decide +kernel
theorem dX0_powerModulo_35 : decode cX0_powerModulo 35 = .ok (.lload 8, 2) := by decide +kernel
theorem dX0_powerModulo_37 : decode cX0_powerModulo 37 = .ok (.lload 8, 2) := by decide +kernel
theorem dX0_powerModulo_39 : decode cX0_powerModulo 39 = .ok (.lmul, 1) := by decide +kernel
theorem dX0_powerModulo_40 : decode cX0_powerModulo 40 = .ok (.lload 4, 2) := by decide +kernel
theorem dX0_powerModulo_42 : decode cX0_powerModulo 42 = .ok (.lrem, 1) := by decide +kernel
theorem dX0_powerModulo_43 : decode cX0_powerModulo 43 = .ok (.lstore 8, 2) := by decide +kernel
theorem dX0_powerModulo_45 : decode cX0_powerModulo 45 = .ok (.lload 10, 2) := by decide +kernel
theorem dX0_powerModulo_47 : decode cX0_powerModulo 47 = .ok (.iconst 1, 1) := by decide +kernel
theorem dX0_powerModulo_48 : decode cX0_powerModulo 48 = .ok (.lshr, 1) := by decide +kernel
theorem dX0_powerModulo_49 : decode cX0_powerModulo 49 = .ok (.lstore 10, 2) := by decide +kernel
theorem dX0_powerModulo_51 : decode cX0_powerModulo 51 = .ok (.goto (-42), 3) := by decide +kernel
theorem dX0_powerModulo_54 : decode cX0_powerModulo 54 = .ok (.lload 6, 2) := by decide +kernel
theorem dX0_powerModulo_56 : decode cX0_powerModulo 56 = .ok (.lreturn, 1) := by decide +kernel
set_option maxRecDepth 20000 in
theorem ggX0_inverseOf_X0_powerModulo : GoodIn wsX0_inverseOf wsX0_powerModulo := goodIn_r _ [6] (by decide +kernel) (by decide +kernel)
set_option maxRecDepth 20000 in
theorem gX0_inverseOf_X0_powerModulo : GoodIn wsX0_inverseOf (va_wsS RX0 77 yX0_powerModulo wsX0_powerModulo) := goodIn_app (goodIn_of _ (by decide +kernel)) ggX0_inverseOf_X0_powerModulo
theorem dX0_inverseOf_0 : decode cX0_inverseOf 0 = .ok (.lload_n 1, 1) := by decide +kernel
theorem dX0_inverseOf_1 : decode cX0_inverseOf 1 = .ok (.aload_n 0, 1) := by decide +kernel
theorem dX0_inverseOf_2 : decode cX0_inverseOf 2 = .ok (.getfield 71, 3) := by decide +kernel
theorem dX0_inverseOf_5 : decode cX0_inverseOf 5 = .ok (.ldc2_w 41, 3) := by decide +kernel
theorem dX0_inverseOf_8 : decode cX0_inverseOf 8 = .ok (.lsub, 1) := by decide +kernel
theorem dX0_inverseOf_9 : decode cX0_inverseOf 9 = .ok (.aload_n 0, 1) := by decide +kernel
theorem dX0_inverseOf_10 : decode cX0_inverseOf 10 = .ok (.getfield 71, 3) := by decide +kernel
theorem dX0_inverseOf_13 : decode cX0_inverseOf 13 = .ok (.invokestatic 77, 3) := by decide +kernel
theorem dX0_inverseOf_16 : decode cX0_inverseOf 16 = .ok (.lreturn, 1) := by decide +kernel
set_option maxRecDepth 20000 in
theorem ggX0_turnForward_X0_orderByMirroredBits : GoodIn wsX0_turnForward wsX0_orderByMirroredBits := goodIn_r _ [4, 5, 6, 3, 7, 8, 9, 10] (by decide +kernel) (by decide +kernel)
set_option maxRecDepth 20000 in
theorem gX0_turnForward_X0_orderByMirroredBits : GoodIn wsX0_turnForward (va_wsS RX0 176 yX0_orderByMirroredBits wsX0_orderByMirroredBits) := goodIn_app (goodIn_of _ (by decide +kernel)) ggX0_turnForward_X0_orderByMirroredBits
set_option maxRecDepth 20000 in
theorem ggX0_turnForward_X0_joinHalves : GoodIn wsX0_turnForward wsX0_joinHalves := goodIn_r _ [14, 15, 16, 17, 18, 19, 20, 21, 22, 23, 24] (by decide +kernel) (by decide +kernel)
set_option maxRecDepth 20000 in
theorem gX0_turnForward_X0_joinHalves : GoodIn wsX0_turnForward (wsV RX0 179 RX0 yX0_joinHalves wsX0_joinHalves) := goodIn_app (goodIn_of _ (by decide +kernel)) ggX0_turnForward_X0_joinHalves
theorem dX0_turnForward_0 : decode cX0_turnForward 0 = .ok (.aload_n 1, 1) := by decide +kernel
theorem dX0_turnForward_1 : decode cX0_turnForward 1 = .ok (.iload_n 2, 1) := by decide +kernel
theorem dX0_turnForward_2 : decode cX0_turnForward 2 = .ok (.invokestatic 176, 3) := by decide +kernel
theorem dX0_turnForward_5 : decode cX0_turnForward 5 = .ok (.sipush 256, 3) := by decide +kernel
theorem dX0_turnForward_8 : decode cX0_turnForward 8 = .ok (.istore_n 3, 1) := by decide +kernel
theorem dX0_turnForward_9 : decode cX0_turnForward 9 = .ok (.iconst 1, 1) := by decide +kernel
theorem dX0_turnForward_10 : decode cX0_turnForward 10 = .ok (.istore 4, 2) := by decide +kernel
theorem dX0_turnForward_12 : decode cX0_turnForward 12 = .ok (.iload 4, 2) := by decide +kernel
theorem dX0_turnForward_14 : decode cX0_turnForward 14 = .ok (.iload_n 2, 1) := by decide +kernel
theorem dX0_turnForward_15 : decode cX0_turnForward 15 = .ok (.if_icmp .ge 25, 3) := by decide +kernel
theorem dX0_turnForward_18 : decode cX0_turnForward 18 = .ok (.aload_n 0, 1) := by decide +kernel
theorem dX0_turnForward_19 : decode cX0_turnForward 19 = .ok (.aload_n 1, 1) := by decide +kernel
theorem dX0_turnForward_20 : decode cX0_turnForward 20 = .ok (.iload_n 2, 1) := by decide +kernel
theorem dX0_turnForward_21 : decode cX0_turnForward 21 = .ok (.iload 4, 2) := by decide +kernel
theorem dX0_turnForward_23 : decode cX0_turnForward 23 = .ok (.iload_n 3, 1) := by decide +kernel
theorem dX0_turnForward_24 : decode cX0_turnForward 24 = .ok (.invokevirtual 179, 3) := by decide +kernel
theorem dX0_turnForward_27 : decode cX0_turnForward 27 = .ok (.iload_n 3, 1) := by decide +kernel
theorem dX0_turnForward_28 : decode cX0_turnForward 28 = .ok (.iconst 2, 1) := by decide +kernel
theorem dX0_turnForward_29 : decode cX0_turnForward 29 = .ok (.idiv, 1) := by decide +kernel
theorem dX0_turnForward_30 : decode cX0_turnForward 30 = .ok (.istore_n 3, 1) := by decide +kernel
theorem dX0_turnForward_31 : decode cX0_turnForward 31 = .ok (.iload 4, 2) := by decide +kernel
theorem dX0_turnForward_33 : decode cX0_turnForward 33 = .ok (.iconst 2, 1) := by decide +kernel
theorem dX0_turnForward_34 : decode cX0_turnForward 34 = .ok (.imul, 1) := by decide +kernel
theorem dX0_turnForward_35 : decode cX0_turnForward 35 = .ok (.istore 4, 2) := by decide +kernel
theorem dX0_turnForward_37 : decode cX0_turnForward 37 = .ok (.goto (-25), 3) := by decide +kernel
theorem dX0_turnForward_40 : decode cX0_turnForward 40 = .ok (.return_, 1) := by decide +kernel
set_option maxRecDepth 20000 in
theorem ggX0_turnBackward_X0_turnForward : GoodIn wsX0_turnBackward wsX0_turnForward := goodIn_r _ [6, 7, 8, 5, 9, 10, 11, 12, 13, 14, 15, 16, 17, 18, 19, 20, 1, 29, 30, 31, 32, 33, 34, 35, 36] (by decide +kernel) (by decide +kernel)
set_option maxRecDepth 20000 in
theorem gX0_turnBackward_X0_turnForward : GoodIn wsX0_turnBackward (wsV RX0 104 RX0 yX0_turnForward wsX0_turnForward) := goodIn_app (goodIn_of _ (by decide +kernel)) ggX0_turnBackward_X0_turnForward
set_option maxRecDepth 20000 in
theorem ggX0_turnBackward_X0_inverseOf : GoodIn wsX0_turnBackward wsX0_inverseOf := goodIn_r _ [24, 1, 25, 26, 27, 5, 28, 29, 30, 31, 32, 33, 34, 35, 36] (by decide +kernel) (by decide +kernel)
set_option maxRecDepth 20000 in
theorem gX0_turnBackward_X0_inverseOf : GoodIn wsX0_turnBackward (wsV RX0 83 RX0 yX0_inverseOf wsX0_inverseOf) := goodIn_app (goodIn_of _ (by decide +kernel)) ggX0_turnBackward_X0_inverseOf
set_option maxRecDepth 20000 in
theorem ggX0_turnBackward_X0_swap : GoodIn wsX0_turnBackward wsX0_swap := goodIn_r _ [15] (by decide +kernel) (by decide +kernel)
set_option maxRecDepth 20000 in
theorem gX0_turnBackward_X0_swap : GoodIn wsX0_turnBackward (va_wsS RX0 183 yX0_swap wsX0_swap) := goodIn_app (goodIn_of _ (by decide +kernel)) ggX0_turnBackward_X0_swap
theorem dX0_turnBackward_0 : decode cX0_turnBackward 0 = .ok (.aload_n 0, 1) := by decide +kernel
theorem dX0_turnBackward_1 : decode cX0_turnBackward 1 = .ok (.aload_n 1, 1) := by decide +kernel
theorem dX0_turnBackward_2 : decode cX0_turnBackward 2 = .ok (.iload_n 2, 1) := by decide +kernel
theorem dX0_turnBackward_3 : decode cX0_turnBackward 3 = .ok (.invokevirtual 104, 3) := by decide +kernel
theorem dX0_turnBackward_6 : decode cX0_turnBackward 6 = .ok (.aload_n 0, 1) := by decide +kernel
theorem dX0_turnBackward_7 : decode cX0_turnBackward 7 = .ok (.iload_n 2, 1) := by decide +kernel
theorem dX0_turnBackward_8 : decode cX0_turnBackward 8 = .ok (.i2l, 1) := by decide +kernel
theorem dX0_turnBackward_9 : decode cX0_turnBackward 9 = .ok (.invokevirtual 83, 3) := by decide +kernel
theorem dX0_turnBackward_12 : decode cX0_turnBackward 12 = .ok (.lstore_n 3, 1) := by decide +kernel
theorem dX0_turnBackward_13 : decode cX0_turnBackward 13 = .ok (.iconst 0, 1) := by decide +kernel
theorem dX0_turnBackward_14 : decode cX0_turnBackward 14 = .ok (.istore 5, 2) := by decide +kernel
theorem dX0_turnBackward_16 : decode cX0_turnBackward 16 = .ok (.iload 5, 2) := by decide +kernel
theorem dX0_turnBackward_18 : decode cX0_turnBackward 18 = .ok (.iload_n 2, 1) := by decide +kernel
theorem dX0_turnBackward_19 : decode cX0_turnBackward 19 = .ok (.if_icmp .ge 24, 3) := by decide +kernel
theorem dX0_turnBackward_22 : decode cX0_turnBackward 22 = .ok (.aload_n 1, 1) := by decide +kernel
theorem dX0_turnBackward_23 : decode cX0_turnBackward 23 = .ok (.iload 5, 2) := by decide +kernel
theorem dX0_turnBackward_25 : decode cX0_turnBackward 25 = .ok (.aload_n 1, 1) := by decide +kernel
theorem dX0_turnBackward_26 : decode cX0_turnBackward 26 = .ok (.iload 5, 2) := by decide +kernel
theorem dX0_turnBackward_28 : decode cX0_turnBackward 28 = .ok (.laload, 1) := by decide +kernel
theorem dX0_turnBackward_29 : decode cX0_turnBackward 29 = .ok (.lload_n 3, 1) := by decide +kernel
theorem dX0_turnBackward_30 : decode cX0_turnBackward 30 = .ok (.lmul, 1) := by decide +kernel
theorem dX0_turnBackward_31 : decode cX0_turnBackward 31 = .ok (.aload_n 0, 1) := by decide +kernel
theorem dX0_turnBackward_32 : decode cX0_turnBackward 32 = .ok (.getfield 71, 3) := by decide +kernel
theorem dX0_turnBackward_35 : decode cX0_turnBackward 35 = .ok (.lrem, 1) := by decide +kernel
theorem dX0_turnBackward_36 : decode cX0_turnBackward 36 = .ok (.lastore, 1) := by decide +kernel
theorem dX0_turnBackward_37 : decode cX0_turnBackward 37 = .ok (.iinc 5 1, 3) := by decide +kernel
theorem dX0_turnBackward_40 : decode cX0_turnBackward 40 = .ok (.goto (-24), 3) := by decide +kernel
theorem dX0_turnBackward_43 : decode cX0_turnBackward 43 = .ok (.iload_n 2, 1) := by decide +kernel
theorem dX0_turnBackward_44 : decode cX0_turnBackward 44 = .ok (.iconst 1, 1) := by decide +kernel
theorem dX0_turnBackward_45 : decode cX0_turnBackward 45 = .ok (.isub, 1) := by decide +kernel
theorem dX0_turnBackward_46 : decode cX0_turnBackward 46 = .ok (.istore 5, 2) := by decide +kernel
theorem dX0_turnBackward_48 : decode cX0_turnBackward 48 = .ok (.iconst 1, 1) := by decide +kernel
theorem dX0_turnBackward_49 : decode cX0_turnBackward 49 = .ok (.istore 6, 2) := by decide +kernel
theorem dX0_turnBackward_51 : decode cX0_turnBackward 51 = .ok (.iload 6, 2) := by decide +kernel
theorem dX0_turnBackward_53 : decode cX0_turnBackward 53 = .ok (.iload 5, 2) := by decide +kernel
theorem dX0_turnBackward_55 : decode cX0_turnBackward 55 = .ok (.if_icmp .ge 20, 3) := by decide +kernel
theorem dX0_turnBackward_58 : decode cX0_turnBackward 58 = .ok (.aload_n 1, 1) := by decide +kernel
theorem dX0_turnBackward_59 : decode cX0_turnBackward 59 = .ok (.iload 6, 2) := by decide +kernel
theorem dX0_turnBackward_61 : decode cX0_turnBackward 61 = .ok (.iload 5, 2) := by decide +kernel
theorem dX0_turnBackward_63 : decode cX0_turnBackward 63 = .ok (.invokestatic 183, 3) := by decide +kernel
theorem dX0_turnBackward_66 : decode cX0_turnBackward 66 = .ok (.iinc 5 (-1), 3) := by decide +kernel
theorem dX0_turnBackward_69 : decode cX0_turnBackward 69 = .ok (.iinc 6 1, 3) := by decide +kernel
theorem dX0_turnBackward_72 : decode cX0_turnBackward 72 = .ok (.goto (-21), 3) := by decide +kernel
theorem dX0_turnBackward_75 : decode cX0_turnBackward 75 = .ok (.return_, 1) := by decide +kernel
set_option maxRecDepth 20000 in
theorem ggX0_orderByMirroredBits_X0_nextMirrored : GoodIn wsX0_orderByMirroredBits wsX0_nextMirrored := goodIn_r _ [4] (by decide +kernel) (by decide +kernel)
set_option maxRecDepth 20000 in
theorem gX0_orderByMirroredBits_X0_nextMirrored : GoodIn wsX0_orderByMirroredBits (va_wsS RX0 187 yX0_nextMirrored wsX0_nextMirrored) := goodIn_app (goodIn_of _ (by decide +kernel)) ggX0_orderByMirroredBits_X0_nextMirrored
set_option maxRecDepth 20000 in
theorem ggX0_orderByMirroredBits_X0_swap : GoodIn wsX0_orderByMirroredBits wsX0_swap := goodIn_r _ [7] (by decide +kernel) (by decide +kernel)
set_option maxRecDepth 20000 in
theorem gX0_orderByMirroredBits_X0_swap : GoodIn wsX0_orderByMirroredBits (va_wsS RX0 183 yX0_swap wsX0_swap) := goodIn_app (goodIn_of _ (by decide +kernel)) ggX0_orderByMirroredBits_X0_swap
theorem dX0_orderByMirroredBits_0 : decode cX0_orderByMirroredBits 0 = .ok (.iconst 0, 1) := by decide +kernel
theorem dX0_orderByMirroredBits_1 : decode cX0_orderByMirroredBits 1 = .ok (.istore_n 2, 1) := by decide +kernel
theorem dX0_orderByMirroredBits_2 : decode cX0_orderByMirroredBits 2 = .ok (.iconst 1, 1) := by decide +kernel
theorem dX0_orderByMirroredBits_3 : decode cX0_orderByMirroredBits 3 = .ok (.istore_n 3, 1) := by decide +kernel
theorem dX0_orderByMirroredBits_4 : decode cX0_orderByMirroredBits 4 = .ok (.iload_n 3, 1) := by decide +kernel
theorem dX0_orderByMirroredBits_5 : decode cX0_orderByMirroredBits 5 = .ok (.iload_n 1, 1) := by decide +kernel
theorem dX0_orderByMirroredBits_6 : decode cX0_orderByMirroredBits 6 = .ok (.if_icmp .ge 26, 3) := by decide +kernel
theorem dX0_orderByMirroredBits_9 : decode cX0_orderByMirroredBits 9 = .ok (.iload_n 2, 1) := by decide +kernel
theorem dX0_orderByMirroredBits_10 : decode cX0_orderByMirroredBits 10 = .ok (.iload_n 1, 1) := by decide +kernel
theorem dX0_orderByMirroredBits_11 : decode cX0_orderByMirroredBits 11 = .ok (.invokestatic 187, 3) := by decide +kernel
theorem dX0_orderByMirroredBits_14 : decode cX0_orderByMirroredBits 14 = .ok (.istore_n 2, 1) := by decide +kernel
theorem dX0_orderByMirroredBits_15 : decode cX0_orderByMirroredBits 15 = .ok (.iload_n 3, 1) := by decide +kernel
theorem dX0_orderByMirroredBits_16 : decode cX0_orderByMirroredBits 16 = .ok (.iload_n 2, 1) := by decide +kernel
theorem dX0_orderByMirroredBits_17 : decode cX0_orderByMirroredBits 17 = .ok (.if_icmp .ge 9, 3) := by decide +kernel
theorem dX0_orderByMirroredBits_20 : decode cX0_orderByMirroredBits 20 = .ok (.aload_n 0, 1) := by decide +kernel
theorem dX0_orderByMirroredBits_21 : decode cX0_orderByMirroredBits 21 = .ok (.iload_n 3, 1) := by decide +kernel
theorem dX0_orderByMirroredBits_22 : decode cX0_orderByMirroredBits 22 = .ok (.iload_n 2, 1) := by decide +kernel
theorem dX0_orderByMirroredBits_23 : decode cX0_orderByMirroredBits 23 = .ok (.invokestatic 183, 3) := by decide +kernel
theorem dX0_orderByMirroredBits_26 : decode cX0_orderByMirroredBits 26 = .ok (.iinc 3 1, 3) := by decide +kernel
theorem dX0_orderByMirroredBits_29 : decode cX0_orderByMirroredBits 29 = .ok (.goto (-25), 3) := by decide +kernel
theorem dX0_orderByMirroredBits_32 : decode cX0_orderByMirroredBits 32 = .ok (.return_, 1) := by decide +kernel
theorem dX0_nextMirrored_0 : decode cX0_nextMirrored 0 = .ok (.iload_n 0, 1) := by decide +kernel
theorem dX0_nextMirrored_1 : decode cX0_nextMirrored 1 = .ok (.istore_n 2, 1) := by decide +kernel
theorem dX0_nextMirrored_2 : decode cX0_nextMirrored 2 = .ok (.iload_n 1, 1) := by decide +kernel
theorem dX0_nextMirrored_3 : decode cX0_nextMirrored 3 = .ok (.iconst 2, 1) := by decide +kernel
theorem dX0_nextMirrored_4 : decode cX0_nextMirrored 4 = .ok (.idiv, 1) := by decide +kernel
theorem dX0_nextMirrored_5 : decode cX0_nextMirrored 5 = .ok (.istore_n 3, 1) := by decide +kernel
theorem dX0_nextMirrored_6 : decode cX0_nextMirrored 6 = .ok (.iload_n 3, 1) := by decide +kernel
theorem dX0_nextMirrored_7 : decode cX0_nextMirrored 7 = .ok (.ifCond .le 20, 3) := by decide +kernel
theorem dX0_nextMirrored_10 : decode cX0_nextMirrored 10 = .ok (.iload_n 2, 1) := by decide +kernel
theorem dX0_nextMirrored_11 : decode cX0_nextMirrored 11 = .ok (.iload_n 3, 1) := by decide +kernel
theorem dX0_nextMirrored_12 : decode cX0_nextMirrored 12 = .ok (.iand, 1) := by decide +kernel
theorem dX0_nextMirrored_13 : decode cX0_nextMirrored 13 = .ok (.ifCond .eq 14, 3) := by decide +kernel
theorem dX0_nextMirrored_16 : decode cX0_nextMirrored 16 = .ok (.iload_n 2, 1) := by decide +kernel
theorem dX0_nextMirrored_17 : decode cX0_nextMirrored 17 = .ok (.iload_n 3, 1) := by decide +kernel
theorem dX0_nextMirrored_18 : decode cX0_nextMirrored 18 = .ok (.isub, 1) := by decide +kernel
theorem dX0_nextMirrored_19 : decode cX0_nextMirrored 19 = .ok (.istore_n 2, 1) := by decide +kernel
theorem dX0_nextMirrored_20 : decode cX0_nextMirrored 20 = .ok (.iload_n 3, 1) := by decide +kernel
theorem dX0_nextMirrored_21 : decode cX0_nextMirrored 21 = .ok (.iconst 2, 1) := by decide +kernel
theorem dX0_nextMirrored_22 : decode cX0_nextMirrored 22 = .ok (.idiv, 1) := by decide +kernel
theorem dX0_nextMirrored_23 : decode cX0_nextMirrored 23 = .ok (.istore_n 3, 1) := by decide +kernel
theorem dX0_nextMirrored_24 : decode cX0_nextMirrored 24 = .ok (.goto (-18), 3) := by decide +kernel
theorem dX0_nextMirrored_27 : decode cX0_nextMirrored 27 = .ok (.iload_n 2, 1) := by decide +kernel
theorem dX0_nextMirrored_28 : decode cX0_nextMirrored 28 = .ok (.iload_n 3, 1) := by decide +kernel
theorem dX0_nextMirrored_29 : decode cX0_nextMirrored 29 = .ok (.iadd, 1) := by decide +kernel
theorem dX0_nextMirrored_30 : decode cX0_nextMirrored 30 = .ok (.ireturn, 1) := by decide +kernel
theorem dX0_swap_0 : decode cX0_swap 0 = .ok (.aload_n 0, 1) := by decide +kernel
theorem dX0_swap_1 : decode cX0_swap 1 = .ok (.iload_n 1, 1) := by decide +kernel
theorem dX0_swap_2 : decode cX0_swap 2 = .ok (.laload, 1) := by decide +kernel
theorem dX0_swap_3 : decode cX0_swap 3 = .ok (.lstore_n 3, 1) := by decide +kernel
theorem dX0_swap_4 : decode cX0_swap 4 = .ok (.aload_n 0, 1) := by decide +kernel
theorem dX0_swap_5 : decode cX0_swap 5 = .ok (.iload_n 1, 1) := by decide +kernel
theorem dX0_swap_6 : decode cX0_swap 6 = .ok (.aload_n 0, 1) := by decide +kernel
theorem dX0_swap_7 : decode cX0_swap 7 = .ok (.iload_n 2, 1) := by decide +kernel
theorem dX0_swap_8 : decode cX0_swap 8 = .ok (.laload, 1) := by decide +kernel
theorem dX0_swap_9 : decode cX0_swap 9 = .ok (.lastore, 1) := by decide +kernel
theorem dX0_swap_10 : decode cX0_swap 10 = .ok (.aload_n 0, 1) := by decide +kernel
theorem dX0_swap_11 : decode cX0_swap 11 = .ok (.iload_n 2, 1) := by decide +kernel
theorem dX0_swap_12 : decode cX0_swap 12 = .ok (.lload_n 3, 1) := by decide +kernel
theorem dX0_swap_13 : decode cX0_swap 13 = .ok (.lastore, 1) := by decide +kernel
theorem dX0_swap_14 : decode cX0_swap 14 = .ok (.return_, 1) := by decide +kernel
theorem dX0_joinHalves_0 : decode cX0_joinHalves 0 = .ok (.iconst 0, 1) := by decide +kernel
theorem dX0_joinHalves_1 : decode cX0_joinHalves 1 = .ok (.istore 5, 2) := by decide +kernel
theorem dX0_joinHalves_3 : decode cX0_joinHalves 3 = .ok (.iload 5, 2) := by decide +kernel
theorem dX0_joinHalves_5 : decode cX0_joinHalves 5 = .ok (.iload_n 2, 1) := by decide +kernel
theorem dX0_joinHalves_6 : decode cX0_joinHalves 6 = .ok (.if_icmp .ge 133, 3) := by decide +kernel
theorem dX0_joinHalves_9 : decode cX0_joinHalves 9 = .ok (.iconst 0, 1) := by decide +kernel
theorem dX0_joinHalves_10 : decode cX0_joinHalves 10 = .ok (.istore 6, 2) := by decide +kernel
theorem dX0_joinHalves_12 : decode cX0_joinHalves 12 = .ok (.iload 6, 2) := by decide +kernel
theorem dX0_joinHalves_14 : decode cX0_joinHalves 14 = .ok (.iload_n 3, 1) := by decide +kernel
theorem dX0_joinHalves_15 : decode cX0_joinHalves 15 = .ok (.if_icmp .ge 113, 3) := by decide +kernel
theorem dX0_joinHalves_18 : decode cX0_joinHalves 18 = .ok (.iload 5, 2) := by decide +kernel
theorem dX0_joinHalves_20 : decode cX0_joinHalves 20 = .ok (.iload 6, 2) := by decide +kernel
theorem dX0_joinHalves_22 : decode cX0_joinHalves 22 = .ok (.iadd, 1) := by decide +kernel
theorem dX0_joinHalves_23 : decode cX0_joinHalves 23 = .ok (.istore 7, 2) := by decide +kernel
theorem dX0_joinHalves_25 : decode cX0_joinHalves 25 = .ok (.iload 7, 2) := by decide +kernel
theorem dX0_joinHalves_27 : decode cX0_joinHalves 27 = .ok (.iload_n 3, 1) := by decide +kernel
theorem dX0_joinHalves_28 : decode cX0_joinHalves 28 = .ok (.iadd, 1) := by decide +kernel
theorem dX0_joinHalves_29 : decode cX0_joinHalves 29 = .ok (.istore 8, 2) := by decide +kernel
theorem dX0_joinHalves_31 : decode cX0_joinHalves 31 = .ok (.aload_n 1, 1) := by decide +kernel
theorem dX0_joinHalves_32 : decode cX0_joinHalves 32 = .ok (.iload 7, 2) := by decide +kernel
theorem dX0_joinHalves_34 : decode cX0_joinHalves 34 = .ok (.laload, 1) := by decide +kernel
theorem dX0_joinHalves_35 : decode cX0_joinHalves 35 = .ok (.lstore 9, 2) := by decide +kernel
theorem dX0_joinHalves_37 : decode cX0_joinHalves 37 = .ok (.aload_n 1, 1) := by decide +kernel
theorem dX0_joinHalves_38 : decode cX0_joinHalves 38 = .ok (.iload 8, 2) := by decide +kernel
theorem dX0_joinHalves_40 : decode cX0_joinHalves 40 = .ok (.laload, 1) := by decide +kernel
theorem dX0_joinHalves_41 : decode cX0_joinHalves 41 = .ok (.aload_n 0, 1) := by decide +kernel
theorem dX0_joinHalves_42 : decode cX0_joinHalves 42 = .ok (.getfield 9, 3) := by decide +kernel
theorem dX0_joinHalves_45 : decode cX0_joinHalves 45 = .ok (.iload 6, 2) := by decide +kernel
theorem dX0_joinHalves_47 : decode cX0_joinHalves 47 = .ok (.iload 4, 2) := by decide +kernel
theorem dX0_joinHalves_49 : decode cX0_joinHalves 49 = .ok (.imul, 1) := by decide +kernel
theorem dX0_joinHalves_50 : decode cX0_joinHalves 50 = .ok (.laload, 1) := by decide +kernel
theorem dX0_joinHalves_51 : decode cX0_joinHalves 51 = .ok (.lmul, 1) := by decide +kernel
theorem dX0_joinHalves_52 : decode cX0_joinHalves 52 = .ok (.aload_n 0, 1) := by decide +kernel
theorem dX0_joinHalves_53 : decode cX0_joinHalves 53 = .ok (.getfield 71, 3) := by decide +kernel
theorem dX0_joinHalves_56 : decode cX0_joinHalves 56 = .ok (.lrem, 1) := by decide +kernel
theorem dX0_joinHalves_57 : decode cX0_joinHalves 57 = .ok (.lstore 11, 2) := by decide +kernel
theorem dX0_joinHalves_59 : decode cX0_joinHalves 59 = .ok (.lload 9, 2) := by decide +kernel
theorem dX0_joinHalves_61 : decode cX0_joinHalves 61 = .ok (.lload 11, 2) := by decide +kernel
theorem dX0_joinHalves_63 : decode cX0_joinHalves 63 = .ok (.ladd, 1) := by decide +kernel
theorem dX0_joinHalves_64 : decode cX0_joinHalves 64 = .ok (.lstore 13, 2) := by decide +kernel
theorem dX0_joinHalves_66 : decode cX0_joinHalves 66 = .ok (.lload 9, 2) := by decide +kernel
theorem dX0_joinHalves_68 : decode cX0_joinHalves 68 = .ok (.lload 11, 2) := by decide +kernel
theorem dX0_joinHalves_70 : decode cX0_joinHalves 70 = .ok (.lsub, 1) := by decide +kernel
theorem dX0_joinHalves_71 : decode cX0_joinHalves 71 = .ok (.lstore 15, 2) := by decide +kernel
theorem dX0_joinHalves_73 : decode cX0_joinHalves 73 = .ok (.aload_n 1, 1) := by decide +kernel
theorem dX0_joinHalves_74 : decode cX0_joinHalves 74 = .ok (.iload 7, 2) := by decide +kernel
theorem dX0_joinHalves_76 : decode cX0_joinHalves 76 = .ok (.lload 13, 2) := by decide +kernel
theorem dX0_joinHalves_78 : decode cX0_joinHalves 78 = .ok (.aload_n 0, 1) := by decide +kernel
theorem dX0_joinHalves_79 : decode cX0_joinHalves 79 = .ok (.getfield 71, 3) := by decide +kernel
theorem dX0_joinHalves_82 : decode cX0_joinHalves 82 = .ok (.lcmp, 1) := by decide +kernel
theorem dX0_joinHalves_83 : decode cX0_joinHalves 83 = .ok (.ifCond .lt 13, 3) := by decide +kernel
theorem dX0_joinHalves_86 : decode cX0_joinHalves 86 = .ok (.lload 13, 2) := by decide +kernel
theorem dX0_joinHalves_88 : decode cX0_joinHalves 88 = .ok (.aload_n 0, 1) := by decide +kernel
theorem dX0_joinHalves_89 : decode cX0_joinHalves 89 = .ok (.getfield 71, 3) := by decide +kernel
theorem dX0_joinHalves_92 : decode cX0_joinHalves 92 = .ok (.lsub, 1) := by decide +kernel
theorem dX0_joinHalves_93 : decode cX0_joinHalves 93 = .ok (.goto 5, 3) := by decide +kernel
theorem dX0_joinHalves_96 : decode cX0_joinHalves 96 = .ok (.lload 13, 2) := by decide +kernel
theorem dX0_joinHalves_98 : decode cX0_joinHalves 98 = .ok (.lastore, 1) := by decide +kernel
theorem dX0_joinHalves_99 : decode cX0_joinHalves 99 = .ok (.aload_n 1, 1) := by decide +kernel
theorem dX0_joinHalves_100 : decode cX0_joinHalves 100 = .ok (.iload 8, 2) := by decide +kernel
theorem dX0_joinHalves_102 : decode cX0_joinHalves 102 = .ok (.lload 15, 2) := by decide +kernel
theorem dX0_joinHalves_104 : decode cX0_joinHalves 104 = .ok (.lconst 0, 1) := by decide +kernel
theorem dX0_joinHalves_105 : decode cX0_joinHalves 105 = .ok (.lcmp, 1) := by decide +kernel
theorem dX0_joinHalves_106 : decode cX0_joinHalves 106 = .ok (.ifCond .ge 13, 3) := by decide +kernel
theorem dX0_joinHalves_109 : decode cX0_joinHalves 109 = .ok (.lload 15, 2) := by decide +kernel
theorem dX0_joinHalves_111 : decode cX0_joinHalves 111 = .ok (.aload_n 0, 1) := by decide +kernel
theorem dX0_joinHalves_112 : decode cX0_joinHalves 112 = .ok (.getfield 71, 3) := by decide +kernel
theorem dX0_joinHalves_115 : decode cX0_joinHalves 115 = .ok (.ladd, 1) := by decide +kernel
theorem dX0_joinHalves_116 : decode cX0_joinHalves 116 = .ok (.goto 5, 3) := by decide +kernel
theorem dX0_joinHalves_119 : decode cX0_joinHalves 119 = .ok (.lload 15, 2) := by decide +kernel
theorem dX0_joinHalves_121 : decode cX0_joinHalves 121 = .ok (.lastore, 1) := by decide +kernel
theorem dX0_joinHalves_122 : decode cX0_joinHalves 122 = .ok (.iinc 6 1, 3) := by decide +kernel
theorem dX0_joinHalves_125 : decode cX0_joinHalves 125 = .ok (.goto (-113), 3) := by decide +kernel
theorem dX0_joinHalves_128 : decode cX0_joinHalves 128 = .ok (.iload 5, 2) := by decide +kernel
theorem dX0_joinHalves_130 : decode cX0_joinHalves 130 = .ok (.iconst 2, 1) := by decide +kernel
theorem dX0_joinHalves_131 : decode cX0_joinHalves 131 = .ok (.iload_n 3, 1) := by decide +kernel
theorem dX0_joinHalves_132 : decode cX0_joinHalves 132 = .ok (.imul, 1) := by decide +kernel
theorem dX0_joinHalves_133 : decode cX0_joinHalves 133 = .ok (.iadd, 1) := by decide +kernel
theorem dX0_joinHalves_134 : decode cX0_joinHalves 134 = .ok (.istore 5, 2) := by decide +kernel
theorem dX0_joinHalves_136 : decode cX0_joinHalves 136 = .ok (.goto (-133), 3) := by decide +kernel
theorem dX0_joinHalves_139 : decode cX0_joinHalves 139 = .ok (.return_, 1) := by decide +kernel
theorem dX0_turnThatHolds_0 : decode cX0_turnThatHolds 0 = .ok (.iconst 1, 1) := by decide +kernel
theorem dX0_turnThatHolds_1 : decode cX0_turnThatHolds 1 = .ok (.istore_n 1, 1) := by decide +kernel
theorem dX0_turnThatHolds_2 : decode cX0_turnThatHolds 2 = .ok (.iload_n 1, 1) := by decide +kernel
theorem dX0_turnThatHolds_3 : decode cX0_turnThatHolds 3 = .ok (.iload_n 0, 1) := by decide +kernel
theorem dX0_turnThatHolds_4 : decode cX0_turnThatHolds 4 = .ok (.if_icmp .ge 17, 3) := by decide +kernel
theorem dX0_turnThatHolds_7 : decode cX0_turnThatHolds 7 = .ok (.iload_n 1, 1) := by decide +kernel
theorem dX0_turnThatHolds_8 : decode cX0_turnThatHolds 8 = .ok (.sipush 512, 3) := by decide +kernel
theorem dX0_turnThatHolds_11 : decode cX0_turnThatHolds 11 = .ok (.if_icmp .ge 10, 3) := by decide +kernel
theorem dX0_turnThatHolds_14 : decode cX0_turnThatHolds 14 = .ok (.iload_n 1, 1) := by decide +kernel
theorem dX0_turnThatHolds_15 : decode cX0_turnThatHolds 15 = .ok (.iconst 2, 1) := by decide +kernel
theorem dX0_turnThatHolds_16 : decode cX0_turnThatHolds 16 = .ok (.imul, 1) := by decide +kernel
theorem dX0_turnThatHolds_17 : decode cX0_turnThatHolds 17 = .ok (.istore_n 1, 1) := by decide +kernel
theorem dX0_turnThatHolds_18 : decode cX0_turnThatHolds 18 = .ok (.goto (-16), 3) := by decide +kernel
theorem dX0_turnThatHolds_21 : decode cX0_turnThatHolds 21 = .ok (.iload_n 1, 1) := by decide +kernel
theorem dX0_turnThatHolds_22 : decode cX0_turnThatHolds 22 = .ok (.ireturn, 1) := by decide +kernel
set_option maxRecDepth 20000 in
theorem ggX0_multiplyRows_X0_turnForward : GoodIn wsX0_multiplyRows wsX0_turnForward := goodIn_r _ [12, 13, 14, 11, 15, 16, 17, 18, 19, 20, 21, 22, 23, 24, 25, 26, 7, 43, 44, 45, 46, 47, 48, 49, 50] (by decide +kernel) (by decide +kernel)
set_option maxRecDepth 20000 in
theorem gX0_multiplyRows_X0_turnForward : GoodIn wsX0_multiplyRows (wsV RX0 104 RX0 yX0_turnForward wsX0_turnForward) := goodIn_app (goodIn_of _ (by decide +kernel)) ggX0_multiplyRows_X0_turnForward
set_option maxRecDepth 20000 in
theorem ggX0_multiplyRows_X0_turnBackward : GoodIn wsX0_multiplyRows wsX0_turnBackward := goodIn_r _ [30, 7, 8, 9, 10, 11, 12, 13, 14, 15, 16, 17, 18, 19, 20, 21, 22, 23, 24, 25, 26, 31, 32, 33, 34, 35, 36, 37, 38, 43, 44, 45, 46, 47, 48, 49, 50] (by decide +kernel) (by decide +kernel)
set_option maxRecDepth 20000 in
theorem gX0_multiplyRows_X0_turnBackward : GoodIn wsX0_multiplyRows (wsV RX0 100 RX0 yX0_turnBackward wsX0_turnBackward) := goodIn_app (goodIn_of _ (by decide +kernel)) ggX0_multiplyRows_X0_turnBackward
set_option maxRecDepth 20000 in
theorem ggX0_multiplyRows_J7_fill_d0a16 : GoodIn wsX0_multiplyRows wsJ7_fill_d0a16 := goodIn_r _ [42] (by decide +kernel) (by decide +kernel)
set_option maxRecDepth 20000 in
theorem gX0_multiplyRows_J7_fill_d0a16 : GoodIn wsX0_multiplyRows (va_wsS RX0 62 yJ7_fill_d0a16 wsJ7_fill_d0a16) := goodIn_app (goodIn_of _ (by decide +kernel)) ggX0_multiplyRows_J7_fill_d0a16
theorem dX0_multiplyRows_0 : decode cX0_multiplyRows 0 = .ok (.aload_n 2, 1) := by decide +kernel
theorem dX0_multiplyRows_1 : decode cX0_multiplyRows 1 = .ok (.iconst 0, 1) := by decide +kernel
theorem dX0_multiplyRows_2 : decode cX0_multiplyRows 2 = .ok (.aload_n 0, 1) := by decide +kernel
theorem dX0_multiplyRows_3 : decode cX0_multiplyRows 3 = .ok (.getfield 24, 3) := by decide +kernel
theorem dX0_multiplyRows_6 : decode cX0_multiplyRows 6 = .ok (.iconst 0, 1) := by decide +kernel
theorem dX0_multiplyRows_7 : decode cX0_multiplyRows 7 = .ok (.iload 4, 2) := by decide +kernel
theorem dX0_multiplyRows_9 : decode cX0_multiplyRows 9 = .ok (.invokestatic 134, 3) := by decide +kernel
theorem dX0_multiplyRows_12 : decode cX0_multiplyRows 12 = .ok (.aload_n 3, 1) := by decide +kernel
theorem dX0_multiplyRows_13 : decode cX0_multiplyRows 13 = .ok (.iconst 0, 1) := by decide +kernel
theorem dX0_multiplyRows_14 : decode cX0_multiplyRows 14 = .ok (.aload_n 0, 1) := by decide +kernel
theorem dX0_multiplyRows_15 : decode cX0_multiplyRows 15 = .ok (.getfield 27, 3) := by decide +kernel
theorem dX0_multiplyRows_18 : decode cX0_multiplyRows 18 = .ok (.iconst 0, 1) := by decide +kernel
theorem dX0_multiplyRows_19 : decode cX0_multiplyRows 19 = .ok (.iload 4, 2) := by decide +kernel
theorem dX0_multiplyRows_21 : decode cX0_multiplyRows 21 = .ok (.invokestatic 134, 3) := by decide +kernel
theorem dX0_multiplyRows_24 : decode cX0_multiplyRows 24 = .ok (.aload_n 0, 1) := by decide +kernel
theorem dX0_multiplyRows_25 : decode cX0_multiplyRows 25 = .ok (.aload_n 0, 1) := by decide +kernel
theorem dX0_multiplyRows_26 : decode cX0_multiplyRows 26 = .ok (.getfield 24, 3) := by decide +kernel
theorem dX0_multiplyRows_29 : decode cX0_multiplyRows 29 = .ok (.iload 4, 2) := by decide +kernel
theorem dX0_multiplyRows_31 : decode cX0_multiplyRows 31 = .ok (.invokevirtual 104, 3) := by decide +kernel
theorem dX0_multiplyRows_34 : decode cX0_multiplyRows 34 = .ok (.aload_n 0, 1) := by decide +kernel
theorem dX0_multiplyRows_35 : decode cX0_multiplyRows 35 = .ok (.aload_n 0, 1) := by decide +kernel
theorem dX0_multiplyRows_36 : decode cX0_multiplyRows 36 = .ok (.getfield 27, 3) := by decide +kernel
theorem dX0_multiplyRows_39 : decode cX0_multiplyRows 39 = .ok (.iload 4, 2) := by decide +kernel
theorem dX0_multiplyRows_41 : decode cX0_multiplyRows 41 = .ok (.invokevirtual 104, 3) := by decide +kernel
theorem dX0_multiplyRows_44 : decode cX0_multiplyRows 44 = .ok (.iconst 0, 1) := by decide +kernel
theorem dX0_multiplyRows_45 : decode cX0_multiplyRows 45 = .ok (.istore 5, 2) := by decide +kernel
theorem dX0_multiplyRows_47 : decode cX0_multiplyRows 47 = .ok (.iload 5, 2) := by decide +kernel
theorem dX0_multiplyRows_49 : decode cX0_multiplyRows 49 = .ok (.iload 4, 2) := by decide +kernel
theorem dX0_multiplyRows_51 : decode cX0_multiplyRows 51 = .ok (.if_icmp .ge 36, 3) := by decide +kernel
theorem dX0_multiplyRows_54 : decode cX0_multiplyRows 54 = .ok (.aload_n 0, 1) := by decide +kernel
theorem dX0_multiplyRows_55 : decode cX0_multiplyRows 55 = .ok (.getfield 24, 3) := by decide +kernel
theorem dX0_multiplyRows_58 : decode cX0_multiplyRows 58 = .ok (.iload 5, 2) := by decide +kernel
theorem dX0_multiplyRows_60 : decode cX0_multiplyRows 60 = .ok (.aload_n 0, 1) := by decide +kernel
theorem dX0_multiplyRows_61 : decode cX0_multiplyRows 61 = .ok (.getfield 24, 3) := by decide +kernel
theorem dX0_multiplyRows_64 : decode cX0_multiplyRows 64 = .ok (.iload 5, 2) := by decide +kernel
theorem dX0_multiplyRows_66 : decode cX0_multiplyRows 66 = .ok (.laload, 1) := by decide +kernel
theorem dX0_multiplyRows_67 : decode cX0_multiplyRows 67 = .ok (.aload_n 0, 1) := by decide +kernel
theorem dX0_multiplyRows_68 : decode cX0_multiplyRows 68 = .ok (.getfield 27, 3) := by decide +kernel
theorem dX0_multiplyRows_71 : decode cX0_multiplyRows 71 = .ok (.iload 5, 2) := by decide +kernel
theorem dX0_multiplyRows_73 : decode cX0_multiplyRows 73 = .ok (.laload, 1) := by decide +kernel
theorem dX0_multiplyRows_74 : decode cX0_multiplyRows 74 = .ok (.lmul, 1) := by decide +kernel
theorem dX0_multiplyRows_75 : decode cX0_multiplyRows 75 = .ok (.aload_n 0, 1) := by decide +kernel
theorem dX0_multiplyRows_76 : decode cX0_multiplyRows 76 = .ok (.getfield 71, 3) := by decide +kernel
theorem dX0_multiplyRows_79 : decode cX0_multiplyRows 79 = .ok (.lrem, 1) := by decide +kernel
theorem dX0_multiplyRows_80 : decode cX0_multiplyRows 80 = .ok (.lastore, 1) := by decide +kernel
theorem dX0_multiplyRows_81 : decode cX0_multiplyRows 81 = .ok (.iinc 5 1, 3) := by decide +kernel
theorem dX0_multiplyRows_84 : decode cX0_multiplyRows 84 = .ok (.goto (-37), 3) := by decide +kernel
theorem dX0_multiplyRows_87 : decode cX0_multiplyRows 87 = .ok (.aload_n 0, 1) := by decide +kernel
theorem dX0_multiplyRows_88 : decode cX0_multiplyRows 88 = .ok (.aload_n 0, 1) := by decide +kernel
theorem dX0_multiplyRows_89 : decode cX0_multiplyRows 89 = .ok (.getfield 24, 3) := by decide +kernel
theorem dX0_multiplyRows_92 : decode cX0_multiplyRows 92 = .ok (.iload 4, 2) := by decide +kernel
theorem dX0_multiplyRows_94 : decode cX0_multiplyRows 94 = .ok (.invokevirtual 100, 3) := by decide +kernel
theorem dX0_multiplyRows_97 : decode cX0_multiplyRows 97 = .ok (.aload_n 1, 1) := by decide +kernel
theorem dX0_multiplyRows_98 : decode cX0_multiplyRows 98 = .ok (.lconst 0, 1) := by decide +kernel
theorem dX0_multiplyRows_99 : decode cX0_multiplyRows 99 = .ok (.invokestatic 62, 3) := by decide +kernel
theorem dX0_multiplyRows_102 : decode cX0_multiplyRows 102 = .ok (.aload_n 0, 1) := by decide +kernel
theorem dX0_multiplyRows_103 : decode cX0_multiplyRows 103 = .ok (.getfield 24, 3) := by decide +kernel
theorem dX0_multiplyRows_106 : decode cX0_multiplyRows 106 = .ok (.iconst 0, 1) := by decide +kernel
theorem dX0_multiplyRows_107 : decode cX0_multiplyRows 107 = .ok (.aload_n 1, 1) := by decide +kernel
theorem dX0_multiplyRows_108 : decode cX0_multiplyRows 108 = .ok (.iconst 0, 1) := by decide +kernel
theorem dX0_multiplyRows_109 : decode cX0_multiplyRows 109 = .ok (.iload 4, 2) := by decide +kernel
theorem dX0_multiplyRows_111 : decode cX0_multiplyRows 111 = .ok (.invokestatic 134, 3) := by decide +kernel
theorem dX0_multiplyRows_114 : decode cX0_multiplyRows 114 = .ok (.return_, 1) := by decide +kernel
set_option maxRecDepth 20000 in
theorem ggX0_multiplyWords_J7_fill_d0a16 : GoodIn wsX0_multiplyWords wsJ7_fill_d0a16 := goodIn_r _ [6] (by decide +kernel) (by decide +kernel)
set_option maxRecDepth 20000 in
theorem gX0_multiplyWords_J7_fill_d0a16 : GoodIn wsX0_multiplyWords (va_wsS RX0 62 yJ7_fill_d0a16 wsJ7_fill_d0a16) := goodIn_app (goodIn_of _ (by decide +kernel)) ggX0_multiplyWords_J7_fill_d0a16
theorem dX0_multiplyWords_0 : decode cX0_multiplyWords 0 = .ok (.aload_n 0, 1) := by decide +kernel
theorem dX0_multiplyWords_1 : decode cX0_multiplyWords 1 = .ok (.getfield 30, 3) := by decide +kernel
theorem dX0_multiplyWords_4 : decode cX0_multiplyWords 4 = .ok (.lconst 0, 1) := by decide +kernel
theorem dX0_multiplyWords_5 : decode cX0_multiplyWords 5 = .ok (.invokestatic 62, 3) := by decide +kernel
theorem dX0_multiplyWords_8 : decode cX0_multiplyWords 8 = .ok (.iconst 0, 1) := by decide +kernel
theorem dX0_multiplyWords_9 : decode cX0_multiplyWords 9 = .ok (.istore 5, 2) := by decide +kernel
theorem dX0_multiplyWords_11 : decode cX0_multiplyWords 11 = .ok (.iload 5, 2) := by decide +kernel
theorem dX0_multiplyWords_13 : decode cX0_multiplyWords 13 = .ok (.iload_n 2, 1) := by decide +kernel
theorem dX0_multiplyWords_14 : decode cX0_multiplyWords 14 = .ok (.if_icmp .ge 88, 3) := by decide +kernel
theorem dX0_multiplyWords_17 : decode cX0_multiplyWords 17 = .ok (.lconst 0, 1) := by decide +kernel
theorem dX0_multiplyWords_18 : decode cX0_multiplyWords 18 = .ok (.lstore 6, 2) := by decide +kernel
theorem dX0_multiplyWords_20 : decode cX0_multiplyWords 20 = .ok (.iconst 0, 1) := by decide +kernel
theorem dX0_multiplyWords_21 : decode cX0_multiplyWords 21 = .ok (.istore 8, 2) := by decide +kernel
theorem dX0_multiplyWords_23 : decode cX0_multiplyWords 23 = .ok (.iload 8, 2) := by decide +kernel
theorem dX0_multiplyWords_25 : decode cX0_multiplyWords 25 = .ok (.iload 4, 2) := by decide +kernel
theorem dX0_multiplyWords_27 : decode cX0_multiplyWords 27 = .ok (.if_icmp .ge 57, 3) := by decide +kernel
theorem dX0_multiplyWords_30 : decode cX0_multiplyWords 30 = .ok (.aload_n 1, 1) := by decide +kernel
theorem dX0_multiplyWords_31 : decode cX0_multiplyWords 31 = .ok (.iload 5, 2) := by decide +kernel
theorem dX0_multiplyWords_33 : decode cX0_multiplyWords 33 = .ok (.laload, 1) := by decide +kernel
theorem dX0_multiplyWords_34 : decode cX0_multiplyWords 34 = .ok (.aload_n 3, 1) := by decide +kernel
theorem dX0_multiplyWords_35 : decode cX0_multiplyWords 35 = .ok (.iload 8, 2) := by decide +kernel
theorem dX0_multiplyWords_37 : decode cX0_multiplyWords 37 = .ok (.laload, 1) := by decide +kernel
theorem dX0_multiplyWords_38 : decode cX0_multiplyWords 38 = .ok (.lmul, 1) := by decide +kernel
theorem dX0_multiplyWords_39 : decode cX0_multiplyWords 39 = .ok (.aload_n 0, 1) := by decide +kernel
theorem dX0_multiplyWords_40 : decode cX0_multiplyWords 40 = .ok (.getfield 30, 3) := by decide +kernel
theorem dX0_multiplyWords_43 : decode cX0_multiplyWords 43 = .ok (.iload 5, 2) := by decide +kernel
theorem dX0_multiplyWords_45 : decode cX0_multiplyWords 45 = .ok (.iload 8, 2) := by decide +kernel
theorem dX0_multiplyWords_47 : decode cX0_multiplyWords 47 = .ok (.iadd, 1) := by decide +kernel
theorem dX0_multiplyWords_48 : decode cX0_multiplyWords 48 = .ok (.laload, 1) := by decide +kernel
theorem dX0_multiplyWords_49 : decode cX0_multiplyWords 49 = .ok (.ladd, 1) := by decide +kernel
theorem dX0_multiplyWords_50 : decode cX0_multiplyWords 50 = .ok (.lload 6, 2) := by decide +kernel
theorem dX0_multiplyWords_52 : decode cX0_multiplyWords 52 = .ok (.ladd, 1) := by decide +kernel
theorem dX0_multiplyWords_53 : decode cX0_multiplyWords 53 = .ok (.lstore 9, 2) := by decide +kernel
theorem dX0_multiplyWords_55 : decode cX0_multiplyWords 55 = .ok (.aload_n 0, 1) := by decide +kernel
theorem dX0_multiplyWords_56 : decode cX0_multiplyWords 56 = .ok (.getfield 30, 3) := by decide +kernel
theorem dX0_multiplyWords_59 : decode cX0_multiplyWords 59 = .ok (.iload 5, 2) := by decide +kernel
theorem dX0_multiplyWords_61 : decode cX0_multiplyWords 61 = .ok (.iload 8, 2) := by decide +kernel
theorem dX0_multiplyWords_63 : decode cX0_multiplyWords 63 = .ok (.iadd, 1) := by decide +kernel
theorem dX0_multiplyWords_64 : decode cX0_multiplyWords 64 = .ok (.lload 9, 2) := by decide +kernel
theorem dX0_multiplyWords_66 : decode cX0_multiplyWords 66 = .ok (.ldc2_w 126, 3) := by decide +kernel
theorem dX0_multiplyWords_69 : decode cX0_multiplyWords 69 = .ok (.land, 1) := by decide +kernel
theorem dX0_multiplyWords_70 : decode cX0_multiplyWords 70 = .ok (.lastore, 1) := by decide +kernel
theorem dX0_multiplyWords_71 : decode cX0_multiplyWords 71 = .ok (.lload 9, 2) := by decide +kernel
theorem dX0_multiplyWords_73 : decode cX0_multiplyWords 73 = .ok (.bipush 32, 2) := by decide +kernel
theorem dX0_multiplyWords_75 : decode cX0_multiplyWords 75 = .ok (.lushr, 1) := by decide +kernel
theorem dX0_multiplyWords_76 : decode cX0_multiplyWords 76 = .ok (.lstore 6, 2) := by decide +kernel
theorem dX0_multiplyWords_78 : decode cX0_multiplyWords 78 = .ok (.iinc 8 1, 3) := by decide +kernel
theorem dX0_multiplyWords_81 : decode cX0_multiplyWords 81 = .ok (.goto (-58), 3) := by decide +kernel
theorem dX0_multiplyWords_84 : decode cX0_multiplyWords 84 = .ok (.aload_n 0, 1) := by decide +kernel
theorem dX0_multiplyWords_85 : decode cX0_multiplyWords 85 = .ok (.getfield 30, 3) := by decide +kernel
theorem dX0_multiplyWords_88 : decode cX0_multiplyWords 88 = .ok (.iload 5, 2) := by decide +kernel
theorem dX0_multiplyWords_90 : decode cX0_multiplyWords 90 = .ok (.iload 4, 2) := by decide +kernel
theorem dX0_multiplyWords_92 : decode cX0_multiplyWords 92 = .ok (.iadd, 1) := by decide +kernel
theorem dX0_multiplyWords_93 : decode cX0_multiplyWords 93 = .ok (.lload 6, 2) := by decide +kernel
theorem dX0_multiplyWords_95 : decode cX0_multiplyWords 95 = .ok (.lastore, 1) := by decide +kernel
theorem dX0_multiplyWords_96 : decode cX0_multiplyWords 96 = .ok (.iinc 5 1, 3) := by decide +kernel
theorem dX0_multiplyWords_99 : decode cX0_multiplyWords 99 = .ok (.goto (-88), 3) := by decide +kernel
theorem dX0_multiplyWords_102 : decode cX0_multiplyWords 102 = .ok (.return_, 1) := by decide +kernel
theorem dX0_addWords_0 : decode cX0_addWords 0 = .ok (.lconst 0, 1) := by decide +kernel
theorem dX0_addWords_1 : decode cX0_addWords 1 = .ok (.lstore_n 3, 1) := by decide +kernel
theorem dX0_addWords_2 : decode cX0_addWords 2 = .ok (.iconst 0, 1) := by decide +kernel
theorem dX0_addWords_3 : decode cX0_addWords 3 = .ok (.istore 5, 2) := by decide +kernel
theorem dX0_addWords_5 : decode cX0_addWords 5 = .ok (.iload 5, 2) := by decide +kernel
theorem dX0_addWords_7 : decode cX0_addWords 7 = .ok (.sipush 240, 3) := by decide +kernel
theorem dX0_addWords_10 : decode cX0_addWords 10 = .ok (.if_icmp .ge 41, 3) := by decide +kernel
theorem dX0_addWords_13 : decode cX0_addWords 13 = .ok (.aload_n 1, 1) := by decide +kernel
theorem dX0_addWords_14 : decode cX0_addWords 14 = .ok (.iload 5, 2) := by decide +kernel
theorem dX0_addWords_16 : decode cX0_addWords 16 = .ok (.laload, 1) := by decide +kernel
theorem dX0_addWords_17 : decode cX0_addWords 17 = .ok (.aload_n 2, 1) := by decide +kernel
theorem dX0_addWords_18 : decode cX0_addWords 18 = .ok (.iload 5, 2) := by decide +kernel
theorem dX0_addWords_20 : decode cX0_addWords 20 = .ok (.laload, 1) := by decide +kernel
theorem dX0_addWords_21 : decode cX0_addWords 21 = .ok (.ladd, 1) := by decide +kernel
theorem dX0_addWords_22 : decode cX0_addWords 22 = .ok (.lload_n 3, 1) := by decide +kernel
theorem dX0_addWords_23 : decode cX0_addWords 23 = .ok (.ladd, 1) := by decide +kernel
theorem dX0_addWords_24 : decode cX0_addWords 24 = .ok (.lstore 6, 2) := by decide +kernel
theorem dX0_addWords_26 : decode cX0_addWords 26 = .ok (.aload_n 0, 1) := by decide +kernel
theorem dX0_addWords_27 : decode cX0_addWords 27 = .ok (.getfield 30, 3) := by decide +kernel
theorem dX0_addWords_30 : decode cX0_addWords 30 = .ok (.iload 5, 2) := by decide +kernel
theorem dX0_addWords_32 : decode cX0_addWords 32 = .ok (.lload 6, 2) := by decide +kernel
theorem dX0_addWords_34 : decode cX0_addWords 34 = .ok (.ldc2_w 126, 3) := by decide +kernel
theorem dX0_addWords_37 : decode cX0_addWords 37 = .ok (.land, 1) := by decide +kernel
theorem dX0_addWords_38 : decode cX0_addWords 38 = .ok (.lastore, 1) := by decide +kernel
theorem dX0_addWords_39 : decode cX0_addWords 39 = .ok (.lload 6, 2) := by decide +kernel
theorem dX0_addWords_41 : decode cX0_addWords 41 = .ok (.bipush 32, 2) := by decide +kernel
theorem dX0_addWords_43 : decode cX0_addWords 43 = .ok (.lushr, 1) := by decide +kernel
theorem dX0_addWords_44 : decode cX0_addWords 44 = .ok (.lstore_n 3, 1) := by decide +kernel
theorem dX0_addWords_45 : decode cX0_addWords 45 = .ok (.iinc 5 1, 3) := by decide +kernel
theorem dX0_addWords_48 : decode cX0_addWords 48 = .ok (.goto (-43), 3) := by decide +kernel
theorem dX0_addWords_51 : decode cX0_addWords 51 = .ok (.lload_n 3, 1) := by decide +kernel
theorem dX0_addWords_52 : decode cX0_addWords 52 = .ok (.lreturn, 1) := by decide +kernel
