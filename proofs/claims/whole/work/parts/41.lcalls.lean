set_option maxRecDepth 20000 in
theorem ggL_field_X0_field : GoodIn wsL_field wsX0_field := goodIn_ca (goodIn_r _ [6, 7, 8, 9, 10, 11, 12, 13, 14, 15, 16, 5, 17, 18, 19, 20, 21, 22, 23, 24, 25, 26, 27, 28, 29, 30, 31, 32, 33, 34, 35, 36, 37, 38, 39, 40, 41, 42, 43, 44, 45, 46, 47, 48, 49, 50] (by decide +kernel) (by decide +kernel)) (goodIn_sub (fun _ h => List.mem_cons_of_mem _ (List.mem_append_right _ h)) (by decide +kernel))
set_option maxRecDepth 20000 in
theorem gL_field_X0_field : GoodIn wsL_field (wsV RL 7 RX0 yX0_field wsX0_field) := goodIn_app (goodIn_of _ (by decide +kernel)) ggL_field_X0_field
theorem dL_field_0 : decode cL_field 0 = .ok (.aload_n 3, 1) := by decide +kernel
theorem dL_field_1 : decode cL_field 1 = .ok (.iconst 0, 1) := by decide +kernel
theorem dL_field_2 : decode cL_field 2 = .ok (.aload_n 0, 1) := by decide +kernel
theorem dL_field_3 : decode cL_field 3 = .ok (.lload_n 1, 1) := by decide +kernel
theorem dL_field_4 : decode cL_field 4 = .ok (.invokevirtual 7, 3) := by decide +kernel
theorem dL_field_7 : decode cL_field 7 = .ok (.lastore, 1) := by decide +kernel
theorem dL_field_8 : decode cL_field 8 = .ok (.goto 7, 3) := by decide +kernel
theorem dL_field_11 : decode cL_field 11 = .ok (.astore 4, 2) := by decide +kernel
theorem dL_field_13 : decode cL_field 13 = .ok (.iconst 1, 1) := by decide +kernel
theorem dL_field_14 : decode cL_field 14 = .ok (.ireturn, 1) := by decide +kernel
theorem dL_field_15 : decode cL_field 15 = .ok (.iconst 0, 1) := by decide +kernel
theorem dL_field_16 : decode cL_field 16 = .ok (.ireturn, 1) := by decide +kernel
set_option maxRecDepth 20000 in
theorem ggL_power_X0_power : GoodIn wsL_power wsX0_power := goodIn_ca (goodIn_r _ [6, 7, 8, 9, 10, 11, 12, 5, 13, 14, 15, 16, 17, 18, 19, 20, 21, 22, 23, 24, 25, 26, 27, 28] (by decide +kernel) (by decide +kernel)) (goodIn_sub (fun _ h => List.mem_cons_of_mem _ (List.mem_append_right _ h)) (by decide +kernel))
set_option maxRecDepth 20000 in
theorem gL_power_X0_power : GoodIn wsL_power (wsV RL 15 RX0 yX0_power wsX0_power) := goodIn_app (goodIn_of _ (by decide +kernel)) ggL_power_X0_power
theorem dL_power_0 : decode cL_power 0 = .ok (.aload 5, 2) := by decide +kernel
theorem dL_power_2 : decode cL_power 2 = .ok (.iconst 0, 1) := by decide +kernel
theorem dL_power_3 : decode cL_power 3 = .ok (.aload_n 0, 1) := by decide +kernel
theorem dL_power_4 : decode cL_power 4 = .ok (.lload_n 1, 1) := by decide +kernel
theorem dL_power_5 : decode cL_power 5 = .ok (.lload_n 3, 1) := by decide +kernel
theorem dL_power_6 : decode cL_power 6 = .ok (.invokevirtual 15, 3) := by decide +kernel
theorem dL_power_9 : decode cL_power 9 = .ok (.lastore, 1) := by decide +kernel
theorem dL_power_10 : decode cL_power 10 = .ok (.goto 7, 3) := by decide +kernel
theorem dL_power_13 : decode cL_power 13 = .ok (.astore 6, 2) := by decide +kernel
theorem dL_power_15 : decode cL_power 15 = .ok (.iconst 1, 1) := by decide +kernel
theorem dL_power_16 : decode cL_power 16 = .ok (.ireturn, 1) := by decide +kernel
theorem dL_power_17 : decode cL_power 17 = .ok (.iconst 0, 1) := by decide +kernel
theorem dL_power_18 : decode cL_power 18 = .ok (.ireturn, 1) := by decide +kernel
set_option maxRecDepth 20000 in
theorem ggL_inverse_X0_inverse : GoodIn wsL_inverse wsX0_inverse := goodIn_ca (goodIn_r _ [6, 7, 8, 9, 10, 11, 5, 12, 13, 14, 15, 16, 17, 18, 19, 20, 21, 22, 23, 24, 25, 26, 27, 28, 29, 30, 31, 32, 33] (by decide +kernel) (by decide +kernel)) (goodIn_sub (fun _ h => List.mem_cons_of_mem _ (List.mem_append_right _ h)) (by decide +kernel))
set_option maxRecDepth 20000 in
theorem gL_inverse_X0_inverse : GoodIn wsL_inverse (wsV RL 19 RX0 yX0_inverse wsX0_inverse) := goodIn_app (goodIn_of _ (by decide +kernel)) ggL_inverse_X0_inverse
theorem dL_inverse_0 : decode cL_inverse 0 = .ok (.aload_n 3, 1) := by decide +kernel
theorem dL_inverse_1 : decode cL_inverse 1 = .ok (.iconst 0, 1) := by decide +kernel
theorem dL_inverse_2 : decode cL_inverse 2 = .ok (.aload_n 0, 1) := by decide +kernel
theorem dL_inverse_3 : decode cL_inverse 3 = .ok (.lload_n 1, 1) := by decide +kernel
theorem dL_inverse_4 : decode cL_inverse 4 = .ok (.invokevirtual 19, 3) := by decide +kernel
theorem dL_inverse_7 : decode cL_inverse 7 = .ok (.lastore, 1) := by decide +kernel
theorem dL_inverse_8 : decode cL_inverse 8 = .ok (.goto 7, 3) := by decide +kernel
theorem dL_inverse_11 : decode cL_inverse 11 = .ok (.astore 4, 2) := by decide +kernel
theorem dL_inverse_13 : decode cL_inverse 13 = .ok (.iconst 1, 1) := by decide +kernel
theorem dL_inverse_14 : decode cL_inverse 14 = .ok (.ireturn, 1) := by decide +kernel
theorem dL_inverse_15 : decode cL_inverse 15 = .ok (.iconst 0, 1) := by decide +kernel
theorem dL_inverse_16 : decode cL_inverse 16 = .ok (.ireturn, 1) := by decide +kernel
set_option maxRecDepth 20000 in
theorem ggL_put_X0_put : GoodIn wsL_put wsX0_put := goodIn_ca (goodIn_r _ [6, 7, 8, 9, 5, 10, 11, 12, 13, 14, 15, 16, 17, 18, 19, 20, 21, 22, 23, 24, 25, 26, 27, 28, 29, 30, 31, 32] (by decide +kernel) (by decide +kernel)) (goodIn_sub (fun _ h => List.mem_cons_of_mem _ (List.mem_append_right _ h)) (by decide +kernel))
set_option maxRecDepth 20000 in
theorem gL_put_X0_put : GoodIn wsL_put (wsV RL 22 RX0 yX0_put wsX0_put) := goodIn_app (goodIn_of _ (by decide +kernel)) ggL_put_X0_put
theorem dL_put_0 : decode cL_put 0 = .ok (.aload 5, 2) := by decide +kernel
theorem dL_put_2 : decode cL_put 2 = .ok (.iconst 0, 1) := by decide +kernel
theorem dL_put_3 : decode cL_put 3 = .ok (.aload_n 0, 1) := by decide +kernel
theorem dL_put_4 : decode cL_put 4 = .ok (.iload_n 1, 1) := by decide +kernel
theorem dL_put_5 : decode cL_put 5 = .ok (.iload_n 2, 1) := by decide +kernel
theorem dL_put_6 : decode cL_put 6 = .ok (.lload_n 3, 1) := by decide +kernel
theorem dL_put_7 : decode cL_put 7 = .ok (.invokevirtual 22, 3) := by decide +kernel
theorem dL_put_10 : decode cL_put 10 = .ok (.ifCond .eq 7, 3) := by decide +kernel
theorem dL_put_13 : decode cL_put 13 = .ok (.lconst 1, 1) := by decide +kernel
theorem dL_put_14 : decode cL_put 14 = .ok (.goto 4, 3) := by decide +kernel
theorem dL_put_17 : decode cL_put 17 = .ok (.lconst 0, 1) := by decide +kernel
theorem dL_put_18 : decode cL_put 18 = .ok (.lastore, 1) := by decide +kernel
theorem dL_put_19 : decode cL_put 19 = .ok (.goto 7, 3) := by decide +kernel
theorem dL_put_22 : decode cL_put 22 = .ok (.astore 6, 2) := by decide +kernel
theorem dL_put_24 : decode cL_put 24 = .ok (.iconst 1, 1) := by decide +kernel
theorem dL_put_25 : decode cL_put 25 = .ok (.ireturn, 1) := by decide +kernel
theorem dL_put_26 : decode cL_put 26 = .ok (.iconst 0, 1) := by decide +kernel
theorem dL_put_27 : decode cL_put 27 = .ok (.ireturn, 1) := by decide +kernel
set_option maxRecDepth 20000 in
theorem ggL_get_X0_get : GoodIn wsL_get wsX0_get := goodIn_ca (goodIn_r _ [6, 7, 8, 9, 5, 10, 11, 12, 13, 14, 15, 16, 17, 18, 19, 20, 21, 22, 23] (by decide +kernel) (by decide +kernel)) (goodIn_sub (fun _ h => List.mem_cons_of_mem _ (List.mem_append_right _ h)) (by decide +kernel))
set_option maxRecDepth 20000 in
theorem gL_get_X0_get : GoodIn wsL_get (wsV RL 28 RX0 yX0_get wsX0_get) := goodIn_app (goodIn_of _ (by decide +kernel)) ggL_get_X0_get
theorem dL_get_0 : decode cL_get 0 = .ok (.aload_n 3, 1) := by decide +kernel
theorem dL_get_1 : decode cL_get 1 = .ok (.iconst 0, 1) := by decide +kernel
theorem dL_get_2 : decode cL_get 2 = .ok (.aload_n 0, 1) := by decide +kernel
theorem dL_get_3 : decode cL_get 3 = .ok (.iload_n 1, 1) := by decide +kernel
theorem dL_get_4 : decode cL_get 4 = .ok (.iload_n 2, 1) := by decide +kernel
theorem dL_get_5 : decode cL_get 5 = .ok (.invokevirtual 28, 3) := by decide +kernel
theorem dL_get_8 : decode cL_get 8 = .ok (.lastore, 1) := by decide +kernel
theorem dL_get_9 : decode cL_get 9 = .ok (.goto 7, 3) := by decide +kernel
theorem dL_get_12 : decode cL_get 12 = .ok (.astore 4, 2) := by decide +kernel
theorem dL_get_14 : decode cL_get 14 = .ok (.iconst 1, 1) := by decide +kernel
theorem dL_get_15 : decode cL_get 15 = .ok (.ireturn, 1) := by decide +kernel
theorem dL_get_16 : decode cL_get 16 = .ok (.iconst 0, 1) := by decide +kernel
theorem dL_get_17 : decode cL_get 17 = .ok (.ireturn, 1) := by decide +kernel
set_option maxRecDepth 20000 in
theorem ggL_length_X0_length : GoodIn wsL_length wsX0_length := goodIn_ca (goodIn_r _ [6, 7, 8, 9, 5, 10, 11, 12, 13, 14, 15, 16, 17, 18, 19, 20, 21, 22, 23] (by decide +kernel) (by decide +kernel)) (goodIn_sub (fun _ h => List.mem_cons_of_mem _ (List.mem_append_right _ h)) (by decide +kernel))
set_option maxRecDepth 20000 in
theorem gL_length_X0_length : GoodIn wsL_length (wsV RL 32 RX0 yX0_length wsX0_length) := goodIn_app (goodIn_of _ (by decide +kernel)) ggL_length_X0_length
theorem dL_length_0 : decode cL_length 0 = .ok (.aload_n 2, 1) := by decide +kernel
theorem dL_length_1 : decode cL_length 1 = .ok (.iconst 0, 1) := by decide +kernel
theorem dL_length_2 : decode cL_length 2 = .ok (.aload_n 0, 1) := by decide +kernel
theorem dL_length_3 : decode cL_length 3 = .ok (.iload_n 1, 1) := by decide +kernel
theorem dL_length_4 : decode cL_length 4 = .ok (.invokevirtual 32, 3) := by decide +kernel
theorem dL_length_7 : decode cL_length 7 = .ok (.i2l, 1) := by decide +kernel
theorem dL_length_8 : decode cL_length 8 = .ok (.lastore, 1) := by decide +kernel
theorem dL_length_9 : decode cL_length 9 = .ok (.goto 6, 3) := by decide +kernel
theorem dL_length_12 : decode cL_length 12 = .ok (.astore_n 3, 1) := by decide +kernel
theorem dL_length_13 : decode cL_length 13 = .ok (.iconst 1, 1) := by decide +kernel
theorem dL_length_14 : decode cL_length 14 = .ok (.ireturn, 1) := by decide +kernel
theorem dL_length_15 : decode cL_length 15 = .ok (.iconst 0, 1) := by decide +kernel
theorem dL_length_16 : decode cL_length 16 = .ok (.ireturn, 1) := by decide +kernel
set_option maxRecDepth 20000 in
theorem ggL_turn_X0_turn : GoodIn wsL_turn wsX0_turn := goodIn_ca (goodIn_ca (goodIn_r _ [7, 8, 9, 10, 6, 11, 12, 13, 14, 15, 16, 17, 18, 19, 20, 21, 22, 23, 24, 25, 26, 27, 28, 29, 30, 31, 32, 33, 34, 35, 36, 37, 38, 39, 40, 41, 42, 43, 44, 45, 46, 47, 48, 49, 50, 51, 52, 53, 54, 55, 56, 57] (by decide +kernel) (by decide +kernel)) (goodIn_sub (fun _ h => List.mem_cons_of_mem _ (List.mem_append_left _ (List.mem_append_right _ h))) (by decide +kernel))) (goodIn_sub (fun _ h => List.mem_cons_of_mem _ (List.mem_append_right _ h)) (by decide +kernel))
set_option maxRecDepth 20000 in
theorem gL_turn_X0_turn : GoodIn wsL_turn (wsV RL 36 RX0 yX0_turn wsX0_turn) := goodIn_app (goodIn_of _ (by decide +kernel)) ggL_turn_X0_turn
theorem dL_turn_0 : decode cL_turn 0 = .ok (.aload_n 0, 1) := by decide +kernel
theorem dL_turn_1 : decode cL_turn 1 = .ok (.iload_n 1, 1) := by decide +kernel
theorem dL_turn_2 : decode cL_turn 2 = .ok (.iload_n 2, 1) := by decide +kernel
theorem dL_turn_3 : decode cL_turn 3 = .ok (.iload_n 3, 1) := by decide +kernel
theorem dL_turn_4 : decode cL_turn 4 = .ok (.invokevirtual 36, 3) := by decide +kernel
theorem dL_turn_7 : decode cL_turn 7 = .ok (.goto 11, 3) := by decide +kernel
theorem dL_turn_10 : decode cL_turn 10 = .ok (.astore 4, 2) := by decide +kernel
theorem dL_turn_12 : decode cL_turn 12 = .ok (.iconst 1, 1) := by decide +kernel
theorem dL_turn_13 : decode cL_turn 13 = .ok (.ireturn, 1) := by decide +kernel
theorem dL_turn_14 : decode cL_turn 14 = .ok (.astore 4, 2) := by decide +kernel
theorem dL_turn_16 : decode cL_turn 16 = .ok (.iconst 2, 1) := by decide +kernel
theorem dL_turn_17 : decode cL_turn 17 = .ok (.ireturn, 1) := by decide +kernel
theorem dL_turn_18 : decode cL_turn 18 = .ok (.iconst 0, 1) := by decide +kernel
theorem dL_turn_19 : decode cL_turn 19 = .ok (.ireturn, 1) := by decide +kernel
set_option maxRecDepth 20000 in
theorem ggL_product_X0_product : GoodIn wsL_product wsX0_product := goodIn_ca (goodIn_ca (goodIn_r _ [7, 8, 9, 10, 11, 12, 6, 13, 14, 15, 16, 17, 18, 19, 20, 21, 22, 23, 24, 25, 26, 27, 28, 29, 30, 31, 32, 33, 34, 35, 36, 37, 38, 39, 40, 41, 42, 43, 44, 45, 46, 47, 48, 49, 50, 51, 52, 53, 54, 55, 56, 57, 58, 59, 60, 61, 62, 63, 64, 65, 66, 67, 68, 69, 70, 71, 72, 73, 74] (by decide +kernel) (by decide +kernel)) (goodIn_sub (fun _ h => List.mem_cons_of_mem _ (List.mem_append_left _ (List.mem_append_right _ h))) (by decide +kernel))) (goodIn_sub (fun _ h => List.mem_cons_of_mem _ (List.mem_append_right _ h)) (by decide +kernel))
set_option maxRecDepth 20000 in
theorem gL_product_X0_product : GoodIn wsL_product (wsV RL 40 RX0 yX0_product wsX0_product) := goodIn_app (goodIn_of _ (by decide +kernel)) ggL_product_X0_product
theorem dL_product_0 : decode cL_product 0 = .ok (.aload 4, 2) := by decide +kernel
theorem dL_product_2 : decode cL_product 2 = .ok (.iconst 0, 1) := by decide +kernel
theorem dL_product_3 : decode cL_product 3 = .ok (.aload_n 0, 1) := by decide +kernel
theorem dL_product_4 : decode cL_product 4 = .ok (.iload_n 1, 1) := by decide +kernel
theorem dL_product_5 : decode cL_product 5 = .ok (.iload_n 2, 1) := by decide +kernel
theorem dL_product_6 : decode cL_product 6 = .ok (.iload_n 3, 1) := by decide +kernel
theorem dL_product_7 : decode cL_product 7 = .ok (.invokevirtual 40, 3) := by decide +kernel
theorem dL_product_10 : decode cL_product 10 = .ok (.i2l, 1) := by decide +kernel
theorem dL_product_11 : decode cL_product 11 = .ok (.lastore, 1) := by decide +kernel
theorem dL_product_12 : decode cL_product 12 = .ok (.goto 11, 3) := by decide +kernel
theorem dL_product_15 : decode cL_product 15 = .ok (.astore 5, 2) := by decide +kernel
theorem dL_product_17 : decode cL_product 17 = .ok (.iconst 1, 1) := by decide +kernel
theorem dL_product_18 : decode cL_product 18 = .ok (.ireturn, 1) := by decide +kernel
theorem dL_product_19 : decode cL_product 19 = .ok (.astore 5, 2) := by decide +kernel
theorem dL_product_21 : decode cL_product 21 = .ok (.iconst 2, 1) := by decide +kernel
theorem dL_product_22 : decode cL_product 22 = .ok (.ireturn, 1) := by decide +kernel
theorem dL_product_23 : decode cL_product 23 = .ok (.iconst 0, 1) := by decide +kernel
theorem dL_product_24 : decode cL_product 24 = .ok (.ireturn, 1) := by decide +kernel
set_option maxRecDepth 20000 in
theorem ggL_at_X0_at : GoodIn wsL_at wsX0_at := goodIn_ca (goodIn_r _ [6, 7, 8, 9, 10, 5, 11, 12, 13, 14, 15, 16, 17, 18, 19, 20, 21, 22, 23, 24, 25, 26, 27, 28, 29, 30, 31, 32] (by decide +kernel) (by decide +kernel)) (goodIn_sub (fun _ h => List.mem_cons_of_mem _ (List.mem_append_right _ h)) (by decide +kernel))
set_option maxRecDepth 20000 in
theorem gL_at_X0_at : GoodIn wsL_at (wsV RL 46 RX0 yX0_at wsX0_at) := goodIn_app (goodIn_of _ (by decide +kernel)) ggL_at_X0_at
theorem dL_at_0 : decode cL_at 0 = .ok (.aload 4, 2) := by decide +kernel
theorem dL_at_2 : decode cL_at 2 = .ok (.iconst 0, 1) := by decide +kernel
theorem dL_at_3 : decode cL_at 3 = .ok (.aload_n 0, 1) := by decide +kernel
theorem dL_at_4 : decode cL_at 4 = .ok (.iload_n 1, 1) := by decide +kernel
theorem dL_at_5 : decode cL_at 5 = .ok (.lload_n 2, 1) := by decide +kernel
theorem dL_at_6 : decode cL_at 6 = .ok (.invokevirtual 46, 3) := by decide +kernel
theorem dL_at_9 : decode cL_at 9 = .ok (.lastore, 1) := by decide +kernel
theorem dL_at_10 : decode cL_at 10 = .ok (.goto 7, 3) := by decide +kernel
theorem dL_at_13 : decode cL_at 13 = .ok (.astore 5, 2) := by decide +kernel
theorem dL_at_15 : decode cL_at 15 = .ok (.iconst 1, 1) := by decide +kernel
theorem dL_at_16 : decode cL_at 16 = .ok (.ireturn, 1) := by decide +kernel
theorem dL_at_17 : decode cL_at 17 = .ok (.iconst 0, 1) := by decide +kernel
theorem dL_at_18 : decode cL_at 18 = .ok (.ireturn, 1) := by decide +kernel
set_option maxRecDepth 20000 in
theorem ggL_word_X0_word : GoodIn wsL_word wsX0_word := goodIn_ca (goodIn_r _ [6, 7, 8, 9, 10, 5, 11, 12, 13, 14, 15, 16, 17, 18, 19, 20, 21, 22, 23, 24] (by decide +kernel) (by decide +kernel)) (goodIn_sub (fun _ h => List.mem_cons_of_mem _ (List.mem_append_right _ h)) (by decide +kernel))
set_option maxRecDepth 20000 in
theorem gL_word_X0_word : GoodIn wsL_word (wsV RL 50 RX0 yX0_word wsX0_word) := goodIn_app (goodIn_of _ (by decide +kernel)) ggL_word_X0_word
theorem dL_word_0 : decode cL_word 0 = .ok (.aload 5, 2) := by decide +kernel
theorem dL_word_2 : decode cL_word 2 = .ok (.iconst 0, 1) := by decide +kernel
theorem dL_word_3 : decode cL_word 3 = .ok (.aload_n 0, 1) := by decide +kernel
theorem dL_word_4 : decode cL_word 4 = .ok (.iload_n 1, 1) := by decide +kernel
theorem dL_word_5 : decode cL_word 5 = .ok (.iload_n 2, 1) := by decide +kernel
theorem dL_word_6 : decode cL_word 6 = .ok (.lload_n 3, 1) := by decide +kernel
theorem dL_word_7 : decode cL_word 7 = .ok (.invokevirtual 50, 3) := by decide +kernel
theorem dL_word_10 : decode cL_word 10 = .ok (.ifCond .eq 7, 3) := by decide +kernel
theorem dL_word_13 : decode cL_word 13 = .ok (.lconst 1, 1) := by decide +kernel
theorem dL_word_14 : decode cL_word 14 = .ok (.goto 4, 3) := by decide +kernel
theorem dL_word_17 : decode cL_word 17 = .ok (.lconst 0, 1) := by decide +kernel
theorem dL_word_18 : decode cL_word 18 = .ok (.lastore, 1) := by decide +kernel
theorem dL_word_19 : decode cL_word 19 = .ok (.goto 7, 3) := by decide +kernel
theorem dL_word_22 : decode cL_word 22 = .ok (.astore 6, 2) := by decide +kernel
theorem dL_word_24 : decode cL_word 24 = .ok (.iconst 1, 1) := by decide +kernel
theorem dL_word_25 : decode cL_word 25 = .ok (.ireturn, 1) := by decide +kernel
theorem dL_word_26 : decode cL_word 26 = .ok (.iconst 0, 1) := by decide +kernel
theorem dL_word_27 : decode cL_word 27 = .ok (.ireturn, 1) := by decide +kernel
set_option maxRecDepth 20000 in
theorem ggL_wordAt_X0_wordAt : GoodIn wsL_wordAt wsX0_wordAt := goodIn_ca (goodIn_r _ [6, 7, 8, 9, 5, 10, 11, 12, 13, 14, 15, 16, 17, 18, 19, 20, 21, 22, 23] (by decide +kernel) (by decide +kernel)) (goodIn_sub (fun _ h => List.mem_cons_of_mem _ (List.mem_append_right _ h)) (by decide +kernel))
set_option maxRecDepth 20000 in
theorem gL_wordAt_X0_wordAt : GoodIn wsL_wordAt (wsV RL 53 RX0 yX0_wordAt wsX0_wordAt) := goodIn_app (goodIn_of _ (by decide +kernel)) ggL_wordAt_X0_wordAt
theorem dL_wordAt_0 : decode cL_wordAt 0 = .ok (.aload_n 3, 1) := by decide +kernel
theorem dL_wordAt_1 : decode cL_wordAt 1 = .ok (.iconst 0, 1) := by decide +kernel
theorem dL_wordAt_2 : decode cL_wordAt 2 = .ok (.aload_n 0, 1) := by decide +kernel
theorem dL_wordAt_3 : decode cL_wordAt 3 = .ok (.iload_n 1, 1) := by decide +kernel
theorem dL_wordAt_4 : decode cL_wordAt 4 = .ok (.iload_n 2, 1) := by decide +kernel
theorem dL_wordAt_5 : decode cL_wordAt 5 = .ok (.invokevirtual 53, 3) := by decide +kernel
theorem dL_wordAt_8 : decode cL_wordAt 8 = .ok (.lastore, 1) := by decide +kernel
theorem dL_wordAt_9 : decode cL_wordAt 9 = .ok (.goto 7, 3) := by decide +kernel
theorem dL_wordAt_12 : decode cL_wordAt 12 = .ok (.astore 4, 2) := by decide +kernel
theorem dL_wordAt_14 : decode cL_wordAt 14 = .ok (.iconst 1, 1) := by decide +kernel
theorem dL_wordAt_15 : decode cL_wordAt 15 = .ok (.ireturn, 1) := by decide +kernel
theorem dL_wordAt_16 : decode cL_wordAt 16 = .ok (.iconst 0, 1) := by decide +kernel
theorem dL_wordAt_17 : decode cL_wordAt 17 = .ok (.ireturn, 1) := by decide +kernel
set_option maxRecDepth 20000 in
theorem ggL_size_X0_size : GoodIn wsL_size wsX0_size := goodIn_ca (goodIn_r _ [6, 7, 8, 9, 5, 10, 11, 12, 13, 14, 15, 16, 17, 18, 19, 20, 21, 22, 23] (by decide +kernel) (by decide +kernel)) (goodIn_sub (fun _ h => List.mem_cons_of_mem _ (List.mem_append_right _ h)) (by decide +kernel))
set_option maxRecDepth 20000 in
theorem gL_size_X0_size : GoodIn wsL_size (wsV RL 56 RX0 yX0_size wsX0_size) := goodIn_app (goodIn_of _ (by decide +kernel)) ggL_size_X0_size
theorem dL_size_0 : decode cL_size 0 = .ok (.aload_n 2, 1) := by decide +kernel
theorem dL_size_1 : decode cL_size 1 = .ok (.iconst 0, 1) := by decide +kernel
theorem dL_size_2 : decode cL_size 2 = .ok (.aload_n 0, 1) := by decide +kernel
theorem dL_size_3 : decode cL_size 3 = .ok (.iload_n 1, 1) := by decide +kernel
theorem dL_size_4 : decode cL_size 4 = .ok (.invokevirtual 56, 3) := by decide +kernel
theorem dL_size_7 : decode cL_size 7 = .ok (.i2l, 1) := by decide +kernel
theorem dL_size_8 : decode cL_size 8 = .ok (.lastore, 1) := by decide +kernel
theorem dL_size_9 : decode cL_size 9 = .ok (.goto 6, 3) := by decide +kernel
theorem dL_size_12 : decode cL_size 12 = .ok (.astore_n 3, 1) := by decide +kernel
theorem dL_size_13 : decode cL_size 13 = .ok (.iconst 1, 1) := by decide +kernel
theorem dL_size_14 : decode cL_size 14 = .ok (.ireturn, 1) := by decide +kernel
theorem dL_size_15 : decode cL_size 15 = .ok (.iconst 0, 1) := by decide +kernel
theorem dL_size_16 : decode cL_size 16 = .ok (.ireturn, 1) := by decide +kernel
set_option maxRecDepth 20000 in
theorem ggL_multiply_X0_multiply : GoodIn wsL_multiply wsX0_multiply := goodIn_ca (goodIn_ca (goodIn_r _ [7, 8, 9, 10, 11, 12, 13, 14, 15, 16, 17, 6, 18, 19, 20, 21, 22, 23, 24, 25, 26, 27, 28, 29, 30, 31, 32, 33, 34, 35, 36, 37, 38, 39, 40] (by decide +kernel) (by decide +kernel)) (goodIn_sub (fun _ h => List.mem_cons_of_mem _ (List.mem_append_left _ (List.mem_append_right _ h))) (by decide +kernel))) (goodIn_sub (fun _ h => List.mem_cons_of_mem _ (List.mem_append_right _ h)) (by decide +kernel))
set_option maxRecDepth 20000 in
theorem gL_multiply_X0_multiply : GoodIn wsL_multiply (wsV RL 59 RX0 yX0_multiply wsX0_multiply) := goodIn_app (goodIn_of _ (by decide +kernel)) ggL_multiply_X0_multiply
theorem dL_multiply_0 : decode cL_multiply 0 = .ok (.aload 4, 2) := by decide +kernel
theorem dL_multiply_2 : decode cL_multiply 2 = .ok (.iconst 0, 1) := by decide +kernel
theorem dL_multiply_3 : decode cL_multiply 3 = .ok (.aload_n 0, 1) := by decide +kernel
theorem dL_multiply_4 : decode cL_multiply 4 = .ok (.iload_n 1, 1) := by decide +kernel
theorem dL_multiply_5 : decode cL_multiply 5 = .ok (.iload_n 2, 1) := by decide +kernel
theorem dL_multiply_6 : decode cL_multiply 6 = .ok (.iload_n 3, 1) := by decide +kernel
theorem dL_multiply_7 : decode cL_multiply 7 = .ok (.invokevirtual 59, 3) := by decide +kernel
theorem dL_multiply_10 : decode cL_multiply 10 = .ok (.i2l, 1) := by decide +kernel
theorem dL_multiply_11 : decode cL_multiply 11 = .ok (.lastore, 1) := by decide +kernel
theorem dL_multiply_12 : decode cL_multiply 12 = .ok (.goto 11, 3) := by decide +kernel
theorem dL_multiply_15 : decode cL_multiply 15 = .ok (.astore 5, 2) := by decide +kernel
theorem dL_multiply_17 : decode cL_multiply 17 = .ok (.iconst 1, 1) := by decide +kernel
theorem dL_multiply_18 : decode cL_multiply 18 = .ok (.ireturn, 1) := by decide +kernel
theorem dL_multiply_19 : decode cL_multiply 19 = .ok (.astore 5, 2) := by decide +kernel
theorem dL_multiply_21 : decode cL_multiply 21 = .ok (.iconst 2, 1) := by decide +kernel
theorem dL_multiply_22 : decode cL_multiply 22 = .ok (.ireturn, 1) := by decide +kernel
theorem dL_multiply_23 : decode cL_multiply 23 = .ok (.iconst 0, 1) := by decide +kernel
theorem dL_multiply_24 : decode cL_multiply 24 = .ok (.ireturn, 1) := by decide +kernel
set_option maxRecDepth 20000 in
theorem ggL_sum_X0_sum : GoodIn wsL_sum wsX0_sum := goodIn_ca (goodIn_ca (goodIn_r _ [7, 8, 9, 10, 11, 12, 13, 14, 15, 16, 17, 6, 18, 19, 20, 21, 22, 23, 24, 25, 26, 27, 28, 29, 30, 31, 32, 33, 34, 35, 36] (by decide +kernel) (by decide +kernel)) (goodIn_sub (fun _ h => List.mem_cons_of_mem _ (List.mem_append_left _ (List.mem_append_right _ h))) (by decide +kernel))) (goodIn_sub (fun _ h => List.mem_cons_of_mem _ (List.mem_append_right _ h)) (by decide +kernel))
set_option maxRecDepth 20000 in
theorem gL_sum_X0_sum : GoodIn wsL_sum (wsV RL 62 RX0 yX0_sum wsX0_sum) := goodIn_app (goodIn_of _ (by decide +kernel)) ggL_sum_X0_sum
theorem dL_sum_0 : decode cL_sum 0 = .ok (.aload 4, 2) := by decide +kernel
theorem dL_sum_2 : decode cL_sum 2 = .ok (.iconst 0, 1) := by decide +kernel
theorem dL_sum_3 : decode cL_sum 3 = .ok (.aload_n 0, 1) := by decide +kernel
theorem dL_sum_4 : decode cL_sum 4 = .ok (.iload_n 1, 1) := by decide +kernel
theorem dL_sum_5 : decode cL_sum 5 = .ok (.iload_n 2, 1) := by decide +kernel
theorem dL_sum_6 : decode cL_sum 6 = .ok (.iload_n 3, 1) := by decide +kernel
theorem dL_sum_7 : decode cL_sum 7 = .ok (.invokevirtual 62, 3) := by decide +kernel
theorem dL_sum_10 : decode cL_sum 10 = .ok (.i2l, 1) := by decide +kernel
theorem dL_sum_11 : decode cL_sum 11 = .ok (.lastore, 1) := by decide +kernel
theorem dL_sum_12 : decode cL_sum 12 = .ok (.goto 11, 3) := by decide +kernel
theorem dL_sum_15 : decode cL_sum 15 = .ok (.astore 5, 2) := by decide +kernel
theorem dL_sum_17 : decode cL_sum 17 = .ok (.iconst 1, 1) := by decide +kernel
theorem dL_sum_18 : decode cL_sum 18 = .ok (.ireturn, 1) := by decide +kernel
theorem dL_sum_19 : decode cL_sum 19 = .ok (.astore 5, 2) := by decide +kernel
theorem dL_sum_21 : decode cL_sum 21 = .ok (.iconst 2, 1) := by decide +kernel
theorem dL_sum_22 : decode cL_sum 22 = .ok (.ireturn, 1) := by decide +kernel
theorem dL_sum_23 : decode cL_sum 23 = .ok (.iconst 0, 1) := by decide +kernel
theorem dL_sum_24 : decode cL_sum 24 = .ok (.ireturn, 1) := by decide +kernel
