set_option maxRecDepth 20000 in
theorem ggL_atom_X0_atom : GoodIn wsL_atom wsX0_atom := goodIn_ca (goodIn_ca (goodIn_r _ [7, 8, 9, 10, 11, 12, 6, 13, 14, 15, 16, 17, 18, 19, 20, 21, 22, 23, 24, 25, 26, 27, 28, 29, 30, 31, 32, 33, 34, 35, 36, 37, 38, 39, 40, 41, 42, 43, 44, 45, 46, 47, 48, 49, 50] (by decide +kernel) (by decide +kernel)) (goodIn_sub (fun _ h => List.mem_cons_of_mem _ (List.mem_append_left _ (List.mem_append_right _ h))) (by decide +kernel))) (goodIn_sub (fun _ h => List.mem_cons_of_mem _ (List.mem_append_right _ h)) (by decide +kernel))
set_option maxRecDepth 20000 in
theorem gL_atom_X0_atom : GoodIn wsL_atom (wsV RL 7 RX0 yX0_atom wsX0_atom) := goodIn_app (goodIn_of _ (by decide +kernel)) ggL_atom_X0_atom
theorem dL_atom_0 : decode cL_atom 0 = .ok (.aload_n 2, 1) := by decide +kernel
theorem dL_atom_1 : decode cL_atom 1 = .ok (.iconst 0, 1) := by decide +kernel
theorem dL_atom_2 : decode cL_atom 2 = .ok (.aload_n 0, 1) := by decide +kernel
theorem dL_atom_3 : decode cL_atom 3 = .ok (.iload_n 1, 1) := by decide +kernel
theorem dL_atom_4 : decode cL_atom 4 = .ok (.invokevirtual 7, 3) := by decide +kernel
theorem dL_atom_7 : decode cL_atom 7 = .ok (.i2l, 1) := by decide +kernel
theorem dL_atom_8 : decode cL_atom 8 = .ok (.lastore, 1) := by decide +kernel
theorem dL_atom_9 : decode cL_atom 9 = .ok (.goto 9, 3) := by decide +kernel
theorem dL_atom_12 : decode cL_atom 12 = .ok (.astore_n 3, 1) := by decide +kernel
theorem dL_atom_13 : decode cL_atom 13 = .ok (.iconst 1, 1) := by decide +kernel
theorem dL_atom_14 : decode cL_atom 14 = .ok (.ireturn, 1) := by decide +kernel
theorem dL_atom_15 : decode cL_atom 15 = .ok (.astore_n 3, 1) := by decide +kernel
theorem dL_atom_16 : decode cL_atom 16 = .ok (.iconst 2, 1) := by decide +kernel
theorem dL_atom_17 : decode cL_atom 17 = .ok (.ireturn, 1) := by decide +kernel
theorem dL_atom_18 : decode cL_atom 18 = .ok (.iconst 0, 1) := by decide +kernel
theorem dL_atom_19 : decode cL_atom 19 = .ok (.ireturn, 1) := by decide +kernel
set_option maxRecDepth 20000 in
theorem ggL_constant_X0_constant : GoodIn wsL_constant wsX0_constant := goodIn_ca (goodIn_ca (goodIn_r _ [7, 8, 9, 10, 11, 12, 13, 6, 14, 15, 16, 17, 18, 19, 20, 21, 22, 23, 24, 25, 26, 27, 28, 29, 30, 31, 32, 33, 34, 35, 36, 37, 38, 39, 40, 41, 42, 43] (by decide +kernel) (by decide +kernel)) (goodIn_sub (fun _ h => List.mem_cons_of_mem _ (List.mem_append_left _ (List.mem_append_right _ h))) (by decide +kernel))) (goodIn_sub (fun _ h => List.mem_cons_of_mem _ (List.mem_append_right _ h)) (by decide +kernel))
set_option maxRecDepth 20000 in
theorem gL_constant_X0_constant : GoodIn wsL_constant (wsV RL 17 RX0 yX0_constant wsX0_constant) := goodIn_app (goodIn_of _ (by decide +kernel)) ggL_constant_X0_constant
theorem dL_constant_0 : decode cL_constant 0 = .ok (.aload_n 2, 1) := by decide +kernel
theorem dL_constant_1 : decode cL_constant 1 = .ok (.iconst 0, 1) := by decide +kernel
theorem dL_constant_2 : decode cL_constant 2 = .ok (.aload_n 0, 1) := by decide +kernel
theorem dL_constant_3 : decode cL_constant 3 = .ok (.iload_n 1, 1) := by decide +kernel
theorem dL_constant_4 : decode cL_constant 4 = .ok (.invokevirtual 17, 3) := by decide +kernel
theorem dL_constant_7 : decode cL_constant 7 = .ok (.i2l, 1) := by decide +kernel
theorem dL_constant_8 : decode cL_constant 8 = .ok (.lastore, 1) := by decide +kernel
theorem dL_constant_9 : decode cL_constant 9 = .ok (.goto 9, 3) := by decide +kernel
theorem dL_constant_12 : decode cL_constant 12 = .ok (.astore_n 3, 1) := by decide +kernel
theorem dL_constant_13 : decode cL_constant 13 = .ok (.iconst 1, 1) := by decide +kernel
theorem dL_constant_14 : decode cL_constant 14 = .ok (.ireturn, 1) := by decide +kernel
theorem dL_constant_15 : decode cL_constant 15 = .ok (.astore_n 3, 1) := by decide +kernel
theorem dL_constant_16 : decode cL_constant 16 = .ok (.iconst 2, 1) := by decide +kernel
theorem dL_constant_17 : decode cL_constant 17 = .ok (.ireturn, 1) := by decide +kernel
theorem dL_constant_18 : decode cL_constant 18 = .ok (.iconst 0, 1) := by decide +kernel
theorem dL_constant_19 : decode cL_constant 19 = .ok (.ireturn, 1) := by decide +kernel
set_option maxRecDepth 20000 in
theorem ggL_turn_X0_turn : GoodIn wsL_turn wsX0_turn := goodIn_ca (goodIn_ca (goodIn_ca (goodIn_r _ [8, 9, 10, 11, 12, 13, 14, 15, 16, 17, 18, 7, 19, 20, 21, 22, 23, 24, 25, 26, 27, 28, 29, 30, 31, 32, 33, 34, 35, 36, 37, 38, 39, 40, 41, 42, 43, 44, 45, 46, 47] (by decide +kernel) (by decide +kernel)) (goodIn_sub (fun _ h => List.mem_cons_of_mem _ (List.mem_append_left _ (List.mem_append_left _ (List.mem_append_right _ h)))) (by decide +kernel))) (goodIn_sub (fun _ h => List.mem_cons_of_mem _ (List.mem_append_left _ (List.mem_append_right _ h))) (by decide +kernel))) (goodIn_sub (fun _ h => List.mem_cons_of_mem _ (List.mem_append_right _ h)) (by decide +kernel))
set_option maxRecDepth 20000 in
theorem gL_turn_X0_turn : GoodIn wsL_turn (wsV RL 22 RX0 yX0_turn wsX0_turn) := goodIn_app (goodIn_of _ (by decide +kernel)) ggL_turn_X0_turn
theorem dL_turn_0 : decode cL_turn 0 = .ok (.aload_n 3, 1) := by decide +kernel
theorem dL_turn_1 : decode cL_turn 1 = .ok (.iconst 0, 1) := by decide +kernel
theorem dL_turn_2 : decode cL_turn 2 = .ok (.aload_n 0, 1) := by decide +kernel
theorem dL_turn_3 : decode cL_turn 3 = .ok (.iload_n 1, 1) := by decide +kernel
theorem dL_turn_4 : decode cL_turn 4 = .ok (.iload_n 2, 1) := by decide +kernel
theorem dL_turn_5 : decode cL_turn 5 = .ok (.invokevirtual 22, 3) := by decide +kernel
theorem dL_turn_8 : decode cL_turn 8 = .ok (.i2l, 1) := by decide +kernel
theorem dL_turn_9 : decode cL_turn 9 = .ok (.lastore, 1) := by decide +kernel
theorem dL_turn_10 : decode cL_turn 10 = .ok (.goto 15, 3) := by decide +kernel
theorem dL_turn_13 : decode cL_turn 13 = .ok (.astore 4, 2) := by decide +kernel
theorem dL_turn_15 : decode cL_turn 15 = .ok (.iconst 1, 1) := by decide +kernel
theorem dL_turn_16 : decode cL_turn 16 = .ok (.ireturn, 1) := by decide +kernel
theorem dL_turn_17 : decode cL_turn 17 = .ok (.astore 4, 2) := by decide +kernel
theorem dL_turn_19 : decode cL_turn 19 = .ok (.iconst 2, 1) := by decide +kernel
theorem dL_turn_20 : decode cL_turn 20 = .ok (.ireturn, 1) := by decide +kernel
theorem dL_turn_21 : decode cL_turn 21 = .ok (.astore 4, 2) := by decide +kernel
theorem dL_turn_23 : decode cL_turn 23 = .ok (.iconst 3, 1) := by decide +kernel
theorem dL_turn_24 : decode cL_turn 24 = .ok (.ireturn, 1) := by decide +kernel
theorem dL_turn_25 : decode cL_turn 25 = .ok (.iconst 0, 1) := by decide +kernel
theorem dL_turn_26 : decode cL_turn 26 = .ok (.ireturn, 1) := by decide +kernel
set_option maxRecDepth 20000 in
theorem ggL_join_X0_join : GoodIn wsL_join wsX0_join := goodIn_ca (goodIn_ca (goodIn_ca (goodIn_r _ [8, 9, 10, 11, 12, 13, 14, 15, 16, 17, 7, 18, 19, 20, 21, 22, 23, 24, 25, 26, 27, 28, 29, 30, 31, 32, 33, 34, 35, 36, 37, 38, 39, 40, 41, 42, 43, 44, 45, 46, 47, 48, 49, 50, 51, 52, 53] (by decide +kernel) (by decide +kernel)) (goodIn_sub (fun _ h => List.mem_cons_of_mem _ (List.mem_append_left _ (List.mem_append_left _ (List.mem_append_right _ h)))) (by decide +kernel))) (goodIn_sub (fun _ h => List.mem_cons_of_mem _ (List.mem_append_left _ (List.mem_append_right _ h))) (by decide +kernel))) (goodIn_sub (fun _ h => List.mem_cons_of_mem _ (List.mem_append_right _ h)) (by decide +kernel))
set_option maxRecDepth 20000 in
theorem gL_join_X0_join : GoodIn wsL_join (wsV RL 26 RX0 yX0_join wsX0_join) := goodIn_app (goodIn_of _ (by decide +kernel)) ggL_join_X0_join
theorem dL_join_0 : decode cL_join 0 = .ok (.aload 4, 2) := by decide +kernel
theorem dL_join_2 : decode cL_join 2 = .ok (.iconst 0, 1) := by decide +kernel
theorem dL_join_3 : decode cL_join 3 = .ok (.aload_n 0, 1) := by decide +kernel
theorem dL_join_4 : decode cL_join 4 = .ok (.iload_n 1, 1) := by decide +kernel
theorem dL_join_5 : decode cL_join 5 = .ok (.iload_n 2, 1) := by decide +kernel
theorem dL_join_6 : decode cL_join 6 = .ok (.iload_n 3, 1) := by decide +kernel
theorem dL_join_7 : decode cL_join 7 = .ok (.invokevirtual 26, 3) := by decide +kernel
theorem dL_join_10 : decode cL_join 10 = .ok (.i2l, 1) := by decide +kernel
theorem dL_join_11 : decode cL_join 11 = .ok (.lastore, 1) := by decide +kernel
theorem dL_join_12 : decode cL_join 12 = .ok (.goto 15, 3) := by decide +kernel
theorem dL_join_15 : decode cL_join 15 = .ok (.astore 5, 2) := by decide +kernel
theorem dL_join_17 : decode cL_join 17 = .ok (.iconst 1, 1) := by decide +kernel
theorem dL_join_18 : decode cL_join 18 = .ok (.ireturn, 1) := by decide +kernel
theorem dL_join_19 : decode cL_join 19 = .ok (.astore 5, 2) := by decide +kernel
theorem dL_join_21 : decode cL_join 21 = .ok (.iconst 2, 1) := by decide +kernel
theorem dL_join_22 : decode cL_join 22 = .ok (.ireturn, 1) := by decide +kernel
theorem dL_join_23 : decode cL_join 23 = .ok (.astore 5, 2) := by decide +kernel
theorem dL_join_25 : decode cL_join 25 = .ok (.iconst 3, 1) := by decide +kernel
theorem dL_join_26 : decode cL_join 26 = .ok (.ireturn, 1) := by decide +kernel
theorem dL_join_27 : decode cL_join 27 = .ok (.iconst 0, 1) := by decide +kernel
theorem dL_join_28 : decode cL_join 28 = .ok (.ireturn, 1) := by decide +kernel
set_option maxRecDepth 20000 in
theorem ggL_isSteady_X0_isSteady : GoodIn wsL_isSteady wsX0_isSteady := goodIn_ca (goodIn_r _ [6, 7, 8, 9, 10, 5, 11, 12, 13, 14, 15, 16, 17, 18, 19, 20, 21, 22, 23, 24, 25, 26] (by decide +kernel) (by decide +kernel)) (goodIn_sub (fun _ h => List.mem_cons_of_mem _ (List.mem_append_right _ h)) (by decide +kernel))
set_option maxRecDepth 20000 in
theorem gL_isSteady_X0_isSteady : GoodIn wsL_isSteady (wsV RL 30 RX0 yX0_isSteady wsX0_isSteady) := goodIn_app (goodIn_of _ (by decide +kernel)) ggL_isSteady_X0_isSteady
theorem dL_isSteady_0 : decode cL_isSteady 0 = .ok (.aload_n 2, 1) := by decide +kernel
theorem dL_isSteady_1 : decode cL_isSteady 1 = .ok (.iconst 0, 1) := by decide +kernel
theorem dL_isSteady_2 : decode cL_isSteady 2 = .ok (.aload_n 0, 1) := by decide +kernel
theorem dL_isSteady_3 : decode cL_isSteady 3 = .ok (.iload_n 1, 1) := by decide +kernel
theorem dL_isSteady_4 : decode cL_isSteady 4 = .ok (.invokevirtual 30, 3) := by decide +kernel
theorem dL_isSteady_7 : decode cL_isSteady 7 = .ok (.ifCond .eq 7, 3) := by decide +kernel
theorem dL_isSteady_10 : decode cL_isSteady 10 = .ok (.lconst 1, 1) := by decide +kernel
theorem dL_isSteady_11 : decode cL_isSteady 11 = .ok (.goto 4, 3) := by decide +kernel
theorem dL_isSteady_14 : decode cL_isSteady 14 = .ok (.lconst 0, 1) := by decide +kernel
theorem dL_isSteady_15 : decode cL_isSteady 15 = .ok (.lastore, 1) := by decide +kernel
theorem dL_isSteady_16 : decode cL_isSteady 16 = .ok (.goto 6, 3) := by decide +kernel
theorem dL_isSteady_19 : decode cL_isSteady 19 = .ok (.astore_n 3, 1) := by decide +kernel
theorem dL_isSteady_20 : decode cL_isSteady 20 = .ok (.iconst 1, 1) := by decide +kernel
theorem dL_isSteady_21 : decode cL_isSteady 21 = .ok (.ireturn, 1) := by decide +kernel
theorem dL_isSteady_22 : decode cL_isSteady 22 = .ok (.iconst 0, 1) := by decide +kernel
theorem dL_isSteady_23 : decode cL_isSteady 23 = .ok (.ireturn, 1) := by decide +kernel
set_option maxRecDepth 20000 in
theorem ggL_report_X0_report : GoodIn wsL_report wsX0_report := goodIn_ca (goodIn_ca (goodIn_r _ [7, 8, 9, 10, 6, 11, 12, 13, 14, 15, 16, 17, 18, 19, 20, 21, 22, 23, 24, 25, 26, 27, 28, 29, 30, 31, 32, 33, 34, 35, 36, 37, 38, 39] (by decide +kernel) (by decide +kernel)) (goodIn_sub (fun _ h => List.mem_cons_of_mem _ (List.mem_append_left _ (List.mem_append_right _ h))) (by decide +kernel))) (goodIn_sub (fun _ h => List.mem_cons_of_mem _ (List.mem_append_right _ h)) (by decide +kernel))
set_option maxRecDepth 20000 in
theorem gL_report_X0_report : GoodIn wsL_report (wsV RL 34 RX0 yX0_report wsX0_report) := goodIn_app (goodIn_of _ (by decide +kernel)) ggL_report_X0_report
theorem dL_report_0 : decode cL_report 0 = .ok (.aload 4, 2) := by decide +kernel
theorem dL_report_2 : decode cL_report 2 = .ok (.iconst 0, 1) := by decide +kernel
theorem dL_report_3 : decode cL_report 3 = .ok (.aload_n 0, 1) := by decide +kernel
theorem dL_report_4 : decode cL_report 4 = .ok (.iload_n 1, 1) := by decide +kernel
theorem dL_report_5 : decode cL_report 5 = .ok (.iload_n 2, 1) := by decide +kernel
theorem dL_report_6 : decode cL_report 6 = .ok (.iload_n 3, 1) := by decide +kernel
theorem dL_report_7 : decode cL_report 7 = .ok (.invokevirtual 34, 3) := by decide +kernel
theorem dL_report_10 : decode cL_report 10 = .ok (.i2l, 1) := by decide +kernel
theorem dL_report_11 : decode cL_report 11 = .ok (.lastore, 1) := by decide +kernel
theorem dL_report_12 : decode cL_report 12 = .ok (.goto 11, 3) := by decide +kernel
theorem dL_report_15 : decode cL_report 15 = .ok (.astore 5, 2) := by decide +kernel
theorem dL_report_17 : decode cL_report 17 = .ok (.iconst 1, 1) := by decide +kernel
theorem dL_report_18 : decode cL_report 18 = .ok (.ireturn, 1) := by decide +kernel
theorem dL_report_19 : decode cL_report 19 = .ok (.astore 5, 2) := by decide +kernel
theorem dL_report_21 : decode cL_report 21 = .ok (.iconst 2, 1) := by decide +kernel
theorem dL_report_22 : decode cL_report 22 = .ok (.ireturn, 1) := by decide +kernel
theorem dL_report_23 : decode cL_report 23 = .ok (.iconst 0, 1) := by decide +kernel
theorem dL_report_24 : decode cL_report 24 = .ok (.ireturn, 1) := by decide +kernel
set_option maxRecDepth 20000 in
theorem ggL_setTrust_X0_setTrust : GoodIn wsL_setTrust wsX0_setTrust := goodIn_ca (goodIn_ca (goodIn_r _ [7, 8, 9, 10, 6, 11, 12, 13, 14, 15, 16, 17, 18, 19, 20, 21, 22, 23, 24, 25, 26, 27, 28, 29, 30] (by decide +kernel) (by decide +kernel)) (goodIn_sub (fun _ h => List.mem_cons_of_mem _ (List.mem_append_left _ (List.mem_append_right _ h))) (by decide +kernel))) (goodIn_sub (fun _ h => List.mem_cons_of_mem _ (List.mem_append_right _ h)) (by decide +kernel))
set_option maxRecDepth 20000 in
theorem gL_setTrust_X0_setTrust : GoodIn wsL_setTrust (wsV RL 37 RX0 yX0_setTrust wsX0_setTrust) := goodIn_app (goodIn_of _ (by decide +kernel)) ggL_setTrust_X0_setTrust
theorem dL_setTrust_0 : decode cL_setTrust 0 = .ok (.aload_n 3, 1) := by decide +kernel
theorem dL_setTrust_1 : decode cL_setTrust 1 = .ok (.iconst 0, 1) := by decide +kernel
theorem dL_setTrust_2 : decode cL_setTrust 2 = .ok (.aload_n 0, 1) := by decide +kernel
theorem dL_setTrust_3 : decode cL_setTrust 3 = .ok (.iload_n 1, 1) := by decide +kernel
theorem dL_setTrust_4 : decode cL_setTrust 4 = .ok (.iload_n 2, 1) := by decide +kernel
theorem dL_setTrust_5 : decode cL_setTrust 5 = .ok (.invokevirtual 37, 3) := by decide +kernel
theorem dL_setTrust_8 : decode cL_setTrust 8 = .ok (.i2l, 1) := by decide +kernel
theorem dL_setTrust_9 : decode cL_setTrust 9 = .ok (.lastore, 1) := by decide +kernel
theorem dL_setTrust_10 : decode cL_setTrust 10 = .ok (.goto 11, 3) := by decide +kernel
theorem dL_setTrust_13 : decode cL_setTrust 13 = .ok (.astore 4, 2) := by decide +kernel
theorem dL_setTrust_15 : decode cL_setTrust 15 = .ok (.iconst 1, 1) := by decide +kernel
theorem dL_setTrust_16 : decode cL_setTrust 16 = .ok (.ireturn, 1) := by decide +kernel
theorem dL_setTrust_17 : decode cL_setTrust 17 = .ok (.astore 4, 2) := by decide +kernel
theorem dL_setTrust_19 : decode cL_setTrust 19 = .ok (.iconst 2, 1) := by decide +kernel
theorem dL_setTrust_20 : decode cL_setTrust 20 = .ok (.ireturn, 1) := by decide +kernel
theorem dL_setTrust_21 : decode cL_setTrust 21 = .ok (.iconst 0, 1) := by decide +kernel
theorem dL_setTrust_22 : decode cL_setTrust 22 = .ok (.ireturn, 1) := by decide +kernel
set_option maxRecDepth 20000 in
theorem ggL_setLeastTrust_X0_setLeastTrust : GoodIn wsL_setLeastTrust wsX0_setLeastTrust := goodIn_ca (goodIn_r _ [6, 7, 8, 9, 5, 10, 11, 12, 13, 14, 15, 16, 17, 18, 19, 20, 21, 22, 23, 24] (by decide +kernel) (by decide +kernel)) (goodIn_sub (fun _ h => List.mem_cons_of_mem _ (List.mem_append_right _ h)) (by decide +kernel))
set_option maxRecDepth 20000 in
theorem gL_setLeastTrust_X0_setLeastTrust : GoodIn wsL_setLeastTrust (wsV RL 40 RX0 yX0_setLeastTrust wsX0_setLeastTrust) := goodIn_app (goodIn_of _ (by decide +kernel)) ggL_setLeastTrust_X0_setLeastTrust
theorem dL_setLeastTrust_0 : decode cL_setLeastTrust 0 = .ok (.aload_n 2, 1) := by decide +kernel
theorem dL_setLeastTrust_1 : decode cL_setLeastTrust 1 = .ok (.iconst 0, 1) := by decide +kernel
theorem dL_setLeastTrust_2 : decode cL_setLeastTrust 2 = .ok (.aload_n 0, 1) := by decide +kernel
theorem dL_setLeastTrust_3 : decode cL_setLeastTrust 3 = .ok (.iload_n 1, 1) := by decide +kernel
theorem dL_setLeastTrust_4 : decode cL_setLeastTrust 4 = .ok (.invokevirtual 40, 3) := by decide +kernel
theorem dL_setLeastTrust_7 : decode cL_setLeastTrust 7 = .ok (.i2l, 1) := by decide +kernel
theorem dL_setLeastTrust_8 : decode cL_setLeastTrust 8 = .ok (.lastore, 1) := by decide +kernel
theorem dL_setLeastTrust_9 : decode cL_setLeastTrust 9 = .ok (.goto 6, 3) := by decide +kernel
theorem dL_setLeastTrust_12 : decode cL_setLeastTrust 12 = .ok (.astore_n 3, 1) := by decide +kernel
theorem dL_setLeastTrust_13 : decode cL_setLeastTrust 13 = .ok (.iconst 1, 1) := by decide +kernel
theorem dL_setLeastTrust_14 : decode cL_setLeastTrust 14 = .ok (.ireturn, 1) := by decide +kernel
theorem dL_setLeastTrust_15 : decode cL_setLeastTrust 15 = .ok (.iconst 0, 1) := by decide +kernel
theorem dL_setLeastTrust_16 : decode cL_setLeastTrust 16 = .ok (.ireturn, 1) := by decide +kernel
set_option maxRecDepth 20000 in
theorem ggL_let_X0_let : GoodIn wsL_let wsX0_let := goodIn_ca (goodIn_r _ [6, 7, 8, 9, 5, 10, 11, 12, 13, 14, 15, 16, 17, 18, 19, 20, 21, 22, 23, 24, 25, 26, 27, 28, 29, 30] (by decide +kernel) (by decide +kernel)) (goodIn_sub (fun _ h => List.mem_cons_of_mem _ (List.mem_append_right _ h)) (by decide +kernel))
set_option maxRecDepth 20000 in
theorem gL_let_X0_let : GoodIn wsL_let (wsV RL 43 RX0 yX0_let wsX0_let) := goodIn_app (goodIn_of _ (by decide +kernel)) ggL_let_X0_let
theorem dL_let_0 : decode cL_let 0 = .ok (.aload_n 3, 1) := by decide +kernel
theorem dL_let_1 : decode cL_let 1 = .ok (.iconst 0, 1) := by decide +kernel
theorem dL_let_2 : decode cL_let 2 = .ok (.aload_n 0, 1) := by decide +kernel
theorem dL_let_3 : decode cL_let 3 = .ok (.iload_n 1, 1) := by decide +kernel
theorem dL_let_4 : decode cL_let 4 = .ok (.iload_n 2, 1) := by decide +kernel
theorem dL_let_5 : decode cL_let 5 = .ok (.invokevirtual 43, 3) := by decide +kernel
theorem dL_let_8 : decode cL_let 8 = .ok (.ifCond .eq 7, 3) := by decide +kernel
theorem dL_let_11 : decode cL_let 11 = .ok (.lconst 1, 1) := by decide +kernel
theorem dL_let_12 : decode cL_let 12 = .ok (.goto 4, 3) := by decide +kernel
theorem dL_let_15 : decode cL_let 15 = .ok (.lconst 0, 1) := by decide +kernel
theorem dL_let_16 : decode cL_let 16 = .ok (.lastore, 1) := by decide +kernel
theorem dL_let_17 : decode cL_let 17 = .ok (.goto 7, 3) := by decide +kernel
theorem dL_let_20 : decode cL_let 20 = .ok (.astore 4, 2) := by decide +kernel
theorem dL_let_22 : decode cL_let 22 = .ok (.iconst 1, 1) := by decide +kernel
theorem dL_let_23 : decode cL_let 23 = .ok (.ireturn, 1) := by decide +kernel
theorem dL_let_24 : decode cL_let 24 = .ok (.iconst 0, 1) := by decide +kernel
theorem dL_let_25 : decode cL_let 25 = .ok (.ireturn, 1) := by decide +kernel
set_option maxRecDepth 20000 in
theorem ggL_setRule_X0_setRule : GoodIn wsL_setRule wsX0_setRule := goodIn_ca (goodIn_ca (goodIn_r _ [7, 8, 9, 10, 6, 11, 12, 13, 14, 15, 16, 17, 18, 19, 20, 21, 22, 23, 24, 25, 26, 27, 28, 29, 30, 31, 32, 33, 34, 35, 36, 37] (by decide +kernel) (by decide +kernel)) (goodIn_sub (fun _ h => List.mem_cons_of_mem _ (List.mem_append_left _ (List.mem_append_right _ h))) (by decide +kernel))) (goodIn_sub (fun _ h => List.mem_cons_of_mem _ (List.mem_append_right _ h)) (by decide +kernel))
set_option maxRecDepth 20000 in
theorem gL_setRule_X0_setRule : GoodIn wsL_setRule (wsV RL 47 RX0 yX0_setRule wsX0_setRule) := goodIn_app (goodIn_of _ (by decide +kernel)) ggL_setRule_X0_setRule
theorem dL_setRule_0 : decode cL_setRule 0 = .ok (.aload_n 3, 1) := by decide +kernel
theorem dL_setRule_1 : decode cL_setRule 1 = .ok (.iconst 0, 1) := by decide +kernel
theorem dL_setRule_2 : decode cL_setRule 2 = .ok (.aload_n 0, 1) := by decide +kernel
theorem dL_setRule_3 : decode cL_setRule 3 = .ok (.iload_n 1, 1) := by decide +kernel
theorem dL_setRule_4 : decode cL_setRule 4 = .ok (.iload_n 2, 1) := by decide +kernel
theorem dL_setRule_5 : decode cL_setRule 5 = .ok (.invokevirtual 47, 3) := by decide +kernel
theorem dL_setRule_8 : decode cL_setRule 8 = .ok (.i2l, 1) := by decide +kernel
theorem dL_setRule_9 : decode cL_setRule 9 = .ok (.lastore, 1) := by decide +kernel
theorem dL_setRule_10 : decode cL_setRule 10 = .ok (.goto 11, 3) := by decide +kernel
theorem dL_setRule_13 : decode cL_setRule 13 = .ok (.astore 4, 2) := by decide +kernel
theorem dL_setRule_15 : decode cL_setRule 15 = .ok (.iconst 1, 1) := by decide +kernel
theorem dL_setRule_16 : decode cL_setRule 16 = .ok (.ireturn, 1) := by decide +kernel
theorem dL_setRule_17 : decode cL_setRule 17 = .ok (.astore 4, 2) := by decide +kernel
theorem dL_setRule_19 : decode cL_setRule 19 = .ok (.iconst 2, 1) := by decide +kernel
theorem dL_setRule_20 : decode cL_setRule 20 = .ok (.ireturn, 1) := by decide +kernel
theorem dL_setRule_21 : decode cL_setRule 21 = .ok (.iconst 0, 1) := by decide +kernel
theorem dL_setRule_22 : decode cL_setRule 22 = .ok (.ireturn, 1) := by decide +kernel
set_option maxRecDepth 20000 in
theorem ggL_given_X0_given : GoodIn wsL_given wsX0_given := goodIn_ca (goodIn_r _ [6, 7, 8, 5, 9, 10, 11, 12, 13, 14, 15, 16, 17, 18, 19, 20, 21, 22, 23, 24, 25, 26, 27, 28, 29, 30, 31, 32, 33, 34, 35, 36, 37, 38, 39, 40, 41, 42, 43, 44, 45] (by decide +kernel) (by decide +kernel)) (goodIn_sub (fun _ h => List.mem_cons_of_mem _ (List.mem_append_right _ h)) (by decide +kernel))
set_option maxRecDepth 20000 in
theorem gL_given_X0_given : GoodIn wsL_given (wsV RL 50 RX0 yX0_given wsX0_given) := goodIn_app (goodIn_of _ (by decide +kernel)) ggL_given_X0_given
theorem dL_given_0 : decode cL_given 0 = .ok (.aload_n 2, 1) := by decide +kernel
theorem dL_given_1 : decode cL_given 1 = .ok (.iconst 0, 1) := by decide +kernel
theorem dL_given_2 : decode cL_given 2 = .ok (.aload_n 0, 1) := by decide +kernel
theorem dL_given_3 : decode cL_given 3 = .ok (.iload_n 1, 1) := by decide +kernel
theorem dL_given_4 : decode cL_given 4 = .ok (.invokevirtual 50, 3) := by decide +kernel
theorem dL_given_7 : decode cL_given 7 = .ok (.i2l, 1) := by decide +kernel
theorem dL_given_8 : decode cL_given 8 = .ok (.lastore, 1) := by decide +kernel
theorem dL_given_9 : decode cL_given 9 = .ok (.goto 6, 3) := by decide +kernel
theorem dL_given_12 : decode cL_given 12 = .ok (.astore_n 3, 1) := by decide +kernel
theorem dL_given_13 : decode cL_given 13 = .ok (.iconst 1, 1) := by decide +kernel
theorem dL_given_14 : decode cL_given 14 = .ok (.ireturn, 1) := by decide +kernel
theorem dL_given_15 : decode cL_given 15 = .ok (.iconst 0, 1) := by decide +kernel
theorem dL_given_16 : decode cL_given 16 = .ok (.ireturn, 1) := by decide +kernel
set_option maxRecDepth 20000 in
theorem ggL_settled_X0_settled : GoodIn wsL_settled wsX0_settled := goodIn_ca (goodIn_r _ [6, 7, 8, 5, 9, 10, 11, 12, 13, 14, 15, 16, 17, 18, 19, 20, 21, 22, 23, 24, 25, 26, 27, 28, 29, 30, 31, 32, 33, 34, 35, 36, 37, 38, 39, 40, 41, 42, 43, 44, 45, 46, 47, 48, 49, 50, 51, 52, 53, 54, 55, 56, 57, 58, 59, 60, 61, 62, 63, 64, 65, 66, 67] (by decide +kernel) (by decide +kernel)) (goodIn_sub (fun _ h => List.mem_cons_of_mem _ (List.mem_append_right _ h)) (by decide +kernel))
set_option maxRecDepth 20000 in
theorem gL_settled_X0_settled : GoodIn wsL_settled (wsV RL 53 RX0 yX0_settled wsX0_settled) := goodIn_app (goodIn_of _ (by decide +kernel)) ggL_settled_X0_settled
theorem dL_settled_0 : decode cL_settled 0 = .ok (.aload_n 2, 1) := by decide +kernel
theorem dL_settled_1 : decode cL_settled 1 = .ok (.iconst 0, 1) := by decide +kernel
theorem dL_settled_2 : decode cL_settled 2 = .ok (.aload_n 0, 1) := by decide +kernel
theorem dL_settled_3 : decode cL_settled 3 = .ok (.iload_n 1, 1) := by decide +kernel
theorem dL_settled_4 : decode cL_settled 4 = .ok (.invokevirtual 53, 3) := by decide +kernel
theorem dL_settled_7 : decode cL_settled 7 = .ok (.i2l, 1) := by decide +kernel
theorem dL_settled_8 : decode cL_settled 8 = .ok (.lastore, 1) := by decide +kernel
theorem dL_settled_9 : decode cL_settled 9 = .ok (.goto 6, 3) := by decide +kernel
theorem dL_settled_12 : decode cL_settled 12 = .ok (.astore_n 3, 1) := by decide +kernel
theorem dL_settled_13 : decode cL_settled 13 = .ok (.iconst 1, 1) := by decide +kernel
theorem dL_settled_14 : decode cL_settled 14 = .ok (.ireturn, 1) := by decide +kernel
theorem dL_settled_15 : decode cL_settled 15 = .ok (.iconst 0, 1) := by decide +kernel
theorem dL_settled_16 : decode cL_settled 16 = .ok (.ireturn, 1) := by decide +kernel
set_option maxRecDepth 20000 in
theorem ggL_since_X0_since : GoodIn wsL_since wsX0_since := goodIn_ca (goodIn_r _ [6, 7, 8, 5, 9, 10, 11, 12, 13, 14, 15, 16, 17, 18, 19, 20, 21, 22, 23, 24, 25, 26, 27, 28, 29, 30, 31, 32, 33, 34, 35, 36, 37, 38, 39, 40, 41, 42, 43, 44, 45, 46, 47, 48, 49, 50, 51, 52, 53, 54, 55, 56, 57, 58, 59, 60, 61, 62] (by decide +kernel) (by decide +kernel)) (goodIn_sub (fun _ h => List.mem_cons_of_mem _ (List.mem_append_right _ h)) (by decide +kernel))
set_option maxRecDepth 20000 in
theorem gL_since_X0_since : GoodIn wsL_since (wsV RL 56 RX0 yX0_since wsX0_since) := goodIn_app (goodIn_of _ (by decide +kernel)) ggL_since_X0_since
theorem dL_since_0 : decode cL_since 0 = .ok (.aload_n 3, 1) := by decide +kernel
theorem dL_since_1 : decode cL_since 1 = .ok (.iconst 0, 1) := by decide +kernel
theorem dL_since_2 : decode cL_since 2 = .ok (.aload_n 0, 1) := by decide +kernel
theorem dL_since_3 : decode cL_since 3 = .ok (.iload_n 1, 1) := by decide +kernel
theorem dL_since_4 : decode cL_since 4 = .ok (.iload_n 2, 1) := by decide +kernel
theorem dL_since_5 : decode cL_since 5 = .ok (.invokevirtual 56, 3) := by decide +kernel
theorem dL_since_8 : decode cL_since 8 = .ok (.i2l, 1) := by decide +kernel
theorem dL_since_9 : decode cL_since 9 = .ok (.lastore, 1) := by decide +kernel
theorem dL_since_10 : decode cL_since 10 = .ok (.goto 7, 3) := by decide +kernel
theorem dL_since_13 : decode cL_since 13 = .ok (.astore 4, 2) := by decide +kernel
theorem dL_since_15 : decode cL_since 15 = .ok (.iconst 1, 1) := by decide +kernel
theorem dL_since_16 : decode cL_since 16 = .ok (.ireturn, 1) := by decide +kernel
theorem dL_since_17 : decode cL_since 17 = .ok (.iconst 0, 1) := by decide +kernel
theorem dL_since_18 : decode cL_since 18 = .ok (.ireturn, 1) := by decide +kernel
set_option maxRecDepth 20000 in
theorem ggL_value_X0_value : GoodIn wsL_value wsX0_value := goodIn_ca (goodIn_r _ [6, 7, 8, 9, 5, 10, 11, 12, 13, 14, 15, 16, 17, 18, 19, 20, 21, 22, 23, 24, 25, 26, 27, 28, 29, 30, 31, 32, 33, 34, 35, 36, 37, 38, 39, 40, 41, 42, 43, 44, 45, 46, 47, 48, 49, 50, 51, 52, 53, 54, 55, 56, 57, 58, 59, 60, 61, 62, 63, 64, 65, 66] (by decide +kernel) (by decide +kernel)) (goodIn_sub (fun _ h => List.mem_cons_of_mem _ (List.mem_append_right _ h)) (by decide +kernel))
set_option maxRecDepth 20000 in
theorem gL_value_X0_value : GoodIn wsL_value (wsV RL 60 RX0 yX0_value wsX0_value) := goodIn_app (goodIn_of _ (by decide +kernel)) ggL_value_X0_value
theorem dL_value_0 : decode cL_value 0 = .ok (.aload_n 2, 1) := by decide +kernel
theorem dL_value_1 : decode cL_value 1 = .ok (.iconst 0, 1) := by decide +kernel
theorem dL_value_2 : decode cL_value 2 = .ok (.aload_n 0, 1) := by decide +kernel
theorem dL_value_3 : decode cL_value 3 = .ok (.iload_n 1, 1) := by decide +kernel
theorem dL_value_4 : decode cL_value 4 = .ok (.invokevirtual 60, 3) := by decide +kernel
theorem dL_value_7 : decode cL_value 7 = .ok (.i2l, 1) := by decide +kernel
theorem dL_value_8 : decode cL_value 8 = .ok (.lastore, 1) := by decide +kernel
theorem dL_value_9 : decode cL_value 9 = .ok (.goto 6, 3) := by decide +kernel
theorem dL_value_12 : decode cL_value 12 = .ok (.astore_n 3, 1) := by decide +kernel
theorem dL_value_13 : decode cL_value 13 = .ok (.iconst 1, 1) := by decide +kernel
theorem dL_value_14 : decode cL_value 14 = .ok (.ireturn, 1) := by decide +kernel
theorem dL_value_15 : decode cL_value 15 = .ok (.iconst 0, 1) := by decide +kernel
theorem dL_value_16 : decode cL_value 16 = .ok (.ireturn, 1) := by decide +kernel
set_option maxRecDepth 20000 in
theorem ggL_sayers_X0_sayers : GoodIn wsL_sayers wsX0_sayers := goodIn_ca (goodIn_r _ [6, 7, 8, 9, 5, 10, 11, 12, 13, 14, 15, 16, 17, 18, 19, 20, 21, 22, 23, 24, 25, 26, 27, 28, 29, 30, 31, 32, 33, 34, 35, 36, 37, 38, 39, 40] (by decide +kernel) (by decide +kernel)) (goodIn_sub (fun _ h => List.mem_cons_of_mem _ (List.mem_append_right _ h)) (by decide +kernel))
set_option maxRecDepth 20000 in
theorem gL_sayers_X0_sayers : GoodIn wsL_sayers (wsV RL 63 RX0 yX0_sayers wsX0_sayers) := goodIn_app (goodIn_of _ (by decide +kernel)) ggL_sayers_X0_sayers
theorem dL_sayers_0 : decode cL_sayers 0 = .ok (.aload_n 3, 1) := by decide +kernel
theorem dL_sayers_1 : decode cL_sayers 1 = .ok (.iconst 0, 1) := by decide +kernel
theorem dL_sayers_2 : decode cL_sayers 2 = .ok (.aload_n 0, 1) := by decide +kernel
theorem dL_sayers_3 : decode cL_sayers 3 = .ok (.iload_n 1, 1) := by decide +kernel
theorem dL_sayers_4 : decode cL_sayers 4 = .ok (.iload_n 2, 1) := by decide +kernel
theorem dL_sayers_5 : decode cL_sayers 5 = .ok (.invokevirtual 63, 3) := by decide +kernel
theorem dL_sayers_8 : decode cL_sayers 8 = .ok (.i2l, 1) := by decide +kernel
theorem dL_sayers_9 : decode cL_sayers 9 = .ok (.lastore, 1) := by decide +kernel
theorem dL_sayers_10 : decode cL_sayers 10 = .ok (.goto 7, 3) := by decide +kernel
theorem dL_sayers_13 : decode cL_sayers 13 = .ok (.astore 4, 2) := by decide +kernel
theorem dL_sayers_15 : decode cL_sayers 15 = .ok (.iconst 1, 1) := by decide +kernel
theorem dL_sayers_16 : decode cL_sayers 16 = .ok (.ireturn, 1) := by decide +kernel
theorem dL_sayers_17 : decode cL_sayers 17 = .ok (.iconst 0, 1) := by decide +kernel
theorem dL_sayers_18 : decode cL_sayers 18 = .ok (.ireturn, 1) := by decide +kernel
set_option maxRecDepth 20000 in
theorem ggL_matters_X0_matters : GoodIn wsL_matters wsX0_matters := goodIn_ca (goodIn_r _ [6, 7, 8, 5, 9, 10, 11, 12, 13, 14, 15, 16, 17, 18, 19, 20, 21, 22, 23, 24, 25, 26, 27, 28, 29, 30, 31, 32, 33, 34, 35, 36, 37, 38, 39, 40, 41, 42, 43, 44, 45, 46, 47, 48, 49, 50, 51, 52, 53, 54, 55, 56, 57, 58, 59, 60, 61, 62, 63, 64, 65, 66] (by decide +kernel) (by decide +kernel)) (goodIn_sub (fun _ h => List.mem_cons_of_mem _ (List.mem_append_right _ h)) (by decide +kernel))
set_option maxRecDepth 20000 in
theorem gL_matters_X0_matters : GoodIn wsL_matters (wsV RL 66 RX0 yX0_matters wsX0_matters) := goodIn_app (goodIn_of _ (by decide +kernel)) ggL_matters_X0_matters
theorem dL_matters_0 : decode cL_matters 0 = .ok (.aload_n 3, 1) := by decide +kernel
theorem dL_matters_1 : decode cL_matters 1 = .ok (.iconst 0, 1) := by decide +kernel
theorem dL_matters_2 : decode cL_matters 2 = .ok (.aload_n 0, 1) := by decide +kernel
theorem dL_matters_3 : decode cL_matters 3 = .ok (.iload_n 1, 1) := by decide +kernel
theorem dL_matters_4 : decode cL_matters 4 = .ok (.iload_n 2, 1) := by decide +kernel
theorem dL_matters_5 : decode cL_matters 5 = .ok (.invokevirtual 66, 3) := by decide +kernel
theorem dL_matters_8 : decode cL_matters 8 = .ok (.ifCond .eq 7, 3) := by decide +kernel
theorem dL_matters_11 : decode cL_matters 11 = .ok (.lconst 1, 1) := by decide +kernel
theorem dL_matters_12 : decode cL_matters 12 = .ok (.goto 4, 3) := by decide +kernel
theorem dL_matters_15 : decode cL_matters 15 = .ok (.lconst 0, 1) := by decide +kernel
theorem dL_matters_16 : decode cL_matters 16 = .ok (.lastore, 1) := by decide +kernel
theorem dL_matters_17 : decode cL_matters 17 = .ok (.goto 7, 3) := by decide +kernel
theorem dL_matters_20 : decode cL_matters 20 = .ok (.astore 4, 2) := by decide +kernel
theorem dL_matters_22 : decode cL_matters 22 = .ok (.iconst 1, 1) := by decide +kernel
theorem dL_matters_23 : decode cL_matters 23 = .ok (.ireturn, 1) := by decide +kernel
theorem dL_matters_24 : decode cL_matters 24 = .ok (.iconst 0, 1) := by decide +kernel
theorem dL_matters_25 : decode cL_matters 25 = .ok (.ireturn, 1) := by decide +kernel
set_option maxRecDepth 20000 in
theorem ggL_contradicted_X0_contradicted : GoodIn wsL_contradicted wsX0_contradicted := goodIn_ca (goodIn_r _ [6, 7, 8, 9, 5, 10, 11, 12, 13, 14, 15, 16, 17, 18, 19, 20, 21, 22, 23, 24, 25, 26, 27, 28, 29, 30, 31, 32, 33, 34, 35, 36, 37, 38, 39, 40, 41, 42, 43, 44, 45, 46, 47, 48, 49, 50, 51, 52, 53, 54, 55, 56, 57, 58, 59, 60, 61, 62, 63, 64, 65, 66, 67, 68, 69, 70, 71, 72, 73] (by decide +kernel) (by decide +kernel)) (goodIn_sub (fun _ h => List.mem_cons_of_mem _ (List.mem_append_right _ h)) (by decide +kernel))
set_option maxRecDepth 20000 in
theorem gL_contradicted_X0_contradicted : GoodIn wsL_contradicted (wsV RL 70 RX0 yX0_contradicted wsX0_contradicted) := goodIn_app (goodIn_of _ (by decide +kernel)) ggL_contradicted_X0_contradicted
theorem dL_contradicted_0 : decode cL_contradicted 0 = .ok (.aload_n 2, 1) := by decide +kernel
theorem dL_contradicted_1 : decode cL_contradicted 1 = .ok (.iconst 0, 1) := by decide +kernel
theorem dL_contradicted_2 : decode cL_contradicted 2 = .ok (.aload_n 0, 1) := by decide +kernel
theorem dL_contradicted_3 : decode cL_contradicted 3 = .ok (.iload_n 1, 1) := by decide +kernel
theorem dL_contradicted_4 : decode cL_contradicted 4 = .ok (.invokevirtual 70, 3) := by decide +kernel
theorem dL_contradicted_7 : decode cL_contradicted 7 = .ok (.i2l, 1) := by decide +kernel
theorem dL_contradicted_8 : decode cL_contradicted 8 = .ok (.lastore, 1) := by decide +kernel
theorem dL_contradicted_9 : decode cL_contradicted 9 = .ok (.goto 6, 3) := by decide +kernel
theorem dL_contradicted_12 : decode cL_contradicted 12 = .ok (.astore_n 3, 1) := by decide +kernel
theorem dL_contradicted_13 : decode cL_contradicted 13 = .ok (.iconst 1, 1) := by decide +kernel
theorem dL_contradicted_14 : decode cL_contradicted 14 = .ok (.ireturn, 1) := by decide +kernel
theorem dL_contradicted_15 : decode cL_contradicted 15 = .ok (.iconst 0, 1) := by decide +kernel
theorem dL_contradicted_16 : decode cL_contradicted 16 = .ok (.ireturn, 1) := by decide +kernel
set_option maxRecDepth 20000 in
theorem ggL_setLogic_X0_setLogic : GoodIn wsL_setLogic wsX0_setLogic := goodIn_ca (goodIn_r _ [6, 7, 8, 9, 10, 11, 12, 5, 13, 14, 15, 16, 17, 18, 19, 20, 21, 22, 23, 24, 25] (by decide +kernel) (by decide +kernel)) (goodIn_sub (fun _ h => List.mem_cons_of_mem _ (List.mem_append_right _ h)) (by decide +kernel))
set_option maxRecDepth 20000 in
theorem gL_setLogic_X0_setLogic : GoodIn wsL_setLogic (wsV RL 73 RX0 yX0_setLogic wsX0_setLogic) := goodIn_app (goodIn_of _ (by decide +kernel)) ggL_setLogic_X0_setLogic
theorem dL_setLogic_0 : decode cL_setLogic 0 = .ok (.aload_n 2, 1) := by decide +kernel
theorem dL_setLogic_1 : decode cL_setLogic 1 = .ok (.iconst 0, 1) := by decide +kernel
theorem dL_setLogic_2 : decode cL_setLogic 2 = .ok (.aload_n 0, 1) := by decide +kernel
theorem dL_setLogic_3 : decode cL_setLogic 3 = .ok (.iload_n 1, 1) := by decide +kernel
theorem dL_setLogic_4 : decode cL_setLogic 4 = .ok (.invokevirtual 73, 3) := by decide +kernel
theorem dL_setLogic_7 : decode cL_setLogic 7 = .ok (.i2l, 1) := by decide +kernel
theorem dL_setLogic_8 : decode cL_setLogic 8 = .ok (.lastore, 1) := by decide +kernel
theorem dL_setLogic_9 : decode cL_setLogic 9 = .ok (.goto 6, 3) := by decide +kernel
theorem dL_setLogic_12 : decode cL_setLogic 12 = .ok (.astore_n 3, 1) := by decide +kernel
theorem dL_setLogic_13 : decode cL_setLogic 13 = .ok (.iconst 1, 1) := by decide +kernel
theorem dL_setLogic_14 : decode cL_setLogic 14 = .ok (.ireturn, 1) := by decide +kernel
theorem dL_setLogic_15 : decode cL_setLogic 15 = .ok (.iconst 0, 1) := by decide +kernel
theorem dL_setLogic_16 : decode cL_setLogic 16 = .ok (.ireturn, 1) := by decide +kernel
set_option maxRecDepth 20000 in
theorem ggL_models_X0_models : GoodIn wsL_models wsX0_models := goodIn_ca (goodIn_r _ [6, 7, 8, 9, 10, 5, 11, 12, 13, 14, 15, 16, 17, 18, 19, 20, 21, 22, 23, 24, 25, 26, 27, 28, 29, 30, 31, 32, 33, 34, 35, 36, 37, 38, 39, 40, 41] (by decide +kernel) (by decide +kernel)) (goodIn_sub (fun _ h => List.mem_cons_of_mem _ (List.mem_append_right _ h)) (by decide +kernel))
set_option maxRecDepth 20000 in
theorem gL_models_X0_models : GoodIn wsL_models (wsV RL 76 RX0 yX0_models wsX0_models) := goodIn_app (goodIn_of _ (by decide +kernel)) ggL_models_X0_models
theorem dL_models_0 : decode cL_models 0 = .ok (.aload_n 2, 1) := by decide +kernel
theorem dL_models_1 : decode cL_models 1 = .ok (.iconst 0, 1) := by decide +kernel
theorem dL_models_2 : decode cL_models 2 = .ok (.aload_n 0, 1) := by decide +kernel
theorem dL_models_3 : decode cL_models 3 = .ok (.iload_n 1, 1) := by decide +kernel
theorem dL_models_4 : decode cL_models 4 = .ok (.invokevirtual 76, 3) := by decide +kernel
theorem dL_models_7 : decode cL_models 7 = .ok (.i2l, 1) := by decide +kernel
theorem dL_models_8 : decode cL_models 8 = .ok (.lastore, 1) := by decide +kernel
theorem dL_models_9 : decode cL_models 9 = .ok (.goto 6, 3) := by decide +kernel
theorem dL_models_12 : decode cL_models 12 = .ok (.astore_n 3, 1) := by decide +kernel
theorem dL_models_13 : decode cL_models 13 = .ok (.iconst 1, 1) := by decide +kernel
theorem dL_models_14 : decode cL_models 14 = .ok (.ireturn, 1) := by decide +kernel
theorem dL_models_15 : decode cL_models 15 = .ok (.iconst 0, 1) := by decide +kernel
theorem dL_models_16 : decode cL_models 16 = .ok (.ireturn, 1) := by decide +kernel
set_option maxRecDepth 20000 in
theorem ggL_range_X0_range : GoodIn wsL_range wsX0_range := goodIn_ca (goodIn_r _ [6, 7, 8, 9, 10, 11, 5, 12, 13, 14, 15, 16, 17, 18, 19, 20, 21, 22, 23, 24, 25, 26, 27, 28, 29, 30, 31, 32, 33, 34, 35, 36, 37, 38, 39, 40, 41, 42] (by decide +kernel) (by decide +kernel)) (goodIn_sub (fun _ h => List.mem_cons_of_mem _ (List.mem_append_right _ h)) (by decide +kernel))
set_option maxRecDepth 20000 in
theorem gL_range_X0_range : GoodIn wsL_range (wsV RL 79 RX0 yX0_range wsX0_range) := goodIn_app (goodIn_of _ (by decide +kernel)) ggL_range_X0_range
theorem dL_range_0 : decode cL_range 0 = .ok (.aload_n 2, 1) := by decide +kernel
theorem dL_range_1 : decode cL_range 1 = .ok (.iconst 0, 1) := by decide +kernel
theorem dL_range_2 : decode cL_range 2 = .ok (.aload_n 0, 1) := by decide +kernel
theorem dL_range_3 : decode cL_range 3 = .ok (.iload_n 1, 1) := by decide +kernel
theorem dL_range_4 : decode cL_range 4 = .ok (.invokevirtual 79, 3) := by decide +kernel
theorem dL_range_7 : decode cL_range 7 = .ok (.i2l, 1) := by decide +kernel
theorem dL_range_8 : decode cL_range 8 = .ok (.lastore, 1) := by decide +kernel
theorem dL_range_9 : decode cL_range 9 = .ok (.goto 6, 3) := by decide +kernel
theorem dL_range_12 : decode cL_range 12 = .ok (.astore_n 3, 1) := by decide +kernel
theorem dL_range_13 : decode cL_range 13 = .ok (.iconst 1, 1) := by decide +kernel
theorem dL_range_14 : decode cL_range 14 = .ok (.ireturn, 1) := by decide +kernel
theorem dL_range_15 : decode cL_range 15 = .ok (.iconst 0, 1) := by decide +kernel
theorem dL_range_16 : decode cL_range 16 = .ok (.ireturn, 1) := by decide +kernel
set_option maxRecDepth 20000 in
theorem ggL_entails_X0_entails : GoodIn wsL_entails wsX0_entails := goodIn_ca (goodIn_r _ [6, 7, 8, 9, 5, 10, 11, 12, 13, 14, 15, 16, 17, 18, 19, 20, 21, 22, 23, 24, 25, 26, 27, 28, 29, 30, 31, 32, 33, 34, 35, 36, 37, 38, 39, 40, 41, 42, 43, 44, 45, 46, 47, 48, 49] (by decide +kernel) (by decide +kernel)) (goodIn_sub (fun _ h => List.mem_cons_of_mem _ (List.mem_append_right _ h)) (by decide +kernel))
set_option maxRecDepth 20000 in
theorem gL_entails_X0_entails : GoodIn wsL_entails (wsV RL 82 RX0 yX0_entails wsX0_entails) := goodIn_app (goodIn_of _ (by decide +kernel)) ggL_entails_X0_entails
theorem dL_entails_0 : decode cL_entails 0 = .ok (.aload_n 3, 1) := by decide +kernel
theorem dL_entails_1 : decode cL_entails 1 = .ok (.iconst 0, 1) := by decide +kernel
theorem dL_entails_2 : decode cL_entails 2 = .ok (.aload_n 0, 1) := by decide +kernel
theorem dL_entails_3 : decode cL_entails 3 = .ok (.iload_n 1, 1) := by decide +kernel
theorem dL_entails_4 : decode cL_entails 4 = .ok (.iload_n 2, 1) := by decide +kernel
theorem dL_entails_5 : decode cL_entails 5 = .ok (.invokevirtual 82, 3) := by decide +kernel
theorem dL_entails_8 : decode cL_entails 8 = .ok (.ifCond .eq 7, 3) := by decide +kernel
theorem dL_entails_11 : decode cL_entails 11 = .ok (.lconst 1, 1) := by decide +kernel
theorem dL_entails_12 : decode cL_entails 12 = .ok (.goto 4, 3) := by decide +kernel
theorem dL_entails_15 : decode cL_entails 15 = .ok (.lconst 0, 1) := by decide +kernel
theorem dL_entails_16 : decode cL_entails 16 = .ok (.lastore, 1) := by decide +kernel
theorem dL_entails_17 : decode cL_entails 17 = .ok (.goto 7, 3) := by decide +kernel
theorem dL_entails_20 : decode cL_entails 20 = .ok (.astore 4, 2) := by decide +kernel
theorem dL_entails_22 : decode cL_entails 22 = .ok (.iconst 1, 1) := by decide +kernel
theorem dL_entails_23 : decode cL_entails 23 = .ok (.ireturn, 1) := by decide +kernel
theorem dL_entails_24 : decode cL_entails 24 = .ok (.iconst 0, 1) := by decide +kernel
theorem dL_entails_25 : decode cL_entails 25 = .ok (.ireturn, 1) := by decide +kernel
set_option maxRecDepth 20000 in
theorem ggL_against_X0_against : GoodIn wsL_against wsX0_against := goodIn_ca (goodIn_r _ [6, 7, 8, 9, 10, 11, 5, 12, 13, 14, 15, 16, 17, 18, 19, 20, 21, 22, 23, 24, 25, 26, 27, 28, 29, 30, 31, 32, 33, 34, 35, 36, 37, 38, 39, 40, 41, 42, 43, 44, 45] (by decide +kernel) (by decide +kernel)) (goodIn_sub (fun _ h => List.mem_cons_of_mem _ (List.mem_append_right _ h)) (by decide +kernel))
set_option maxRecDepth 20000 in
theorem gL_against_X0_against : GoodIn wsL_against (wsV RL 85 RX0 yX0_against wsX0_against) := goodIn_app (goodIn_of _ (by decide +kernel)) ggL_against_X0_against
theorem dL_against_0 : decode cL_against 0 = .ok (.aload_n 3, 1) := by decide +kernel
theorem dL_against_1 : decode cL_against 1 = .ok (.iconst 0, 1) := by decide +kernel
theorem dL_against_2 : decode cL_against 2 = .ok (.aload_n 0, 1) := by decide +kernel
theorem dL_against_3 : decode cL_against 3 = .ok (.iload_n 1, 1) := by decide +kernel
theorem dL_against_4 : decode cL_against 4 = .ok (.iload_n 2, 1) := by decide +kernel
theorem dL_against_5 : decode cL_against 5 = .ok (.invokevirtual 85, 3) := by decide +kernel
theorem dL_against_8 : decode cL_against 8 = .ok (.i2l, 1) := by decide +kernel
theorem dL_against_9 : decode cL_against 9 = .ok (.lastore, 1) := by decide +kernel
theorem dL_against_10 : decode cL_against 10 = .ok (.goto 7, 3) := by decide +kernel
theorem dL_against_13 : decode cL_against 13 = .ok (.astore 4, 2) := by decide +kernel
theorem dL_against_15 : decode cL_against 15 = .ok (.iconst 1, 1) := by decide +kernel
theorem dL_against_16 : decode cL_against 16 = .ok (.ireturn, 1) := by decide +kernel
theorem dL_against_17 : decode cL_against 17 = .ok (.iconst 0, 1) := by decide +kernel
theorem dL_against_18 : decode cL_against 18 = .ok (.ireturn, 1) := by decide +kernel
set_option maxRecDepth 20000 in
theorem ggL_areEqual_X0_areEqual : GoodIn wsL_areEqual wsX0_areEqual := goodIn_ca (goodIn_r _ [6, 7, 8, 9, 5, 10, 11, 12, 13, 14, 15, 16, 17, 18, 19, 20, 21, 22, 23, 24, 25, 26, 27, 28, 29, 30, 31, 32, 33, 34, 35, 36, 37, 38, 39] (by decide +kernel) (by decide +kernel)) (goodIn_sub (fun _ h => List.mem_cons_of_mem _ (List.mem_append_right _ h)) (by decide +kernel))
set_option maxRecDepth 20000 in
theorem gL_areEqual_X0_areEqual : GoodIn wsL_areEqual (wsV RL 88 RX0 yX0_areEqual wsX0_areEqual) := goodIn_app (goodIn_of _ (by decide +kernel)) ggL_areEqual_X0_areEqual
theorem dL_areEqual_0 : decode cL_areEqual 0 = .ok (.aload_n 3, 1) := by decide +kernel
theorem dL_areEqual_1 : decode cL_areEqual 1 = .ok (.iconst 0, 1) := by decide +kernel
theorem dL_areEqual_2 : decode cL_areEqual 2 = .ok (.aload_n 0, 1) := by decide +kernel
theorem dL_areEqual_3 : decode cL_areEqual 3 = .ok (.iload_n 1, 1) := by decide +kernel
theorem dL_areEqual_4 : decode cL_areEqual 4 = .ok (.iload_n 2, 1) := by decide +kernel
theorem dL_areEqual_5 : decode cL_areEqual 5 = .ok (.invokevirtual 88, 3) := by decide +kernel
theorem dL_areEqual_8 : decode cL_areEqual 8 = .ok (.ifCond .eq 7, 3) := by decide +kernel
theorem dL_areEqual_11 : decode cL_areEqual 11 = .ok (.lconst 1, 1) := by decide +kernel
theorem dL_areEqual_12 : decode cL_areEqual 12 = .ok (.goto 4, 3) := by decide +kernel
theorem dL_areEqual_15 : decode cL_areEqual 15 = .ok (.lconst 0, 1) := by decide +kernel
theorem dL_areEqual_16 : decode cL_areEqual 16 = .ok (.lastore, 1) := by decide +kernel
theorem dL_areEqual_17 : decode cL_areEqual 17 = .ok (.goto 7, 3) := by decide +kernel
theorem dL_areEqual_20 : decode cL_areEqual 20 = .ok (.astore 4, 2) := by decide +kernel
theorem dL_areEqual_22 : decode cL_areEqual 22 = .ok (.iconst 1, 1) := by decide +kernel
theorem dL_areEqual_23 : decode cL_areEqual 23 = .ok (.ireturn, 1) := by decide +kernel
theorem dL_areEqual_24 : decode cL_areEqual 24 = .ok (.iconst 0, 1) := by decide +kernel
theorem dL_areEqual_25 : decode cL_areEqual 25 = .ok (.ireturn, 1) := by decide +kernel
set_option maxRecDepth 20000 in
theorem ggL_depends_X0_depends : GoodIn wsL_depends wsX0_depends := goodIn_ca (goodIn_r _ [6, 7, 8, 9, 10, 5, 11, 12, 13, 14, 15, 16, 17, 18, 19, 20, 21, 22, 23, 24, 25, 26, 27, 28, 29, 30, 31, 32, 33, 34, 35, 36, 37, 38, 39, 40, 41, 42, 43, 44, 45, 46, 47, 48, 49, 50, 51, 52, 53, 54, 55, 56, 57, 58, 59, 60, 61, 62, 63, 64, 65, 66, 67, 68, 69, 70, 71] (by decide +kernel) (by decide +kernel)) (goodIn_sub (fun _ h => List.mem_cons_of_mem _ (List.mem_append_right _ h)) (by decide +kernel))
set_option maxRecDepth 20000 in
theorem gL_depends_X0_depends : GoodIn wsL_depends (wsV RL 91 RX0 yX0_depends wsX0_depends) := goodIn_app (goodIn_of _ (by decide +kernel)) ggL_depends_X0_depends
theorem dL_depends_0 : decode cL_depends 0 = .ok (.aload_n 3, 1) := by decide +kernel
theorem dL_depends_1 : decode cL_depends 1 = .ok (.iconst 0, 1) := by decide +kernel
theorem dL_depends_2 : decode cL_depends 2 = .ok (.aload_n 0, 1) := by decide +kernel
theorem dL_depends_3 : decode cL_depends 3 = .ok (.iload_n 1, 1) := by decide +kernel
theorem dL_depends_4 : decode cL_depends 4 = .ok (.iload_n 2, 1) := by decide +kernel
theorem dL_depends_5 : decode cL_depends 5 = .ok (.invokevirtual 91, 3) := by decide +kernel
theorem dL_depends_8 : decode cL_depends 8 = .ok (.ifCond .eq 7, 3) := by decide +kernel
theorem dL_depends_11 : decode cL_depends 11 = .ok (.lconst 1, 1) := by decide +kernel
theorem dL_depends_12 : decode cL_depends 12 = .ok (.goto 4, 3) := by decide +kernel
theorem dL_depends_15 : decode cL_depends 15 = .ok (.lconst 0, 1) := by decide +kernel
theorem dL_depends_16 : decode cL_depends 16 = .ok (.lastore, 1) := by decide +kernel
theorem dL_depends_17 : decode cL_depends 17 = .ok (.goto 7, 3) := by decide +kernel
theorem dL_depends_20 : decode cL_depends 20 = .ok (.astore 4, 2) := by decide +kernel
theorem dL_depends_22 : decode cL_depends 22 = .ok (.iconst 1, 1) := by decide +kernel
theorem dL_depends_23 : decode cL_depends 23 = .ok (.ireturn, 1) := by decide +kernel
theorem dL_depends_24 : decode cL_depends 24 = .ok (.iconst 0, 1) := by decide +kernel
theorem dL_depends_25 : decode cL_depends 25 = .ok (.ireturn, 1) := by decide +kernel
set_option maxRecDepth 20000 in
theorem ggL_valueAt_X0_valueAt : GoodIn wsL_valueAt wsX0_valueAt := goodIn_ca (goodIn_ca (goodIn_r _ [7, 8, 9, 10, 11, 12, 6, 13, 14, 15, 16, 17, 18, 19, 20, 21, 22, 23, 24, 25, 26, 27, 28, 29, 30, 31, 32, 33, 34, 35, 36, 37] (by decide +kernel) (by decide +kernel)) (goodIn_sub (fun _ h => List.mem_cons_of_mem _ (List.mem_append_left _ (List.mem_append_right _ h))) (by decide +kernel))) (goodIn_sub (fun _ h => List.mem_cons_of_mem _ (List.mem_append_right _ h)) (by decide +kernel))
set_option maxRecDepth 20000 in
theorem gL_valueAt_X0_valueAt : GoodIn wsL_valueAt (wsV RL 94 RX0 yX0_valueAt wsX0_valueAt) := goodIn_app (goodIn_of _ (by decide +kernel)) ggL_valueAt_X0_valueAt
theorem dL_valueAt_0 : decode cL_valueAt 0 = .ok (.aload_n 3, 1) := by decide +kernel
theorem dL_valueAt_1 : decode cL_valueAt 1 = .ok (.iconst 0, 1) := by decide +kernel
theorem dL_valueAt_2 : decode cL_valueAt 2 = .ok (.aload_n 0, 1) := by decide +kernel
theorem dL_valueAt_3 : decode cL_valueAt 3 = .ok (.iload_n 1, 1) := by decide +kernel
theorem dL_valueAt_4 : decode cL_valueAt 4 = .ok (.iload_n 2, 1) := by decide +kernel
theorem dL_valueAt_5 : decode cL_valueAt 5 = .ok (.invokevirtual 94, 3) := by decide +kernel
theorem dL_valueAt_8 : decode cL_valueAt 8 = .ok (.i2l, 1) := by decide +kernel
theorem dL_valueAt_9 : decode cL_valueAt 9 = .ok (.lastore, 1) := by decide +kernel
theorem dL_valueAt_10 : decode cL_valueAt 10 = .ok (.goto 11, 3) := by decide +kernel
theorem dL_valueAt_13 : decode cL_valueAt 13 = .ok (.astore 4, 2) := by decide +kernel
theorem dL_valueAt_15 : decode cL_valueAt 15 = .ok (.iconst 1, 1) := by decide +kernel
theorem dL_valueAt_16 : decode cL_valueAt 16 = .ok (.ireturn, 1) := by decide +kernel
theorem dL_valueAt_17 : decode cL_valueAt 17 = .ok (.astore 4, 2) := by decide +kernel
theorem dL_valueAt_19 : decode cL_valueAt 19 = .ok (.iconst 2, 1) := by decide +kernel
theorem dL_valueAt_20 : decode cL_valueAt 20 = .ok (.ireturn, 1) := by decide +kernel
theorem dL_valueAt_21 : decode cL_valueAt 21 = .ok (.iconst 0, 1) := by decide +kernel
theorem dL_valueAt_22 : decode cL_valueAt 22 = .ok (.ireturn, 1) := by decide +kernel
