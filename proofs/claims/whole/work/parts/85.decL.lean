/-! the wrappers of the law: words, decode rows, as printed -/
set_option maxRecDepth 20000 in
theorem ggL_addBlock_X8_addBlock : GoodIn wsL_addBlock wsX8_addBlock := goodIn_ca (goodIn_r _ [6, 7, 8, 9, 10, 11, 12, 13, 14, 15, 16, 17, 18, 19] (by decide +kernel) (by decide +kernel)) (goodIn_sub (fun _ h => List.mem_cons_of_mem _ (List.mem_append_right _ h)) (by decide +kernel))
set_option maxRecDepth 20000 in
theorem gL_addBlock_X8_addBlock : GoodIn wsL_addBlock (wsV RL 7 RX8 yX8_addBlock wsX8_addBlock) := goodIn_app (goodIn_of _ (by decide +kernel)) ggL_addBlock_X8_addBlock
theorem dL_addBlock_0 : decode cL_addBlock 0 = .ok (.aload_n 1, 1) := by decide +kernel
theorem dL_addBlock_1 : decode cL_addBlock 1 = .ok (.iconst 0, 1) := by decide +kernel
theorem dL_addBlock_2 : decode cL_addBlock 2 = .ok (.aload_n 0, 1) := by decide +kernel
theorem dL_addBlock_3 : decode cL_addBlock 3 = .ok (.invokevirtual 7, 3) := by decide +kernel
theorem dL_addBlock_6 : decode cL_addBlock 6 = .ok (.i2l, 1) := by decide +kernel
theorem dL_addBlock_7 : decode cL_addBlock 7 = .ok (.lastore, 1) := by decide +kernel
theorem dL_addBlock_8 : decode cL_addBlock 8 = .ok (.goto 6, 3) := by decide +kernel
theorem dL_addBlock_11 : decode cL_addBlock 11 = .ok (.astore_n 2, 1) := by decide +kernel
theorem dL_addBlock_12 : decode cL_addBlock 12 = .ok (.iconst 1, 1) := by decide +kernel
theorem dL_addBlock_13 : decode cL_addBlock 13 = .ok (.ireturn, 1) := by decide +kernel
theorem dL_addBlock_14 : decode cL_addBlock 14 = .ok (.iconst 0, 1) := by decide +kernel
theorem dL_addBlock_15 : decode cL_addBlock 15 = .ok (.ireturn, 1) := by decide +kernel
set_option maxRecDepth 20000 in
theorem ggL_setInitial_X8_setInitial : GoodIn wsL_setInitial wsX8_setInitial := goodIn_ca (goodIn_ca (goodIn_r _ [7, 8, 9, 10, 11, 12, 13, 14, 6, 15, 16, 17, 18, 19, 20, 21, 22, 23, 24, 25, 26, 27, 28, 29, 30, 31, 32, 33, 34, 35, 36, 37, 38, 39, 40, 41, 42] (by decide +kernel) (by decide +kernel)) (goodIn_sub (fun _ h => List.mem_cons_of_mem _ (List.mem_append_left _ (List.mem_append_right _ h))) (by decide +kernel))) (goodIn_sub (fun _ h => List.mem_cons_of_mem _ (List.mem_append_right _ h)) (by decide +kernel))
set_option maxRecDepth 20000 in
theorem gL_setInitial_X8_setInitial : GoodIn wsL_setInitial (wsV RL 15 RX8 yX8_setInitial wsX8_setInitial) := goodIn_app (goodIn_of _ (by decide +kernel)) ggL_setInitial_X8_setInitial
theorem dL_setInitial_0 : decode cL_setInitial 0 = .ok (.aload 4, 2) := by decide +kernel
theorem dL_setInitial_2 : decode cL_setInitial 2 = .ok (.iconst 0, 1) := by decide +kernel
theorem dL_setInitial_3 : decode cL_setInitial 3 = .ok (.aload_n 0, 1) := by decide +kernel
theorem dL_setInitial_4 : decode cL_setInitial 4 = .ok (.iload_n 1, 1) := by decide +kernel
theorem dL_setInitial_5 : decode cL_setInitial 5 = .ok (.iload_n 2, 1) := by decide +kernel
theorem dL_setInitial_6 : decode cL_setInitial 6 = .ok (.iload_n 3, 1) := by decide +kernel
theorem dL_setInitial_7 : decode cL_setInitial 7 = .ok (.invokevirtual 15, 3) := by decide +kernel
theorem dL_setInitial_10 : decode cL_setInitial 10 = .ok (.ifCond .eq 7, 3) := by decide +kernel
theorem dL_setInitial_13 : decode cL_setInitial 13 = .ok (.lconst 1, 1) := by decide +kernel
theorem dL_setInitial_14 : decode cL_setInitial 14 = .ok (.goto 4, 3) := by decide +kernel
theorem dL_setInitial_17 : decode cL_setInitial 17 = .ok (.lconst 0, 1) := by decide +kernel
theorem dL_setInitial_18 : decode cL_setInitial 18 = .ok (.lastore, 1) := by decide +kernel
theorem dL_setInitial_19 : decode cL_setInitial 19 = .ok (.goto 11, 3) := by decide +kernel
theorem dL_setInitial_22 : decode cL_setInitial 22 = .ok (.astore 5, 2) := by decide +kernel
theorem dL_setInitial_24 : decode cL_setInitial 24 = .ok (.iconst 1, 1) := by decide +kernel
theorem dL_setInitial_25 : decode cL_setInitial 25 = .ok (.ireturn, 1) := by decide +kernel
theorem dL_setInitial_26 : decode cL_setInitial 26 = .ok (.astore 5, 2) := by decide +kernel
theorem dL_setInitial_28 : decode cL_setInitial 28 = .ok (.iconst 2, 1) := by decide +kernel
theorem dL_setInitial_29 : decode cL_setInitial 29 = .ok (.ireturn, 1) := by decide +kernel
theorem dL_setInitial_30 : decode cL_setInitial 30 = .ok (.iconst 0, 1) := by decide +kernel
theorem dL_setInitial_31 : decode cL_setInitial 31 = .ok (.ireturn, 1) := by decide +kernel
set_option maxRecDepth 20000 in
theorem ggL_input_X8_input : GoodIn wsL_input wsX8_input := goodIn_ca (goodIn_ca (goodIn_ca (goodIn_r _ [8, 9, 10, 11, 12, 13, 14, 7, 15, 16, 17, 18, 19, 20, 21, 22, 23, 24, 25, 26, 27, 28, 29, 30, 31, 32, 33, 34, 35, 36, 37, 38, 39, 40, 41, 42, 43, 44, 45, 46, 47, 48, 49, 50, 51, 52, 53, 54, 55, 56, 57, 58, 59, 60, 61, 62, 63] (by decide +kernel) (by decide +kernel)) (goodIn_sub (fun _ h => List.mem_cons_of_mem _ (List.mem_append_left _ (List.mem_append_left _ (List.mem_append_right _ h)))) (by decide +kernel))) (goodIn_sub (fun _ h => List.mem_cons_of_mem _ (List.mem_append_left _ (List.mem_append_right _ h))) (by decide +kernel))) (goodIn_sub (fun _ h => List.mem_cons_of_mem _ (List.mem_append_right _ h)) (by decide +kernel))
set_option maxRecDepth 20000 in
theorem gL_input_X8_input : GoodIn wsL_input (wsV RL 23 RX8 yX8_input wsX8_input) := goodIn_app (goodIn_of _ (by decide +kernel)) ggL_input_X8_input
theorem dL_input_0 : decode cL_input 0 = .ok (.aload 5, 2) := by decide +kernel
theorem dL_input_2 : decode cL_input 2 = .ok (.iconst 0, 1) := by decide +kernel
theorem dL_input_3 : decode cL_input 3 = .ok (.aload_n 0, 1) := by decide +kernel
theorem dL_input_4 : decode cL_input 4 = .ok (.iload_n 1, 1) := by decide +kernel
theorem dL_input_5 : decode cL_input 5 = .ok (.iload_n 2, 1) := by decide +kernel
theorem dL_input_6 : decode cL_input 6 = .ok (.iload_n 3, 1) := by decide +kernel
theorem dL_input_7 : decode cL_input 7 = .ok (.iload 4, 2) := by decide +kernel
theorem dL_input_9 : decode cL_input 9 = .ok (.invokevirtual 23, 3) := by decide +kernel
theorem dL_input_12 : decode cL_input 12 = .ok (.i2l, 1) := by decide +kernel
theorem dL_input_13 : decode cL_input 13 = .ok (.lastore, 1) := by decide +kernel
theorem dL_input_14 : decode cL_input 14 = .ok (.goto 15, 3) := by decide +kernel
theorem dL_input_17 : decode cL_input 17 = .ok (.astore 6, 2) := by decide +kernel
theorem dL_input_19 : decode cL_input 19 = .ok (.iconst 1, 1) := by decide +kernel
theorem dL_input_20 : decode cL_input 20 = .ok (.ireturn, 1) := by decide +kernel
theorem dL_input_21 : decode cL_input 21 = .ok (.astore 6, 2) := by decide +kernel
theorem dL_input_23 : decode cL_input 23 = .ok (.iconst 2, 1) := by decide +kernel
theorem dL_input_24 : decode cL_input 24 = .ok (.ireturn, 1) := by decide +kernel
theorem dL_input_25 : decode cL_input 25 = .ok (.astore 6, 2) := by decide +kernel
theorem dL_input_27 : decode cL_input 27 = .ok (.iconst 3, 1) := by decide +kernel
theorem dL_input_28 : decode cL_input 28 = .ok (.ireturn, 1) := by decide +kernel
theorem dL_input_29 : decode cL_input 29 = .ok (.iconst 0, 1) := by decide +kernel
theorem dL_input_30 : decode cL_input 30 = .ok (.ireturn, 1) := by decide +kernel
set_option maxRecDepth 20000 in
theorem ggL_compute_X8_compute : GoodIn wsL_compute wsX8_compute := goodIn_ca (goodIn_ca (goodIn_ca (goodIn_r _ [8, 9, 10, 11, 12, 13, 14, 15, 16, 7, 17, 18, 19, 20, 21, 22, 23, 24, 25, 26, 27, 28, 29, 30, 31, 32, 33, 34, 35, 36, 37, 38, 39, 40, 41, 42, 43, 44, 45, 46, 47, 48, 49, 50, 51, 52, 53, 54, 55, 56, 57, 58] (by decide +kernel) (by decide +kernel)) (goodIn_sub (fun _ h => List.mem_cons_of_mem _ (List.mem_append_left _ (List.mem_append_left _ (List.mem_append_right _ h)))) (by decide +kernel))) (goodIn_sub (fun _ h => List.mem_cons_of_mem _ (List.mem_append_left _ (List.mem_append_right _ h))) (by decide +kernel))) (goodIn_sub (fun _ h => List.mem_cons_of_mem _ (List.mem_append_right _ h)) (by decide +kernel))
set_option maxRecDepth 20000 in
theorem gL_compute_X8_compute : GoodIn wsL_compute (wsV RL 27 RX8 yX8_compute wsX8_compute) := goodIn_app (goodIn_of _ (by decide +kernel)) ggL_compute_X8_compute
theorem dL_compute_0 : decode cL_compute 0 = .ok (.aload 6, 2) := by decide +kernel
theorem dL_compute_2 : decode cL_compute 2 = .ok (.iconst 0, 1) := by decide +kernel
theorem dL_compute_3 : decode cL_compute 3 = .ok (.aload_n 0, 1) := by decide +kernel
theorem dL_compute_4 : decode cL_compute 4 = .ok (.iload_n 1, 1) := by decide +kernel
theorem dL_compute_5 : decode cL_compute 5 = .ok (.iload_n 2, 1) := by decide +kernel
theorem dL_compute_6 : decode cL_compute 6 = .ok (.iload_n 3, 1) := by decide +kernel
theorem dL_compute_7 : decode cL_compute 7 = .ok (.iload 4, 2) := by decide +kernel
theorem dL_compute_9 : decode cL_compute 9 = .ok (.iload 5, 2) := by decide +kernel
theorem dL_compute_11 : decode cL_compute 11 = .ok (.invokevirtual 27, 3) := by decide +kernel
theorem dL_compute_14 : decode cL_compute 14 = .ok (.i2l, 1) := by decide +kernel
theorem dL_compute_15 : decode cL_compute 15 = .ok (.lastore, 1) := by decide +kernel
theorem dL_compute_16 : decode cL_compute 16 = .ok (.goto 15, 3) := by decide +kernel
theorem dL_compute_19 : decode cL_compute 19 = .ok (.astore 7, 2) := by decide +kernel
theorem dL_compute_21 : decode cL_compute 21 = .ok (.iconst 1, 1) := by decide +kernel
theorem dL_compute_22 : decode cL_compute 22 = .ok (.ireturn, 1) := by decide +kernel
theorem dL_compute_23 : decode cL_compute 23 = .ok (.astore 7, 2) := by decide +kernel
theorem dL_compute_25 : decode cL_compute 25 = .ok (.iconst 2, 1) := by decide +kernel
theorem dL_compute_26 : decode cL_compute 26 = .ok (.ireturn, 1) := by decide +kernel
theorem dL_compute_27 : decode cL_compute 27 = .ok (.astore 7, 2) := by decide +kernel
theorem dL_compute_29 : decode cL_compute 29 = .ok (.iconst 3, 1) := by decide +kernel
theorem dL_compute_30 : decode cL_compute 30 = .ok (.ireturn, 1) := by decide +kernel
theorem dL_compute_31 : decode cL_compute 31 = .ok (.iconst 0, 1) := by decide +kernel
theorem dL_compute_32 : decode cL_compute 32 = .ok (.ireturn, 1) := by decide +kernel
set_option maxRecDepth 20000 in
theorem ggL_jump_X8_jump : GoodIn wsL_jump wsX8_jump := goodIn_ca (goodIn_r _ [6, 7, 8, 9, 10, 11, 12, 13, 5, 14, 15, 16, 17, 18, 19, 20, 21, 22, 23, 24, 25, 26, 27, 28, 29, 30, 31, 32, 33, 34, 35, 36, 37, 38, 39, 40, 41, 42] (by decide +kernel) (by decide +kernel)) (goodIn_sub (fun _ h => List.mem_cons_of_mem _ (List.mem_append_right _ h)) (by decide +kernel))
set_option maxRecDepth 20000 in
theorem gL_jump_X8_jump : GoodIn wsL_jump (wsV RL 31 RX8 yX8_jump wsX8_jump) := goodIn_app (goodIn_of _ (by decide +kernel)) ggL_jump_X8_jump
theorem dL_jump_0 : decode cL_jump 0 = .ok (.aload_n 3, 1) := by decide +kernel
theorem dL_jump_1 : decode cL_jump 1 = .ok (.iconst 0, 1) := by decide +kernel
theorem dL_jump_2 : decode cL_jump 2 = .ok (.aload_n 0, 1) := by decide +kernel
theorem dL_jump_3 : decode cL_jump 3 = .ok (.iload_n 1, 1) := by decide +kernel
theorem dL_jump_4 : decode cL_jump 4 = .ok (.iload_n 2, 1) := by decide +kernel
theorem dL_jump_5 : decode cL_jump 5 = .ok (.invokevirtual 31, 3) := by decide +kernel
theorem dL_jump_8 : decode cL_jump 8 = .ok (.i2l, 1) := by decide +kernel
theorem dL_jump_9 : decode cL_jump 9 = .ok (.lastore, 1) := by decide +kernel
theorem dL_jump_10 : decode cL_jump 10 = .ok (.goto 7, 3) := by decide +kernel
theorem dL_jump_13 : decode cL_jump 13 = .ok (.astore 4, 2) := by decide +kernel
theorem dL_jump_15 : decode cL_jump 15 = .ok (.iconst 1, 1) := by decide +kernel
theorem dL_jump_16 : decode cL_jump 16 = .ok (.ireturn, 1) := by decide +kernel
theorem dL_jump_17 : decode cL_jump 17 = .ok (.iconst 0, 1) := by decide +kernel
theorem dL_jump_18 : decode cL_jump 18 = .ok (.ireturn, 1) := by decide +kernel
set_option maxRecDepth 20000 in
theorem ggL_branch_X8_branch : GoodIn wsL_branch wsX8_branch := goodIn_ca (goodIn_ca (goodIn_r _ [7, 8, 9, 10, 11, 12, 13, 14, 15, 16, 6, 17, 18, 19, 20, 21, 22, 23, 24, 25, 26, 27, 28, 29, 30, 31, 32, 33, 34, 35, 36, 37, 38, 39, 40, 41, 42, 43, 44, 45, 46, 47, 48, 49, 50, 51] (by decide +kernel) (by decide +kernel)) (goodIn_sub (fun _ h => List.mem_cons_of_mem _ (List.mem_append_left _ (List.mem_append_right _ h))) (by decide +kernel))) (goodIn_sub (fun _ h => List.mem_cons_of_mem _ (List.mem_append_right _ h)) (by decide +kernel))
set_option maxRecDepth 20000 in
theorem gL_branch_X8_branch : GoodIn wsL_branch (wsV RL 35 RX8 yX8_branch wsX8_branch) := goodIn_app (goodIn_of _ (by decide +kernel)) ggL_branch_X8_branch
theorem dL_branch_0 : decode cL_branch 0 = .ok (.aload 7, 2) := by decide +kernel
theorem dL_branch_2 : decode cL_branch 2 = .ok (.iconst 0, 1) := by decide +kernel
theorem dL_branch_3 : decode cL_branch 3 = .ok (.aload_n 0, 1) := by decide +kernel
theorem dL_branch_4 : decode cL_branch 4 = .ok (.iload_n 1, 1) := by decide +kernel
theorem dL_branch_5 : decode cL_branch 5 = .ok (.iload_n 2, 1) := by decide +kernel
theorem dL_branch_6 : decode cL_branch 6 = .ok (.iload_n 3, 1) := by decide +kernel
theorem dL_branch_7 : decode cL_branch 7 = .ok (.iload 4, 2) := by decide +kernel
theorem dL_branch_9 : decode cL_branch 9 = .ok (.iload 5, 2) := by decide +kernel
theorem dL_branch_11 : decode cL_branch 11 = .ok (.iload 6, 2) := by decide +kernel
theorem dL_branch_13 : decode cL_branch 13 = .ok (.invokevirtual 35, 3) := by decide +kernel
theorem dL_branch_16 : decode cL_branch 16 = .ok (.i2l, 1) := by decide +kernel
theorem dL_branch_17 : decode cL_branch 17 = .ok (.lastore, 1) := by decide +kernel
theorem dL_branch_18 : decode cL_branch 18 = .ok (.goto 11, 3) := by decide +kernel
theorem dL_branch_21 : decode cL_branch 21 = .ok (.astore 8, 2) := by decide +kernel
theorem dL_branch_23 : decode cL_branch 23 = .ok (.iconst 1, 1) := by decide +kernel
theorem dL_branch_24 : decode cL_branch 24 = .ok (.ireturn, 1) := by decide +kernel
theorem dL_branch_25 : decode cL_branch 25 = .ok (.astore 8, 2) := by decide +kernel
theorem dL_branch_27 : decode cL_branch 27 = .ok (.iconst 2, 1) := by decide +kernel
theorem dL_branch_28 : decode cL_branch 28 = .ok (.ireturn, 1) := by decide +kernel
theorem dL_branch_29 : decode cL_branch 29 = .ok (.iconst 0, 1) := by decide +kernel
theorem dL_branch_30 : decode cL_branch 30 = .ok (.ireturn, 1) := by decide +kernel
set_option maxRecDepth 20000 in
theorem ggL_clear_X8_clear : GoodIn wsL_clear wsX8_clear := goodIn_ca (goodIn_r _ [6, 7, 8, 9, 10, 11, 12, 13, 5, 14, 15, 16, 17, 18, 19, 20, 21, 22, 23, 24, 25, 26, 27, 28, 29, 30, 31, 32, 33, 34, 35, 36, 37, 38, 39, 40, 41, 42] (by decide +kernel) (by decide +kernel)) (goodIn_sub (fun _ h => List.mem_cons_of_mem _ (List.mem_append_right _ h)) (by decide +kernel))
set_option maxRecDepth 20000 in
theorem gL_clear_X8_clear : GoodIn wsL_clear (wsV RL 39 RX8 yX8_clear wsX8_clear) := goodIn_app (goodIn_of _ (by decide +kernel)) ggL_clear_X8_clear
theorem dL_clear_0 : decode cL_clear 0 = .ok (.aload_n 2, 1) := by decide +kernel
theorem dL_clear_1 : decode cL_clear 1 = .ok (.iconst 0, 1) := by decide +kernel
theorem dL_clear_2 : decode cL_clear 2 = .ok (.aload_n 0, 1) := by decide +kernel
theorem dL_clear_3 : decode cL_clear 3 = .ok (.iload_n 1, 1) := by decide +kernel
theorem dL_clear_4 : decode cL_clear 4 = .ok (.invokevirtual 39, 3) := by decide +kernel
theorem dL_clear_7 : decode cL_clear 7 = .ok (.i2l, 1) := by decide +kernel
theorem dL_clear_8 : decode cL_clear 8 = .ok (.lastore, 1) := by decide +kernel
theorem dL_clear_9 : decode cL_clear 9 = .ok (.goto 6, 3) := by decide +kernel
theorem dL_clear_12 : decode cL_clear 12 = .ok (.astore_n 3, 1) := by decide +kernel
theorem dL_clear_13 : decode cL_clear 13 = .ok (.iconst 1, 1) := by decide +kernel
theorem dL_clear_14 : decode cL_clear 14 = .ok (.ireturn, 1) := by decide +kernel
theorem dL_clear_15 : decode cL_clear 15 = .ok (.iconst 0, 1) := by decide +kernel
theorem dL_clear_16 : decode cL_clear 16 = .ok (.ireturn, 1) := by decide +kernel
set_option maxRecDepth 20000 in
theorem ggL_setEffort_X8_setEffort : GoodIn wsL_setEffort wsX8_setEffort := goodIn_ca (goodIn_r _ [6, 7, 8, 9, 10, 11, 12, 13, 14, 15, 16, 17, 18, 19, 20, 21] (by decide +kernel) (by decide +kernel)) (goodIn_sub (fun _ h => List.mem_cons_of_mem _ (List.mem_append_right _ h)) (by decide +kernel))
set_option maxRecDepth 20000 in
theorem gL_setEffort_X8_setEffort : GoodIn wsL_setEffort (wsV RL 43 RX8 yX8_setEffort wsX8_setEffort) := goodIn_app (goodIn_of _ (by decide +kernel)) ggL_setEffort_X8_setEffort
theorem dL_setEffort_0 : decode cL_setEffort 0 = .ok (.aload_n 3, 1) := by decide +kernel
theorem dL_setEffort_1 : decode cL_setEffort 1 = .ok (.iconst 0, 1) := by decide +kernel
theorem dL_setEffort_2 : decode cL_setEffort 2 = .ok (.aload_n 0, 1) := by decide +kernel
theorem dL_setEffort_3 : decode cL_setEffort 3 = .ok (.iload_n 1, 1) := by decide +kernel
theorem dL_setEffort_4 : decode cL_setEffort 4 = .ok (.iload_n 2, 1) := by decide +kernel
theorem dL_setEffort_5 : decode cL_setEffort 5 = .ok (.invokevirtual 43, 3) := by decide +kernel
theorem dL_setEffort_8 : decode cL_setEffort 8 = .ok (.ifCond .eq 7, 3) := by decide +kernel
theorem dL_setEffort_11 : decode cL_setEffort 11 = .ok (.lconst 1, 1) := by decide +kernel
theorem dL_setEffort_12 : decode cL_setEffort 12 = .ok (.goto 4, 3) := by decide +kernel
theorem dL_setEffort_15 : decode cL_setEffort 15 = .ok (.lconst 0, 1) := by decide +kernel
theorem dL_setEffort_16 : decode cL_setEffort 16 = .ok (.lastore, 1) := by decide +kernel
theorem dL_setEffort_17 : decode cL_setEffort 17 = .ok (.goto 7, 3) := by decide +kernel
theorem dL_setEffort_20 : decode cL_setEffort 20 = .ok (.astore 4, 2) := by decide +kernel
theorem dL_setEffort_22 : decode cL_setEffort 22 = .ok (.iconst 1, 1) := by decide +kernel
theorem dL_setEffort_23 : decode cL_setEffort 23 = .ok (.ireturn, 1) := by decide +kernel
theorem dL_setEffort_24 : decode cL_setEffort 24 = .ok (.iconst 0, 1) := by decide +kernel
theorem dL_setEffort_25 : decode cL_setEffort 25 = .ok (.ireturn, 1) := by decide +kernel
set_option maxRecDepth 20000 in
theorem ggL_addThreshold_X8_addThreshold : GoodIn wsL_addThreshold wsX8_addThreshold := goodIn_ca (goodIn_ca (goodIn_r _ [7, 8, 9, 10, 11, 12, 13, 14, 15, 16, 17, 18, 19, 20, 21, 22, 23, 24, 25, 26, 27, 28, 29, 30, 31, 32] (by decide +kernel) (by decide +kernel)) (goodIn_sub (fun _ h => List.mem_cons_of_mem _ (List.mem_append_left _ (List.mem_append_right _ h))) (by decide +kernel))) (goodIn_sub (fun _ h => List.mem_cons_of_mem _ (List.mem_append_right _ h)) (by decide +kernel))
set_option maxRecDepth 20000 in
theorem gL_addThreshold_X8_addThreshold : GoodIn wsL_addThreshold (wsV RL 47 RX8 yX8_addThreshold wsX8_addThreshold) := goodIn_app (goodIn_of _ (by decide +kernel)) ggL_addThreshold_X8_addThreshold
theorem dL_addThreshold_0 : decode cL_addThreshold 0 = .ok (.aload_n 2, 1) := by decide +kernel
theorem dL_addThreshold_1 : decode cL_addThreshold 1 = .ok (.iconst 0, 1) := by decide +kernel
theorem dL_addThreshold_2 : decode cL_addThreshold 2 = .ok (.aload_n 0, 1) := by decide +kernel
theorem dL_addThreshold_3 : decode cL_addThreshold 3 = .ok (.iload_n 1, 1) := by decide +kernel
theorem dL_addThreshold_4 : decode cL_addThreshold 4 = .ok (.invokevirtual 47, 3) := by decide +kernel
theorem dL_addThreshold_7 : decode cL_addThreshold 7 = .ok (.i2l, 1) := by decide +kernel
theorem dL_addThreshold_8 : decode cL_addThreshold 8 = .ok (.lastore, 1) := by decide +kernel
theorem dL_addThreshold_9 : decode cL_addThreshold 9 = .ok (.goto 9, 3) := by decide +kernel
theorem dL_addThreshold_12 : decode cL_addThreshold 12 = .ok (.astore_n 3, 1) := by decide +kernel
theorem dL_addThreshold_13 : decode cL_addThreshold 13 = .ok (.iconst 1, 1) := by decide +kernel
theorem dL_addThreshold_14 : decode cL_addThreshold 14 = .ok (.ireturn, 1) := by decide +kernel
theorem dL_addThreshold_15 : decode cL_addThreshold 15 = .ok (.astore_n 3, 1) := by decide +kernel
theorem dL_addThreshold_16 : decode cL_addThreshold 16 = .ok (.iconst 2, 1) := by decide +kernel
theorem dL_addThreshold_17 : decode cL_addThreshold 17 = .ok (.ireturn, 1) := by decide +kernel
theorem dL_addThreshold_18 : decode cL_addThreshold 18 = .ok (.iconst 0, 1) := by decide +kernel
theorem dL_addThreshold_19 : decode cL_addThreshold 19 = .ok (.ireturn, 1) := by decide +kernel
set_option maxRecDepth 20000 in
theorem ggL_isReachable_X8_isReachable : GoodIn wsL_isReachable wsX8_isReachable := goodIn_ca (goodIn_ca (goodIn_r _ [7, 8, 9, 10, 11, 12, 13, 14, 6, 15, 16, 17, 18, 19, 20, 21, 22, 23, 24, 25, 26, 27, 28, 29, 30, 31, 32, 33, 34, 35, 36, 37, 38, 39, 40, 41, 42, 43, 44] (by decide +kernel) (by decide +kernel)) (goodIn_sub (fun _ h => List.mem_cons_of_mem _ (List.mem_append_left _ (List.mem_append_right _ h))) (by decide +kernel))) (goodIn_sub (fun _ h => List.mem_cons_of_mem _ (List.mem_append_right _ h)) (by decide +kernel))
set_option maxRecDepth 20000 in
theorem gL_isReachable_X8_isReachable : GoodIn wsL_isReachable (wsV RL 50 RX8 yX8_isReachable wsX8_isReachable) := goodIn_app (goodIn_of _ (by decide +kernel)) ggL_isReachable_X8_isReachable
theorem dL_isReachable_0 : decode cL_isReachable 0 = .ok (.aload_n 2, 1) := by decide +kernel
theorem dL_isReachable_1 : decode cL_isReachable 1 = .ok (.iconst 0, 1) := by decide +kernel
theorem dL_isReachable_2 : decode cL_isReachable 2 = .ok (.aload_n 0, 1) := by decide +kernel
theorem dL_isReachable_3 : decode cL_isReachable 3 = .ok (.iload_n 1, 1) := by decide +kernel
theorem dL_isReachable_4 : decode cL_isReachable 4 = .ok (.invokevirtual 50, 3) := by decide +kernel
theorem dL_isReachable_7 : decode cL_isReachable 7 = .ok (.ifCond .eq 7, 3) := by decide +kernel
theorem dL_isReachable_10 : decode cL_isReachable 10 = .ok (.lconst 1, 1) := by decide +kernel
theorem dL_isReachable_11 : decode cL_isReachable 11 = .ok (.goto 4, 3) := by decide +kernel
theorem dL_isReachable_14 : decode cL_isReachable 14 = .ok (.lconst 0, 1) := by decide +kernel
theorem dL_isReachable_15 : decode cL_isReachable 15 = .ok (.lastore, 1) := by decide +kernel
theorem dL_isReachable_16 : decode cL_isReachable 16 = .ok (.goto 9, 3) := by decide +kernel
theorem dL_isReachable_19 : decode cL_isReachable 19 = .ok (.astore_n 3, 1) := by decide +kernel
theorem dL_isReachable_20 : decode cL_isReachable 20 = .ok (.iconst 1, 1) := by decide +kernel
theorem dL_isReachable_21 : decode cL_isReachable 21 = .ok (.ireturn, 1) := by decide +kernel
theorem dL_isReachable_22 : decode cL_isReachable 22 = .ok (.astore_n 3, 1) := by decide +kernel
theorem dL_isReachable_23 : decode cL_isReachable 23 = .ok (.iconst 2, 1) := by decide +kernel
theorem dL_isReachable_24 : decode cL_isReachable 24 = .ok (.ireturn, 1) := by decide +kernel
theorem dL_isReachable_25 : decode cL_isReachable 25 = .ok (.iconst 0, 1) := by decide +kernel
theorem dL_isReachable_26 : decode cL_isReachable 26 = .ok (.ireturn, 1) := by decide +kernel
set_option maxRecDepth 20000 in
theorem ggL_entry_X8_entry : GoodIn wsL_entry wsX8_entry := goodIn_ca (goodIn_ca (goodIn_ca (goodIn_r _ [8, 9, 10, 11, 12, 13, 14, 7, 15, 16, 17, 18, 19, 20, 21, 22, 23, 24, 25, 26, 27, 28, 29, 30, 31, 32, 33, 34, 35, 36, 37, 38, 39, 40, 41, 42, 43, 44, 45, 46, 47, 48, 49, 50, 51, 52, 53, 54, 55] (by decide +kernel) (by decide +kernel)) (goodIn_sub (fun _ h => List.mem_cons_of_mem _ (List.mem_append_left _ (List.mem_append_left _ (List.mem_append_right _ h)))) (by decide +kernel))) (goodIn_sub (fun _ h => List.mem_cons_of_mem _ (List.mem_append_left _ (List.mem_append_right _ h))) (by decide +kernel))) (goodIn_sub (fun _ h => List.mem_cons_of_mem _ (List.mem_append_right _ h)) (by decide +kernel))
set_option maxRecDepth 20000 in
theorem gL_entry_X8_entry : GoodIn wsL_entry (wsV RL 54 RX8 yX8_entry wsX8_entry) := goodIn_app (goodIn_of _ (by decide +kernel)) ggL_entry_X8_entry
theorem dL_entry_0 : decode cL_entry 0 = .ok (.aload 4, 2) := by decide +kernel
theorem dL_entry_2 : decode cL_entry 2 = .ok (.iconst 0, 1) := by decide +kernel
theorem dL_entry_3 : decode cL_entry 3 = .ok (.aload_n 0, 1) := by decide +kernel
theorem dL_entry_4 : decode cL_entry 4 = .ok (.iload_n 1, 1) := by decide +kernel
theorem dL_entry_5 : decode cL_entry 5 = .ok (.iload_n 2, 1) := by decide +kernel
theorem dL_entry_6 : decode cL_entry 6 = .ok (.iload_n 3, 1) := by decide +kernel
theorem dL_entry_7 : decode cL_entry 7 = .ok (.invokevirtual 54, 3) := by decide +kernel
theorem dL_entry_10 : decode cL_entry 10 = .ok (.i2l, 1) := by decide +kernel
theorem dL_entry_11 : decode cL_entry 11 = .ok (.lastore, 1) := by decide +kernel
theorem dL_entry_12 : decode cL_entry 12 = .ok (.goto 15, 3) := by decide +kernel
theorem dL_entry_15 : decode cL_entry 15 = .ok (.astore 5, 2) := by decide +kernel
theorem dL_entry_17 : decode cL_entry 17 = .ok (.iconst 1, 1) := by decide +kernel
theorem dL_entry_18 : decode cL_entry 18 = .ok (.ireturn, 1) := by decide +kernel
theorem dL_entry_19 : decode cL_entry 19 = .ok (.astore 5, 2) := by decide +kernel
theorem dL_entry_21 : decode cL_entry 21 = .ok (.iconst 2, 1) := by decide +kernel
theorem dL_entry_22 : decode cL_entry 22 = .ok (.ireturn, 1) := by decide +kernel
theorem dL_entry_23 : decode cL_entry 23 = .ok (.astore 5, 2) := by decide +kernel
theorem dL_entry_25 : decode cL_entry 25 = .ok (.iconst 3, 1) := by decide +kernel
theorem dL_entry_26 : decode cL_entry 26 = .ok (.ireturn, 1) := by decide +kernel
theorem dL_entry_27 : decode cL_entry 27 = .ok (.iconst 0, 1) := by decide +kernel
theorem dL_entry_28 : decode cL_entry 28 = .ok (.ireturn, 1) := by decide +kernel
set_option maxRecDepth 20000 in
theorem ggL_exit_X8_exit : GoodIn wsL_exit wsX8_exit := goodIn_ca (goodIn_ca (goodIn_ca (goodIn_r _ [8, 9, 10, 11, 12, 13, 14, 7, 15, 16, 17, 18, 19, 20, 21, 22, 23, 24, 25, 26, 27, 28, 29, 30, 31, 32, 33, 34, 35, 36, 37, 38, 39, 40, 41, 42, 43, 44, 45, 46, 47, 48, 49, 50, 51, 52, 53, 54, 55] (by decide +kernel) (by decide +kernel)) (goodIn_sub (fun _ h => List.mem_cons_of_mem _ (List.mem_append_left _ (List.mem_append_left _ (List.mem_append_right _ h)))) (by decide +kernel))) (goodIn_sub (fun _ h => List.mem_cons_of_mem _ (List.mem_append_left _ (List.mem_append_right _ h))) (by decide +kernel))) (goodIn_sub (fun _ h => List.mem_cons_of_mem _ (List.mem_append_right _ h)) (by decide +kernel))
set_option maxRecDepth 20000 in
theorem gL_exit_X8_exit : GoodIn wsL_exit (wsV RL 60 RX8 yX8_exit wsX8_exit) := goodIn_app (goodIn_of _ (by decide +kernel)) ggL_exit_X8_exit
theorem dL_exit_0 : decode cL_exit 0 = .ok (.aload 4, 2) := by decide +kernel
theorem dL_exit_2 : decode cL_exit 2 = .ok (.iconst 0, 1) := by decide +kernel
theorem dL_exit_3 : decode cL_exit 3 = .ok (.aload_n 0, 1) := by decide +kernel
theorem dL_exit_4 : decode cL_exit 4 = .ok (.iload_n 1, 1) := by decide +kernel
theorem dL_exit_5 : decode cL_exit 5 = .ok (.iload_n 2, 1) := by decide +kernel
theorem dL_exit_6 : decode cL_exit 6 = .ok (.iload_n 3, 1) := by decide +kernel
theorem dL_exit_7 : decode cL_exit 7 = .ok (.invokevirtual 60, 3) := by decide +kernel
theorem dL_exit_10 : decode cL_exit 10 = .ok (.i2l, 1) := by decide +kernel
theorem dL_exit_11 : decode cL_exit 11 = .ok (.lastore, 1) := by decide +kernel
theorem dL_exit_12 : decode cL_exit 12 = .ok (.goto 15, 3) := by decide +kernel
theorem dL_exit_15 : decode cL_exit 15 = .ok (.astore 5, 2) := by decide +kernel
theorem dL_exit_17 : decode cL_exit 17 = .ok (.iconst 1, 1) := by decide +kernel
theorem dL_exit_18 : decode cL_exit 18 = .ok (.ireturn, 1) := by decide +kernel
theorem dL_exit_19 : decode cL_exit 19 = .ok (.astore 5, 2) := by decide +kernel
theorem dL_exit_21 : decode cL_exit 21 = .ok (.iconst 2, 1) := by decide +kernel
theorem dL_exit_22 : decode cL_exit 22 = .ok (.ireturn, 1) := by decide +kernel
theorem dL_exit_23 : decode cL_exit 23 = .ok (.astore 5, 2) := by decide +kernel
theorem dL_exit_25 : decode cL_exit 25 = .ok (.iconst 3, 1) := by decide +kernel
theorem dL_exit_26 : decode cL_exit 26 = .ok (.ireturn, 1) := by decide +kernel
theorem dL_exit_27 : decode cL_exit 27 = .ok (.iconst 0, 1) := by decide +kernel
theorem dL_exit_28 : decode cL_exit 28 = .ok (.ireturn, 1) := by decide +kernel
set_option maxRecDepth 20000 in
theorem ggL_isDead_X8_isDead : GoodIn wsL_isDead wsX8_isDead := goodIn_ca (goodIn_ca (goodIn_r _ [7, 8, 9, 10, 11, 12, 13, 14, 15, 16, 17, 18, 19, 6, 20, 21, 22, 23, 24, 25, 26, 27, 28, 29, 30, 31, 32, 33, 34, 35, 36, 37, 38, 39, 40, 41, 42, 43, 44, 45, 46, 47, 48, 49, 50, 51, 52, 53, 54, 55, 56] (by decide +kernel) (by decide +kernel)) (goodIn_sub (fun _ h => List.mem_cons_of_mem _ (List.mem_append_left _ (List.mem_append_right _ h))) (by decide +kernel))) (goodIn_sub (fun _ h => List.mem_cons_of_mem _ (List.mem_append_right _ h)) (by decide +kernel))
set_option maxRecDepth 20000 in
theorem gL_isDead_X8_isDead : GoodIn wsL_isDead (wsV RL 63 RX8 yX8_isDead wsX8_isDead) := goodIn_app (goodIn_of _ (by decide +kernel)) ggL_isDead_X8_isDead
theorem dL_isDead_0 : decode cL_isDead 0 = .ok (.aload_n 3, 1) := by decide +kernel
theorem dL_isDead_1 : decode cL_isDead 1 = .ok (.iconst 0, 1) := by decide +kernel
theorem dL_isDead_2 : decode cL_isDead 2 = .ok (.aload_n 0, 1) := by decide +kernel
theorem dL_isDead_3 : decode cL_isDead 3 = .ok (.iload_n 1, 1) := by decide +kernel
theorem dL_isDead_4 : decode cL_isDead 4 = .ok (.iload_n 2, 1) := by decide +kernel
theorem dL_isDead_5 : decode cL_isDead 5 = .ok (.invokevirtual 63, 3) := by decide +kernel
theorem dL_isDead_8 : decode cL_isDead 8 = .ok (.ifCond .eq 7, 3) := by decide +kernel
theorem dL_isDead_11 : decode cL_isDead 11 = .ok (.lconst 1, 1) := by decide +kernel
theorem dL_isDead_12 : decode cL_isDead 12 = .ok (.goto 4, 3) := by decide +kernel
theorem dL_isDead_15 : decode cL_isDead 15 = .ok (.lconst 0, 1) := by decide +kernel
theorem dL_isDead_16 : decode cL_isDead 16 = .ok (.lastore, 1) := by decide +kernel
theorem dL_isDead_17 : decode cL_isDead 17 = .ok (.goto 11, 3) := by decide +kernel
theorem dL_isDead_20 : decode cL_isDead 20 = .ok (.astore 4, 2) := by decide +kernel
theorem dL_isDead_22 : decode cL_isDead 22 = .ok (.iconst 1, 1) := by decide +kernel
theorem dL_isDead_23 : decode cL_isDead 23 = .ok (.ireturn, 1) := by decide +kernel
theorem dL_isDead_24 : decode cL_isDead 24 = .ok (.astore 4, 2) := by decide +kernel
theorem dL_isDead_26 : decode cL_isDead 26 = .ok (.iconst 2, 1) := by decide +kernel
theorem dL_isDead_27 : decode cL_isDead 27 = .ok (.ireturn, 1) := by decide +kernel
theorem dL_isDead_28 : decode cL_isDead 28 = .ok (.iconst 0, 1) := by decide +kernel
theorem dL_isDead_29 : decode cL_isDead 29 = .ok (.ireturn, 1) := by decide +kernel
set_option maxRecDepth 20000 in
theorem ggL_deadEdges_X8_deadEdges : GoodIn wsL_deadEdges wsX8_deadEdges := goodIn_ca (goodIn_r _ [6, 7, 8, 9, 10, 11, 12, 13, 14, 15, 5, 16, 17, 18, 19, 20, 21, 22, 23, 24, 25, 26, 27, 28, 29, 30, 31, 32, 33, 34, 35, 36, 37, 38, 39, 40, 41, 42, 43, 44, 45, 46, 47, 48, 49, 50, 51, 52, 53, 54, 55] (by decide +kernel) (by decide +kernel)) (goodIn_sub (fun _ h => List.mem_cons_of_mem _ (List.mem_append_right _ h)) (by decide +kernel))
set_option maxRecDepth 20000 in
theorem gL_deadEdges_X8_deadEdges : GoodIn wsL_deadEdges (wsV RL 66 RX8 yX8_deadEdges wsX8_deadEdges) := goodIn_app (goodIn_of _ (by decide +kernel)) ggL_deadEdges_X8_deadEdges
theorem dL_deadEdges_0 : decode cL_deadEdges 0 = .ok (.aload_n 1, 1) := by decide +kernel
theorem dL_deadEdges_1 : decode cL_deadEdges 1 = .ok (.iconst 0, 1) := by decide +kernel
theorem dL_deadEdges_2 : decode cL_deadEdges 2 = .ok (.aload_n 0, 1) := by decide +kernel
theorem dL_deadEdges_3 : decode cL_deadEdges 3 = .ok (.invokevirtual 66, 3) := by decide +kernel
theorem dL_deadEdges_6 : decode cL_deadEdges 6 = .ok (.i2l, 1) := by decide +kernel
theorem dL_deadEdges_7 : decode cL_deadEdges 7 = .ok (.lastore, 1) := by decide +kernel
theorem dL_deadEdges_8 : decode cL_deadEdges 8 = .ok (.goto 6, 3) := by decide +kernel
theorem dL_deadEdges_11 : decode cL_deadEdges 11 = .ok (.astore_n 2, 1) := by decide +kernel
theorem dL_deadEdges_12 : decode cL_deadEdges 12 = .ok (.iconst 1, 1) := by decide +kernel
theorem dL_deadEdges_13 : decode cL_deadEdges 13 = .ok (.ireturn, 1) := by decide +kernel
theorem dL_deadEdges_14 : decode cL_deadEdges 14 = .ok (.iconst 0, 1) := by decide +kernel
theorem dL_deadEdges_15 : decode cL_deadEdges 15 = .ok (.ireturn, 1) := by decide +kernel
set_option maxRecDepth 20000 in
theorem ggL_constants_X8_constants : GoodIn wsL_constants wsX8_constants := goodIn_ca (goodIn_ca (goodIn_r _ [7, 8, 9, 10, 11, 12, 13, 6, 14, 15, 16, 17, 18, 19, 20, 21, 22, 23, 24, 25, 26, 27, 28, 29, 30, 31, 32, 33, 34, 35, 36, 37, 38, 39, 40, 41, 42, 43, 44, 45, 46, 47, 48, 49, 50, 51, 52, 53, 54, 55] (by decide +kernel) (by decide +kernel)) (goodIn_sub (fun _ h => List.mem_cons_of_mem _ (List.mem_append_left _ (List.mem_append_right _ h))) (by decide +kernel))) (goodIn_sub (fun _ h => List.mem_cons_of_mem _ (List.mem_append_right _ h)) (by decide +kernel))
set_option maxRecDepth 20000 in
theorem gL_constants_X8_constants : GoodIn wsL_constants (wsV RL 69 RX8 yX8_constants wsX8_constants) := goodIn_app (goodIn_of _ (by decide +kernel)) ggL_constants_X8_constants
theorem dL_constants_0 : decode cL_constants 0 = .ok (.aload_n 2, 1) := by decide +kernel
theorem dL_constants_1 : decode cL_constants 1 = .ok (.iconst 0, 1) := by decide +kernel
theorem dL_constants_2 : decode cL_constants 2 = .ok (.aload_n 0, 1) := by decide +kernel
theorem dL_constants_3 : decode cL_constants 3 = .ok (.iload_n 1, 1) := by decide +kernel
theorem dL_constants_4 : decode cL_constants 4 = .ok (.invokevirtual 69, 3) := by decide +kernel
theorem dL_constants_7 : decode cL_constants 7 = .ok (.i2l, 1) := by decide +kernel
theorem dL_constants_8 : decode cL_constants 8 = .ok (.lastore, 1) := by decide +kernel
theorem dL_constants_9 : decode cL_constants 9 = .ok (.goto 9, 3) := by decide +kernel
theorem dL_constants_12 : decode cL_constants 12 = .ok (.astore_n 3, 1) := by decide +kernel
theorem dL_constants_13 : decode cL_constants 13 = .ok (.iconst 1, 1) := by decide +kernel
theorem dL_constants_14 : decode cL_constants 14 = .ok (.ireturn, 1) := by decide +kernel
theorem dL_constants_15 : decode cL_constants 15 = .ok (.astore_n 3, 1) := by decide +kernel
theorem dL_constants_16 : decode cL_constants 16 = .ok (.iconst 2, 1) := by decide +kernel
theorem dL_constants_17 : decode cL_constants 17 = .ok (.ireturn, 1) := by decide +kernel
theorem dL_constants_18 : decode cL_constants 18 = .ok (.iconst 0, 1) := by decide +kernel
theorem dL_constants_19 : decode cL_constants 19 = .ok (.ireturn, 1) := by decide +kernel
set_option maxRecDepth 20000 in
theorem ggL_visits_X8_visits : GoodIn wsL_visits wsX8_visits := goodIn_ca (goodIn_ca (goodIn_r _ [7, 8, 9, 10, 11, 12, 13, 6, 14, 15, 16, 17, 18, 19, 20, 21, 22, 23, 24, 25, 26, 27, 28, 29, 30, 31, 32, 33, 34, 35, 36, 37, 38, 39, 40] (by decide +kernel) (by decide +kernel)) (goodIn_sub (fun _ h => List.mem_cons_of_mem _ (List.mem_append_left _ (List.mem_append_right _ h))) (by decide +kernel))) (goodIn_sub (fun _ h => List.mem_cons_of_mem _ (List.mem_append_right _ h)) (by decide +kernel))
set_option maxRecDepth 20000 in
theorem gL_visits_X8_visits : GoodIn wsL_visits (wsV RL 72 RX8 yX8_visits wsX8_visits) := goodIn_app (goodIn_of _ (by decide +kernel)) ggL_visits_X8_visits
theorem dL_visits_0 : decode cL_visits 0 = .ok (.aload_n 2, 1) := by decide +kernel
theorem dL_visits_1 : decode cL_visits 1 = .ok (.iconst 0, 1) := by decide +kernel
theorem dL_visits_2 : decode cL_visits 2 = .ok (.aload_n 0, 1) := by decide +kernel
theorem dL_visits_3 : decode cL_visits 3 = .ok (.iload_n 1, 1) := by decide +kernel
theorem dL_visits_4 : decode cL_visits 4 = .ok (.invokevirtual 72, 3) := by decide +kernel
theorem dL_visits_7 : decode cL_visits 7 = .ok (.i2l, 1) := by decide +kernel
theorem dL_visits_8 : decode cL_visits 8 = .ok (.lastore, 1) := by decide +kernel
theorem dL_visits_9 : decode cL_visits 9 = .ok (.goto 9, 3) := by decide +kernel
theorem dL_visits_12 : decode cL_visits 12 = .ok (.astore_n 3, 1) := by decide +kernel
theorem dL_visits_13 : decode cL_visits 13 = .ok (.iconst 1, 1) := by decide +kernel
theorem dL_visits_14 : decode cL_visits 14 = .ok (.ireturn, 1) := by decide +kernel
theorem dL_visits_15 : decode cL_visits 15 = .ok (.astore_n 3, 1) := by decide +kernel
theorem dL_visits_16 : decode cL_visits 16 = .ok (.iconst 2, 1) := by decide +kernel
theorem dL_visits_17 : decode cL_visits 17 = .ok (.ireturn, 1) := by decide +kernel
theorem dL_visits_18 : decode cL_visits 18 = .ok (.iconst 0, 1) := by decide +kernel
theorem dL_visits_19 : decode cL_visits 19 = .ok (.ireturn, 1) := by decide +kernel
set_option maxRecDepth 20000 in
theorem ggL_run_X8_run : GoodIn wsL_run wsX8_run := goodIn_ca (goodIn_r _ [6, 7, 8, 9, 10, 11, 12, 13, 14, 15, 16, 17, 18, 19, 20, 21, 22, 23, 24, 25, 26, 27, 28, 29, 30, 31, 32, 33, 34, 35, 36, 37, 38, 39, 40, 41, 42, 43, 44, 45, 46, 47, 48, 49, 50, 51, 52, 53, 54, 55, 56, 57, 58, 59, 60, 61, 62, 63, 64, 65, 66, 67, 68, 69, 70, 71, 72, 73, 74, 75, 76, 77, 78, 79, 80, 81, 82, 83, 84, 85, 86, 87, 88, 89, 90, 91, 92, 93, 94, 95, 96, 97, 98, 99, 100, 101, 102, 103, 104, 105, 106, 107, 108, 109, 110, 111, 112, 113] (by decide +kernel) (by decide +kernel)) (goodIn_sub (fun _ h => List.mem_cons_of_mem _ (List.mem_append_right _ h)) (by decide +kernel))
set_option maxRecDepth 20000 in
theorem gL_run_X8_run : GoodIn wsL_run (wsV RL 75 RX8 yX8_run wsX8_run) := goodIn_app (goodIn_of _ (by decide +kernel)) ggL_run_X8_run
theorem dL_run_0 : decode cL_run 0 = .ok (.aload 4, 2) := by decide +kernel
theorem dL_run_2 : decode cL_run 2 = .ok (.iconst 0, 1) := by decide +kernel
theorem dL_run_3 : decode cL_run 3 = .ok (.aload_n 0, 1) := by decide +kernel
theorem dL_run_4 : decode cL_run 4 = .ok (.lload_n 1, 1) := by decide +kernel
theorem dL_run_5 : decode cL_run 5 = .ok (.iload_n 3, 1) := by decide +kernel
theorem dL_run_6 : decode cL_run 6 = .ok (.invokevirtual 75, 3) := by decide +kernel
theorem dL_run_9 : decode cL_run 9 = .ok (.i2l, 1) := by decide +kernel
theorem dL_run_10 : decode cL_run 10 = .ok (.lastore, 1) := by decide +kernel
theorem dL_run_11 : decode cL_run 11 = .ok (.goto 7, 3) := by decide +kernel
theorem dL_run_14 : decode cL_run 14 = .ok (.astore 5, 2) := by decide +kernel
theorem dL_run_16 : decode cL_run 16 = .ok (.iconst 1, 1) := by decide +kernel
theorem dL_run_17 : decode cL_run 17 = .ok (.ireturn, 1) := by decide +kernel
theorem dL_run_18 : decode cL_run 18 = .ok (.iconst 0, 1) := by decide +kernel
theorem dL_run_19 : decode cL_run 19 = .ok (.ireturn, 1) := by decide +kernel
set_option maxRecDepth 20000 in
theorem ggL_enteredBlock_X8_enteredBlock : GoodIn wsL_enteredBlock wsX8_enteredBlock := goodIn_ca (goodIn_r _ [6, 7, 8, 9, 10, 11, 5, 12, 13, 14, 15, 16, 17, 18, 19, 20, 21, 22, 23, 24, 25] (by decide +kernel) (by decide +kernel)) (goodIn_sub (fun _ h => List.mem_cons_of_mem _ (List.mem_append_right _ h)) (by decide +kernel))
set_option maxRecDepth 20000 in
theorem gL_enteredBlock_X8_enteredBlock : GoodIn wsL_enteredBlock (wsV RL 79 RX8 yX8_enteredBlock wsX8_enteredBlock) := goodIn_app (goodIn_of _ (by decide +kernel)) ggL_enteredBlock_X8_enteredBlock
theorem dL_enteredBlock_0 : decode cL_enteredBlock 0 = .ok (.aload_n 2, 1) := by decide +kernel
theorem dL_enteredBlock_1 : decode cL_enteredBlock 1 = .ok (.iconst 0, 1) := by decide +kernel
theorem dL_enteredBlock_2 : decode cL_enteredBlock 2 = .ok (.aload_n 0, 1) := by decide +kernel
theorem dL_enteredBlock_3 : decode cL_enteredBlock 3 = .ok (.iload_n 1, 1) := by decide +kernel
theorem dL_enteredBlock_4 : decode cL_enteredBlock 4 = .ok (.invokevirtual 79, 3) := by decide +kernel
theorem dL_enteredBlock_7 : decode cL_enteredBlock 7 = .ok (.i2l, 1) := by decide +kernel
theorem dL_enteredBlock_8 : decode cL_enteredBlock 8 = .ok (.lastore, 1) := by decide +kernel
theorem dL_enteredBlock_9 : decode cL_enteredBlock 9 = .ok (.goto 6, 3) := by decide +kernel
theorem dL_enteredBlock_12 : decode cL_enteredBlock 12 = .ok (.astore_n 3, 1) := by decide +kernel
theorem dL_enteredBlock_13 : decode cL_enteredBlock 13 = .ok (.iconst 1, 1) := by decide +kernel
theorem dL_enteredBlock_14 : decode cL_enteredBlock 14 = .ok (.ireturn, 1) := by decide +kernel
theorem dL_enteredBlock_15 : decode cL_enteredBlock 15 = .ok (.iconst 0, 1) := by decide +kernel
theorem dL_enteredBlock_16 : decode cL_enteredBlock 16 = .ok (.ireturn, 1) := by decide +kernel
set_option maxRecDepth 20000 in
theorem ggL_enteredWith_X8_enteredWith : GoodIn wsL_enteredWith wsX8_enteredWith := goodIn_ca (goodIn_r _ [6, 7, 8, 9, 10, 11, 5, 12, 13, 14, 15, 16, 17, 18, 19, 20, 21, 22, 23, 24, 25, 26, 27, 28] (by decide +kernel) (by decide +kernel)) (goodIn_sub (fun _ h => List.mem_cons_of_mem _ (List.mem_append_right _ h)) (by decide +kernel))
set_option maxRecDepth 20000 in
theorem gL_enteredWith_X8_enteredWith : GoodIn wsL_enteredWith (wsV RL 82 RX8 yX8_enteredWith wsX8_enteredWith) := goodIn_app (goodIn_of _ (by decide +kernel)) ggL_enteredWith_X8_enteredWith
theorem dL_enteredWith_0 : decode cL_enteredWith 0 = .ok (.aload_n 3, 1) := by decide +kernel
theorem dL_enteredWith_1 : decode cL_enteredWith 1 = .ok (.iconst 0, 1) := by decide +kernel
theorem dL_enteredWith_2 : decode cL_enteredWith 2 = .ok (.aload_n 0, 1) := by decide +kernel
theorem dL_enteredWith_3 : decode cL_enteredWith 3 = .ok (.iload_n 1, 1) := by decide +kernel
theorem dL_enteredWith_4 : decode cL_enteredWith 4 = .ok (.iload_n 2, 1) := by decide +kernel
theorem dL_enteredWith_5 : decode cL_enteredWith 5 = .ok (.invokevirtual 82, 3) := by decide +kernel
theorem dL_enteredWith_8 : decode cL_enteredWith 8 = .ok (.i2l, 1) := by decide +kernel
theorem dL_enteredWith_9 : decode cL_enteredWith 9 = .ok (.lastore, 1) := by decide +kernel
theorem dL_enteredWith_10 : decode cL_enteredWith 10 = .ok (.goto 7, 3) := by decide +kernel
theorem dL_enteredWith_13 : decode cL_enteredWith 13 = .ok (.astore 4, 2) := by decide +kernel
theorem dL_enteredWith_15 : decode cL_enteredWith 15 = .ok (.iconst 1, 1) := by decide +kernel
theorem dL_enteredWith_16 : decode cL_enteredWith 16 = .ok (.ireturn, 1) := by decide +kernel
theorem dL_enteredWith_17 : decode cL_enteredWith 17 = .ok (.iconst 0, 1) := by decide +kernel
theorem dL_enteredWith_18 : decode cL_enteredWith 18 = .ok (.ireturn, 1) := by decide +kernel
set_option maxRecDepth 20000 in
theorem ggL_result_X8_result : GoodIn wsL_result wsX8_result := goodIn_ca (goodIn_r _ [6, 7, 8, 9, 10, 5, 11, 12, 13, 14, 15, 16, 17, 18, 19, 20, 21, 22, 23] (by decide +kernel) (by decide +kernel)) (goodIn_sub (fun _ h => List.mem_cons_of_mem _ (List.mem_append_right _ h)) (by decide +kernel))
set_option maxRecDepth 20000 in
theorem gL_result_X8_result : GoodIn wsL_result (wsV RL 85 RX8 yX8_result wsX8_result) := goodIn_app (goodIn_of _ (by decide +kernel)) ggL_result_X8_result
theorem dL_result_0 : decode cL_result 0 = .ok (.aload_n 2, 1) := by decide +kernel
theorem dL_result_1 : decode cL_result 1 = .ok (.iconst 0, 1) := by decide +kernel
theorem dL_result_2 : decode cL_result 2 = .ok (.aload_n 0, 1) := by decide +kernel
theorem dL_result_3 : decode cL_result 3 = .ok (.iload_n 1, 1) := by decide +kernel
theorem dL_result_4 : decode cL_result 4 = .ok (.invokevirtual 85, 3) := by decide +kernel
theorem dL_result_7 : decode cL_result 7 = .ok (.i2l, 1) := by decide +kernel
theorem dL_result_8 : decode cL_result 8 = .ok (.lastore, 1) := by decide +kernel
theorem dL_result_9 : decode cL_result 9 = .ok (.goto 6, 3) := by decide +kernel
theorem dL_result_12 : decode cL_result 12 = .ok (.astore_n 3, 1) := by decide +kernel
theorem dL_result_13 : decode cL_result 13 = .ok (.iconst 1, 1) := by decide +kernel
theorem dL_result_14 : decode cL_result 14 = .ok (.ireturn, 1) := by decide +kernel
theorem dL_result_15 : decode cL_result 15 = .ok (.iconst 0, 1) := by decide +kernel
theorem dL_result_16 : decode cL_result 16 = .ok (.ireturn, 1) := by decide +kernel
