theorem dX2_draft_27 : decode cX2_draft 27 = .ok (.aload_n 0, 1) := by decide +kernel
theorem dX2_draft_28 : decode cX2_draft 28 = .ok (.getfield 25, 3) := by decide +kernel
theorem dX2_draft_31 : decode cX2_draft 31 = .ok (.iload_n 1, 1) := by decide +kernel
theorem dX2_draft_32 : decode cX2_draft 32 = .ok (.invokestatic 131, 3) := by decide +kernel
theorem dX2_draft_35 : decode cX2_draft 35 = .ok (.aload_n 0, 1) := by decide +kernel
theorem dX2_draft_36 : decode cX2_draft 36 = .ok (.dup, 1) := by decide +kernel
theorem dX2_draft_37 : decode cX2_draft 37 = .ok (.getfield 25, 3) := by decide +kernel
theorem dX2_draft_40 : decode cX2_draft 40 = .ok (.iconst 1, 1) := by decide +kernel
theorem dX2_draft_41 : decode cX2_draft 41 = .ok (.iadd, 1) := by decide +kernel
theorem dX2_draft_42 : decode cX2_draft 42 = .ok (.putfield 25, 3) := by decide +kernel
theorem dX2_draft_45 : decode cX2_draft 45 = .ok (.aload_n 0, 1) := by decide +kernel
theorem dX2_draft_46 : decode cX2_draft 46 = .ok (.getfield 25, 3) := by decide +kernel
theorem dX2_draft_49 : decode cX2_draft 49 = .ok (.ireturn, 1) := by decide +kernel
theorem dX2_clear_0 : decode cX2_clear 0 = .ok (.aload_n 0, 1) := by decide +kernel
theorem dX2_clear_1 : decode cX2_clear 1 = .ok (.getfield 25, 3) := by decide +kernel
theorem dX2_clear_4 : decode cX2_clear 4 = .ok (.istore_n 1, 1) := by decide +kernel
theorem dX2_clear_5 : decode cX2_clear 5 = .ok (.aload_n 0, 1) := by decide +kernel
theorem dX2_clear_6 : decode cX2_clear 6 = .ok (.iconst 0, 1) := by decide +kernel
theorem dX2_clear_7 : decode cX2_clear 7 = .ok (.putfield 25, 3) := by decide +kernel
theorem dX2_clear_10 : decode cX2_clear 10 = .ok (.iload_n 1, 1) := by decide +kernel
theorem dX2_clear_11 : decode cX2_clear 11 = .ok (.ireturn, 1) := by decide +kernel
set_option maxRecDepth 20000 in
theorem ggX2_contest_X2_contestOfDraft : GoodIn wsX2_contest wsX2_contestOfDraft := goodIn_r _ [10, 11, 12, 13, 4, 14, 3, 15, 16, 17, 18, 19, 20, 21, 22, 23, 24, 25, 9, 26, 27, 28, 29, 30, 31, 32, 33, 34, 35, 36, 37, 38, 39, 40, 41, 42, 43, 44, 45, 46, 47, 48, 49, 50, 51, 57, 58, 59, 52, 53, 54, 55, 56, 60, 61, 62, 63, 64, 65, 66, 67] (by decide +kernel) (by decide +kernel)
set_option maxRecDepth 20000 in
theorem gX2_contest_X2_contestOfDraft : GoodIn wsX2_contest (wsV RX2 139 RX2 yX2_contestOfDraft wsX2_contestOfDraft) := goodIn_app (goodIn_of _ (by decide +kernel)) ggX2_contest_X2_contestOfDraft
theorem dX2_contest_0 : decode cX2_contest 0 = .ok (.aload_n 0, 1) := by decide +kernel
theorem dX2_contest_1 : decode cX2_contest 1 = .ok (.getfield 25, 3) := by decide +kernel
theorem dX2_contest_4 : decode cX2_contest 4 = .ok (.ifCond .ne 13, 3) := by decide +kernel
theorem dX2_contest_7 : decode cX2_contest 7 = .ok (.new 33, 3) := by decide +kernel
theorem dX2_contest_10 : decode cX2_contest 10 = .ok (.dup, 1) := by decide +kernel
theorem dX2_contest_11 : decode cX2_contest 11 = .ok (.ldc 135, 2) := by decide +kernel
theorem dX2_contest_13 : decode cX2_contest 13 = .ok (.invokespecial 37, 3) := by decide +kernel
theorem dX2_contest_16 : decode cX2_contest 16 = .ok (.athrow, 1) := by decide +kernel
theorem dX2_contest_17 : decode cX2_contest 17 = .ok (.aload_n 0, 1) := by decide +kernel
theorem dX2_contest_18 : decode cX2_contest 18 = .ok (.getfield 11, 3) := by decide +kernel
theorem dX2_contest_21 : decode cX2_contest 21 = .ok (.iconst 0, 1) := by decide +kernel
theorem dX2_contest_22 : decode cX2_contest 22 = .ok (.aaload, 1) := by decide +kernel
theorem dX2_contest_23 : decode cX2_contest 23 = .ok (.ifnonnull 13, 3) := by decide +kernel
theorem dX2_contest_26 : decode cX2_contest 26 = .ok (.new 33, 3) := by decide +kernel
theorem dX2_contest_29 : decode cX2_contest 29 = .ok (.dup, 1) := by decide +kernel
theorem dX2_contest_30 : decode cX2_contest 30 = .ok (.ldc 137, 2) := by decide +kernel
theorem dX2_contest_32 : decode cX2_contest 32 = .ok (.invokespecial 37, 3) := by decide +kernel
theorem dX2_contest_35 : decode cX2_contest 35 = .ok (.athrow, 1) := by decide +kernel
theorem dX2_contest_36 : decode cX2_contest 36 = .ok (.iconst 0, 1) := by decide +kernel
theorem dX2_contest_37 : decode cX2_contest 37 = .ok (.istore_n 1, 1) := by decide +kernel
theorem dX2_contest_38 : decode cX2_contest 38 = .ok (.iload_n 1, 1) := by decide +kernel
theorem dX2_contest_39 : decode cX2_contest 39 = .ok (.aload_n 0, 1) := by decide +kernel
theorem dX2_contest_40 : decode cX2_contest 40 = .ok (.getfield 17, 3) := by decide +kernel
theorem dX2_contest_43 : decode cX2_contest 43 = .ok (.arraylength, 1) := by decide +kernel
theorem dX2_contest_44 : decode cX2_contest 44 = .ok (.if_icmp .ge 35, 3) := by decide +kernel
theorem dX2_contest_47 : decode cX2_contest 47 = .ok (.aload_n 0, 1) := by decide +kernel
theorem dX2_contest_48 : decode cX2_contest 48 = .ok (.getfield 17, 3) := by decide +kernel
theorem dX2_contest_51 : decode cX2_contest 51 = .ok (.iload_n 1, 1) := by decide +kernel
theorem dX2_contest_52 : decode cX2_contest 52 = .ok (.aaload, 1) := by decide +kernel
theorem dX2_contest_53 : decode cX2_contest 53 = .ok (.ifnonnull 20, 3) := by decide +kernel
theorem dX2_contest_56 : decode cX2_contest 56 = .ok (.aload_n 0, 1) := by decide +kernel
theorem dX2_contest_57 : decode cX2_contest 57 = .ok (.getfield 17, 3) := by decide +kernel
theorem dX2_contest_60 : decode cX2_contest 60 = .ok (.iload_n 1, 1) := by decide +kernel
theorem dX2_contest_61 : decode cX2_contest 61 = .ok (.aload_n 0, 1) := by decide +kernel
theorem dX2_contest_62 : decode cX2_contest 62 = .ok (.invokevirtual 139, 3) := by decide +kernel
theorem dX2_contest_65 : decode cX2_contest 65 = .ok (.aastore, 1) := by decide +kernel
theorem dX2_contest_66 : decode cX2_contest 66 = .ok (.aload_n 0, 1) := by decide +kernel
theorem dX2_contest_67 : decode cX2_contest 67 = .ok (.iconst 0, 1) := by decide +kernel
theorem dX2_contest_68 : decode cX2_contest 68 = .ok (.putfield 25, 3) := by decide +kernel
theorem dX2_contest_71 : decode cX2_contest 71 = .ok (.iload_n 1, 1) := by decide +kernel
theorem dX2_contest_72 : decode cX2_contest 72 = .ok (.ireturn, 1) := by decide +kernel
theorem dX2_contest_73 : decode cX2_contest 73 = .ok (.iinc 1 1, 3) := by decide +kernel
theorem dX2_contest_76 : decode cX2_contest 76 = .ok (.goto (-38), 3) := by decide +kernel
theorem dX2_contest_79 : decode cX2_contest 79 = .ok (.new 33, 3) := by decide +kernel
theorem dX2_contest_82 : decode cX2_contest 82 = .ok (.dup, 1) := by decide +kernel
theorem dX2_contest_83 : decode cX2_contest 83 = .ok (.ldc 143, 2) := by decide +kernel
theorem dX2_contest_85 : decode cX2_contest 85 = .ok (.invokespecial 37, 3) := by decide +kernel
theorem dX2_contest_88 : decode cX2_contest 88 = .ok (.athrow, 1) := by decide +kernel
set_option maxRecDepth 20000 in
theorem ggX2_result_X2_contestAt : GoodIn wsX2_result wsX2_contestAt := goodIn_ca (goodIn_r _ [10, 11, 12, 13, 31, 32, 33, 34, 35] (by decide +kernel) (by decide +kernel)) (goodIn_sub (fun _ h => List.mem_cons_of_mem _ (List.mem_append_right _ h)) (by decide +kernel))
set_option maxRecDepth 20000 in
theorem gX2_result_X2_contestAt : GoodIn wsX2_result (wsV RX2 145 RX2 yX2_contestAt wsX2_contestAt) := goodIn_app (goodIn_of _ (by decide +kernel)) ggX2_result_X2_contestAt
set_option maxRecDepth 20000 in
theorem ggX2_result_X2_entrantTime : GoodIn wsX2_result wsX2_entrantTime := goodIn_ca (goodIn_r _ [16, 11, 12, 17, 18, 9, 19, 28, 29, 30] (by decide +kernel) (by decide +kernel)) (goodIn_sub (fun _ h => List.mem_cons_of_mem _ (List.mem_append_right _ h)) (by decide +kernel))
set_option maxRecDepth 20000 in
theorem gX2_result_X2_entrantTime : GoodIn wsX2_result (va_wsS RX2 149 yX2_entrantTime wsX2_entrantTime) := goodIn_app (goodIn_of _ (by decide +kernel)) ggX2_result_X2_entrantTime
set_option maxRecDepth 20000 in
theorem ggX2_result_X0_hasResult : GoodIn wsX2_result wsX0_hasResult := goodIn_r _ [23, 24, 18, 9, 19, 28, 29, 30] (by decide +kernel) (by decide +kernel)
set_option maxRecDepth 20000 in
theorem gX2_result_X0_hasResult_n156 : GoodIn wsX2_result (wsX0_hasResult) := ggX2_result_X0_hasResult
set_option maxRecDepth 20000 in
theorem ggX2_result_X2_put : GoodIn wsX2_result wsX2_put := goodIn_r _ [27] (by decide +kernel) (by decide +kernel)
set_option maxRecDepth 20000 in
theorem gX2_result_X2_put : GoodIn wsX2_result (va_wsS RX2 131 yX2_put wsX2_put) := goodIn_app (goodIn_of _ (by decide +kernel)) ggX2_result_X2_put
theorem dX2_result_0 : decode cX2_result 0 = .ok (.aload_n 0, 1) := by decide +kernel
theorem dX2_result_1 : decode cX2_result 1 = .ok (.iload_n 1, 1) := by decide +kernel
theorem dX2_result_2 : decode cX2_result 2 = .ok (.invokevirtual 145, 3) := by decide +kernel
theorem dX2_result_5 : decode cX2_result 5 = .ok (.astore 4, 2) := by decide +kernel
theorem dX2_result_7 : decode cX2_result 7 = .ok (.aload 4, 2) := by decide +kernel
theorem dX2_result_9 : decode cX2_result 9 = .ok (.iload_n 2, 1) := by decide +kernel
theorem dX2_result_10 : decode cX2_result 10 = .ok (.invokestatic 149, 3) := by decide +kernel
theorem dX2_result_13 : decode cX2_result 13 = .ok (.istore 5, 2) := by decide +kernel
theorem dX2_result_15 : decode cX2_result 15 = .ok (.iload_n 3, 1) := by decide +kernel
theorem dX2_result_16 : decode cX2_result 16 = .ok (.iconst 1, 1) := by decide +kernel
theorem dX2_result_17 : decode cX2_result 17 = .ok (.if_icmp .lt 9, 3) := by decide +kernel
theorem dX2_result_20 : decode cX2_result 20 = .ok (.iload_n 3, 1) := by decide +kernel
theorem dX2_result_21 : decode cX2_result 21 = .ok (.ldc 153, 2) := by decide +kernel
theorem dX2_result_23 : decode cX2_result 23 = .ok (.if_icmp .le 13, 3) := by decide +kernel
theorem dX2_result_26 : decode cX2_result 26 = .ok (.new 44, 3) := by decide +kernel
theorem dX2_result_29 : decode cX2_result 29 = .ok (.dup, 1) := by decide +kernel
theorem dX2_result_30 : decode cX2_result 30 = .ok (.ldc 154, 2) := by decide +kernel
theorem dX2_result_32 : decode cX2_result 32 = .ok (.invokespecial 48, 3) := by decide +kernel
theorem dX2_result_35 : decode cX2_result 35 = .ok (.athrow, 1) := by decide +kernel
theorem dX2_result_36 : decode cX2_result 36 = .ok (.aload 4, 2) := by decide +kernel
theorem dX2_result_38 : decode cX2_result 38 = .ok (.iload_n 2, 1) := by decide +kernel
theorem dX2_result_39 : decode cX2_result 39 = .ok (.invokevirtual 156, 3) := by decide +kernel
theorem dX2_result_42 : decode cX2_result 42 = .ok (.ifCond .eq 13, 3) := by decide +kernel
theorem dX2_result_45 : decode cX2_result 45 = .ok (.new 33, 3) := by decide +kernel
theorem dX2_result_48 : decode cX2_result 48 = .ok (.dup, 1) := by decide +kernel
theorem dX2_result_49 : decode cX2_result 49 = .ok (.ldc 160, 2) := by decide +kernel
theorem dX2_result_51 : decode cX2_result 51 = .ok (.invokespecial 37, 3) := by decide +kernel
theorem dX2_result_54 : decode cX2_result 54 = .ok (.athrow, 1) := by decide +kernel
theorem dX2_result_55 : decode cX2_result 55 = .ok (.iload 5, 2) := by decide +kernel
theorem dX2_result_57 : decode cX2_result 57 = .ok (.ifCond .ne 7, 3) := by decide +kernel
theorem dX2_result_60 : decode cX2_result 60 = .ok (.iconst 0, 1) := by decide +kernel
theorem dX2_result_61 : decode cX2_result 61 = .ok (.goto 11, 3) := by decide +kernel
theorem dX2_result_64 : decode cX2_result 64 = .ok (.sipush 1000, 3) := by decide +kernel
theorem dX2_result_67 : decode cX2_result 67 = .ok (.iload_n 3, 1) := by decide +kernel
theorem dX2_result_68 : decode cX2_result 68 = .ok (.imul, 1) := by decide +kernel
theorem dX2_result_69 : decode cX2_result 69 = .ok (.iload 5, 2) := by decide +kernel
theorem dX2_result_71 : decode cX2_result 71 = .ok (.idiv, 1) := by decide +kernel
theorem dX2_result_72 : decode cX2_result 72 = .ok (.istore 6, 2) := by decide +kernel
theorem dX2_result_74 : decode cX2_result 74 = .ok (.aload 4, 2) := by decide +kernel
theorem dX2_result_76 : decode cX2_result 76 = .ok (.getfield 162, 3) := by decide +kernel
theorem dX2_result_79 : decode cX2_result 79 = .ok (.iload_n 2, 1) := by decide +kernel
theorem dX2_result_80 : decode cX2_result 80 = .ok (.iload_n 3, 1) := by decide +kernel
theorem dX2_result_81 : decode cX2_result 81 = .ok (.invokestatic 131, 3) := by decide +kernel
theorem dX2_result_84 : decode cX2_result 84 = .ok (.aload 4, 2) := by decide +kernel
theorem dX2_result_86 : decode cX2_result 86 = .ok (.getfield 165, 3) := by decide +kernel
theorem dX2_result_89 : decode cX2_result 89 = .ok (.iload_n 2, 1) := by decide +kernel
theorem dX2_result_90 : decode cX2_result 90 = .ok (.iload 6, 2) := by decide +kernel
theorem dX2_result_92 : decode cX2_result 92 = .ok (.invokestatic 131, 3) := by decide +kernel
theorem dX2_result_95 : decode cX2_result 95 = .ok (.iload 6, 2) := by decide +kernel
theorem dX2_result_97 : decode cX2_result 97 = .ok (.ireturn, 1) := by decide +kernel
set_option maxRecDepth 20000 in
theorem ggX2_of_X2_contestAt : GoodIn wsX2_of wsX2_contestAt := goodIn_ca (goodIn_r _ [7, 8, 9, 10, 31, 32, 33, 34, 35] (by decide +kernel) (by decide +kernel)) (goodIn_sub (fun _ h => List.mem_cons_of_mem _ (List.mem_append_right _ h)) (by decide +kernel))
set_option maxRecDepth 20000 in
theorem gX2_of_X2_contestAt : GoodIn wsX2_of (wsV RX2 145 RX2 yX2_contestAt wsX2_contestAt) := goodIn_app (goodIn_of _ (by decide +kernel)) ggX2_of_X2_contestAt
set_option maxRecDepth 20000 in
theorem ggX2_of_X2_entrantTime : GoodIn wsX2_of wsX2_entrantTime := goodIn_ca (goodIn_r _ [13, 8, 9, 14, 15, 6, 16, 36, 37, 38] (by decide +kernel) (by decide +kernel)) (goodIn_sub (fun _ h => List.mem_cons_of_mem _ (List.mem_append_right _ h)) (by decide +kernel))
set_option maxRecDepth 20000 in
theorem gX2_of_X2_entrantTime : GoodIn wsX2_of (va_wsS RX2 149 yX2_entrantTime wsX2_entrantTime) := goodIn_app (goodIn_of _ (by decide +kernel)) ggX2_of_X2_entrantTime
set_option maxRecDepth 20000 in
theorem ggX2_of_X0_hasResult : GoodIn wsX2_of wsX0_hasResult := goodIn_r _ [20, 21, 15, 6, 16, 36, 37, 38] (by decide +kernel) (by decide +kernel)
set_option maxRecDepth 20000 in
theorem gX2_of_X0_hasResult_n156 : GoodIn wsX2_of (wsX0_hasResult) := ggX2_of_X0_hasResult
set_option maxRecDepth 20000 in
theorem ggX2_of_X0_told : GoodIn wsX2_of wsX0_told := goodIn_r _ [24, 21, 25, 15, 6, 16, 26, 27, 28, 18, 29, 30, 17, 19, 20, 36, 37, 38] (by decide +kernel) (by decide +kernel)
set_option maxRecDepth 20000 in
theorem gX2_of_X0_told_n170 : GoodIn wsX2_of (wsX0_told) := ggX2_of_X0_told
theorem dX2_of_0 : decode cX2_of 0 = .ok (.aload_n 0, 1) := by decide +kernel
theorem dX2_of_1 : decode cX2_of 1 = .ok (.iload_n 1, 1) := by decide +kernel
theorem dX2_of_2 : decode cX2_of 2 = .ok (.invokevirtual 145, 3) := by decide +kernel
theorem dX2_of_5 : decode cX2_of 5 = .ok (.astore 4, 2) := by decide +kernel
theorem dX2_of_7 : decode cX2_of 7 = .ok (.aload 4, 2) := by decide +kernel
theorem dX2_of_9 : decode cX2_of 9 = .ok (.iload_n 2, 1) := by decide +kernel
theorem dX2_of_10 : decode cX2_of 10 = .ok (.invokestatic 149, 3) := by decide +kernel
theorem dX2_of_13 : decode cX2_of 13 = .ok (.istore 5, 2) := by decide +kernel
theorem dX2_of_15 : decode cX2_of 15 = .ok (.iload_n 3, 1) := by decide +kernel
theorem dX2_of_16 : decode cX2_of 16 = .ok (.ifCond .lt 8, 3) := by decide +kernel
theorem dX2_of_19 : decode cX2_of 19 = .ok (.iload_n 3, 1) := by decide +kernel
theorem dX2_of_20 : decode cX2_of 20 = .ok (.iconst 3, 1) := by decide +kernel
theorem dX2_of_21 : decode cX2_of 21 = .ok (.if_icmp .le 13, 3) := by decide +kernel
theorem dX2_of_24 : decode cX2_of 24 = .ok (.new 44, 3) := by decide +kernel
theorem dX2_of_27 : decode cX2_of 27 = .ok (.dup, 1) := by decide +kernel
theorem dX2_of_28 : decode cX2_of 28 = .ok (.ldc 168, 2) := by decide +kernel
theorem dX2_of_30 : decode cX2_of 30 = .ok (.invokespecial 48, 3) := by decide +kernel
theorem dX2_of_33 : decode cX2_of 33 = .ok (.athrow, 1) := by decide +kernel
theorem dX2_of_34 : decode cX2_of 34 = .ok (.iload_n 3, 1) := by decide +kernel
theorem dX2_of_35 : decode cX2_of 35 = .ok (.ifCond .ne 6, 3) := by decide +kernel
theorem dX2_of_38 : decode cX2_of 38 = .ok (.iload 5, 2) := by decide +kernel
theorem dX2_of_40 : decode cX2_of 40 = .ok (.ireturn, 1) := by decide +kernel
theorem dX2_of_41 : decode cX2_of 41 = .ok (.aload 4, 2) := by decide +kernel
theorem dX2_of_43 : decode cX2_of 43 = .ok (.iload_n 2, 1) := by decide +kernel
theorem dX2_of_44 : decode cX2_of 44 = .ok (.invokevirtual 156, 3) := by decide +kernel
theorem dX2_of_47 : decode cX2_of 47 = .ok (.ifCond .eq 13, 3) := by decide +kernel
theorem dX2_of_50 : decode cX2_of 50 = .ok (.aload 4, 2) := by decide +kernel
theorem dX2_of_52 : decode cX2_of 52 = .ok (.iload_n 2, 1) := by decide +kernel
theorem dX2_of_53 : decode cX2_of 53 = .ok (.iload_n 3, 1) := by decide +kernel
theorem dX2_of_54 : decode cX2_of 54 = .ok (.invokevirtual 170, 3) := by decide +kernel
theorem dX2_of_57 : decode cX2_of 57 = .ok (.goto 4, 3) := by decide +kernel
theorem dX2_of_60 : decode cX2_of 60 = .ok (.iconst (-1), 1) := by decide +kernel
theorem dX2_of_61 : decode cX2_of 61 = .ok (.ireturn, 1) := by decide +kernel
set_option maxRecDepth 20000 in
theorem ggX2_ranked_X2_contestAt : GoodIn wsX2_ranked wsX2_contestAt := goodIn_ca (goodIn_r _ [7, 1, 2, 8, 25, 26, 27, 28, 29] (by decide +kernel) (by decide +kernel)) (goodIn_sub (fun _ h => List.mem_cons_of_mem _ (List.mem_append_right _ h)) (by decide +kernel))
set_option maxRecDepth 20000 in
theorem gX2_ranked_X2_contestAt : GoodIn wsX2_ranked (wsV RX2 145 RX2 yX2_contestAt wsX2_contestAt) := goodIn_app (goodIn_of _ (by decide +kernel)) ggX2_ranked_X2_contestAt
set_option maxRecDepth 20000 in
theorem ggX2_ranked_X0_holderOf : GoodIn wsX2_ranked wsX0_holderOf := goodIn_r _ [12, 13, 14, 15, 10, 16, 17, 18, 6, 19, 20, 21, 22, 23, 24, 30, 31, 32] (by decide +kernel) (by decide +kernel)
set_option maxRecDepth 20000 in
theorem gX2_ranked_X0_holderOf_n175 : GoodIn wsX2_ranked (wsX0_holderOf) := ggX2_ranked_X0_holderOf
theorem dX2_ranked_0 : decode cX2_ranked 0 = .ok (.aload_n 0, 1) := by decide +kernel
theorem dX2_ranked_1 : decode cX2_ranked 1 = .ok (.iload_n 1, 1) := by decide +kernel
theorem dX2_ranked_2 : decode cX2_ranked 2 = .ok (.invokevirtual 145, 3) := by decide +kernel
theorem dX2_ranked_5 : decode cX2_ranked 5 = .ok (.astore_n 3, 1) := by decide +kernel
theorem dX2_ranked_6 : decode cX2_ranked 6 = .ok (.iload_n 2, 1) := by decide +kernel
theorem dX2_ranked_7 : decode cX2_ranked 7 = .ok (.ifCond .ge 13, 3) := by decide +kernel
theorem dX2_ranked_10 : decode cX2_ranked 10 = .ok (.new 102, 3) := by decide +kernel
theorem dX2_ranked_13 : decode cX2_ranked 13 = .ok (.dup, 1) := by decide +kernel
theorem dX2_ranked_14 : decode cX2_ranked 14 = .ok (.ldc 173, 2) := by decide +kernel
theorem dX2_ranked_16 : decode cX2_ranked 16 = .ok (.invokespecial 106, 3) := by decide +kernel
theorem dX2_ranked_19 : decode cX2_ranked 19 = .ok (.athrow, 1) := by decide +kernel
theorem dX2_ranked_20 : decode cX2_ranked 20 = .ok (.aload_n 3, 1) := by decide +kernel
theorem dX2_ranked_21 : decode cX2_ranked 21 = .ok (.iload_n 2, 1) := by decide +kernel
theorem dX2_ranked_22 : decode cX2_ranked 22 = .ok (.invokevirtual 175, 3) := by decide +kernel
theorem dX2_ranked_25 : decode cX2_ranked 25 = .ok (.ireturn, 1) := by decide +kernel
theorem dX2_studentAt_0 : decode cX2_studentAt 0 = .ok (.iload_n 1, 1) := by decide +kernel
theorem dX2_studentAt_1 : decode cX2_studentAt 1 = .ok (.ifCond .lt 25, 3) := by decide +kernel
theorem dX2_studentAt_4 : decode cX2_studentAt 4 = .ok (.iload_n 1, 1) := by decide +kernel
theorem dX2_studentAt_5 : decode cX2_studentAt 5 = .ok (.aload_n 0, 1) := by decide +kernel
theorem dX2_studentAt_6 : decode cX2_studentAt 6 = .ok (.getfield 11, 3) := by decide +kernel
theorem dX2_studentAt_9 : decode cX2_studentAt 9 = .ok (.arraylength, 1) := by decide +kernel
theorem dX2_studentAt_10 : decode cX2_studentAt 10 = .ok (.if_icmp .ge 16, 3) := by decide +kernel
theorem dX2_studentAt_13 : decode cX2_studentAt 13 = .ok (.aload_n 0, 1) := by decide +kernel
theorem dX2_studentAt_14 : decode cX2_studentAt 14 = .ok (.getfield 11, 3) := by decide +kernel
theorem dX2_studentAt_17 : decode cX2_studentAt 17 = .ok (.iload_n 1, 1) := by decide +kernel
theorem dX2_studentAt_18 : decode cX2_studentAt 18 = .ok (.aaload, 1) := by decide +kernel
theorem dX2_studentAt_19 : decode cX2_studentAt 19 = .ok (.astore_n 2, 1) := by decide +kernel
theorem dX2_studentAt_20 : decode cX2_studentAt 20 = .ok (.aload_n 2, 1) := by decide +kernel
theorem dX2_studentAt_21 : decode cX2_studentAt 21 = .ok (.ifnull 5, 3) := by decide +kernel
theorem dX2_studentAt_24 : decode cX2_studentAt 24 = .ok (.aload_n 2, 1) := by decide +kernel
theorem dX2_studentAt_25 : decode cX2_studentAt 25 = .ok (.areturn, 1) := by decide +kernel
theorem dX2_studentAt_26 : decode cX2_studentAt 26 = .ok (.new 102, 3) := by decide +kernel
theorem dX2_studentAt_29 : decode cX2_studentAt 29 = .ok (.dup, 1) := by decide +kernel
theorem dX2_studentAt_30 : decode cX2_studentAt 30 = .ok (.ldc 178, 2) := by decide +kernel
theorem dX2_studentAt_32 : decode cX2_studentAt 32 = .ok (.invokespecial 106, 3) := by decide +kernel
theorem dX2_studentAt_35 : decode cX2_studentAt 35 = .ok (.athrow, 1) := by decide +kernel
theorem dX2_contestAt_0 : decode cX2_contestAt 0 = .ok (.iload_n 1, 1) := by decide +kernel
theorem dX2_contestAt_1 : decode cX2_contestAt 1 = .ok (.ifCond .lt 25, 3) := by decide +kernel
theorem dX2_contestAt_4 : decode cX2_contestAt 4 = .ok (.iload_n 1, 1) := by decide +kernel
theorem dX2_contestAt_5 : decode cX2_contestAt 5 = .ok (.aload_n 0, 1) := by decide +kernel
theorem dX2_contestAt_6 : decode cX2_contestAt 6 = .ok (.getfield 17, 3) := by decide +kernel
theorem dX2_contestAt_9 : decode cX2_contestAt 9 = .ok (.arraylength, 1) := by decide +kernel
theorem dX2_contestAt_10 : decode cX2_contestAt 10 = .ok (.if_icmp .ge 16, 3) := by decide +kernel
theorem dX2_contestAt_13 : decode cX2_contestAt 13 = .ok (.aload_n 0, 1) := by decide +kernel
theorem dX2_contestAt_14 : decode cX2_contestAt 14 = .ok (.getfield 17, 3) := by decide +kernel
theorem dX2_contestAt_17 : decode cX2_contestAt 17 = .ok (.iload_n 1, 1) := by decide +kernel
theorem dX2_contestAt_18 : decode cX2_contestAt 18 = .ok (.aaload, 1) := by decide +kernel
theorem dX2_contestAt_19 : decode cX2_contestAt 19 = .ok (.astore_n 2, 1) := by decide +kernel
theorem dX2_contestAt_20 : decode cX2_contestAt 20 = .ok (.aload_n 2, 1) := by decide +kernel
theorem dX2_contestAt_21 : decode cX2_contestAt 21 = .ok (.ifnull 5, 3) := by decide +kernel
theorem dX2_contestAt_24 : decode cX2_contestAt 24 = .ok (.aload_n 2, 1) := by decide +kernel
theorem dX2_contestAt_25 : decode cX2_contestAt 25 = .ok (.areturn, 1) := by decide +kernel
theorem dX2_contestAt_26 : decode cX2_contestAt 26 = .ok (.new 102, 3) := by decide +kernel
theorem dX2_contestAt_29 : decode cX2_contestAt 29 = .ok (.dup, 1) := by decide +kernel
theorem dX2_contestAt_30 : decode cX2_contestAt 30 = .ok (.ldc 180, 2) := by decide +kernel
theorem dX2_contestAt_32 : decode cX2_contestAt 32 = .ok (.invokespecial 106, 3) := by decide +kernel
theorem dX2_contestAt_35 : decode cX2_contestAt 35 = .ok (.athrow, 1) := by decide +kernel
set_option maxRecDepth 20000 in
theorem ggX2_entrantTime_X2_at : GoodIn wsX2_entrantTime wsX2_at := goodIn_r _ [6] (by decide +kernel) (by decide +kernel)
set_option maxRecDepth 20000 in
theorem gX2_entrantTime_X2_at : GoodIn wsX2_entrantTime (va_wsS RX2 70 yX2_at wsX2_at) := goodIn_app (goodIn_of _ (by decide +kernel)) ggX2_entrantTime_X2_at
theorem dX2_entrantTime_0 : decode cX2_entrantTime 0 = .ok (.aload_n 0, 1) := by decide +kernel
theorem dX2_entrantTime_1 : decode cX2_entrantTime 1 = .ok (.getfield 182, 3) := by decide +kernel
theorem dX2_entrantTime_4 : decode cX2_entrantTime 4 = .ok (.iload_n 1, 1) := by decide +kernel
theorem dX2_entrantTime_5 : decode cX2_entrantTime 5 = .ok (.invokestatic 70, 3) := by decide +kernel
theorem dX2_entrantTime_8 : decode cX2_entrantTime 8 = .ok (.istore_n 2, 1) := by decide +kernel
theorem dX2_entrantTime_9 : decode cX2_entrantTime 9 = .ok (.iload_n 2, 1) := by decide +kernel
theorem dX2_entrantTime_10 : decode cX2_entrantTime 10 = .ok (.ifCond .gt 13, 3) := by decide +kernel
theorem dX2_entrantTime_13 : decode cX2_entrantTime 13 = .ok (.new 102, 3) := by decide +kernel
theorem dX2_entrantTime_16 : decode cX2_entrantTime 16 = .ok (.dup, 1) := by decide +kernel
theorem dX2_entrantTime_17 : decode cX2_entrantTime 17 = .ok (.ldc 185, 2) := by decide +kernel
theorem dX2_entrantTime_19 : decode cX2_entrantTime 19 = .ok (.invokespecial 106, 3) := by decide +kernel
theorem dX2_entrantTime_22 : decode cX2_entrantTime 22 = .ok (.athrow, 1) := by decide +kernel
theorem dX2_entrantTime_23 : decode cX2_entrantTime 23 = .ok (.iload_n 2, 1) := by decide +kernel
theorem dX2_entrantTime_24 : decode cX2_entrantTime 24 = .ok (.ireturn, 1) := by decide +kernel
theorem dX2_needLetter_0 : decode cX2_needLetter 0 = .ok (.iload_n 0, 1) := by decide +kernel
theorem dX2_needLetter_1 : decode cX2_needLetter 1 = .ok (.ifCond .lt 9, 3) := by decide +kernel
theorem dX2_needLetter_4 : decode cX2_needLetter 4 = .ok (.iload_n 0, 1) := by decide +kernel
theorem dX2_needLetter_5 : decode cX2_needLetter 5 = .ok (.bipush 12, 2) := by decide +kernel
theorem dX2_needLetter_7 : decode cX2_needLetter 7 = .ok (.if_icmp .lt 13, 3) := by decide +kernel
theorem dX2_needLetter_10 : decode cX2_needLetter 10 = .ok (.new 102, 3) := by decide +kernel
theorem dX2_needLetter_13 : decode cX2_needLetter 13 = .ok (.dup, 1) := by decide +kernel
theorem dX2_needLetter_14 : decode cX2_needLetter 14 = .ok (.ldc 187, 2) := by decide +kernel
theorem dX2_needLetter_16 : decode cX2_needLetter 16 = .ok (.invokespecial 106, 3) := by decide +kernel
theorem dX2_needLetter_19 : decode cX2_needLetter 19 = .ok (.athrow, 1) := by decide +kernel
theorem dX2_needLetter_20 : decode cX2_needLetter 20 = .ok (.return_, 1) := by decide +kernel
theorem dX2_needKey_0 : decode cX2_needKey 0 = .ok (.iload_n 0, 1) := by decide +kernel
theorem dX2_needKey_1 : decode cX2_needKey 1 = .ok (.ifCond .lt 9, 3) := by decide +kernel
theorem dX2_needKey_4 : decode cX2_needKey 4 = .ok (.iload_n 0, 1) := by decide +kernel
theorem dX2_needKey_5 : decode cX2_needKey 5 = .ok (.bipush 12, 2) := by decide +kernel
theorem dX2_needKey_7 : decode cX2_needKey 7 = .ok (.if_icmp .lt 13, 3) := by decide +kernel
theorem dX2_needKey_10 : decode cX2_needKey 10 = .ok (.new 102, 3) := by decide +kernel
theorem dX2_needKey_13 : decode cX2_needKey 13 = .ok (.dup, 1) := by decide +kernel
theorem dX2_needKey_14 : decode cX2_needKey 14 = .ok (.ldc 189, 2) := by decide +kernel
theorem dX2_needKey_16 : decode cX2_needKey 16 = .ok (.invokespecial 106, 3) := by decide +kernel
theorem dX2_needKey_19 : decode cX2_needKey 19 = .ok (.athrow, 1) := by decide +kernel
theorem dX2_needKey_20 : decode cX2_needKey 20 = .ok (.return_, 1) := by decide +kernel
set_option maxRecDepth 20000 in
theorem ggX2_needTwoKeys_X2_needKey : GoodIn wsX2_needTwoKeys wsX2_needKey := goodIn_ca (goodIn_r _ [6, 7, 8] (by decide +kernel) (by decide +kernel)) (goodIn_sub (fun _ h => List.mem_cons_of_mem _ (List.mem_append_right _ h)) (by decide +kernel))
set_option maxRecDepth 20000 in
theorem gX2_needTwoKeys_X2_needKey : GoodIn wsX2_needTwoKeys (va_wsS RX2 74 yX2_needKey wsX2_needKey) := goodIn_app (goodIn_of _ (by decide +kernel)) ggX2_needTwoKeys_X2_needKey
theorem dX2_needTwoKeys_0 : decode cX2_needTwoKeys 0 = .ok (.iload_n 0, 1) := by decide +kernel
theorem dX2_needTwoKeys_1 : decode cX2_needTwoKeys 1 = .ok (.invokestatic 74, 3) := by decide +kernel
theorem dX2_needTwoKeys_4 : decode cX2_needTwoKeys 4 = .ok (.iload_n 1, 1) := by decide +kernel
theorem dX2_needTwoKeys_5 : decode cX2_needTwoKeys 5 = .ok (.invokestatic 74, 3) := by decide +kernel
theorem dX2_needTwoKeys_8 : decode cX2_needTwoKeys 8 = .ok (.iload_n 0, 1) := by decide +kernel
theorem dX2_needTwoKeys_9 : decode cX2_needTwoKeys 9 = .ok (.iload_n 1, 1) := by decide +kernel
theorem dX2_needTwoKeys_10 : decode cX2_needTwoKeys 10 = .ok (.if_icmp .ne 13, 3) := by decide +kernel
theorem dX2_needTwoKeys_13 : decode cX2_needTwoKeys 13 = .ok (.new 44, 3) := by decide +kernel
theorem dX2_needTwoKeys_16 : decode cX2_needTwoKeys 16 = .ok (.dup, 1) := by decide +kernel
theorem dX2_needTwoKeys_17 : decode cX2_needTwoKeys 17 = .ok (.ldc 191, 2) := by decide +kernel
theorem dX2_needTwoKeys_19 : decode cX2_needTwoKeys 19 = .ok (.invokespecial 48, 3) := by decide +kernel
theorem dX2_needTwoKeys_22 : decode cX2_needTwoKeys 22 = .ok (.athrow, 1) := by decide +kernel
theorem dX2_needTwoKeys_23 : decode cX2_needTwoKeys 23 = .ok (.return_, 1) := by decide +kernel
set_option maxRecDepth 20000 in
theorem ggX2_contestOfDraft_X0_init : GoodIn wsX2_contestOfDraft wsX0_init := goodIn_r _ [8, 9, 10, 11, 12, 13, 14, 15, 45, 46, 47] (by decide +kernel) (by decide +kernel)
set_option maxRecDepth 20000 in
theorem gX2_contestOfDraft_X0_init_n193 : GoodIn wsX2_contestOfDraft (wsX0_init) := ggX2_contestOfDraft_X0_init
set_option maxRecDepth 20000 in
theorem ggX2_contestOfDraft_X2_textTime : GoodIn wsX2_contestOfDraft wsX2_textTime := goodIn_r _ [19, 20, 21, 18, 22, 23, 24, 25, 26, 27, 28, 29, 30, 31, 32, 33, 34, 35, 36, 37, 38, 39, 40, 41] (by decide +kernel) (by decide +kernel)
set_option maxRecDepth 20000 in
theorem gX2_contestOfDraft_X2_textTime : GoodIn wsX2_contestOfDraft (va_wsS RX2 194 yX2_textTime wsX2_textTime) := goodIn_app (goodIn_of _ (by decide +kernel)) ggX2_contestOfDraft_X2_textTime
set_option maxRecDepth 20000 in
theorem ggX2_contestOfDraft_X2_put : GoodIn wsX2_contestOfDraft wsX2_put := goodIn_r _ [44] (by decide +kernel) (by decide +kernel)
set_option maxRecDepth 20000 in
theorem gX2_contestOfDraft_X2_put : GoodIn wsX2_contestOfDraft (va_wsS RX2 131 yX2_put wsX2_put) := goodIn_app (goodIn_of _ (by decide +kernel)) ggX2_contestOfDraft_X2_put
theorem dX2_contestOfDraft_0 : decode cX2_contestOfDraft 0 = .ok (.new 15, 3) := by decide +kernel
theorem dX2_contestOfDraft_3 : decode cX2_contestOfDraft 3 = .ok (.dup, 1) := by decide +kernel
theorem dX2_contestOfDraft_4 : decode cX2_contestOfDraft 4 = .ok (.invokespecial 193, 3) := by decide +kernel
theorem dX2_contestOfDraft_7 : decode cX2_contestOfDraft 7 = .ok (.astore_n 1, 1) := by decide +kernel
theorem dX2_contestOfDraft_8 : decode cX2_contestOfDraft 8 = .ok (.iconst 0, 1) := by decide +kernel
theorem dX2_contestOfDraft_9 : decode cX2_contestOfDraft 9 = .ok (.istore_n 2, 1) := by decide +kernel
theorem dX2_contestOfDraft_10 : decode cX2_contestOfDraft 10 = .ok (.iload_n 2, 1) := by decide +kernel
theorem dX2_contestOfDraft_11 : decode cX2_contestOfDraft 11 = .ok (.aload_n 0, 1) := by decide +kernel
theorem dX2_contestOfDraft_12 : decode cX2_contestOfDraft 12 = .ok (.getfield 11, 3) := by decide +kernel
theorem dX2_contestOfDraft_15 : decode cX2_contestOfDraft 15 = .ok (.arraylength, 1) := by decide +kernel
theorem dX2_contestOfDraft_16 : decode cX2_contestOfDraft 16 = .ok (.if_icmp .ge 45, 3) := by decide +kernel
theorem dX2_contestOfDraft_19 : decode cX2_contestOfDraft 19 = .ok (.aload_n 0, 1) := by decide +kernel
theorem dX2_contestOfDraft_20 : decode cX2_contestOfDraft 20 = .ok (.getfield 11, 3) := by decide +kernel
theorem dX2_contestOfDraft_23 : decode cX2_contestOfDraft 23 = .ok (.iload_n 2, 1) := by decide +kernel
theorem dX2_contestOfDraft_24 : decode cX2_contestOfDraft 24 = .ok (.aaload, 1) := by decide +kernel
theorem dX2_contestOfDraft_25 : decode cX2_contestOfDraft 25 = .ok (.astore_n 3, 1) := by decide +kernel
theorem dX2_contestOfDraft_26 : decode cX2_contestOfDraft 26 = .ok (.aload_n 3, 1) := by decide +kernel
theorem dX2_contestOfDraft_27 : decode cX2_contestOfDraft 27 = .ok (.ifnull 28, 3) := by decide +kernel
theorem dX2_contestOfDraft_30 : decode cX2_contestOfDraft 30 = .ok (.aload_n 1, 1) := by decide +kernel
theorem dX2_contestOfDraft_31 : decode cX2_contestOfDraft 31 = .ok (.getfield 182, 3) := by decide +kernel
theorem dX2_contestOfDraft_34 : decode cX2_contestOfDraft 34 = .ok (.iload_n 2, 1) := by decide +kernel
theorem dX2_contestOfDraft_35 : decode cX2_contestOfDraft 35 = .ok (.aload_n 0, 1) := by decide +kernel
theorem dX2_contestOfDraft_36 : decode cX2_contestOfDraft 36 = .ok (.getfield 21, 3) := by decide +kernel
theorem dX2_contestOfDraft_39 : decode cX2_contestOfDraft 39 = .ok (.aload_n 0, 1) := by decide +kernel
theorem dX2_contestOfDraft_40 : decode cX2_contestOfDraft 40 = .ok (.getfield 25, 3) := by decide +kernel
theorem dX2_contestOfDraft_43 : decode cX2_contestOfDraft 43 = .ok (.aload_n 3, 1) := by decide +kernel
theorem dX2_contestOfDraft_44 : decode cX2_contestOfDraft 44 = .ok (.getfield 67, 3) := by decide +kernel
theorem dX2_contestOfDraft_47 : decode cX2_contestOfDraft 47 = .ok (.iconst (-1), 1) := by decide +kernel
theorem dX2_contestOfDraft_48 : decode cX2_contestOfDraft 48 = .ok (.iconst (-1), 1) := by decide +kernel
theorem dX2_contestOfDraft_49 : decode cX2_contestOfDraft 49 = .ok (.invokestatic 194, 3) := by decide +kernel
theorem dX2_contestOfDraft_52 : decode cX2_contestOfDraft 52 = .ok (.invokestatic 131, 3) := by decide +kernel
theorem dX2_contestOfDraft_55 : decode cX2_contestOfDraft 55 = .ok (.iinc 2 1, 3) := by decide +kernel
theorem dX2_contestOfDraft_58 : decode cX2_contestOfDraft 58 = .ok (.goto (-48), 3) := by decide +kernel
theorem dX2_contestOfDraft_61 : decode cX2_contestOfDraft 61 = .ok (.aload_n 1, 1) := by decide +kernel
theorem dX2_contestOfDraft_62 : decode cX2_contestOfDraft 62 = .ok (.areturn, 1) := by decide +kernel
theorem dX2_at_0 : decode cX2_at 0 = .ok (.iload_n 1, 1) := by decide +kernel
theorem dX2_at_1 : decode cX2_at 1 = .ok (.ifCond .lt 15, 3) := by decide +kernel
theorem dX2_at_4 : decode cX2_at 4 = .ok (.iload_n 1, 1) := by decide +kernel
theorem dX2_at_5 : decode cX2_at 5 = .ok (.aload_n 0, 1) := by decide +kernel
theorem dX2_at_6 : decode cX2_at 6 = .ok (.arraylength, 1) := by decide +kernel
theorem dX2_at_7 : decode cX2_at 7 = .ok (.if_icmp .ge 9, 3) := by decide +kernel
theorem dX2_at_10 : decode cX2_at 10 = .ok (.aload_n 0, 1) := by decide +kernel
theorem dX2_at_11 : decode cX2_at 11 = .ok (.iload_n 1, 1) := by decide +kernel
theorem dX2_at_12 : decode cX2_at 12 = .ok (.iaload, 1) := by decide +kernel
theorem dX2_at_13 : decode cX2_at 13 = .ok (.goto 4, 3) := by decide +kernel
theorem dX2_at_16 : decode cX2_at 16 = .ok (.iconst 0, 1) := by decide +kernel
theorem dX2_at_17 : decode cX2_at 17 = .ok (.ireturn, 1) := by decide +kernel
theorem dX2_put_0 : decode cX2_put 0 = .ok (.iload_n 1, 1) := by decide +kernel
theorem dX2_put_1 : decode cX2_put 1 = .ok (.ifCond .lt 13, 3) := by decide +kernel
theorem dX2_put_4 : decode cX2_put 4 = .ok (.iload_n 1, 1) := by decide +kernel
theorem dX2_put_5 : decode cX2_put 5 = .ok (.aload_n 0, 1) := by decide +kernel
theorem dX2_put_6 : decode cX2_put 6 = .ok (.arraylength, 1) := by decide +kernel
theorem dX2_put_7 : decode cX2_put 7 = .ok (.if_icmp .ge 7, 3) := by decide +kernel
theorem dX2_put_10 : decode cX2_put 10 = .ok (.aload_n 0, 1) := by decide +kernel
theorem dX2_put_11 : decode cX2_put 11 = .ok (.iload_n 1, 1) := by decide +kernel
theorem dX2_put_12 : decode cX2_put 12 = .ok (.iload_n 2, 1) := by decide +kernel
theorem dX2_put_13 : decode cX2_put 13 = .ok (.iastore, 1) := by decide +kernel
theorem dX2_put_14 : decode cX2_put 14 = .ok (.return_, 1) := by decide +kernel
set_option maxRecDepth 20000 in
theorem ggX2_count_X2_at : GoodIn wsX2_count wsX2_at := goodIn_r _ [4] (by decide +kernel) (by decide +kernel)
set_option maxRecDepth 20000 in
theorem gX2_count_X2_at : GoodIn wsX2_count (va_wsS RX2 70 yX2_at wsX2_at) := goodIn_app (goodIn_of _ (by decide +kernel)) ggX2_count_X2_at
set_option maxRecDepth 20000 in
theorem ggX2_count_X2_put : GoodIn wsX2_count wsX2_put := goodIn_r _ [7] (by decide +kernel) (by decide +kernel)
set_option maxRecDepth 20000 in
theorem gX2_count_X2_put : GoodIn wsX2_count (va_wsS RX2 131 yX2_put wsX2_put) := goodIn_app (goodIn_of _ (by decide +kernel)) ggX2_count_X2_put
theorem dX2_count_0 : decode cX2_count 0 = .ok (.aload_n 0, 1) := by decide +kernel
theorem dX2_count_1 : decode cX2_count 1 = .ok (.iload_n 1, 1) := by decide +kernel
theorem dX2_count_2 : decode cX2_count 2 = .ok (.aload_n 0, 1) := by decide +kernel
theorem dX2_count_3 : decode cX2_count 3 = .ok (.iload_n 1, 1) := by decide +kernel
theorem dX2_count_4 : decode cX2_count 4 = .ok (.invokestatic 70, 3) := by decide +kernel
theorem dX2_count_7 : decode cX2_count 7 = .ok (.iconst 1, 1) := by decide +kernel
theorem dX2_count_8 : decode cX2_count 8 = .ok (.iadd, 1) := by decide +kernel
theorem dX2_count_9 : decode cX2_count 9 = .ok (.invokestatic 131, 3) := by decide +kernel
theorem dX2_count_12 : decode cX2_count 12 = .ok (.return_, 1) := by decide +kernel
theorem dX2_pairPlace_0 : decode cX2_pairPlace 0 = .ok (.bipush 12, 2) := by decide +kernel
theorem dX2_pairPlace_2 : decode cX2_pairPlace 2 = .ok (.iload_n 0, 1) := by decide +kernel
theorem dX2_pairPlace_3 : decode cX2_pairPlace 3 = .ok (.imul, 1) := by decide +kernel
theorem dX2_pairPlace_4 : decode cX2_pairPlace 4 = .ok (.iload_n 1, 1) := by decide +kernel
theorem dX2_pairPlace_5 : decode cX2_pairPlace 5 = .ok (.iadd, 1) := by decide +kernel
theorem dX2_pairPlace_6 : decode cX2_pairPlace 6 = .ok (.ireturn, 1) := by decide +kernel
theorem dX2_fingerOf_0 : decode cX2_fingerOf 0 = .ok (.iload_n 0, 1) := by decide +kernel
theorem dX2_fingerOf_1 : decode cX2_fingerOf 1 = .ok (.bipush 6, 2) := by decide +kernel
theorem dX2_fingerOf_3 : decode cX2_fingerOf 3 = .ok (.irem, 1) := by decide +kernel
theorem dX2_fingerOf_4 : decode cX2_fingerOf 4 = .ok (.ireturn, 1) := by decide +kernel
theorem dX2_handOf_0 : decode cX2_handOf 0 = .ok (.iload_n 0, 1) := by decide +kernel
theorem dX2_handOf_1 : decode cX2_handOf 1 = .ok (.bipush 6, 2) := by decide +kernel
theorem dX2_handOf_3 : decode cX2_handOf 3 = .ok (.irem, 1) := by decide +kernel
theorem dX2_handOf_4 : decode cX2_handOf 4 = .ok (.iconst 3, 1) := by decide +kernel
theorem dX2_handOf_5 : decode cX2_handOf 5 = .ok (.idiv, 1) := by decide +kernel
theorem dX2_handOf_6 : decode cX2_handOf 6 = .ok (.ireturn, 1) := by decide +kernel
theorem dX2_rowOf_0 : decode cX2_rowOf 0 = .ok (.iload_n 0, 1) := by decide +kernel
theorem dX2_rowOf_1 : decode cX2_rowOf 1 = .ok (.bipush 6, 2) := by decide +kernel
theorem dX2_rowOf_3 : decode cX2_rowOf 3 = .ok (.idiv, 1) := by decide +kernel
theorem dX2_rowOf_4 : decode cX2_rowOf 4 = .ok (.ireturn, 1) := by decide +kernel
set_option maxRecDepth 20000 in
theorem ggX2_stepTime_X2_fingerOf : GoodIn wsX2_stepTime wsX2_fingerOf := goodIn_r _ [8] (by decide +kernel) (by decide +kernel)
set_option maxRecDepth 20000 in
theorem gX2_stepTime_X2_fingerOf : GoodIn wsX2_stepTime (va_wsS RX2 198 yX2_fingerOf wsX2_fingerOf) := goodIn_app (goodIn_of _ (by decide +kernel)) ggX2_stepTime_X2_fingerOf
set_option maxRecDepth 20000 in
theorem ggX2_stepTime_X2_rowOf : GoodIn wsX2_stepTime wsX2_rowOf := goodIn_r _ [11] (by decide +kernel) (by decide +kernel)
set_option maxRecDepth 20000 in
theorem gX2_stepTime_X2_rowOf : GoodIn wsX2_stepTime (va_wsS RX2 201 yX2_rowOf wsX2_rowOf) := goodIn_app (goodIn_of _ (by decide +kernel)) ggX2_stepTime_X2_rowOf
set_option maxRecDepth 20000 in
theorem ggX2_stepTime_X2_handOf : GoodIn wsX2_stepTime wsX2_handOf := goodIn_r _ [14] (by decide +kernel) (by decide +kernel)
set_option maxRecDepth 20000 in
theorem gX2_stepTime_X2_handOf : GoodIn wsX2_stepTime (va_wsS RX2 209 yX2_handOf wsX2_handOf) := goodIn_app (goodIn_of _ (by decide +kernel)) ggX2_stepTime_X2_handOf
theorem dX2_stepTime_0 : decode cX2_stepTime 0 = .ok (.iload_n 0, 1) := by decide +kernel
theorem dX2_stepTime_1 : decode cX2_stepTime 1 = .ok (.iload_n 1, 1) := by decide +kernel
theorem dX2_stepTime_2 : decode cX2_stepTime 2 = .ok (.if_icmp .ne 5, 3) := by decide +kernel
theorem dX2_stepTime_5 : decode cX2_stepTime 5 = .ok (.iconst 3, 1) := by decide +kernel
theorem dX2_stepTime_6 : decode cX2_stepTime 6 = .ok (.ireturn, 1) := by decide +kernel
theorem dX2_stepTime_7 : decode cX2_stepTime 7 = .ok (.iload_n 0, 1) := by decide +kernel
theorem dX2_stepTime_8 : decode cX2_stepTime 8 = .ok (.invokestatic 198, 3) := by decide +kernel
theorem dX2_stepTime_11 : decode cX2_stepTime 11 = .ok (.iload_n 1, 1) := by decide +kernel
theorem dX2_stepTime_12 : decode cX2_stepTime 12 = .ok (.invokestatic 198, 3) := by decide +kernel
theorem dX2_stepTime_15 : decode cX2_stepTime 15 = .ok (.if_icmp .ne 20, 3) := by decide +kernel
theorem dX2_stepTime_18 : decode cX2_stepTime 18 = .ok (.iconst 5, 1) := by decide +kernel
theorem dX2_stepTime_19 : decode cX2_stepTime 19 = .ok (.iconst 2, 1) := by decide +kernel
theorem dX2_stepTime_20 : decode cX2_stepTime 20 = .ok (.iload_n 0, 1) := by decide +kernel
theorem dX2_stepTime_21 : decode cX2_stepTime 21 = .ok (.invokestatic 201, 3) := by decide +kernel
theorem dX2_stepTime_24 : decode cX2_stepTime 24 = .ok (.iload_n 1, 1) := by decide +kernel
theorem dX2_stepTime_25 : decode cX2_stepTime 25 = .ok (.invokestatic 201, 3) := by decide +kernel
theorem dX2_stepTime_28 : decode cX2_stepTime 28 = .ok (.isub, 1) := by decide +kernel
theorem dX2_stepTime_29 : decode cX2_stepTime 29 = .ok (.invokestatic 204, 3) := by decide +kernel
theorem dX2_stepTime_32 : decode cX2_stepTime 32 = .ok (.imul, 1) := by decide +kernel
theorem dX2_stepTime_33 : decode cX2_stepTime 33 = .ok (.iadd, 1) := by decide +kernel
theorem dX2_stepTime_34 : decode cX2_stepTime 34 = .ok (.ireturn, 1) := by decide +kernel
theorem dX2_stepTime_35 : decode cX2_stepTime 35 = .ok (.iload_n 0, 1) := by decide +kernel
theorem dX2_stepTime_36 : decode cX2_stepTime 36 = .ok (.invokestatic 209, 3) := by decide +kernel
theorem dX2_stepTime_39 : decode cX2_stepTime 39 = .ok (.iload_n 1, 1) := by decide +kernel
theorem dX2_stepTime_40 : decode cX2_stepTime 40 = .ok (.invokestatic 209, 3) := by decide +kernel
theorem dX2_stepTime_43 : decode cX2_stepTime 43 = .ok (.if_icmp .ne 7, 3) := by decide +kernel
theorem dX2_stepTime_46 : decode cX2_stepTime 46 = .ok (.iconst 4, 1) := by decide +kernel
theorem dX2_stepTime_47 : decode cX2_stepTime 47 = .ok (.goto 4, 3) := by decide +kernel
theorem dX2_stepTime_50 : decode cX2_stepTime 50 = .ok (.iconst 2, 1) := by decide +kernel
theorem dX2_stepTime_51 : decode cX2_stepTime 51 = .ok (.ireturn, 1) := by decide +kernel
set_option maxRecDepth 20000 in
theorem ggX2_textTime_X2_at : GoodIn wsX2_textTime wsX2_at := goodIn_r _ [4] (by decide +kernel) (by decide +kernel)
set_option maxRecDepth 20000 in
theorem gX2_textTime_X2_at : GoodIn wsX2_textTime (va_wsS RX2 70 yX2_at wsX2_at) := goodIn_app (goodIn_of _ (by decide +kernel)) ggX2_textTime_X2_at
set_option maxRecDepth 20000 in
theorem ggX2_textTime_X2_swapped : GoodIn wsX2_textTime wsX2_swapped := goodIn_r _ [7] (by decide +kernel) (by decide +kernel)
set_option maxRecDepth 20000 in
theorem gX2_textTime_X2_swapped : GoodIn wsX2_textTime (va_wsS RX2 212 yX2_swapped wsX2_swapped) := goodIn_app (goodIn_of _ (by decide +kernel)) ggX2_textTime_X2_swapped
set_option maxRecDepth 20000 in
theorem ggX2_textTime_X2_stepTime : GoodIn wsX2_textTime wsX2_stepTime := goodIn_r _ [10, 11, 12, 13, 14, 15, 16, 3, 17, 18, 19, 20, 21, 22, 23] (by decide +kernel) (by decide +kernel)
set_option maxRecDepth 20000 in
theorem gX2_textTime_X2_stepTime : GoodIn wsX2_textTime (va_wsS RX2 216 yX2_stepTime wsX2_stepTime) := goodIn_app (goodIn_of _ (by decide +kernel)) ggX2_textTime_X2_stepTime
theorem dX2_textTime_0 : decode cX2_textTime 0 = .ok (.iconst 0, 1) := by decide +kernel
theorem dX2_textTime_1 : decode cX2_textTime 1 = .ok (.istore 5, 2) := by decide +kernel
theorem dX2_textTime_3 : decode cX2_textTime 3 = .ok (.iconst (-1), 1) := by decide +kernel
theorem dX2_textTime_4 : decode cX2_textTime 4 = .ok (.istore 6, 2) := by decide +kernel
theorem dX2_textTime_6 : decode cX2_textTime 6 = .ok (.iconst 0, 1) := by decide +kernel
theorem dX2_textTime_7 : decode cX2_textTime 7 = .ok (.istore 7, 2) := by decide +kernel
theorem dX2_textTime_9 : decode cX2_textTime 9 = .ok (.iload 7, 2) := by decide +kernel
theorem dX2_textTime_11 : decode cX2_textTime 11 = .ok (.iload_n 1, 1) := by decide +kernel
theorem dX2_textTime_12 : decode cX2_textTime 12 = .ok (.if_icmp .ge 52, 3) := by decide +kernel
theorem dX2_textTime_15 : decode cX2_textTime 15 = .ok (.aload_n 2, 1) := by decide +kernel
theorem dX2_textTime_16 : decode cX2_textTime 16 = .ok (.aload_n 0, 1) := by decide +kernel
theorem dX2_textTime_17 : decode cX2_textTime 17 = .ok (.iload 7, 2) := by decide +kernel
theorem dX2_textTime_19 : decode cX2_textTime 19 = .ok (.invokestatic 70, 3) := by decide +kernel
theorem dX2_textTime_22 : decode cX2_textTime 22 = .ok (.invokestatic 70, 3) := by decide +kernel
theorem dX2_textTime_25 : decode cX2_textTime 25 = .ok (.iload_n 3, 1) := by decide +kernel
theorem dX2_textTime_26 : decode cX2_textTime 26 = .ok (.iload 4, 2) := by decide +kernel
theorem dX2_textTime_28 : decode cX2_textTime 28 = .ok (.invokestatic 212, 3) := by decide +kernel
theorem dX2_textTime_31 : decode cX2_textTime 31 = .ok (.istore 8, 2) := by decide +kernel
theorem dX2_textTime_33 : decode cX2_textTime 33 = .ok (.iload 5, 2) := by decide +kernel
theorem dX2_textTime_35 : decode cX2_textTime 35 = .ok (.iload 7, 2) := by decide +kernel
theorem dX2_textTime_37 : decode cX2_textTime 37 = .ok (.ifCond .ne 7, 3) := by decide +kernel
theorem dX2_textTime_40 : decode cX2_textTime 40 = .ok (.iconst 2, 1) := by decide +kernel
theorem dX2_textTime_41 : decode cX2_textTime 41 = .ok (.goto 10, 3) := by decide +kernel
theorem dX2_textTime_44 : decode cX2_textTime 44 = .ok (.iload 6, 2) := by decide +kernel
theorem dX2_textTime_46 : decode cX2_textTime 46 = .ok (.iload 8, 2) := by decide +kernel
theorem dX2_textTime_48 : decode cX2_textTime 48 = .ok (.invokestatic 216, 3) := by decide +kernel
theorem dX2_textTime_51 : decode cX2_textTime 51 = .ok (.iadd, 1) := by decide +kernel
theorem dX2_textTime_52 : decode cX2_textTime 52 = .ok (.istore 5, 2) := by decide +kernel
theorem dX2_textTime_54 : decode cX2_textTime 54 = .ok (.iload 8, 2) := by decide +kernel
theorem dX2_textTime_56 : decode cX2_textTime 56 = .ok (.istore 6, 2) := by decide +kernel
theorem dX2_textTime_58 : decode cX2_textTime 58 = .ok (.iinc 7 1, 3) := by decide +kernel
theorem dX2_textTime_61 : decode cX2_textTime 61 = .ok (.goto (-52), 3) := by decide +kernel
theorem dX2_textTime_64 : decode cX2_textTime 64 = .ok (.iload 5, 2) := by decide +kernel
theorem dX2_textTime_66 : decode cX2_textTime 66 = .ok (.ireturn, 1) := by decide +kernel
theorem dX2_swapped_0 : decode cX2_swapped 0 = .ok (.iload_n 0, 1) := by decide +kernel
theorem dX2_swapped_1 : decode cX2_swapped 1 = .ok (.iload_n 1, 1) := by decide +kernel
theorem dX2_swapped_2 : decode cX2_swapped 2 = .ok (.if_icmp .ne 5, 3) := by decide +kernel
theorem dX2_swapped_5 : decode cX2_swapped 5 = .ok (.iload_n 2, 1) := by decide +kernel
theorem dX2_swapped_6 : decode cX2_swapped 6 = .ok (.ireturn, 1) := by decide +kernel
theorem dX2_swapped_7 : decode cX2_swapped 7 = .ok (.iload_n 0, 1) := by decide +kernel
theorem dX2_swapped_8 : decode cX2_swapped 8 = .ok (.iload_n 2, 1) := by decide +kernel
theorem dX2_swapped_9 : decode cX2_swapped 9 = .ok (.if_icmp .ne 7, 3) := by decide +kernel
theorem dX2_swapped_12 : decode cX2_swapped 12 = .ok (.iload_n 1, 1) := by decide +kernel
theorem dX2_swapped_13 : decode cX2_swapped 13 = .ok (.goto 4, 3) := by decide +kernel
theorem dX2_swapped_16 : decode cX2_swapped 16 = .ok (.iload_n 0, 1) := by decide +kernel
theorem dX2_swapped_17 : decode cX2_swapped 17 = .ok (.ireturn, 1) := by decide +kernel
theorem dX2_groups_0 : decode cX2_groups 0 = .ok (.iload_n 0, 1) := by decide +kernel
theorem dX2_groups_1 : decode cX2_groups 1 = .ok (.tableswitch 41 0 3 #[31, 34, 37, 39], 31) := by decide +kernel
theorem dX2_groups_32 : decode cX2_groups 32 = .ok (.bipush 12, 2) := by decide +kernel
theorem dX2_groups_34 : decode cX2_groups 34 = .ok (.ireturn, 1) := by decide +kernel
theorem dX2_groups_35 : decode cX2_groups 35 = .ok (.bipush 6, 2) := by decide +kernel
theorem dX2_groups_37 : decode cX2_groups 37 = .ok (.ireturn, 1) := by decide +kernel
theorem dX2_groups_38 : decode cX2_groups 38 = .ok (.iconst 2, 1) := by decide +kernel
theorem dX2_groups_39 : decode cX2_groups 39 = .ok (.ireturn, 1) := by decide +kernel
theorem dX2_groups_40 : decode cX2_groups 40 = .ok (.iconst 1, 1) := by decide +kernel
theorem dX2_groups_41 : decode cX2_groups 41 = .ok (.ireturn, 1) := by decide +kernel
theorem dX2_groups_42 : decode cX2_groups 42 = .ok (.iconst 0, 1) := by decide +kernel
theorem dX2_groups_43 : decode cX2_groups 43 = .ok (.ireturn, 1) := by decide +kernel
set_option maxRecDepth 20000 in
theorem ggX2_groupOf_X2_fingerOf : GoodIn wsX2_groupOf wsX2_fingerOf := goodIn_r _ [4] (by decide +kernel) (by decide +kernel)
set_option maxRecDepth 20000 in
theorem gX2_groupOf_X2_fingerOf : GoodIn wsX2_groupOf (va_wsS RX2 198 yX2_fingerOf wsX2_fingerOf) := goodIn_app (goodIn_of _ (by decide +kernel)) ggX2_groupOf_X2_fingerOf
set_option maxRecDepth 20000 in
theorem ggX2_groupOf_X2_handOf : GoodIn wsX2_groupOf wsX2_handOf := goodIn_r _ [7] (by decide +kernel) (by decide +kernel)
set_option maxRecDepth 20000 in
theorem gX2_groupOf_X2_handOf : GoodIn wsX2_groupOf (va_wsS RX2 209 yX2_handOf wsX2_handOf) := goodIn_app (goodIn_of _ (by decide +kernel)) ggX2_groupOf_X2_handOf
theorem dX2_groupOf_0 : decode cX2_groupOf 0 = .ok (.iload_n 0, 1) := by decide +kernel
theorem dX2_groupOf_1 : decode cX2_groupOf 1 = .ok (.tableswitch 39 0 2 #[27, 29, 34], 27) := by decide +kernel
theorem dX2_groupOf_28 : decode cX2_groupOf 28 = .ok (.iload_n 1, 1) := by decide +kernel
theorem dX2_groupOf_29 : decode cX2_groupOf 29 = .ok (.ireturn, 1) := by decide +kernel
theorem dX2_groupOf_30 : decode cX2_groupOf 30 = .ok (.iload_n 1, 1) := by decide +kernel
theorem dX2_groupOf_31 : decode cX2_groupOf 31 = .ok (.invokestatic 198, 3) := by decide +kernel
theorem dX2_groupOf_34 : decode cX2_groupOf 34 = .ok (.ireturn, 1) := by decide +kernel
theorem dX2_groupOf_35 : decode cX2_groupOf 35 = .ok (.iload_n 1, 1) := by decide +kernel
theorem dX2_groupOf_36 : decode cX2_groupOf 36 = .ok (.invokestatic 209, 3) := by decide +kernel
theorem dX2_groupOf_39 : decode cX2_groupOf 39 = .ok (.ireturn, 1) := by decide +kernel
theorem dX2_groupOf_40 : decode cX2_groupOf 40 = .ok (.iconst 0, 1) := by decide +kernel
theorem dX2_groupOf_41 : decode cX2_groupOf 41 = .ok (.ireturn, 1) := by decide +kernel
theorem dJ9_abs_0f7a4_0 : decode cJ9_abs_0f7a4 0 = .ok (.iload_n 0, 1) := by decide +kernel
theorem dJ9_abs_0f7a4_1 : decode cJ9_abs_0f7a4 1 = .ok (.ifCond .ge 8, 3) := by decide +kernel
theorem dJ9_abs_0f7a4_4 : decode cJ9_abs_0f7a4 4 = .ok (.iload_n 0, 1) := by decide +kernel
theorem dJ9_abs_0f7a4_5 : decode cJ9_abs_0f7a4 5 = .ok (.ineg, 1) := by decide +kernel
theorem dJ9_abs_0f7a4_6 : decode cJ9_abs_0f7a4 6 = .ok (.goto 4, 3) := by decide +kernel
theorem dJ9_abs_0f7a4_9 : decode cJ9_abs_0f7a4 9 = .ok (.iload_n 0, 1) := by decide +kernel
theorem dJ9_abs_0f7a4_10 : decode cJ9_abs_0f7a4 10 = .ok (.ireturn, 1) := by decide +kernel
theorem dJ7_fill_53178_0 : decode cJ7_fill_53178 0 = .ok (.iconst 0, 1) := by decide +kernel
theorem dJ7_fill_53178_1 : decode cJ7_fill_53178 1 = .ok (.istore_n 2, 1) := by decide +kernel
theorem dJ7_fill_53178_2 : decode cJ7_fill_53178 2 = .ok (.aload_n 0, 1) := by decide +kernel
theorem dJ7_fill_53178_3 : decode cJ7_fill_53178 3 = .ok (.arraylength, 1) := by decide +kernel
theorem dJ7_fill_53178_4 : decode cJ7_fill_53178 4 = .ok (.istore_n 3, 1) := by decide +kernel
theorem dJ7_fill_53178_5 : decode cJ7_fill_53178 5 = .ok (.iload_n 2, 1) := by decide +kernel
theorem dJ7_fill_53178_6 : decode cJ7_fill_53178 6 = .ok (.iload_n 3, 1) := by decide +kernel
theorem dJ7_fill_53178_7 : decode cJ7_fill_53178 7 = .ok (.if_icmp .ge 13, 3) := by decide +kernel
theorem dJ7_fill_53178_10 : decode cJ7_fill_53178 10 = .ok (.aload_n 0, 1) := by decide +kernel
theorem dJ7_fill_53178_11 : decode cJ7_fill_53178 11 = .ok (.iload_n 2, 1) := by decide +kernel
theorem dJ7_fill_53178_12 : decode cJ7_fill_53178 12 = .ok (.iload_n 1, 1) := by decide +kernel
theorem dJ7_fill_53178_13 : decode cJ7_fill_53178 13 = .ok (.iastore, 1) := by decide +kernel
theorem dJ7_fill_53178_14 : decode cJ7_fill_53178 14 = .ok (.iinc 2 1, 3) := by decide +kernel
theorem dJ7_fill_53178_17 : decode cJ7_fill_53178 17 = .ok (.goto (-12), 3) := by decide +kernel
theorem dJ7_fill_53178_20 : decode cJ7_fill_53178 20 = .ok (.return_, 1) := by decide +kernel
theorem dL_draw_0 : decode cL_draw 0 = .ok (.iload_n 1, 1) := by decide +kernel
theorem dL_draw_1 : decode cL_draw 1 = .ok (.aload_n 0, 1) := by decide +kernel
theorem dL_draw_2 : decode cL_draw 2 = .ok (.arraylength, 1) := by decide +kernel
theorem dL_draw_3 : decode cL_draw 3 = .ok (.if_icmp .ge 9, 3) := by decide +kernel
theorem dL_draw_6 : decode cL_draw 6 = .ok (.aload_n 0, 1) := by decide +kernel
theorem dL_draw_7 : decode cL_draw 7 = .ok (.iload_n 1, 1) := by decide +kernel
theorem dL_draw_8 : decode cL_draw 8 = .ok (.iaload, 1) := by decide +kernel
theorem dL_draw_9 : decode cL_draw 9 = .ok (.goto 11, 3) := by decide +kernel
theorem dL_draw_12 : decode cL_draw 12 = .ok (.ldc 7, 2) := by decide +kernel
theorem dL_draw_14 : decode cL_draw 14 = .ok (.iload_n 1, 1) := by decide +kernel
theorem dL_draw_15 : decode cL_draw 15 = .ok (.imul, 1) := by decide +kernel
theorem dL_draw_16 : decode cL_draw 16 = .ok (.sipush 11777, 3) := by decide +kernel
theorem dL_draw_19 : decode cL_draw 19 = .ok (.iadd, 1) := by decide +kernel
theorem dL_draw_20 : decode cL_draw 20 = .ok (.ldc 8, 2) := by decide +kernel
theorem dL_draw_22 : decode cL_draw 22 = .ok (.iand, 1) := by decide +kernel
theorem dL_draw_23 : decode cL_draw 23 = .ok (.ireturn, 1) := by decide +kernel
set_option maxRecDepth 20000 in
theorem ggL_student_X2_student : GoodIn wsL_student wsX2_student := goodIn_ca (goodIn_r _ [7, 8, 9, 10, 11, 12, 13, 14, 15, 16, 17, 18, 19, 20, 21, 22, 23, 24, 25, 26, 27, 28, 6, 29, 30, 31, 32, 33, 34, 35, 36, 37, 38, 39, 40, 41, 42] (by decide +kernel) (by decide +kernel)) (goodIn_sub (fun _ h => List.mem_cons_of_mem _ (List.mem_append_right _ h)) (by decide +kernel))
set_option maxRecDepth 20000 in
theorem gL_student_X2_student : GoodIn wsL_student (wsV RL 9 RX2 yX2_student wsX2_student) := goodIn_app (goodIn_of _ (by decide +kernel)) ggL_student_X2_student
theorem dL_student_0 : decode cL_student 0 = .ok (.aload_n 0, 1) := by decide +kernel
theorem dL_student_1 : decode cL_student 1 = .ok (.invokevirtual 9, 3) := by decide +kernel
theorem dL_student_4 : decode cL_student 4 = .ok (.i2l, 1) := by decide +kernel
theorem dL_student_5 : decode cL_student 5 = .ok (.lreturn, 1) := by decide +kernel
theorem dL_student_6 : decode cL_student 6 = .ok (.astore_n 1, 1) := by decide +kernel
theorem dL_student_7 : decode cL_student 7 = .ok (.ldc2_w 17, 3) := by decide +kernel
theorem dL_student_10 : decode cL_student 10 = .ok (.lreturn, 1) := by decide +kernel
set_option maxRecDepth 20000 in
theorem ggL_carry_X2_carry : GoodIn wsL_carry wsX2_carry := goodIn_ca (goodIn_ca (goodIn_r _ [9, 10, 11, 12, 13, 14, 8, 15, 16, 17, 18, 19, 20, 21, 22, 23, 24, 25, 26, 27, 28, 29, 30, 31] (by decide +kernel) (by decide +kernel)) (goodIn_sub (fun _ h => List.mem_cons_of_mem _ (List.mem_append_left _ (List.mem_append_right _ h))) (by decide +kernel))) (goodIn_sub (fun _ h => List.mem_cons_of_mem _ (List.mem_append_right _ h)) (by decide +kernel))
set_option maxRecDepth 20000 in
theorem gL_carry_X2_carry : GoodIn wsL_carry (wsV RL 19 RX2 yX2_carry wsX2_carry) := goodIn_app (goodIn_of _ (by decide +kernel)) ggL_carry_X2_carry
theorem dL_carry_0 : decode cL_carry 0 = .ok (.aload_n 0, 1) := by decide +kernel
theorem dL_carry_1 : decode cL_carry 1 = .ok (.iload_n 1, 1) := by decide +kernel
theorem dL_carry_2 : decode cL_carry 2 = .ok (.iload_n 2, 1) := by decide +kernel
theorem dL_carry_3 : decode cL_carry 3 = .ok (.invokevirtual 19, 3) := by decide +kernel
theorem dL_carry_6 : decode cL_carry 6 = .ok (.i2l, 1) := by decide +kernel
theorem dL_carry_7 : decode cL_carry 7 = .ok (.lreturn, 1) := by decide +kernel
theorem dL_carry_8 : decode cL_carry 8 = .ok (.astore_n 3, 1) := by decide +kernel
theorem dL_carry_9 : decode cL_carry 9 = .ok (.ldc2_w 25, 3) := by decide +kernel
theorem dL_carry_12 : decode cL_carry 12 = .ok (.lreturn, 1) := by decide +kernel
theorem dL_carry_13 : decode cL_carry 13 = .ok (.astore_n 3, 1) := by decide +kernel
theorem dL_carry_14 : decode cL_carry 14 = .ok (.ldc2_w 29, 3) := by decide +kernel
theorem dL_carry_17 : decode cL_carry 17 = .ok (.lreturn, 1) := by decide +kernel
set_option maxRecDepth 20000 in
theorem ggL_swap_X2_swap : GoodIn wsL_swap wsX2_swap := goodIn_ca (goodIn_ca (goodIn_r _ [9, 10, 11, 12, 8, 13, 14, 15, 16, 17, 18, 19, 20, 21, 22, 23, 24, 25, 26, 27, 28, 29, 30, 31, 32, 33, 34, 35, 36, 37, 38, 39, 40, 41, 42, 43, 44, 45, 46, 47, 48, 49, 50, 51, 52, 53, 54, 55, 56, 57, 58, 59, 60, 61, 62, 63, 64, 65, 66, 67, 68, 69, 70, 71, 72, 73, 74, 75, 76, 77, 78, 79, 80] (by decide +kernel) (by decide +kernel)) (goodIn_sub (fun _ h => List.mem_cons_of_mem _ (List.mem_append_left _ (List.mem_append_right _ h))) (by decide +kernel))) (goodIn_sub (fun _ h => List.mem_cons_of_mem _ (List.mem_append_right _ h)) (by decide +kernel))
set_option maxRecDepth 20000 in
theorem gL_swap_X2_swap : GoodIn wsL_swap (wsV RL 31 RX2 yX2_swap wsX2_swap) := goodIn_app (goodIn_of _ (by decide +kernel)) ggL_swap_X2_swap
theorem dL_swap_0 : decode cL_swap 0 = .ok (.aload_n 0, 1) := by decide +kernel
theorem dL_swap_1 : decode cL_swap 1 = .ok (.iload_n 1, 1) := by decide +kernel
theorem dL_swap_2 : decode cL_swap 2 = .ok (.iload_n 2, 1) := by decide +kernel
theorem dL_swap_3 : decode cL_swap 3 = .ok (.iload_n 3, 1) := by decide +kernel
theorem dL_swap_4 : decode cL_swap 4 = .ok (.invokevirtual 31, 3) := by decide +kernel
theorem dL_swap_7 : decode cL_swap 7 = .ok (.i2l, 1) := by decide +kernel
theorem dL_swap_8 : decode cL_swap 8 = .ok (.lreturn, 1) := by decide +kernel
theorem dL_swap_9 : decode cL_swap 9 = .ok (.astore 4, 2) := by decide +kernel
theorem dL_swap_11 : decode cL_swap 11 = .ok (.ldc2_w 25, 3) := by decide +kernel
theorem dL_swap_14 : decode cL_swap 14 = .ok (.lreturn, 1) := by decide +kernel
theorem dL_swap_15 : decode cL_swap 15 = .ok (.astore 4, 2) := by decide +kernel
theorem dL_swap_17 : decode cL_swap 17 = .ok (.ldc2_w 29, 3) := by decide +kernel
theorem dL_swap_20 : decode cL_swap 20 = .ok (.lreturn, 1) := by decide +kernel
set_option maxRecDepth 20000 in
theorem ggL_keyOf_X2_keyOf : GoodIn wsL_keyOf wsX2_keyOf := goodIn_ca (goodIn_r _ [7, 8, 9, 10, 6, 11, 12, 13, 14, 15, 16, 17, 18, 19, 20, 21, 22, 23, 24, 25, 26, 27, 28, 29, 30, 31, 32, 33] (by decide +kernel) (by decide +kernel)) (goodIn_sub (fun _ h => List.mem_cons_of_mem _ (List.mem_append_right _ h)) (by decide +kernel))
set_option maxRecDepth 20000 in
theorem gL_keyOf_X2_keyOf : GoodIn wsL_keyOf (wsV RL 35 RX2 yX2_keyOf wsX2_keyOf) := goodIn_app (goodIn_of _ (by decide +kernel)) ggL_keyOf_X2_keyOf
theorem dL_keyOf_0 : decode cL_keyOf 0 = .ok (.aload_n 0, 1) := by decide +kernel
theorem dL_keyOf_1 : decode cL_keyOf 1 = .ok (.iload_n 1, 1) := by decide +kernel
theorem dL_keyOf_2 : decode cL_keyOf 2 = .ok (.iload_n 2, 1) := by decide +kernel
theorem dL_keyOf_3 : decode cL_keyOf 3 = .ok (.invokevirtual 35, 3) := by decide +kernel
theorem dL_keyOf_6 : decode cL_keyOf 6 = .ok (.i2l, 1) := by decide +kernel
theorem dL_keyOf_7 : decode cL_keyOf 7 = .ok (.lreturn, 1) := by decide +kernel
theorem dL_keyOf_8 : decode cL_keyOf 8 = .ok (.astore_n 3, 1) := by decide +kernel
theorem dL_keyOf_9 : decode cL_keyOf 9 = .ok (.ldc2_w 25, 3) := by decide +kernel
theorem dL_keyOf_12 : decode cL_keyOf 12 = .ok (.lreturn, 1) := by decide +kernel
set_option maxRecDepth 20000 in
theorem ggL_letterOn_X2_letterOn : GoodIn wsL_letterOn wsX2_letterOn := goodIn_ca (goodIn_r _ [7, 8, 9, 10, 6, 11, 12, 13, 14, 15, 16, 17, 18, 19, 20, 21, 22, 23, 24, 25, 26, 27, 28, 29, 30, 31, 32, 33] (by decide +kernel) (by decide +kernel)) (goodIn_sub (fun _ h => List.mem_cons_of_mem _ (List.mem_append_right _ h)) (by decide +kernel))
set_option maxRecDepth 20000 in
theorem gL_letterOn_X2_letterOn : GoodIn wsL_letterOn (wsV RL 38 RX2 yX2_letterOn wsX2_letterOn) := goodIn_app (goodIn_of _ (by decide +kernel)) ggL_letterOn_X2_letterOn
theorem dL_letterOn_0 : decode cL_letterOn 0 = .ok (.aload_n 0, 1) := by decide +kernel
theorem dL_letterOn_1 : decode cL_letterOn 1 = .ok (.iload_n 1, 1) := by decide +kernel
theorem dL_letterOn_2 : decode cL_letterOn 2 = .ok (.iload_n 2, 1) := by decide +kernel
theorem dL_letterOn_3 : decode cL_letterOn 3 = .ok (.invokevirtual 38, 3) := by decide +kernel
theorem dL_letterOn_6 : decode cL_letterOn 6 = .ok (.i2l, 1) := by decide +kernel
theorem dL_letterOn_7 : decode cL_letterOn 7 = .ok (.lreturn, 1) := by decide +kernel
theorem dL_letterOn_8 : decode cL_letterOn 8 = .ok (.astore_n 3, 1) := by decide +kernel
theorem dL_letterOn_9 : decode cL_letterOn 9 = .ok (.ldc2_w 25, 3) := by decide +kernel
theorem dL_letterOn_12 : decode cL_letterOn 12 = .ok (.lreturn, 1) := by decide +kernel
set_option maxRecDepth 20000 in
theorem ggL_press_X2_press : GoodIn wsL_press wsX2_press := goodIn_ca (goodIn_r _ [7, 8, 9, 10, 6, 11, 12, 13, 14, 15, 16, 17, 18, 19, 20, 21, 22, 23, 24, 25, 26, 27, 28, 29, 30, 31, 32, 33, 34, 35, 36, 37, 38, 39, 40, 41, 42, 43, 44, 45, 46, 47, 48, 49, 50, 51, 52, 53, 54, 55, 56, 57, 58, 59, 60, 61] (by decide +kernel) (by decide +kernel)) (goodIn_sub (fun _ h => List.mem_cons_of_mem _ (List.mem_append_right _ h)) (by decide +kernel))
set_option maxRecDepth 20000 in
theorem gL_press_X2_press : GoodIn wsL_press (wsV RL 41 RX2 yX2_press wsX2_press) := goodIn_app (goodIn_of _ (by decide +kernel)) ggL_press_X2_press
theorem dL_press_0 : decode cL_press 0 = .ok (.aload_n 0, 1) := by decide +kernel
theorem dL_press_1 : decode cL_press 1 = .ok (.iload_n 1, 1) := by decide +kernel
theorem dL_press_2 : decode cL_press 2 = .ok (.iload_n 2, 1) := by decide +kernel
theorem dL_press_3 : decode cL_press 3 = .ok (.iload_n 3, 1) := by decide +kernel
theorem dL_press_4 : decode cL_press 4 = .ok (.invokevirtual 41, 3) := by decide +kernel
theorem dL_press_7 : decode cL_press 7 = .ok (.ifCond .eq 7, 3) := by decide +kernel
theorem dL_press_10 : decode cL_press 10 = .ok (.lconst 1, 1) := by decide +kernel
theorem dL_press_11 : decode cL_press 11 = .ok (.goto 4, 3) := by decide +kernel
theorem dL_press_14 : decode cL_press 14 = .ok (.lconst 0, 1) := by decide +kernel
theorem dL_press_15 : decode cL_press 15 = .ok (.lreturn, 1) := by decide +kernel
theorem dL_press_16 : decode cL_press 16 = .ok (.astore 4, 2) := by decide +kernel
theorem dL_press_18 : decode cL_press 18 = .ok (.ldc2_w 25, 3) := by decide +kernel
theorem dL_press_21 : decode cL_press 21 = .ok (.lreturn, 1) := by decide +kernel
set_option maxRecDepth 20000 in
theorem ggL_slips_X2_slips : GoodIn wsL_slips wsX2_slips := goodIn_ca (goodIn_ca (goodIn_r _ [9, 10, 11, 12, 13, 14, 8, 15, 16, 17, 18, 19, 20, 21, 22, 23, 24, 25, 26, 27, 28, 29, 30, 31, 32, 33, 34, 35, 36, 37, 38, 39, 40, 41, 42, 43, 44, 45, 46, 47, 48, 49] (by decide +kernel) (by decide +kernel)) (goodIn_sub (fun _ h => List.mem_cons_of_mem _ (List.mem_append_left _ (List.mem_append_right _ h))) (by decide +kernel))) (goodIn_sub (fun _ h => List.mem_cons_of_mem _ (List.mem_append_right _ h)) (by decide +kernel))
set_option maxRecDepth 20000 in
theorem gL_slips_X2_slips : GoodIn wsL_slips (wsV RL 45 RX2 yX2_slips wsX2_slips) := goodIn_app (goodIn_of _ (by decide +kernel)) ggL_slips_X2_slips
theorem dL_slips_0 : decode cL_slips 0 = .ok (.aload_n 0, 1) := by decide +kernel
theorem dL_slips_1 : decode cL_slips 1 = .ok (.iload_n 1, 1) := by decide +kernel
theorem dL_slips_2 : decode cL_slips 2 = .ok (.iload_n 2, 1) := by decide +kernel
theorem dL_slips_3 : decode cL_slips 3 = .ok (.iload_n 3, 1) := by decide +kernel
theorem dL_slips_4 : decode cL_slips 4 = .ok (.invokevirtual 45, 3) := by decide +kernel
theorem dL_slips_7 : decode cL_slips 7 = .ok (.i2l, 1) := by decide +kernel
theorem dL_slips_8 : decode cL_slips 8 = .ok (.lreturn, 1) := by decide +kernel
theorem dL_slips_9 : decode cL_slips 9 = .ok (.astore 4, 2) := by decide +kernel
theorem dL_slips_11 : decode cL_slips 11 = .ok (.ldc2_w 25, 3) := by decide +kernel
theorem dL_slips_14 : decode cL_slips 14 = .ok (.lreturn, 1) := by decide +kernel
theorem dL_slips_15 : decode cL_slips 15 = .ok (.astore 4, 2) := by decide +kernel
theorem dL_slips_17 : decode cL_slips 17 = .ok (.ldc2_w 29, 3) := by decide +kernel
theorem dL_slips_20 : decode cL_slips 20 = .ok (.lreturn, 1) := by decide +kernel
set_option maxRecDepth 20000 in
theorem ggL_pair_X2_pair : GoodIn wsL_pair wsX2_pair := goodIn_ca (goodIn_r _ [7, 8, 9, 10, 6, 11, 12, 13, 14, 15, 16, 17, 18, 19, 20, 21, 22, 23, 24, 25, 26, 27, 28, 29, 30, 31, 32, 33, 34, 35, 36] (by decide +kernel) (by decide +kernel)) (goodIn_sub (fun _ h => List.mem_cons_of_mem _ (List.mem_append_right _ h)) (by decide +kernel))
set_option maxRecDepth 20000 in
theorem gL_pair_X2_pair : GoodIn wsL_pair (wsV RL 48 RX2 yX2_pair wsX2_pair) := goodIn_app (goodIn_of _ (by decide +kernel)) ggL_pair_X2_pair
theorem dL_pair_0 : decode cL_pair 0 = .ok (.aload_n 0, 1) := by decide +kernel
theorem dL_pair_1 : decode cL_pair 1 = .ok (.iload_n 1, 1) := by decide +kernel
theorem dL_pair_2 : decode cL_pair 2 = .ok (.iload_n 2, 1) := by decide +kernel
theorem dL_pair_3 : decode cL_pair 3 = .ok (.iload_n 3, 1) := by decide +kernel
theorem dL_pair_4 : decode cL_pair 4 = .ok (.invokevirtual 48, 3) := by decide +kernel
theorem dL_pair_7 : decode cL_pair 7 = .ok (.i2l, 1) := by decide +kernel
theorem dL_pair_8 : decode cL_pair 8 = .ok (.lreturn, 1) := by decide +kernel
theorem dL_pair_9 : decode cL_pair 9 = .ok (.astore 4, 2) := by decide +kernel
theorem dL_pair_11 : decode cL_pair 11 = .ok (.ldc2_w 25, 3) := by decide +kernel
theorem dL_pair_14 : decode cL_pair 14 = .ok (.lreturn, 1) := by decide +kernel
set_option maxRecDepth 20000 in
theorem ggL_pressed_X2_pressed : GoodIn wsL_pressed wsX2_pressed := goodIn_ca (goodIn_r _ [7, 8, 9, 10, 6, 11, 12, 13, 14, 15, 16, 17, 18, 19, 20, 21, 22, 23, 24, 25, 26, 27] (by decide +kernel) (by decide +kernel)) (goodIn_sub (fun _ h => List.mem_cons_of_mem _ (List.mem_append_right _ h)) (by decide +kernel))
set_option maxRecDepth 20000 in
theorem gL_pressed_X2_pressed : GoodIn wsL_pressed (wsV RL 51 RX2 yX2_pressed wsX2_pressed) := goodIn_app (goodIn_of _ (by decide +kernel)) ggL_pressed_X2_pressed
theorem dL_pressed_0 : decode cL_pressed 0 = .ok (.aload_n 0, 1) := by decide +kernel
theorem dL_pressed_1 : decode cL_pressed 1 = .ok (.iload_n 1, 1) := by decide +kernel
theorem dL_pressed_2 : decode cL_pressed 2 = .ok (.invokevirtual 51, 3) := by decide +kernel
theorem dL_pressed_5 : decode cL_pressed 5 = .ok (.i2l, 1) := by decide +kernel
theorem dL_pressed_6 : decode cL_pressed 6 = .ok (.lreturn, 1) := by decide +kernel
theorem dL_pressed_7 : decode cL_pressed 7 = .ok (.astore_n 2, 1) := by decide +kernel
theorem dL_pressed_8 : decode cL_pressed 8 = .ok (.ldc2_w 25, 3) := by decide +kernel
theorem dL_pressed_11 : decode cL_pressed 11 = .ok (.lreturn, 1) := by decide +kernel
set_option maxRecDepth 20000 in
theorem ggL_history_X2_history : GoodIn wsL_history wsX2_history := goodIn_ca (goodIn_r _ [7, 8, 9, 10, 11, 12, 6, 13, 14, 15, 16, 17, 18, 19, 20, 21, 22, 23, 24, 25, 26, 27, 28, 29, 30] (by decide +kernel) (by decide +kernel)) (goodIn_sub (fun _ h => List.mem_cons_of_mem _ (List.mem_append_right _ h)) (by decide +kernel))
set_option maxRecDepth 20000 in
theorem gL_history_X2_history : GoodIn wsL_history (wsV RL 55 RX2 yX2_history wsX2_history) := goodIn_app (goodIn_of _ (by decide +kernel)) ggL_history_X2_history
theorem dL_history_0 : decode cL_history 0 = .ok (.aload_n 0, 1) := by decide +kernel
theorem dL_history_1 : decode cL_history 1 = .ok (.iload_n 1, 1) := by decide +kernel
theorem dL_history_2 : decode cL_history 2 = .ok (.iload_n 2, 1) := by decide +kernel
theorem dL_history_3 : decode cL_history 3 = .ok (.invokevirtual 55, 3) := by decide +kernel
theorem dL_history_6 : decode cL_history 6 = .ok (.i2l, 1) := by decide +kernel
theorem dL_history_7 : decode cL_history 7 = .ok (.lreturn, 1) := by decide +kernel
theorem dL_history_8 : decode cL_history 8 = .ok (.astore_n 3, 1) := by decide +kernel
theorem dL_history_9 : decode cL_history 9 = .ok (.ldc2_w 25, 3) := by decide +kernel
theorem dL_history_12 : decode cL_history 12 = .ok (.lreturn, 1) := by decide +kernel
set_option maxRecDepth 20000 in
theorem ggL_time_X2_time : GoodIn wsL_time wsX2_time := goodIn_ca (goodIn_r _ [7, 8, 9, 10, 6, 11, 12, 13, 14, 15, 16, 17, 18, 19, 20, 21, 22, 23, 24, 25, 26, 27, 28, 29, 30, 31, 32, 33, 34, 35, 36, 37, 38, 39, 40, 41, 42, 43, 44, 45, 46, 47, 48, 49, 50, 51, 52, 53, 54, 55, 56, 57, 58] (by decide +kernel) (by decide +kernel)) (goodIn_sub (fun _ h => List.mem_cons_of_mem _ (List.mem_append_right _ h)) (by decide +kernel))
set_option maxRecDepth 20000 in
theorem gL_time_X2_time : GoodIn wsL_time (wsV RL 58 RX2 yX2_time wsX2_time) := goodIn_app (goodIn_of _ (by decide +kernel)) ggL_time_X2_time
theorem dL_time_0 : decode cL_time 0 = .ok (.aload_n 0, 1) := by decide +kernel
theorem dL_time_1 : decode cL_time 1 = .ok (.iload_n 1, 1) := by decide +kernel
theorem dL_time_2 : decode cL_time 2 = .ok (.invokevirtual 58, 3) := by decide +kernel
theorem dL_time_5 : decode cL_time 5 = .ok (.i2l, 1) := by decide +kernel
theorem dL_time_6 : decode cL_time 6 = .ok (.lreturn, 1) := by decide +kernel
theorem dL_time_7 : decode cL_time 7 = .ok (.astore_n 2, 1) := by decide +kernel
theorem dL_time_8 : decode cL_time 8 = .ok (.ldc2_w 25, 3) := by decide +kernel
theorem dL_time_11 : decode cL_time 11 = .ok (.lreturn, 1) := by decide +kernel
set_option maxRecDepth 20000 in
theorem ggL_timeAnew_X2_timeAnew : GoodIn wsL_timeAnew wsX2_timeAnew := goodIn_ca (goodIn_r _ [7, 8, 9, 10, 11, 6, 12, 13, 14, 15, 16, 17, 18, 19, 20, 21, 22, 23, 24, 25, 26, 27, 28, 29, 30, 31, 32, 33, 34, 35, 36, 37, 38, 39, 40, 41, 42, 43, 44, 45, 46, 47, 48, 49, 50, 51, 52, 53, 54, 55, 56, 57, 58, 59, 60, 61, 62, 63, 64] (by decide +kernel) (by decide +kernel)) (goodIn_sub (fun _ h => List.mem_cons_of_mem _ (List.mem_append_right _ h)) (by decide +kernel))
set_option maxRecDepth 20000 in
theorem gL_timeAnew_X2_timeAnew : GoodIn wsL_timeAnew (wsV RL 61 RX2 yX2_timeAnew wsX2_timeAnew) := goodIn_app (goodIn_of _ (by decide +kernel)) ggL_timeAnew_X2_timeAnew
theorem dL_timeAnew_0 : decode cL_timeAnew 0 = .ok (.aload_n 0, 1) := by decide +kernel
theorem dL_timeAnew_1 : decode cL_timeAnew 1 = .ok (.iload_n 1, 1) := by decide +kernel
theorem dL_timeAnew_2 : decode cL_timeAnew 2 = .ok (.invokevirtual 61, 3) := by decide +kernel
theorem dL_timeAnew_5 : decode cL_timeAnew 5 = .ok (.i2l, 1) := by decide +kernel
theorem dL_timeAnew_6 : decode cL_timeAnew 6 = .ok (.lreturn, 1) := by decide +kernel
theorem dL_timeAnew_7 : decode cL_timeAnew 7 = .ok (.astore_n 2, 1) := by decide +kernel
theorem dL_timeAnew_8 : decode cL_timeAnew 8 = .ok (.ldc2_w 25, 3) := by decide +kernel
theorem dL_timeAnew_11 : decode cL_timeAnew 11 = .ok (.lreturn, 1) := by decide +kernel
set_option maxRecDepth 20000 in
theorem ggL_lesson_X2_lesson : GoodIn wsL_lesson wsX2_lesson := goodIn_ca (goodIn_r _ [7, 8, 9, 10, 11, 12, 6, 13, 14, 15, 16, 17, 18, 19, 20, 21, 22, 23, 24, 25, 26, 27, 28, 29, 30, 31, 32, 33, 34, 35, 36, 37, 38, 39, 40, 41, 42, 43] (by decide +kernel) (by decide +kernel)) (goodIn_sub (fun _ h => List.mem_cons_of_mem _ (List.mem_append_right _ h)) (by decide +kernel))
set_option maxRecDepth 20000 in
theorem gL_lesson_X2_lesson : GoodIn wsL_lesson (wsV RL 64 RX2 yX2_lesson wsX2_lesson) := goodIn_app (goodIn_of _ (by decide +kernel)) ggL_lesson_X2_lesson
theorem dL_lesson_0 : decode cL_lesson 0 = .ok (.aload_n 0, 1) := by decide +kernel
theorem dL_lesson_1 : decode cL_lesson 1 = .ok (.iload_n 1, 1) := by decide +kernel
theorem dL_lesson_2 : decode cL_lesson 2 = .ok (.iload_n 2, 1) := by decide +kernel
theorem dL_lesson_3 : decode cL_lesson 3 = .ok (.invokevirtual 64, 3) := by decide +kernel
theorem dL_lesson_6 : decode cL_lesson 6 = .ok (.i2l, 1) := by decide +kernel
theorem dL_lesson_7 : decode cL_lesson 7 = .ok (.lreturn, 1) := by decide +kernel
theorem dL_lesson_8 : decode cL_lesson 8 = .ok (.astore_n 3, 1) := by decide +kernel
theorem dL_lesson_9 : decode cL_lesson 9 = .ok (.ldc2_w 25, 3) := by decide +kernel
theorem dL_lesson_12 : decode cL_lesson 12 = .ok (.lreturn, 1) := by decide +kernel
set_option maxRecDepth 20000 in
theorem ggL_saves_X2_saves : GoodIn wsL_saves wsX2_saves := goodIn_ca (goodIn_ca (goodIn_r _ [9, 10, 11, 12, 8, 13, 14, 15, 16, 17, 18, 19, 20, 21, 22, 23, 24, 25, 26, 27, 28, 29, 30, 31, 32, 33, 34, 35, 36, 37, 38, 39, 40, 41, 42, 43, 44, 45, 46, 47, 48, 49, 50, 51, 52, 53, 54, 55, 56, 57, 58, 59, 60, 61, 62, 63, 64, 65, 66, 67, 68, 69, 70, 71, 72] (by decide +kernel) (by decide +kernel)) (goodIn_sub (fun _ h => List.mem_cons_of_mem _ (List.mem_append_left _ (List.mem_append_right _ h))) (by decide +kernel))) (goodIn_sub (fun _ h => List.mem_cons_of_mem _ (List.mem_append_right _ h)) (by decide +kernel))
set_option maxRecDepth 20000 in
theorem gL_saves_X2_saves : GoodIn wsL_saves (wsV RL 67 RX2 yX2_saves wsX2_saves) := goodIn_app (goodIn_of _ (by decide +kernel)) ggL_saves_X2_saves
theorem dL_saves_0 : decode cL_saves 0 = .ok (.aload_n 0, 1) := by decide +kernel
theorem dL_saves_1 : decode cL_saves 1 = .ok (.iload_n 1, 1) := by decide +kernel
theorem dL_saves_2 : decode cL_saves 2 = .ok (.iload_n 2, 1) := by decide +kernel
theorem dL_saves_3 : decode cL_saves 3 = .ok (.iload_n 3, 1) := by decide +kernel
theorem dL_saves_4 : decode cL_saves 4 = .ok (.invokevirtual 67, 3) := by decide +kernel
theorem dL_saves_7 : decode cL_saves 7 = .ok (.i2l, 1) := by decide +kernel
theorem dL_saves_8 : decode cL_saves 8 = .ok (.lreturn, 1) := by decide +kernel
theorem dL_saves_9 : decode cL_saves 9 = .ok (.astore 4, 2) := by decide +kernel
theorem dL_saves_11 : decode cL_saves 11 = .ok (.ldc2_w 25, 3) := by decide +kernel
theorem dL_saves_14 : decode cL_saves 14 = .ok (.lreturn, 1) := by decide +kernel
theorem dL_saves_15 : decode cL_saves 15 = .ok (.astore 4, 2) := by decide +kernel
theorem dL_saves_17 : decode cL_saves 17 = .ok (.ldc2_w 29, 3) := by decide +kernel
theorem dL_saves_20 : decode cL_saves 20 = .ok (.lreturn, 1) := by decide +kernel
set_option maxRecDepth 20000 in
theorem ggL_best_X2_best : GoodIn wsL_best wsX2_best := goodIn_ca (goodIn_r _ [7, 8, 9, 10, 6, 11, 12, 13, 14, 15, 16, 17, 18, 19, 20, 21, 22, 23, 24, 25, 26, 27, 28, 29, 30, 31, 32, 33, 34, 35, 36, 37, 38, 39, 40, 41, 42, 43, 44, 45, 46, 47, 48, 49, 50, 51, 52, 53, 54, 55, 56, 57, 58, 59, 60, 61, 62] (by decide +kernel) (by decide +kernel)) (goodIn_sub (fun _ h => List.mem_cons_of_mem _ (List.mem_append_right _ h)) (by decide +kernel))
set_option maxRecDepth 20000 in
theorem gL_best_X2_best : GoodIn wsL_best (wsV RL 70 RX2 yX2_best wsX2_best) := goodIn_app (goodIn_of _ (by decide +kernel)) ggL_best_X2_best
theorem dL_best_0 : decode cL_best 0 = .ok (.aload_n 0, 1) := by decide +kernel
theorem dL_best_1 : decode cL_best 1 = .ok (.iload_n 1, 1) := by decide +kernel
theorem dL_best_2 : decode cL_best 2 = .ok (.invokevirtual 70, 3) := by decide +kernel
theorem dL_best_5 : decode cL_best 5 = .ok (.i2l, 1) := by decide +kernel
theorem dL_best_6 : decode cL_best 6 = .ok (.lreturn, 1) := by decide +kernel
theorem dL_best_7 : decode cL_best 7 = .ok (.astore_n 2, 1) := by decide +kernel
theorem dL_best_8 : decode cL_best 8 = .ok (.ldc2_w 25, 3) := by decide +kernel
theorem dL_best_11 : decode cL_best 11 = .ok (.lreturn, 1) := by decide +kernel
set_option maxRecDepth 20000 in
theorem ggL_draft_X2_draft : GoodIn wsL_draft wsX2_draft := goodIn_ca (goodIn_ca (goodIn_r _ [9, 10, 11, 12, 13, 14, 15, 8, 16, 17, 18, 19, 20, 21, 22, 23, 24, 25, 26] (by decide +kernel) (by decide +kernel)) (goodIn_sub (fun _ h => List.mem_cons_of_mem _ (List.mem_append_left _ (List.mem_append_right _ h))) (by decide +kernel))) (goodIn_sub (fun _ h => List.mem_cons_of_mem _ (List.mem_append_right _ h)) (by decide +kernel))
set_option maxRecDepth 20000 in
theorem gL_draft_X2_draft : GoodIn wsL_draft (wsV RL 73 RX2 yX2_draft wsX2_draft) := goodIn_app (goodIn_of _ (by decide +kernel)) ggL_draft_X2_draft
theorem dL_draft_0 : decode cL_draft 0 = .ok (.aload_n 0, 1) := by decide +kernel
theorem dL_draft_1 : decode cL_draft 1 = .ok (.iload_n 1, 1) := by decide +kernel
theorem dL_draft_2 : decode cL_draft 2 = .ok (.invokevirtual 73, 3) := by decide +kernel
theorem dL_draft_5 : decode cL_draft 5 = .ok (.i2l, 1) := by decide +kernel
theorem dL_draft_6 : decode cL_draft 6 = .ok (.lreturn, 1) := by decide +kernel
theorem dL_draft_7 : decode cL_draft 7 = .ok (.astore_n 2, 1) := by decide +kernel
theorem dL_draft_8 : decode cL_draft 8 = .ok (.ldc2_w 25, 3) := by decide +kernel
theorem dL_draft_11 : decode cL_draft 11 = .ok (.lreturn, 1) := by decide +kernel
theorem dL_draft_12 : decode cL_draft 12 = .ok (.astore_n 2, 1) := by decide +kernel
theorem dL_draft_13 : decode cL_draft 13 = .ok (.ldc2_w 17, 3) := by decide +kernel
theorem dL_draft_16 : decode cL_draft 16 = .ok (.lreturn, 1) := by decide +kernel
set_option maxRecDepth 20000 in
theorem ggL_contest_X2_contest : GoodIn wsL_contest wsX2_contest := goodIn_ca (goodIn_r _ [7, 8, 9, 10, 11, 12, 13, 14, 15, 6, 16, 17, 18, 19, 20, 21, 22, 23, 24, 25, 26, 27, 28, 29, 30, 31, 32, 33, 34, 35, 36, 37, 38, 39, 40, 41, 42, 43, 44, 45, 46, 47, 48, 49, 50, 51, 52, 53, 54, 55, 56, 57, 58, 59, 60, 61, 62, 63, 64, 65, 66, 67, 68, 69, 70, 71, 72, 73] (by decide +kernel) (by decide +kernel)) (goodIn_sub (fun _ h => List.mem_cons_of_mem _ (List.mem_append_right _ h)) (by decide +kernel))
set_option maxRecDepth 20000 in
theorem gL_contest_X2_contest : GoodIn wsL_contest (wsV RL 76 RX2 yX2_contest wsX2_contest) := goodIn_app (goodIn_of _ (by decide +kernel)) ggL_contest_X2_contest
theorem dL_contest_0 : decode cL_contest 0 = .ok (.aload_n 0, 1) := by decide +kernel
theorem dL_contest_1 : decode cL_contest 1 = .ok (.invokevirtual 76, 3) := by decide +kernel
theorem dL_contest_4 : decode cL_contest 4 = .ok (.i2l, 1) := by decide +kernel
theorem dL_contest_5 : decode cL_contest 5 = .ok (.lreturn, 1) := by decide +kernel
theorem dL_contest_6 : decode cL_contest 6 = .ok (.astore_n 1, 1) := by decide +kernel
theorem dL_contest_7 : decode cL_contest 7 = .ok (.ldc2_w 17, 3) := by decide +kernel
theorem dL_contest_10 : decode cL_contest 10 = .ok (.lreturn, 1) := by decide +kernel
set_option maxRecDepth 20000 in
theorem ggL_result_X2_result : GoodIn wsL_result wsX2_result := goodIn_ca (goodIn_ca (goodIn_ca (goodIn_r _ [11, 12, 13, 14, 15, 16, 17, 18, 19, 10, 20, 21, 22, 23, 24, 25, 26, 27, 28, 29, 30, 31, 32, 33, 34, 35, 36, 37, 38, 39, 40, 41, 42, 43, 44, 45] (by decide +kernel) (by decide +kernel)) (goodIn_sub (fun _ h => List.mem_cons_of_mem _ (List.mem_append_left _ (List.mem_append_left _ (List.mem_append_right _ h)))) (by decide +kernel))) (goodIn_sub (fun _ h => List.mem_cons_of_mem _ (List.mem_append_left _ (List.mem_append_right _ h))) (by decide +kernel))) (goodIn_sub (fun _ h => List.mem_cons_of_mem _ (List.mem_append_right _ h)) (by decide +kernel))
set_option maxRecDepth 20000 in
theorem gL_result_X2_result : GoodIn wsL_result (wsV RL 79 RX2 yX2_result wsX2_result) := goodIn_app (goodIn_of _ (by decide +kernel)) ggL_result_X2_result
theorem dL_result_0 : decode cL_result 0 = .ok (.aload_n 0, 1) := by decide +kernel
theorem dL_result_1 : decode cL_result 1 = .ok (.iload_n 1, 1) := by decide +kernel
theorem dL_result_2 : decode cL_result 2 = .ok (.iload_n 2, 1) := by decide +kernel
theorem dL_result_3 : decode cL_result 3 = .ok (.iload_n 3, 1) := by decide +kernel
theorem dL_result_4 : decode cL_result 4 = .ok (.invokevirtual 79, 3) := by decide +kernel
theorem dL_result_7 : decode cL_result 7 = .ok (.i2l, 1) := by decide +kernel
theorem dL_result_8 : decode cL_result 8 = .ok (.lreturn, 1) := by decide +kernel
theorem dL_result_9 : decode cL_result 9 = .ok (.astore 4, 2) := by decide +kernel
theorem dL_result_11 : decode cL_result 11 = .ok (.ldc2_w 25, 3) := by decide +kernel
theorem dL_result_14 : decode cL_result 14 = .ok (.lreturn, 1) := by decide +kernel
theorem dL_result_15 : decode cL_result 15 = .ok (.astore 4, 2) := by decide +kernel
theorem dL_result_17 : decode cL_result 17 = .ok (.ldc2_w 29, 3) := by decide +kernel
theorem dL_result_20 : decode cL_result 20 = .ok (.lreturn, 1) := by decide +kernel
theorem dL_result_21 : decode cL_result 21 = .ok (.astore 4, 2) := by decide +kernel
theorem dL_result_23 : decode cL_result 23 = .ok (.ldc2_w 17, 3) := by decide +kernel
theorem dL_result_26 : decode cL_result 26 = .ok (.lreturn, 1) := by decide +kernel
set_option maxRecDepth 20000 in
theorem ggL_of_X2_of : GoodIn wsL_of wsX2_of := goodIn_ca (goodIn_ca (goodIn_r _ [9, 10, 11, 12, 13, 14, 8, 15, 16, 17, 18, 19, 20, 21, 22, 23, 24, 25, 26, 27, 28, 29, 30, 31, 32, 33, 34, 35, 36, 37, 38, 39, 40, 41, 42, 43, 44, 45, 46] (by decide +kernel) (by decide +kernel)) (goodIn_sub (fun _ h => List.mem_cons_of_mem _ (List.mem_append_left _ (List.mem_append_right _ h))) (by decide +kernel))) (goodIn_sub (fun _ h => List.mem_cons_of_mem _ (List.mem_append_right _ h)) (by decide +kernel))
set_option maxRecDepth 20000 in
theorem gL_of_X2_of : GoodIn wsL_of (wsV RL 82 RX2 yX2_of wsX2_of) := goodIn_app (goodIn_of _ (by decide +kernel)) ggL_of_X2_of
theorem dL_of_0 : decode cL_of 0 = .ok (.aload_n 0, 1) := by decide +kernel
theorem dL_of_1 : decode cL_of 1 = .ok (.iload_n 1, 1) := by decide +kernel
theorem dL_of_2 : decode cL_of 2 = .ok (.iload_n 2, 1) := by decide +kernel
theorem dL_of_3 : decode cL_of 3 = .ok (.iload_n 3, 1) := by decide +kernel
theorem dL_of_4 : decode cL_of 4 = .ok (.invokevirtual 82, 3) := by decide +kernel
theorem dL_of_7 : decode cL_of 7 = .ok (.i2l, 1) := by decide +kernel
theorem dL_of_8 : decode cL_of 8 = .ok (.lreturn, 1) := by decide +kernel
theorem dL_of_9 : decode cL_of 9 = .ok (.astore 4, 2) := by decide +kernel
theorem dL_of_11 : decode cL_of 11 = .ok (.ldc2_w 25, 3) := by decide +kernel
theorem dL_of_14 : decode cL_of 14 = .ok (.lreturn, 1) := by decide +kernel
theorem dL_of_15 : decode cL_of 15 = .ok (.astore 4, 2) := by decide +kernel
theorem dL_of_17 : decode cL_of 17 = .ok (.ldc2_w 29, 3) := by decide +kernel
theorem dL_of_20 : decode cL_of 20 = .ok (.lreturn, 1) := by decide +kernel
set_option maxRecDepth 20000 in
theorem ggL_ranked_X2_ranked : GoodIn wsL_ranked wsX2_ranked := goodIn_ca (goodIn_r _ [7, 8, 9, 10, 11, 12, 6, 13, 14, 15, 16, 17, 18, 19, 20, 21, 22, 23, 24, 25, 26, 27, 28, 29, 30, 31, 32, 33, 34, 35, 36, 37, 38] (by decide +kernel) (by decide +kernel)) (goodIn_sub (fun _ h => List.mem_cons_of_mem _ (List.mem_append_right _ h)) (by decide +kernel))
set_option maxRecDepth 20000 in
theorem gL_ranked_X2_ranked : GoodIn wsL_ranked (wsV RL 85 RX2 yX2_ranked wsX2_ranked) := goodIn_app (goodIn_of _ (by decide +kernel)) ggL_ranked_X2_ranked
theorem dL_ranked_0 : decode cL_ranked 0 = .ok (.aload_n 0, 1) := by decide +kernel
theorem dL_ranked_1 : decode cL_ranked 1 = .ok (.iload_n 1, 1) := by decide +kernel
theorem dL_ranked_2 : decode cL_ranked 2 = .ok (.iload_n 2, 1) := by decide +kernel
theorem dL_ranked_3 : decode cL_ranked 3 = .ok (.invokevirtual 85, 3) := by decide +kernel
theorem dL_ranked_6 : decode cL_ranked 6 = .ok (.i2l, 1) := by decide +kernel
theorem dL_ranked_7 : decode cL_ranked 7 = .ok (.lreturn, 1) := by decide +kernel
theorem dL_ranked_8 : decode cL_ranked 8 = .ok (.astore_n 3, 1) := by decide +kernel
theorem dL_ranked_9 : decode cL_ranked 9 = .ok (.ldc2_w 25, 3) := by decide +kernel
theorem dL_ranked_12 : decode cL_ranked 12 = .ok (.lreturn, 1) := by decide +kernel
set_option maxRecDepth 20000 in
theorem ggL_studentHolds_L_time : GoodIn wsL_studentHolds wsL_time := goodIn_ca (goodIn_r _ [5, 6, 7, 8, 9, 10, 11, 12, 13, 14, 15, 16, 17, 18, 19, 20, 21, 22, 23, 24, 25, 26, 27, 28, 29, 30, 31, 32, 33, 34, 35, 36, 37, 38, 39, 40, 41, 42, 43, 44, 45, 46, 47, 48, 49, 50, 173, 174, 175, 176, 177, 178, 179, 180, 181, 182, 183, 184, 185] (by decide +kernel) (by decide +kernel)) (goodIn_sub (fun _ h => List.mem_cons_of_mem _ (List.mem_append_left _ (List.mem_append_right _ h))) (by decide +kernel))
set_option maxRecDepth 20000 in
theorem gL_studentHolds_L_time : GoodIn wsL_studentHolds (va_wsS RL 88 yL_time wsL_time) := goodIn_app (goodIn_of _ (by decide +kernel)) ggL_studentHolds_L_time
set_option maxRecDepth 20000 in
theorem ggL_studentHolds_L_timeAnew : GoodIn wsL_studentHolds wsL_timeAnew := goodIn_ca (goodIn_r _ [53, 6, 7, 54, 55, 56, 11, 57, 58, 13, 14, 15, 16, 17, 18, 19, 59, 21, 60, 61, 25, 24, 26, 62, 63, 64, 65, 30, 31, 66, 67, 68, 69, 29, 70, 71, 72, 36, 37, 38, 39, 40, 41, 42, 43, 44, 45, 46, 47, 48, 49, 50, 173, 174, 175, 176, 177, 178, 179, 180, 181, 182, 183, 184, 185] (by decide +kernel) (by decide +kernel)) (goodIn_sub (fun _ h => List.mem_cons_of_mem _ (List.mem_append_left _ (List.mem_append_right _ h))) (by decide +kernel))
set_option maxRecDepth 20000 in
theorem gL_studentHolds_L_timeAnew : GoodIn wsL_studentHolds (va_wsS RL 93 yL_timeAnew wsL_timeAnew) := goodIn_app (goodIn_of _ (by decide +kernel)) ggL_studentHolds_L_timeAnew
set_option maxRecDepth 20000 in
theorem ggL_studentHolds_L_keyOf : GoodIn wsL_studentHolds wsL_keyOf := goodIn_ca (goodIn_r _ [75, 6, 7, 76, 77, 78, 11, 79, 13, 14, 15, 16, 17, 18, 19, 80, 81, 82, 29, 30, 31, 178, 179, 180, 181, 182, 183, 184, 185, 173, 174, 175, 176, 177] (by decide +kernel) (by decide +kernel)) (goodIn_sub (fun _ h => List.mem_cons_of_mem _ (List.mem_append_left _ (List.mem_append_right _ h))) (by decide +kernel))
set_option maxRecDepth 20000 in
theorem gL_studentHolds_L_keyOf : GoodIn wsL_studentHolds (va_wsS RL 95 yL_keyOf wsL_keyOf) := goodIn_app (goodIn_of _ (by decide +kernel)) ggL_studentHolds_L_keyOf
set_option maxRecDepth 20000 in
theorem ggL_studentHolds_L_slips : GoodIn wsL_studentHolds wsL_slips := goodIn_ca (goodIn_ca (goodIn_r _ [85, 6, 86, 7, 87, 88, 89, 90, 11, 91, 92, 93, 13, 14, 15, 16, 17, 18, 19, 94, 95, 96, 97, 21, 98, 99, 100, 101, 102, 42, 43, 44, 48, 49, 50, 30, 31, 173, 174, 175, 176, 177, 178, 179, 180, 181, 182, 183, 184, 185] (by decide +kernel) (by decide +kernel)) (goodIn_sub (fun _ h => List.mem_cons_of_mem _ (List.mem_append_right _ h)) (by decide +kernel))) (goodIn_sub (fun _ h => List.mem_cons_of_mem _ (List.mem_append_left _ (List.mem_append_right _ h))) (by decide +kernel))
set_option maxRecDepth 20000 in
theorem gL_studentHolds_L_slips : GoodIn wsL_studentHolds (va_wsS RL 98 yL_slips wsL_slips) := goodIn_app (goodIn_of _ (by decide +kernel)) ggL_studentHolds_L_slips
set_option maxRecDepth 20000 in
theorem ggL_studentHolds_L_letterOn : GoodIn wsL_studentHolds wsL_letterOn := goodIn_ca (goodIn_r _ [105, 6, 7, 106, 107, 108, 11, 109, 13, 14, 15, 16, 17, 18, 19, 110, 111, 112, 29, 30, 31, 178, 179, 180, 181, 182, 183, 184, 185, 173, 174, 175, 176, 177] (by decide +kernel) (by decide +kernel)) (goodIn_sub (fun _ h => List.mem_cons_of_mem _ (List.mem_append_left _ (List.mem_append_right _ h))) (by decide +kernel))
set_option maxRecDepth 20000 in
theorem gL_studentHolds_L_letterOn : GoodIn wsL_studentHolds (va_wsS RL 103 yL_letterOn wsL_letterOn) := goodIn_app (goodIn_of _ (by decide +kernel)) ggL_studentHolds_L_letterOn
set_option maxRecDepth 20000 in
theorem ggL_studentHolds_L_pressed : GoodIn wsL_studentHolds wsL_pressed := goodIn_ca (goodIn_r _ [115, 6, 7, 116, 117, 118, 11, 119, 13, 14, 15, 16, 17, 18, 19, 178, 179, 180, 181, 182, 183, 184, 185, 173, 174, 175, 176, 177] (by decide +kernel) (by decide +kernel)) (goodIn_sub (fun _ h => List.mem_cons_of_mem _ (List.mem_append_left _ (List.mem_append_right _ h))) (by decide +kernel))
set_option maxRecDepth 20000 in
theorem gL_studentHolds_L_pressed : GoodIn wsL_studentHolds (va_wsS RL 105 yL_pressed wsL_pressed) := goodIn_app (goodIn_of _ (by decide +kernel)) ggL_studentHolds_L_pressed
set_option maxRecDepth 20000 in
theorem ggL_studentHolds_L_pair : GoodIn wsL_studentHolds wsL_pair := goodIn_ca (goodIn_r _ [122, 6, 7, 123, 124, 125, 11, 126, 13, 14, 15, 16, 17, 18, 19, 80, 81, 82, 127, 66, 67, 29, 30, 31, 178, 179, 180, 181, 182, 183, 184, 185, 173, 174, 175, 176, 177] (by decide +kernel) (by decide +kernel)) (goodIn_sub (fun _ h => List.mem_cons_of_mem _ (List.mem_append_left _ (List.mem_append_right _ h))) (by decide +kernel))
set_option maxRecDepth 20000 in
theorem gL_studentHolds_L_pair : GoodIn wsL_studentHolds (va_wsS RL 107 yL_pair wsL_pair) := goodIn_app (goodIn_of _ (by decide +kernel)) ggL_studentHolds_L_pair
set_option maxRecDepth 20000 in
theorem ggL_studentHolds_L_best : GoodIn wsL_studentHolds wsL_best := goodIn_ca (goodIn_r _ [130, 6, 7, 131, 132, 133, 11, 134, 13, 14, 15, 16, 17, 18, 19, 135, 21, 136, 137, 138, 20, 22, 23, 24, 25, 26, 27, 28, 29, 30, 31, 32, 33, 34, 35, 36, 37, 38, 39, 40, 41, 42, 43, 44, 45, 46, 47, 48, 49, 50, 173, 174, 175, 176, 177, 178, 179, 180, 181, 182, 183, 184, 185] (by decide +kernel) (by decide +kernel)) (goodIn_sub (fun _ h => List.mem_cons_of_mem _ (List.mem_append_left _ (List.mem_append_right _ h))) (by decide +kernel))
set_option maxRecDepth 20000 in
theorem gL_studentHolds_L_best : GoodIn wsL_studentHolds (va_wsS RL 109 yL_best wsL_best) := goodIn_app (goodIn_of _ (by decide +kernel)) ggL_studentHolds_L_best
set_option maxRecDepth 20000 in
theorem ggL_studentHolds_L_saves : GoodIn wsL_studentHolds wsL_saves := goodIn_ca (goodIn_ca (goodIn_r _ [141, 6, 86, 7, 87, 142, 143, 144, 11, 145, 13, 14, 15, 16, 17, 18, 19, 146, 147, 148, 92, 93, 110, 111, 112, 149, 21, 150, 151, 138, 20, 22, 23, 24, 25, 26, 27, 28, 29, 30, 31, 32, 33, 34, 35, 36, 37, 38, 39, 40, 41, 42, 43, 44, 45, 46, 47, 48, 49, 50, 173, 174, 175, 176, 177, 178, 179, 180, 181, 182, 183, 184, 185] (by decide +kernel) (by decide +kernel)) (goodIn_sub (fun _ h => List.mem_cons_of_mem _ (List.mem_append_left _ (List.mem_append_right _ h))) (by decide +kernel))) (goodIn_sub (fun _ h => List.mem_cons_of_mem _ (List.mem_append_right _ h)) (by decide +kernel))
set_option maxRecDepth 20000 in
theorem gL_studentHolds_L_saves : GoodIn wsL_studentHolds (va_wsS RL 111 yL_saves wsL_saves) := goodIn_app (goodIn_of _ (by decide +kernel)) ggL_studentHolds_L_saves
set_option maxRecDepth 20000 in
theorem ggL_studentHolds_L_lessonHolds : GoodIn wsL_studentHolds wsL_lessonHolds := goodIn_ca (goodIn_ca (goodIn_r _ [154, 7, 155, 156, 4, 157, 6, 158, 159, 160, 11, 161, 17, 18, 13, 14, 15, 16, 19, 162, 21, 163, 164, 165, 166, 167, 168, 169, 170, 171, 172, 100, 26, 30, 31, 73, 74, 75, 76, 77, 78, 79, 80, 81, 82, 29, 83, 84, 85, 86, 87, 88, 89, 90, 91, 92, 93, 94, 95, 96, 97, 98, 99, 101, 102, 42, 43, 44, 48, 49, 50, 173, 174, 175, 176, 177, 178, 179, 180, 181, 182, 183, 184, 185] (by decide +kernel) (by decide +kernel)) (goodIn_sub (fun _ h => List.mem_cons_of_mem _ (List.mem_append_left _ (List.mem_append_right _ h))) (by decide +kernel))) (goodIn_sub (fun _ h => List.mem_cons_of_mem _ (List.mem_append_right _ h)) (by decide +kernel))
set_option maxRecDepth 20000 in
theorem gL_studentHolds_L_lessonHolds : GoodIn wsL_studentHolds (va_wsS RL 113 yL_lessonHolds wsL_lessonHolds) := goodIn_app (goodIn_of _ (by decide +kernel)) ggL_studentHolds_L_lessonHolds
theorem dL_studentHolds_0 : decode cL_studentHolds 0 = .ok (.aload_n 0, 1) := by decide +kernel
theorem dL_studentHolds_1 : decode cL_studentHolds 1 = .ok (.iload_n 1, 1) := by decide +kernel
theorem dL_studentHolds_2 : decode cL_studentHolds 2 = .ok (.invokestatic 88, 3) := by decide +kernel
theorem dL_studentHolds_5 : decode cL_studentHolds 5 = .ok (.aload_n 0, 1) := by decide +kernel
theorem dL_studentHolds_6 : decode cL_studentHolds 6 = .ok (.iload_n 1, 1) := by decide +kernel
theorem dL_studentHolds_7 : decode cL_studentHolds 7 = .ok (.invokestatic 93, 3) := by decide +kernel
theorem dL_studentHolds_10 : decode cL_studentHolds 10 = .ok (.lcmp, 1) := by decide +kernel
theorem dL_studentHolds_11 : decode cL_studentHolds 11 = .ok (.ifCond .ne 7, 3) := by decide +kernel
theorem dL_studentHolds_14 : decode cL_studentHolds 14 = .ok (.iconst 1, 1) := by decide +kernel
theorem dL_studentHolds_15 : decode cL_studentHolds 15 = .ok (.goto 4, 3) := by decide +kernel
theorem dL_studentHolds_18 : decode cL_studentHolds 18 = .ok (.iconst 0, 1) := by decide +kernel
theorem dL_studentHolds_19 : decode cL_studentHolds 19 = .ok (.istore_n 2, 1) := by decide +kernel
theorem dL_studentHolds_20 : decode cL_studentHolds 20 = .ok (.lconst 0, 1) := by decide +kernel
theorem dL_studentHolds_21 : decode cL_studentHolds 21 = .ok (.lstore_n 3, 1) := by decide +kernel
theorem dL_studentHolds_22 : decode cL_studentHolds 22 = .ok (.iconst 0, 1) := by decide +kernel
theorem dL_studentHolds_23 : decode cL_studentHolds 23 = .ok (.istore 5, 2) := by decide +kernel
theorem dL_studentHolds_25 : decode cL_studentHolds 25 = .ok (.iload 5, 2) := by decide +kernel
theorem dL_studentHolds_27 : decode cL_studentHolds 27 = .ok (.bipush 12, 2) := by decide +kernel
theorem dL_studentHolds_29 : decode cL_studentHolds 29 = .ok (.if_icmp .ge 111, 3) := by decide +kernel
theorem dL_studentHolds_32 : decode cL_studentHolds 32 = .ok (.iload_n 2, 1) := by decide +kernel
theorem dL_studentHolds_33 : decode cL_studentHolds 33 = .ok (.ifCond .eq 107, 3) := by decide +kernel
theorem dL_studentHolds_36 : decode cL_studentHolds 36 = .ok (.aload_n 0, 1) := by decide +kernel
theorem dL_studentHolds_37 : decode cL_studentHolds 37 = .ok (.iload_n 1, 1) := by decide +kernel
theorem dL_studentHolds_38 : decode cL_studentHolds 38 = .ok (.iload 5, 2) := by decide +kernel
theorem dL_studentHolds_40 : decode cL_studentHolds 40 = .ok (.invokestatic 95, 3) := by decide +kernel
theorem dL_studentHolds_43 : decode cL_studentHolds 43 = .ok (.lstore 6, 2) := by decide +kernel
theorem dL_studentHolds_45 : decode cL_studentHolds 45 = .ok (.lload_n 3, 1) := by decide +kernel
theorem dL_studentHolds_46 : decode cL_studentHolds 46 = .ok (.aload_n 0, 1) := by decide +kernel
theorem dL_studentHolds_47 : decode cL_studentHolds 47 = .ok (.iload_n 1, 1) := by decide +kernel
theorem dL_studentHolds_48 : decode cL_studentHolds 48 = .ok (.iconst 0, 1) := by decide +kernel
theorem dL_studentHolds_49 : decode cL_studentHolds 49 = .ok (.iload 5, 2) := by decide +kernel
theorem dL_studentHolds_51 : decode cL_studentHolds 51 = .ok (.invokestatic 98, 3) := by decide +kernel
theorem dL_studentHolds_54 : decode cL_studentHolds 54 = .ok (.ladd, 1) := by decide +kernel
theorem dL_studentHolds_55 : decode cL_studentHolds 55 = .ok (.lstore_n 3, 1) := by decide +kernel
theorem dL_studentHolds_56 : decode cL_studentHolds 56 = .ok (.lload 6, 2) := by decide +kernel
theorem dL_studentHolds_58 : decode cL_studentHolds 58 = .ok (.lconst 0, 1) := by decide +kernel
theorem dL_studentHolds_59 : decode cL_studentHolds 59 = .ok (.lcmp, 1) := by decide +kernel
theorem dL_studentHolds_60 : decode cL_studentHolds 60 = .ok (.ifCond .lt 72, 3) := by decide +kernel
theorem dL_studentHolds_63 : decode cL_studentHolds 63 = .ok (.lload 6, 2) := by decide +kernel
theorem dL_studentHolds_65 : decode cL_studentHolds 65 = .ok (.ldc2_w 101, 3) := by decide +kernel
theorem dL_studentHolds_68 : decode cL_studentHolds 68 = .ok (.lcmp, 1) := by decide +kernel
theorem dL_studentHolds_69 : decode cL_studentHolds 69 = .ok (.ifCond .ge 63, 3) := by decide +kernel
theorem dL_studentHolds_72 : decode cL_studentHolds 72 = .ok (.aload_n 0, 1) := by decide +kernel
theorem dL_studentHolds_73 : decode cL_studentHolds 73 = .ok (.iload_n 1, 1) := by decide +kernel
theorem dL_studentHolds_74 : decode cL_studentHolds 74 = .ok (.lload 6, 2) := by decide +kernel
theorem dL_studentHolds_76 : decode cL_studentHolds 76 = .ok (.l2i, 1) := by decide +kernel
theorem dL_studentHolds_77 : decode cL_studentHolds 77 = .ok (.invokestatic 103, 3) := by decide +kernel
theorem dL_studentHolds_80 : decode cL_studentHolds 80 = .ok (.iload 5, 2) := by decide +kernel
theorem dL_studentHolds_82 : decode cL_studentHolds 82 = .ok (.i2l, 1) := by decide +kernel
theorem dL_studentHolds_83 : decode cL_studentHolds 83 = .ok (.lcmp, 1) := by decide +kernel
theorem dL_studentHolds_84 : decode cL_studentHolds 84 = .ok (.ifCond .ne 48, 3) := by decide +kernel
theorem dL_studentHolds_87 : decode cL_studentHolds 87 = .ok (.aload_n 0, 1) := by decide +kernel
theorem dL_studentHolds_88 : decode cL_studentHolds 88 = .ok (.iload_n 1, 1) := by decide +kernel
theorem dL_studentHolds_89 : decode cL_studentHolds 89 = .ok (.iconst 1, 1) := by decide +kernel
theorem dL_studentHolds_90 : decode cL_studentHolds 90 = .ok (.iload 5, 2) := by decide +kernel
theorem dL_studentHolds_92 : decode cL_studentHolds 92 = .ok (.bipush 6, 2) := by decide +kernel
theorem dL_studentHolds_94 : decode cL_studentHolds 94 = .ok (.irem, 1) := by decide +kernel
theorem dL_studentHolds_95 : decode cL_studentHolds 95 = .ok (.invokestatic 98, 3) := by decide +kernel
theorem dL_studentHolds_98 : decode cL_studentHolds 98 = .ok (.aload_n 0, 1) := by decide +kernel
theorem dL_studentHolds_99 : decode cL_studentHolds 99 = .ok (.iload_n 1, 1) := by decide +kernel
theorem dL_studentHolds_100 : decode cL_studentHolds 100 = .ok (.iconst 0, 1) := by decide +kernel
theorem dL_studentHolds_101 : decode cL_studentHolds 101 = .ok (.iload 5, 2) := by decide +kernel
theorem dL_studentHolds_103 : decode cL_studentHolds 103 = .ok (.bipush 6, 2) := by decide +kernel
theorem dL_studentHolds_105 : decode cL_studentHolds 105 = .ok (.irem, 1) := by decide +kernel
theorem dL_studentHolds_106 : decode cL_studentHolds 106 = .ok (.invokestatic 98, 3) := by decide +kernel
theorem dL_studentHolds_109 : decode cL_studentHolds 109 = .ok (.aload_n 0, 1) := by decide +kernel
theorem dL_studentHolds_110 : decode cL_studentHolds 110 = .ok (.iload_n 1, 1) := by decide +kernel
theorem dL_studentHolds_111 : decode cL_studentHolds 111 = .ok (.iconst 0, 1) := by decide +kernel
theorem dL_studentHolds_112 : decode cL_studentHolds 112 = .ok (.iload 5, 2) := by decide +kernel
theorem dL_studentHolds_114 : decode cL_studentHolds 114 = .ok (.bipush 6, 2) := by decide +kernel
theorem dL_studentHolds_116 : decode cL_studentHolds 116 = .ok (.irem, 1) := by decide +kernel
theorem dL_studentHolds_117 : decode cL_studentHolds 117 = .ok (.bipush 6, 2) := by decide +kernel
theorem dL_studentHolds_119 : decode cL_studentHolds 119 = .ok (.iadd, 1) := by decide +kernel
theorem dL_studentHolds_120 : decode cL_studentHolds 120 = .ok (.invokestatic 98, 3) := by decide +kernel
theorem dL_studentHolds_123 : decode cL_studentHolds 123 = .ok (.ladd, 1) := by decide +kernel
theorem dL_studentHolds_124 : decode cL_studentHolds 124 = .ok (.lcmp, 1) := by decide +kernel
theorem dL_studentHolds_125 : decode cL_studentHolds 125 = .ok (.ifCond .ne 7, 3) := by decide +kernel
theorem dL_studentHolds_128 : decode cL_studentHolds 128 = .ok (.iconst 1, 1) := by decide +kernel
theorem dL_studentHolds_129 : decode cL_studentHolds 129 = .ok (.goto 4, 3) := by decide +kernel
theorem dL_studentHolds_132 : decode cL_studentHolds 132 = .ok (.iconst 0, 1) := by decide +kernel
theorem dL_studentHolds_133 : decode cL_studentHolds 133 = .ok (.istore_n 2, 1) := by decide +kernel
theorem dL_studentHolds_134 : decode cL_studentHolds 134 = .ok (.iinc 5 1, 3) := by decide +kernel
theorem dL_studentHolds_137 : decode cL_studentHolds 137 = .ok (.goto (-112), 3) := by decide +kernel
theorem dL_studentHolds_140 : decode cL_studentHolds 140 = .ok (.iload_n 2, 1) := by decide +kernel
theorem dL_studentHolds_141 : decode cL_studentHolds 141 = .ok (.ifCond .eq 49, 3) := by decide +kernel
theorem dL_studentHolds_144 : decode cL_studentHolds 144 = .ok (.lload_n 3, 1) := by decide +kernel
theorem dL_studentHolds_145 : decode cL_studentHolds 145 = .ok (.aload_n 0, 1) := by decide +kernel
theorem dL_studentHolds_146 : decode cL_studentHolds 146 = .ok (.iload_n 1, 1) := by decide +kernel
theorem dL_studentHolds_147 : decode cL_studentHolds 147 = .ok (.iconst 3, 1) := by decide +kernel
