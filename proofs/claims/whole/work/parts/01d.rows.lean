theorem dX2_draft_27 : decode cX2_draft 27 = .ok (.aload_n 0, 1) := by decide +kernel
theorem dX2_draft_28 : decode cX2_draft 28 = .ok (.getfield 25, 3) := by decide +kernel
theorem dX2_draft_31 : decode cX2_draft 31 = .ok (.iload_n 1, 1) := by decide +kernel
theorem dX2_draft_32 : decode cX2_draft 32 = .ok (.invokestatic 131, 3) := by decide +kernel
theorem dX2_draft_35 : decode cX2_draft 35 = .ok (.aload_n 0, 1) := by decide +kernel
theorem dX2_draft_36 : decode cX2_draft 36 = .ok (.dup, 1) := by decide +kernel
theorem dX2_draft_37 : decode cX2_draft 37 = .ok (.getfield 25, 3) := by decide +kernel
theorem dX2_draft_40 : decode cX2_draft 40 = .ok (.iconst 1, 1) := by decide +kernel
theorem dX2_draft_41 : decode cX2_draft 41 = .ok (.iadd, 1) := by decide +kernel
theorem dX2_draft_42 : decode cX2_draft 42 = .ok (.putfield 25, 3) := by decide +kernel
theorem dX2_draft_45 : decode cX2_draft 45 = .ok (.aload_n 0, 1) := by decide +kernel
theorem dX2_draft_46 : decode cX2_draft 46 = .ok (.getfield 25, 3) := by decide +kernel
theorem dX2_draft_49 : decode cX2_draft 49 = .ok (.ireturn, 1) := by decide +kernel
theorem dX2_clear_0 : decode cX2_clear 0 = .ok (.aload_n 0, 1) := by decide +kernel
theorem dX2_clear_1 : decode cX2_clear 1 = .ok (.getfield 25, 3) := by decide +kernel
theorem dX2_clear_4 : decode cX2_clear 4 = .ok (.istore_n 1, 1) := by decide +kernel
theorem dX2_clear_5 : decode cX2_clear 5 = .ok (.aload_n 0, 1) := by decide +kernel
theorem dX2_clear_6 : decode cX2_clear 6 = .ok (.iconst 0, 1) := by decide +kernel
theorem dX2_clear_7 : decode cX2_clear 7 = .ok (.putfield 25, 3) := by decide +kernel
theorem dX2_clear_10 : decode cX2_clear 10 = .ok (.iload_n 1, 1) := by decide +kernel
theorem dX2_clear_11 : decode cX2_clear 11 = .ok (.ireturn, 1) := by decide +kernel
set_option maxRecDepth 20000 in
theorem ggX2_contest_X2_contestOfDraft : GoodIn wsX2_contest wsX2_contestOfDraft := goodIn_r _ [10, 11, 12, 13, 4, 14, 3, 15, 16, 17, 18, 19, 20, 21, 22, 23, 24, 25, 9, 26, 27, 28, 29, 30, 31, 32, 33, 34, 35, 36, 37, 38, 39, 40, 41, 42, 43, 44, 45, 46, 47, 48, 49, 50, 51, 57, 58, 59, 52, 53, 54, 55, 56, 60, 61, 62, 63, 64, 65, 66, 67] (by decide +kernel) (by decide +kernel)
set_option maxRecDepth 20000 in
theorem gX2_contest_X2_contestOfDraft : GoodIn wsX2_contest (wsV RX2 139 RX2 yX2_contestOfDraft wsX2_contestOfDraft) := goodIn_app (goodIn_of _ (by decide +kernel)) ggX2_contest_X2_contestOfDraft
theorem dX2_contest_0 : decode cX2_contest 0 = .ok (.aload_n 0, 1) := by decide +kernel
theorem dX2_contest_1 : decode cX2_contest 1 = .ok (.getfield 25, 3) := by decide +kernel
theorem dX2_contest_4 : decode cX2_contest 4 = .ok (.ifCond .ne 13, 3) := by decide +kernel
theorem dX2_contest_7 : decode cX2_contest 7 = .ok (.new 33, 3) := by decide +kernel
theorem dX2_contest_10 : decode cX2_contest 10 = .ok (.dup, 1) := by decide +kernel
theorem dX2_contest_11 : decode cX2_contest 11 = .ok (.ldc 135, 2) := by decide +kernel
theorem dX2_contest_13 : decode cX2_contest 13 = .ok (.invokespecial 37, 3) := by decide +kernel
theorem dX2_contest_16 : decode cX2_contest 16 = .ok (.athrow, 1) := by decide +kernel
theorem dX2_contest_17 : decode cX2_contest 17 = .ok (.aload_n 0, 1) := by decide +kernel
theorem dX2_contest_18 : decode cX2_contest 18 = .ok (.getfield 11, 3) := by decide +kernel
theorem dX2_contest_21 : decode cX2_contest 21 = .ok (.iconst 0, 1) := by decide +kernel
theorem dX2_contest_22 : decode cX2_contest 22 = .ok (.aaload, 1) := by decide +kernel
theorem dX2_contest_23 : decode cX2_contest 23 = .ok (.ifnonnull 13, 3) := by decide +kernel
theorem dX2_contest_26 : decode cX2_contest 26 = .ok (.new 33, 3) := by decide +kernel
theorem dX2_contest_29 : decode cX2_contest 29 = .ok (.dup, 1) := by decide +kernel
theorem dX2_contest_30 : decode cX2_contest 30 = .ok (.ldc 137, 2) := by decide +kernel
theorem dX2_contest_32 : decode cX2_contest 32 = .ok (.invokespecial 37, 3) := by decide +kernel
theorem dX2_contest_35 : decode cX2_contest 35 = .ok (.athrow, 1) := by decide +kernel
theorem dX2_contest_36 : decode cX2_contest 36 = .ok (.iconst 0, 1) := by decide +kernel
theorem dX2_contest_37 : decode cX2_contest 37 = .ok (.istore_n 1, 1) := by decide +kernel
theorem dX2_contest_38 : decode cX2_contest 38 = .ok (.iload_n 1, 1) := by decide +kernel
theorem dX2_contest_39 : decode cX2_contest 39 = .ok (.aload_n 0, 1) := by decide +kernel
theorem dX2_contest_40 : decode cX2_contest 40 = .ok (.getfield 17, 3) := by decide +kernel
theorem dX2_contest_43 : decode cX2_contest 43 = .ok (.arraylength, 1) := by decide +kernel
theorem dX2_contest_44 : decode cX2_contest 44 = .ok (.if_icmp .ge 35, 3) := by decide +kernel
theorem dX2_contest_47 : decode cX2_contest 47 = .ok (.aload_n 0, 1) := by decide +kernel
theorem dX2_contest_48 : decode cX2_contest 48 = .ok (.getfield 17, 3) := by decide +kernel
theorem dX2_contest_51 : decode cX2_contest 51 = .ok (.iload_n 1, 1) := by decide +kernel
theorem dX2_contest_52 : decode cX2_contest 52 = .ok (.aaload, 1) := by decide +kernel
theorem dX2_contest_53 : decode cX2_contest 53 = .ok (.ifnonnull 20, 3) := by decide +kernel
theorem dX2_contest_56 : decode cX2_contest 56 = .ok (.aload_n 0, 1) := by decide +kernel
theorem dX2_contest_57 : decode cX2_contest 57 = .ok (.getfield 17, 3) := by decide +kernel
theorem dX2_contest_60 : decode cX2_contest 60 = .ok (.iload_n 1, 1) := by decide +kernel
theorem dX2_contest_61 : decode cX2_contest 61 = .ok (.aload_n 0, 1) := by decide +kernel
theorem dX2_contest_62 : decode cX2_contest 62 = .ok (.invokevirtual 139, 3) := by decide +kernel
theorem dX2_contest_65 : decode cX2_contest 65 = .ok (.aastore, 1) := by decide +kernel
theorem dX2_contest_66 : decode cX2_contest 66 = .ok (.aload_n 0, 1) := by decide +kernel
theorem dX2_contest_67 : decode cX2_contest 67 = .ok (.iconst 0, 1) := by decide +kernel
theorem dX2_contest_68 : decode cX2_contest 68 = .ok (.putfield 25, 3) := by decide +kernel
theorem dX2_contest_71 : decode cX2_contest 71 = .ok (.iload_n 1, 1) := by decide +kernel
theorem dX2_contest_72 : decode cX2_contest 72 = .ok (.ireturn, 1) := by decide +kernel
theorem dX2_contest_73 : decode cX2_contest 73 = .ok (.iinc 1 1, 3) := by decide +kernel
theorem dX2_contest_76 : decode cX2_contest 76 = .ok (.goto (-38), 3) := by decide +kernel
theorem dX2_contest_79 : decode cX2_contest 79 = .ok (.new 33, 3) := by decide +kernel
theorem dX2_contest_82 : decode cX2_contest 82 = .ok (.dup, 1) := by decide +kernel
theorem dX2_contest_83 : decode cX2_contest 83 = .ok (.ldc 143, 2) := by decide +kernel
theorem dX2_contest_85 : decode cX2_contest 85 = .ok (.invokespecial 37, 3) := by decide +kernel
theorem dX2_contest_88 : decode cX2_contest 88 = .ok (.athrow, 1) := by decide +kernel
set_option maxRecDepth 20000 in
theorem ggX2_result_X2_contestAt : GoodIn wsX2_result wsX2_contestAt := goodIn_ca (goodIn_r _ [10, 11, 12, 13, 31, 32, 33, 34, 35] (by decide +kernel) (by decide +kernel)) (goodIn_sub (fun _ h => List.mem_cons_of_mem _ (List.mem_append_right _ h)) (by decide +kernel))
set_option maxRecDepth 20000 in
theorem gX2_result_X2_contestAt : GoodIn wsX2_result (wsV RX2 145 RX2 yX2_contestAt wsX2_contestAt) := goodIn_app (goodIn_of _ (by decide +kernel)) ggX2_result_X2_contestAt
set_option maxRecDepth 20000 in
theorem ggX2_result_X2_entrantTime : GoodIn wsX2_result wsX2_entrantTime := goodIn_ca (goodIn_r _ [16, 11, 12, 17, 18, 9, 19, 28, 29, 30] (by decide +kernel) (by decide +kernel)) (goodIn_sub (fun _ h => List.mem_cons_of_mem _ (List.mem_append_right _ h)) (by decide +kernel))
set_option maxRecDepth 20000 in
theorem gX2_result_X2_entrantTime : GoodIn wsX2_result (va_wsS RX2 149 yX2_entrantTime wsX2_entrantTime) := goodIn_app (goodIn_of _ (by decide +kernel)) ggX2_result_X2_entrantTime
set_option maxRecDepth 20000 in
theorem ggX2_result_X0_hasResult : GoodIn wsX2_result wsX0_hasResult := goodIn_r _ [23, 24, 18, 9, 19, 28, 29, 30] (by decide +kernel) (by decide +kernel)
set_option maxRecDepth 20000 in
theorem gX2_result_X0_hasResult_n156 : GoodIn wsX2_result (wsX0_hasResult) := ggX2_result_X0_hasResult
set_option maxRecDepth 20000 in
theorem ggX2_result_X2_put : GoodIn wsX2_result wsX2_put := goodIn_r _ [27] (by decide +kernel) (by decide +kernel)
set_option maxRecDepth 20000 in
theorem gX2_result_X2_put : GoodIn wsX2_result (va_wsS RX2 131 yX2_put wsX2_put) := goodIn_app (goodIn_of _ (by decide +kernel)) ggX2_result_X2_put
theorem dX2_result_0 : decode cX2_result 0 = .ok (.aload_n 0, 1) := by decide +kernel
theorem dX2_result_1 : decode cX2_result 1 = .ok (.iload_n 1, 1) := by decide +kernel
theorem dX2_result_2 : decode cX2_result 2 = .ok (.invokevirtual 145, 3) := by decide +kernel
theorem dX2_result_5 : decode cX2_result 5 = .ok (.astore 4, 2) := by decide +kernel
theorem dX2_result_7 : decode cX2_result 7 = .ok (.aload 4, 2) := by decide +kernel
theorem dX2_result_9 : decode cX2_result 9 = .ok (.iload_n 2, 1) := by decide +kernel
theorem dX2_result_10 : decode cX2_result 10 = .ok (.invokestatic 149, 3) := by decide +kernel
theorem dX2_result_13 : decode cX2_result 13 = .ok (.istore 5, 2) := by decide +kernel
theorem dX2_result_15 : decode cX2_result 15 = .ok (.iload_n 3, 1) := by decide +kernel
theorem dX2_result_16 : decode cX2_result 16 = .ok (.iconst 1, 1) := by decide +kernel
theorem dX2_result_17 : decode cX2_result 17 = .ok (.if_icmp .lt 9, 3) := by decide +kernel
theorem dX2_result_20 : decode cX2_result 20 = .ok (.iload_n 3, 1) := by decide +kernel
theorem dX2_result_21 : decode cX2_result 21 = .ok (.ldc 153, 2) := by decide +kernel
theorem dX2_result_23 : decode cX2_result 23 = .ok (.if_icmp .le 13, 3) := by decide +kernel
theorem dX2_result_26 : decode cX2_result 26 = .ok (.new 44, 3) := by decide +kernel
theorem dX2_result_29 : decode cX2_result 29 = .ok (.dup, 1) := by decide +kernel
theorem dX2_result_30 : decode cX2_result 30 = .ok (.ldc 154, 2) := by decide +kernel
theorem dX2_result_32 : decode cX2_result 32 = .ok (.invokespecial 48, 3) := by decide +kernel
theorem dX2_result_35 : decode cX2_result 35 = .ok (.athrow, 1) := by decide +kernel
theorem dX2_result_36 : decode cX2_result 36 = .ok (.aload 4, 2) := by decide +kernel
theorem dX2_result_38 : decode cX2_result 38 = .ok (.iload_n 2, 1) := by decide +kernel
theorem dX2_result_39 : decode cX2_result 39 = .ok (.invokevirtual 156, 3) := by decide +kernel
theorem dX2_result_42 : decode cX2_result 42 = .ok (.ifCond .eq 13, 3) := by decide +kernel
theorem dX2_result_45 : decode cX2_result 45 = .ok (.new 33, 3) := by decide +kernel
theorem dX2_result_48 : decode cX2_result 48 = .ok (.dup, 1) := by decide +kernel
theorem dX2_result_49 : decode cX2_result 49 = .ok (.ldc 160, 2) := by decide +kernel
theorem dX2_result_51 : decode cX2_result 51 = .ok (.invokespecial 37, 3) := by decide +kernel
theorem dX2_result_54 : decode cX2_result 54 = .ok (.athrow, 1) := by decide +kernel
theorem dX2_result_55 : decode cX2_result 55 = .ok (.iload 5, 2) := by decide +kernel
theorem dX2_result_57 : decode cX2_result 57 = .ok (.ifCond .ne 7, 3) := by decide +kernel
theorem dX2_result_60 : decode cX2_result 60 = .ok (.iconst 0, 1) := by decide +kernel
theorem dX2_result_61 : decode cX2_result 61 = .ok (.goto 11, 3) := by decide +kernel
theorem dX2_result_64 : decode cX2_result 64 = .ok (.sipush 1000, 3) := by decide +kernel
theorem dX2_result_67 : decode cX2_result 67 = .ok (.iload_n 3, 1) := by decide +kernel
theorem dX2_result_68 : decode cX2_result 68 = .ok (.imul, 1) := by decide +kernel
theorem dX2_result_69 : decode cX2_result 69 = .ok (.iload 5, 2) := by decide +kernel
theorem dX2_result_71 : decode cX2_result 71 = .ok (.idiv, 1) := by decide +kernel
theorem dX2_result_72 : decode cX2_result 72 = .ok (.istore 6, 2) := by decide +kernel
theorem dX2_result_74 : decode cX2_result 74 = .ok (.aload 4, 2) := by decide +kernel
theorem dX2_result_76 : decode cX2_result 76 = .ok (.getfield 162, 3) := by decide +kernel
theorem dX2_result_79 : decode cX2_result 79 = .ok (.iload_n 2, 1) := by decide +kernel
theorem dX2_result_80 : decode cX2_result 80 = .ok (.iload_n 3, 1) := by decide +kernel
theorem dX2_result_81 : decode cX2_result 81 = .ok (.invokestatic 131, 3) := by decide +kernel
theorem dX2_result_84 : decode cX2_result 84 = .ok (.aload 4, 2) := by decide +kernel
theorem dX2_result_86 : decode cX2_result 86 = .ok (.getfield 165, 3) := by decide +kernel
theorem dX2_result_89 : decode cX2_result 89 = .ok (.iload_n 2, 1) := by decide +kernel
theorem dX2_result_90 : decode cX2_result 90 = .ok (.iload 6, 2) := by decide +kernel
theorem dX2_result_92 : decode cX2_result 92 = .ok (.invokestatic 131, 3) := by decide +kernel
theorem dX2_result_95 : decode cX2_result 95 = .ok (.iload 6, 2) := by decide +kernel
theorem dX2_result_97 : decode cX2_result 97 = .ok (.ireturn, 1) := by decide +kernel
set_option maxRecDepth 20000 in
theorem ggX2_of_X2_contestAt : GoodIn wsX2_of wsX2_contestAt := goodIn_ca (goodIn_r _ [7, 8, 9, 10, 31, 32, 33, 34, 35] (by decide +kernel) (by decide +kernel)) (goodIn_sub (fun _ h => List.mem_cons_of_mem _ (List.mem_append_right _ h)) (by decide +kernel))
set_option maxRecDepth 20000 in
theorem gX2_of_X2_contestAt : GoodIn wsX2_of (wsV RX2 145 RX2 yX2_contestAt wsX2_contestAt) := goodIn_app (goodIn_of _ (by decide +kernel)) ggX2_of_X2_contestAt
set_option maxRecDepth 20000 in
theorem ggX2_of_X2_entrantTime : GoodIn wsX2_of wsX2_entrantTime := goodIn_ca (goodIn_r _ [13, 8, 9, 14, 15, 6, 16, 36, 37, 38] (by decide +kernel) (by decide +kernel)) (goodIn_sub (fun _ h => List.mem_cons_of_mem _ (List.mem_append_right _ h)) (by decide +kernel))
set_option maxRecDepth 20000 in
theorem gX2_of_X2_entrantTime : GoodIn wsX2_of (va_wsS RX2 149 yX2_entrantTime wsX2_entrantTime) := goodIn_app (goodIn_of _ (by decide +kernel)) ggX2_of_X2_entrantTime
set_option maxRecDepth 20000 in
theorem ggX2_of_X0_hasResult : GoodIn wsX2_of wsX0_hasResult := goodIn_r _ [20, 21, 15, 6, 16, 36, 37, 38] (by decide +kernel) (by decide +kernel)
set_option maxRecDepth 20000 in
theorem gX2_of_X0_hasResult_n156 : GoodIn wsX2_of (wsX0_hasResult) := ggX2_of_X0_hasResult
set_option maxRecDepth 20000 in
theorem ggX2_of_X0_told : GoodIn wsX2_of wsX0_told := goodIn_r _ [24, 21, 25, 15, 6, 16, 26, 27, 28, 18, 29, 30, 17, 19, 20, 36, 37, 38] (by decide +kernel) (by decide +kernel)
set_option maxRecDepth 20000 in
theorem gX2_of_X0_told_n170 : GoodIn wsX2_of (wsX0_told) := ggX2_of_X0_told
theorem dX2_of_0 : decode cX2_of 0 = .ok (.aload_n 0, 1) := by decide +kernel
theorem dX2_of_1 : decode cX2_of 1 = .ok (.iload_n 1, 1) := by decide +kernel
theorem dX2_of_2 : decode cX2_of 2 = .ok (.invokevirtual 145, 3) := by decide +kernel
theorem dX2_of_5 : decode cX2_of 5 = .ok (.astore 4, 2) := by decide +kernel
theorem dX2_of_7 : decode cX2_of 7 = .ok (.aload 4, 2) := by decide +kernel
theorem dX2_of_9 : decode cX2_of 9 = .ok (.iload_n 2, 1) := by decide +kernel
theorem dX2_of_10 : decode cX2_of 10 = .ok (.invokestatic 149, 3) := by decide +kernel
theorem dX2_of_13 : decode cX2_of 13 = .ok (.istore 5, 2) := by decide +kernel
theorem dX2_of_15 : decode cX2_of 15 = .ok (.iload_n 3, 1) := by decide +kernel
theorem dX2_of_16 : decode cX2_of 16 = .ok (.ifCond .lt 8, 3) := by decide +kernel
theorem dX2_of_19 : decode cX2_of 19 = .ok (.iload_n 3, 1) := by decide +kernel
theorem dX2_of_20 : decode cX2_of 20 = .ok (.iconst 3, 1) := by decide +kernel
theorem dX2_of_21 : decode cX2_of 21 = .ok (.if_icmp .le 13, 3) := by decide +kernel
theorem dX2_of_24 : decode cX2_of 24 = .ok (.new 44, 3) := by decide +kernel
theorem dX2_of_27 : decode cX2_of 27 = .ok (.dup, 1) := by decide +kernel
theorem dX2_of_28 : decode cX2_of 28 = .ok (.ldc 168, 2) := by decide +kernel
theorem dX2_of_30 : decode cX2_of 30 = .ok (.invokespecial 48, 3) := by decide +kernel
theorem dX2_of_33 : decode cX2_of 33 = .ok (.athrow, 1) := by decide +kernel
theorem dX2_of_34 : decode cX2_of 34 = .ok (.iload_n 3, 1) := by decide +kernel
theorem dX2_of_35 : decode cX2_of 35 = .ok (.ifCond .ne 6, 3) := by decide +kernel
theorem dX2_of_38 : decode cX2_of 38 = .ok (.iload 5, 2) := by decide +kernel
theorem dX2_of_40 : decode cX2_of 40 = .ok (.ireturn, 1) := by decide +kernel
theorem dX2_of_41 : decode cX2_of 41 = .ok (.aload 4, 2) := by decide +kernel
theorem dX2_of_43 : decode cX2_of 43 = .ok (.iload_n 2, 1) := by decide +kernel
theorem dX2_of_44 : decode cX2_of 44 = .ok (.invokevirtual 156, 3) := by decide +kernel
theorem dX2_of_47 : decode cX2_of 47 = .ok (.ifCond .eq 13, 3) := by decide +kernel
theorem dX2_of_50 : decode cX2_of 50 = .ok (.aload 4, 2) := by decide +kernel
theorem dX2_of_52 : decode cX2_of 52 = .ok (.iload_n 2, 1) := by decide +kernel
theorem dX2_of_53 : decode cX2_of 53 = .ok (.iload_n 3, 1) := by decide +kernel
theorem dX2_of_54 : decode cX2_of 54 = .ok (.invokevirtual 170, 3) := by decide +kernel
theorem dX2_of_57 : decode cX2_of 57 = .ok (.goto 4, 3) := by decide +kernel
theorem dX2_of_60 : decode cX2_of 60 = .ok (.iconst (-1), 1) := by decide +kernel
theorem dX2_of_61 : decode cX2_of 61 = .ok (.ireturn, 1) := by decide +kernel
set_option maxRecDepth 20000 in
theorem ggX2_ranked_X2_contestAt : GoodIn wsX2_ranked wsX2_contestAt := goodIn_ca (goodIn_r _ [7, 1, 2, 8, 25, 26, 27, 28, 29] (by decide +kernel) (by decide +kernel)) (goodIn_sub (fun _ h => List.mem_cons_of_mem _ (List.mem_append_right _ h)) (by decide +kernel))
set_option maxRecDepth 20000 in
theorem gX2_ranked_X2_contestAt : GoodIn wsX2_ranked (wsV RX2 145 RX2 yX2_contestAt wsX2_contestAt) := goodIn_app (goodIn_of _ (by decide +kernel)) ggX2_ranked_X2_contestAt
set_option maxRecDepth 20000 in
theorem ggX2_ranked_X0_holderOf : GoodIn wsX2_ranked wsX0_holderOf := goodIn_r _ [12, 13, 14, 15, 10, 16, 17, 18, 6, 19, 20, 21, 22, 23, 24, 30, 31, 32] (by decide +kernel) (by decide +kernel)
set_option maxRecDepth 20000 in
theorem gX2_ranked_X0_holderOf_n175 : GoodIn wsX2_ranked (wsX0_holderOf) := ggX2_ranked_X0_holderOf
theorem dX2_ranked_0 : decode cX2_ranked 0 = .ok (.aload_n 0, 1) := by decide +kernel
theorem dX2_ranked_1 : decode cX2_ranked 1 = .ok (.iload_n 1, 1) := by decide +kernel
theorem dX2_ranked_2 : decode cX2_ranked 2 = .ok (.invokevirtual 145, 3) := by decide +kernel
theorem dX2_ranked_5 : decode cX2_ranked 5 = .ok (.astore_n 3, 1) := by decide +kernel
theorem dX2_ranked_6 : decode cX2_ranked 6 = .ok (.iload_n 2, 1) := by decide +kernel
theorem dX2_ranked_7 : decode cX2_ranked 7 = .ok (.ifCond .ge 13, 3) := by decide +kernel
theorem dX2_ranked_10 : decode cX2_ranked 10 = .ok (.new 102, 3) := by decide +kernel
theorem dX2_ranked_13 : decode cX2_ranked 13 = .ok (.dup, 1) := by decide +kernel
theorem dX2_ranked_14 : decode cX2_ranked 14 = .ok (.ldc 173, 2) := by decide +kernel
theorem dX2_ranked_16 : decode cX2_ranked 16 = .ok (.invokespecial 106, 3) := by decide +kernel
theorem dX2_ranked_19 : decode cX2_ranked 19 = .ok (.athrow, 1) := by decide +kernel
theorem dX2_ranked_20 : decode cX2_ranked 20 = .ok (.aload_n 3, 1) := by decide +kernel
theorem dX2_ranked_21 : decode cX2_ranked 21 = .ok (.iload_n 2, 1) := by decide +kernel
theorem dX2_ranked_22 : decode cX2_ranked 22 = .ok (.invokevirtual 175, 3) := by decide +kernel
theorem dX2_ranked_25 : decode cX2_ranked 25 = .ok (.ireturn, 1) := by decide +kernel
theorem dX2_studentAt_0 : decode cX2_studentAt 0 = .ok (.iload_n 1, 1) := by decide +kernel
theorem dX2_studentAt_1 : decode cX2_studentAt 1 = .ok (.ifCond .lt 25, 3) := by decide +kernel
theorem dX2_studentAt_4 : decode cX2_studentAt 4 = .ok (.iload_n 1, 1) := by decide +kernel
theorem dX2_studentAt_5 : decode cX2_studentAt 5 = .ok (.aload_n 0, 1) := by decide +kernel
theorem dX2_studentAt_6 : decode cX2_studentAt 6 = .ok (.getfield 11, 3) := by decide +kernel
theorem dX2_studentAt_9 : decode cX2_studentAt 9 = .ok (.arraylength, 1) := by decide +kernel
theorem dX2_studentAt_10 : decode cX2_studentAt 10 = .ok (.if_icmp .ge 16, 3) := by decide +kernel
theorem dX2_studentAt_13 : decode cX2_studentAt 13 = .ok (.aload_n 0, 1) := by decide +kernel
theorem dX2_studentAt_14 : decode cX2_studentAt 14 = .ok (.getfield 11, 3) := by decide +kernel
theorem dX2_studentAt_17 : decode cX2_studentAt 17 = .ok (.iload_n 1, 1) := by decide +kernel
theorem dX2_studentAt_18 : decode cX2_studentAt 18 = .ok (.aaload, 1) := by decide +kernel
theorem dX2_studentAt_19 : decode cX2_studentAt 19 = .ok (.astore_n 2, 1) := by decide +kernel
theorem dX2_studentAt_20 : decode cX2_studentAt 20 = .ok (.aload_n 2, 1) := by decide +kernel
theorem dX2_studentAt_21 : decode cX2_studentAt 21 = .ok (.ifnull 5, 3) := by decide +kernel
theorem dX2_studentAt_24 : decode cX2_studentAt 24 = .ok (.aload_n 2, 1) := by decide +kernel
theorem dX2_studentAt_25 : decode cX2_studentAt 25 = .ok (.areturn, 1) := by decide +kernel
theorem dX2_studentAt_26 : decode cX2_studentAt 26 = .ok (.new 102, 3) := by decide +kernel
theorem dX2_studentAt_29 : decode cX2_studentAt 29 = .ok (.dup, 1) := by decide +kernel
theorem dX2_studentAt_30 : decode cX2_studentAt 30 = .ok (.ldc 178, 2) := by decide +kernel
theorem dX2_studentAt_32 : decode cX2_studentAt 32 = .ok (.invokespecial 106, 3) := by decide +kernel
theorem dX2_studentAt_35 : decode cX2_studentAt 35 = .ok (.athrow, 1) := by decide +kernel
theorem dX2_contestAt_0 : decode cX2_contestAt 0 = .ok (.iload_n 1, 1) := by decide +kernel
theorem dX2_contestAt_1 : decode cX2_contestAt 1 = .ok (.ifCond .lt 25, 3) := by decide +kernel
theorem dX2_contestAt_4 : decode cX2_contestAt 4 = .ok (.iload_n 1, 1) := by decide +kernel
theorem dX2_contestAt_5 : decode cX2_contestAt 5 = .ok (.aload_n 0, 1) := by decide +kernel
theorem dX2_contestAt_6 : decode cX2_contestAt 6 = .ok (.getfield 17, 3) := by decide +kernel
theorem dX2_contestAt_9 : decode cX2_contestAt 9 = .ok (.arraylength, 1) := by decide +kernel
theorem dX2_contestAt_10 : decode cX2_contestAt 10 = .ok (.if_icmp .ge 16, 3) := by decide +kernel
theorem dX2_contestAt_13 : decode cX2_contestAt 13 = .ok (.aload_n 0, 1) := by decide +kernel
theorem dX2_contestAt_14 : decode cX2_contestAt 14 = .ok (.getfield 17, 3) := by decide +kernel
theorem dX2_contestAt_17 : decode cX2_contestAt 17 = .ok (.iload_n 1, 1) := by decide +kernel
theorem dX2_contestAt_18 : decode cX2_contestAt 18 = .ok (.aaload, 1) := by decide +kernel
theorem dX2_contestAt_19 : decode cX2_contestAt 19 = .ok (.astore_n 2, 1) := by decide +kernel
theorem dX2_contestAt_20 : decode cX2_contestAt 20 = .ok (.aload_n 2, 1) := by decide +kernel
theorem dX2_contestAt_21 : decode cX2_contestAt 21 = .ok (.ifnull 5, 3) := by decide +kernel
theorem dX2_contestAt_24 : decode cX2_contestAt 24 = .ok (.aload_n 2, 1) := by decide +kernel
theorem dX2_contestAt_25 : decode cX2_contestAt 25 = .ok (.areturn, 1) := by decide +kernel
theorem dX2_contestAt_26 : decode cX2_contestAt 26 = .ok (.new 102, 3) := by decide +kernel
theorem dX2_contestAt_29 : decode cX2_contestAt 29 = .ok (.dup, 1) := by decide +kernel
theorem dX2_contestAt_30 : decode cX2_contestAt 30 = .ok (.ldc 180, 2) := by decide +kernel
theorem dX2_contestAt_32 : decode cX2_contestAt 32 = .ok (.invokespecial 106, 3) := by decide +kernel
theorem dX2_contestAt_35 : decode cX2_contestAt 35 = .ok (.athrow, 1) := by decide +kernel
set_option maxRecDepth 20000 in
theorem ggX2_entrantTime_X2_at : GoodIn wsX2_entrantTime wsX2_at := goodIn_r _ [6] (by decide +kernel) (by decide +kernel)
set_option maxRecDepth 20000 in
theorem gX2_entrantTime_X2_at : GoodIn wsX2_entrantTime (va_wsS RX2 70 yX2_at wsX2_at) := goodIn_app (goodIn_of _ (by decide +kernel)) ggX2_entrantTime_X2_at
theorem dX2_entrantTime_0 : decode cX2_entrantTime 0 = .ok (.aload_n 0, 1) := by decide +kernel
theorem dX2_entrantTime_1 : decode cX2_entrantTime 1 = .ok (.getfield 182, 3) := by decide +kernel
theorem dX2_entrantTime_4 : decode cX2_entrantTime 4 = .ok (.iload_n 1, 1) := by decide +kernel
theorem dX2_entrantTime_5 : decode cX2_entrantTime 5 = .ok (.invokestatic 70, 3) := by decide +kernel
theorem dX2_entrantTime_8 : decode cX2_entrantTime 8 = .ok (.istore_n 2, 1) := by decide +kernel
theorem dX2_entrantTime_9 : decode cX2_entrantTime 9 = .ok (.iload_n 2, 1) := by decide +kernel
theorem dX2_entrantTime_10 : decode cX2_entrantTime 10 = .ok (.ifCond .gt 13, 3) := by decide +kernel
theorem dX2_entrantTime_13 : decode cX2_entrantTime 13 = .ok (.new 102, 3) := by decide +kernel
theorem dX2_entrantTime_16 : decode cX2_entrantTime 16 = .ok (.dup, 1) := by decide +kernel
theorem dX2_entrantTime_17 : decode cX2_entrantTime 17 = .ok (.ldc 185, 2) := by decide +kernel
theorem dX2_entrantTime_19 : decode cX2_entrantTime 19 = .ok (.invokespecial 106, 3) := by decide +kernel
theorem dX2_entrantTime_22 : decode cX2_entrantTime 22 = .ok (.athrow, 1) := by decide +kernel
theorem dX2_entrantTime_23 : decode cX2_entrantTime 23 = .ok (.iload_n 2, 1) := by decide +kernel
theorem dX2_entrantTime_24 : decode cX2_entrantTime 24 = .ok (.ireturn, 1) := by decide +kernel
theorem dX2_needLetter_0 : decode cX2_needLetter 0 = .ok (.iload_n 0, 1) := by decide +kernel
theorem dX2_needLetter_1 : decode cX2_needLetter 1 = .ok (.ifCond .lt 9, 3) := by decide +kernel
theorem dX2_needLetter_4 : decode cX2_needLetter 4 = .ok (.iload_n 0, 1) := by decide +kernel
theorem dX2_needLetter_5 : decode cX2_needLetter 5 = .ok (.bipush 12, 2) := by decide +kernel
theorem dX2_needLetter_7 : decode cX2_needLetter 7 = .ok (.if_icmp .lt 13, 3) := by decide +kernel
theorem dX2_needLetter_10 : decode cX2_needLetter 10 = .ok (.new 102, 3) := by decide +kernel
theorem dX2_needLetter_13 : decode cX2_needLetter 13 = .ok (.dup, 1) := by decide +kernel
theorem dX2_needLetter_14 : decode cX2_needLetter 14 = .ok (.ldc 187, 2) := by decide +kernel
theorem dX2_needLetter_16 : decode cX2_needLetter 16 = .ok (.invokespecial 106, 3) := by decide +kernel
theorem dX2_needLetter_19 : decode cX2_needLetter 19 = .ok (.athrow, 1) := by decide +kernel
theorem dX2_needLetter_20 : decode cX2_needLetter 20 = .ok (.return_, 1) := by decide +kernel
theorem dX2_needKey_0 : decode cX2_needKey 0 = .ok (.iload_n 0, 1) := by decide +kernel
theorem dX2_needKey_1 : decode cX2_needKey 1 = .ok (.ifCond .lt 9, 3) := by decide +kernel
theorem dX2_needKey_4 : decode cX2_needKey 4 = .ok (.iload_n 0, 1) := by decide +kernel
theorem dX2_needKey_5 : decode cX2_needKey 5 = .ok (.bipush 12, 2) := by decide +kernel
theorem dX2_needKey_7 : decode cX2_needKey 7 = .ok (.if_icmp .lt 13, 3) := by decide +kernel
theorem dX2_needKey_10 : decode cX2_needKey 10 = .ok (.new 102, 3) := by decide +kernel
theorem dX2_needKey_13 : decode cX2_needKey 13 = .ok (.dup, 1) := by decide +kernel
theorem dX2_needKey_14 : decode cX2_needKey 14 = .ok (.ldc 189, 2) := by decide +kernel
theorem dX2_needKey_16 : decode cX2_needKey 16 = .ok (.invokespecial 106, 3) := by decide +kernel
theorem dX2_needKey_19 : decode cX2_needKey 19 = .ok (.athrow, 1) := by decide +kernel
theorem dX2_needKey_20 : decode cX2_needKey 20 = .ok (.return_, 1) := by decide +kernel
set_option maxRecDepth 20000 in
theorem ggX2_needTwoKeys_X2_needKey : GoodIn wsX2_needTwoKeys wsX2_needKey := goodIn_ca (goodIn_r _ [6, 7, 8] (by decide +kernel) (by decide +kernel)) (goodIn_sub (fun _ h => List.mem_cons_of_mem _ (List.mem_append_right _ h)) (by decide +kernel))
set_option maxRecDepth 20000 in
theorem gX2_needTwoKeys_X2_needKey : GoodIn wsX2_needTwoKeys (va_wsS RX2 74 yX2_needKey wsX2_needKey) := goodIn_app (goodIn_of _ (by decide +kernel)) ggX2_needTwoKeys_X2_needKey
theorem dX2_needTwoKeys_0 : decode cX2_needTwoKeys 0 = .ok (.iload_n 0, 1) := by decide +kernel
theorem dX2_needTwoKeys_1 : decode cX2_needTwoKeys 1 = .ok (.invokestatic 74, 3) := by decide +kernel
theorem dX2_needTwoKeys_4 : decode cX2_needTwoKeys 4 = .ok (.iload_n 1, 1) := by decide +kernel
theorem dX2_needTwoKeys_5 : decode cX2_needTwoKeys 5 = .ok (.invokestatic 74, 3) := by decide +kernel
theorem dX2_needTwoKeys_8 : decode cX2_needTwoKeys 8 = .ok (.iload_n 0, 1) := by decide +kernel
theorem dX2_needTwoKeys_9 : decode cX2_needTwoKeys 9 = .ok (.iload_n 1, 1) := by decide +kernel
theorem dX2_needTwoKeys_10 : decode cX2_needTwoKeys 10 = .ok (.if_icmp .ne 13, 3) := by decide +kernel
theorem dX2_needTwoKeys_13 : decode cX2_needTwoKeys 13 = .ok (.new 44, 3) := by decide +kernel
theorem dX2_needTwoKeys_16 : decode cX2_needTwoKeys 16 = .ok (.dup, 1) := by decide +kernel
theorem dX2_needTwoKeys_17 : decode cX2_needTwoKeys 17 = .ok (.ldc 191, 2) := by decide +kernel
theorem dX2_needTwoKeys_19 : decode cX2_needTwoKeys 19 = .ok (.invokespecial 48, 3) := by decide +kernel
theorem dX2_needTwoKeys_22 : decode cX2_needTwoKeys 22 = .ok (.athrow, 1) := by decide +kernel
theorem dX2_needTwoKeys_23 : decode cX2_needTwoKeys 23 = .ok (.return_, 1) := by decide +kernel
set_option maxRecDepth 20000 in
theorem ggX2_contestOfDraft_X0_init : GoodIn wsX2_contestOfDraft wsX0_init := goodIn_r _ [8, 9, 10, 11, 12, 13, 14, 15, 45, 46, 47] (by decide +kernel) (by decide +kernel)
set_option maxRecDepth 20000 in
theorem gX2_contestOfDraft_X0_init_n193 : GoodIn wsX2_contestOfDraft (wsX0_init) := ggX2_contestOfDraft_X0_init
set_option maxRecDepth 20000 in
theorem ggX2_contestOfDraft_X2_textTime : GoodIn wsX2_contestOfDraft wsX2_textTime := goodIn_r _ [19, 20, 21, 18, 22, 23, 24, 25, 26, 27, 28, 29, 30, 31, 32, 33, 34, 35, 36, 37, 38, 39, 40, 41] (by decide +kernel) (by decide +kernel)
set_option maxRecDepth 20000 in
theorem gX2_contestOfDraft_X2_textTime : GoodIn wsX2_contestOfDraft (va_wsS RX2 194 yX2_textTime wsX2_textTime) := goodIn_app (goodIn_of _ (by decide +kernel)) ggX2_contestOfDraft_X2_textTime
set_option maxRecDepth 20000 in
theorem ggX2_contestOfDraft_X2_put : GoodIn wsX2_contestOfDraft wsX2_put := goodIn_r _ [44] (by decide +kernel) (by decide +kernel)
set_option maxRecDepth 20000 in
theorem gX2_contestOfDraft_X2_put : GoodIn wsX2_contestOfDraft (va_wsS RX2 131 yX2_put wsX2_put) := goodIn_app (goodIn_of _ (by decide +kernel)) ggX2_contestOfDraft_X2_put
theorem dX2_contestOfDraft_0 : decode cX2_contestOfDraft 0 = .ok (.new 15, 3) := by decide +kernel
theorem dX2_contestOfDraft_3 : decode cX2_contestOfDraft 3 = .ok (.dup, 1) := by decide +kernel
theorem dX2_contestOfDraft_4 : decode cX2_contestOfDraft 4 = .ok (.invokespecial 193, 3) := by decide +kernel
theorem dX2_contestOfDraft_7 : decode cX2_contestOfDraft 7 = .ok (.astore_n 1, 1) := by decide +kernel
theorem dX2_contestOfDraft_8 : decode cX2_contestOfDraft 8 = .ok (.iconst 0, 1) := by decide +kernel
theorem dX2_contestOfDraft_9 : decode cX2_contestOfDraft 9 = .ok (.istore_n 2, 1) := by decide +kernel
theorem dX2_contestOfDraft_10 : decode cX2_contestOfDraft 10 = .ok (.iload_n 2, 1) := by decide +kernel
theorem dX2_contestOfDraft_11 : decode cX2_contestOfDraft 11 = .ok (.aload_n 0, 1) := by decide +kernel
theorem dX2_contestOfDraft_12 : decode cX2_contestOfDraft 12 = .ok (.getfield 11, 3) := by decide +kernel
theorem dX2_contestOfDraft_15 : decode cX2_contestOfDraft 15 = .ok (.arraylength, 1) := by decide +kernel
theorem dX2_contestOfDraft_16 : decode cX2_contestOfDraft 16 = .ok (.if_icmp .ge 45, 3) := by decide +kernel
theorem dX2_contestOfDraft_19 : decode cX2_contestOfDraft 19 = .ok (.aload_n 0, 1) := by decide +kernel
theorem dX2_contestOfDraft_20 : decode cX2_contestOfDraft 20 = .ok (.getfield 11, 3) := by decide +kernel
theorem dX2_contestOfDraft_23 : decode cX2_contestOfDraft 23 = .ok (.iload_n 2, 1) := by decide +kernel
theorem dX2_contestOfDraft_24 : decode cX2_contestOfDraft 24 = .ok (.aaload, 1) := by decide +kernel
theorem dX2_contestOfDraft_25 : decode cX2_contestOfDraft 25 = .ok (.astore_n 3, 1) := by decide +kernel
theorem dX2_contestOfDraft_26 : decode cX2_contestOfDraft 26 = .ok (.aload_n 3, 1) := by decide +kernel
theorem dX2_contestOfDraft_27 : decode cX2_contestOfDraft 27 = .ok (.ifnull 28, 3) := by decide +kernel
theorem dX2_contestOfDraft_30 : decode cX2_contestOfDraft 30 = .ok (.aload_n 1, 1) := by decide +kernel
theorem dX2_contestOfDraft_31 : decode cX2_contestOfDraft 31 = .ok (.getfield 182, 3) := by decide +kernel
theorem dX2_contestOfDraft_34 : decode cX2_contestOfDraft 34 = .ok (.iload_n 2, 1) := by decide +kernel
theorem dX2_contestOfDraft_35 : decode cX2_contestOfDraft 35 = .ok (.aload_n 0, 1) := by decide +kernel
theorem dX2_contestOfDraft_36 : decode cX2_contestOfDraft 36 = .ok (.getfield 21, 3) := by decide +kernel
theorem dX2_contestOfDraft_39 : decode cX2_contestOfDraft 39 = .ok (.aload_n 0, 1) := by decide +kernel
theorem dX2_contestOfDraft_40 : decode cX2_contestOfDraft 40 = .ok (.getfield 25, 3) := by decide +kernel
theorem dX2_contestOfDraft_43 : decode cX2_contestOfDraft 43 = .ok (.aload_n 3, 1) := by decide +kernel
theorem dX2_contestOfDraft_44 : decode cX2_contestOfDraft 44 = .ok (.getfield 67, 3) := by decide +kernel
theorem dX2_contestOfDraft_47 : decode cX2_contestOfDraft 47 = .ok (.iconst (-1), 1) := by decide +kernel
theorem dX2_contestOfDraft_48 : decode cX2_contestOfDraft 48 = .ok (.iconst (-1), 1) := by decide +kernel
theorem dX2_contestOfDraft_49 : decode cX2_contestOfDraft 49 = .ok (.invokestatic 194, 3) := by decide +kernel
theorem dX2_contestOfDraft_52 : decode cX2_contestOfDraft 52 = .ok (.invokestatic 131, 3) := by decide +kernel
theorem dX2_contestOfDraft_55 : decode cX2_contestOfDraft 55 = .ok (.iinc 2 1, 3) := by decide +kernel
theorem dX2_contestOfDraft_58 : decode cX2_contestOfDraft 58 = .ok (.goto (-48), 3) := by decide +kernel
theorem dX2_contestOfDraft_61 : decode cX2_contestOfDraft 61 = .ok (.aload_n 1, 1) := by decide +kernel
theorem dX2_contestOfDraft_62 : decode cX2_contestOfDraft 62 = .ok (.areturn, 1) := by decide +kernel
theorem dX2_at_0 : decode cX2_at 0 = .ok (.iload_n 1, 1) := by decide +kernel
theorem dX2_at_1 : decode cX2_at 1 = .ok (.ifCond .lt 15, 3) := by decide +kernel
theorem dX2_at_4 : decode cX2_at 4 = .ok (.iload_n 1, 1) := by decide +kernel
theorem dX2_at_5 : decode cX2_at 5 = .ok (.aload_n 0, 1) := by decide +kernel
theorem dX2_at_6 : decode cX2_at 6 = .ok (.arraylength, 1) := by decide +kernel
theorem dX2_at_7 : decode cX2_at 7 = .ok (.if_icmp .ge 9, 3) := by decide +kernel
theorem dX2_at_10 : decode cX2_at 10 = .ok (.aload_n 0, 1) := by decide +kernel
theorem dX2_at_11 : decode cX2_at 11 = .ok (.iload_n 1, 1) := by decide +kernel
theorem dX2_at_12 : decode cX2_at 12 = .ok (.iaload, 1) := by decide +kernel
theorem dX2_at_13 : decode cX2_at 13 = .ok (.goto 4, 3) := by decide +kernel
theorem dX2_at_16 : decode cX2_at 16 = .ok (.iconst 0, 1) := by decide +kernel
theorem dX2_at_17 : decode cX2_at 17 = .ok (.ireturn, 1) := by decide +kernel
theorem dX2_put_0 : decode cX2_put 0 = .ok (.iload_n 1, 1) := by decide +kernel
theorem dX2_put_1 : decode cX2_put 1 = .ok (.ifCond .lt 13, 3) := by decide +kernel
theorem dX2_put_4 : decode cX2_put 4 = .ok (.iload_n 1, 1) := by decide +kernel
theorem dX2_put_5 : decode cX2_put 5 = .ok (.aload_n 0, 1) := by decide +kernel
theorem dX2_put_6 : decode cX2_put 6 = .ok (.arraylength, 1) := by decide +kernel
theorem dX2_put_7 : decode cX2_put 7 = .ok (.if_icmp .ge 7, 3) := by decide +kernel
theorem dX2_put_10 : decode cX2_put 10 = .ok (.aload_n 0, 1) := by decide +kernel
theorem dX2_put_11 : decode cX2_put 11 = .ok (.iload_n 1, 1) := by decide +kernel
theorem dX2_put_12 : decode cX2_put 12 = .ok (.iload_n 2, 1) := by decide +kernel
theorem dX2_put_13 : decode cX2_put 13 = .ok (.iastore, 1) := by decide +kernel
theorem dX2_put_14 : decode cX2_put 14 = .ok (.return_, 1) := by decide +kernel
set_option maxRecDepth 20000 in
theorem ggX2_count_X2_at : GoodIn wsX2_count wsX2_at := goodIn_r _ [4] (by decide +kernel) (by decide +kernel)
set_option maxRecDepth 20000 in
theorem gX2_count_X2_at : GoodIn wsX2_count (va_wsS RX2 70 yX2_at wsX2_at) := goodIn_app (goodIn_of _ (by decide +kernel)) ggX2_count_X2_at
set_option maxRecDepth 20000 in
theorem ggX2_count_X2_put : GoodIn wsX2_count wsX2_put := goodIn_r _ [7] (by decide +kernel) (by decide +kernel)
set_option maxRecDepth 20000 in
theorem gX2_count_X2_put : GoodIn wsX2_count (va_wsS RX2 131 yX2_put wsX2_put) := goodIn_app (goodIn_of _ (by decide +kernel)) ggX2_count_X2_put
theorem dX2_count_0 : decode cX2_count 0 = .ok (.aload_n 0, 1) := by decide +kernel
theorem dX2_count_1 : decode cX2_count 1 = .ok (.iload_n 1, 1) := by decide +kernel
theorem dX2_count_2 : decode cX2_count 2 = .ok (.aload_n 0, 1) := by decide +kernel
theorem dX2_count_3 : decode cX2_count 3 = .ok (.iload_n 1, 1) := by decide +kernel
theorem dX2_count_4 : decode cX2_count 4 = .ok (.invokestatic 70, 3) := by decide +kernel
theorem dX2_count_7 : decode cX2_count 7 = .ok (.iconst 1, 1) := by decide +kernel
theorem dX2_count_8 : decode cX2_count 8 = .ok (.iadd, 1) := by decide +kernel
theorem dX2_count_9 : decode cX2_count 9 = .ok (.invokestatic 131, 3) := by decide +kernel
theorem dX2_count_12 : decode cX2_count 12 = .ok (.return_, 1) := by decide +kernel
theorem dX2_pairPlace_0 : decode cX2_pairPlace 0 = .ok (.bipush 12, 2) := by decide +kernel
theorem dX2_pairPlace_2 : decode cX2_pairPlace 2 = .ok (.iload_n 0, 1) := by decide +kernel
theorem dX2_pairPlace_3 : decode cX2_pairPlace 3 = .ok (.imul, 1) := by decide +kernel
theorem dX2_pairPlace_4 : decode cX2_pairPlace 4 = .ok (.iload_n 1, 1) := by decide +kernel
theorem dX2_pairPlace_5 : decode cX2_pairPlace 5 = .ok (.iadd, 1) := by decide +kernel
theorem dX2_pairPlace_6 : decode cX2_pairPlace 6 = .ok (.ireturn, 1) := by decide +kernel
theorem dX2_fingerOf_0 : decode cX2_fingerOf 0 = .ok (.iload_n 0, 1) := by decide +kernel
theorem dX2_fingerOf_1 : decode cX2_fingerOf 1 = .ok (.bipush 6, 2) := by decide +kernel
theorem dX2_fingerOf_3 : decode cX2_fingerOf 3 = .ok (.irem, 1) := by decide +kernel
theorem dX2_fingerOf_4 : decode cX2_fingerOf 4 = .ok (.ireturn, 1) := by decide +kernel
theorem dX2_handOf_0 : decode cX2_handOf 0 = .ok (.iload_n 0, 1) := by decide +kernel
theorem dX2_handOf_1 : decode cX2_handOf 1 = .ok (.bipush 6, 2) := by decide +kernel
theorem dX2_handOf_3 : decode cX2_handOf 3 = .ok (.irem, 1) := by decide +kernel
theorem dX2_handOf_4 : decode cX2_handOf 4 = .ok (.iconst 3, 1) := by decide +kernel
theorem dX2_handOf_5 : decode cX2_handOf 5 = .ok (.idiv, 1) := by decide +kernel
theorem dX2_handOf_6 : decode cX2_handOf 6 = .ok (.ireturn, 1) := by decide +kernel
theorem dX2_rowOf_0 : decode cX2_rowOf 0 = .ok (.iload_n 0, 1) := by decide +kernel
theorem dX2_rowOf_1 : decode cX2_rowOf 1 = .ok (.bipush 6, 2) := by decide +kernel
theorem dX2_rowOf_3 : decode cX2_rowOf 3 = .ok (.idiv, 1) := by decide +kernel
theorem dX2_rowOf_4 : decode cX2_rowOf 4 = .ok (.ireturn, 1) := by decide +kernel
set_option maxRecDepth 20000 in
theorem ggX2_stepTime_X2_fingerOf : GoodIn wsX2_stepTime wsX2_fingerOf := goodIn_r _ [8] (by decide +kernel) (by decide +kernel)
set_option maxRecDepth 20000 in
theorem gX2_stepTime_X2_fingerOf : GoodIn wsX2_stepTime (va_wsS RX2 198 yX2_fingerOf wsX2_fingerOf) := goodIn_app (goodIn_of _ (by decide +kernel)) ggX2_stepTime_X2_fingerOf
set_option maxRecDepth 20000 in
theorem ggX2_stepTime_X2_rowOf : GoodIn wsX2_stepTime wsX2_rowOf := goodIn_r _ [11] (by decide +kernel) (by decide +kernel)
set_option maxRecDepth 20000 in
theorem gX2_stepTime_X2_rowOf : GoodIn wsX2_stepTime (va_wsS RX2 201 yX2_rowOf wsX2_rowOf) := goodIn_app (goodIn_of _ (by decide +kernel)) ggX2_stepTime_X2_rowOf
set_option maxRecDepth 20000 in
theorem ggX2_stepTime_X2_handOf : GoodIn wsX2_stepTime wsX2_handOf := goodIn_r _ [14] (by decide +kernel) (by decide +kernel)
set_option maxRecDepth 20000 in
theorem gX2_stepTime_X2_handOf : GoodIn wsX2_stepTime (va_wsS RX2 209 yX2_handOf wsX2_handOf) := goodIn_app (goodIn_of _ (by decide +kernel)) ggX2_stepTime_X2_handOf
theorem dX2_stepTime_0 : decode cX2_stepTime 0 = .ok (.iload_n 0, 1) := by decide +kernel
theorem dX2_stepTime_1 : decode cX2_stepTime 1 = .ok (.iload_n 1, 1) := by decide +kernel
theorem dX2_stepTime_2 : decode cX2_stepTime 2 = .ok (.if_icmp .ne 5, 3) := by decide +kernel
theorem dX2_stepTime_5 : decode cX2_stepTime 5 = .ok (.iconst 3, 1) := by decide +kernel
theorem dX2_stepTime_6 : decode cX2_stepTime 6 = .ok (.ireturn, 1) := by decide +kernel
theorem dX2_stepTime_7 : decode cX2_stepTime 7 = .ok (.iload_n 0, 1) := by decide +kernel
theorem dX2_stepTime_8 : decode cX2_stepTime 8 = .ok (.invokestatic 198, 3) := by decide +kernel
theorem dX2_stepTime_11 : decode cX2_stepTime 11 = .ok (.iload_n 1, 1) := by decide +kernel
theorem dX2_stepTime_12 : decode cX2_stepTime 12 = .ok (.invokestatic 198, 3) := by decide +kernel
theorem dX2_stepTime_15 : decode cX2_stepTime 15 = .ok (.if_icmp .ne 20, 3) := by decide +kernel
theorem dX2_stepTime_18 : decode cX2_stepTime 18 = .ok (.iconst 5, 1) := by decide +kernel
theorem dX2_stepTime_19 : decode cX2_stepTime 19 = .ok (.iconst 2, 1) := by decide +kernel
theorem dX2_stepTime_20 : decode cX2_stepTime 20 = .ok (.iload_n 0, 1) := by decide +kernel
theorem dX2_stepTime_21 : decode cX2_stepTime 21 = .ok (.invokestatic 201, 3) := by decide +kernel
theorem dX2_stepTime_24 : decode cX2_stepTime 24 = .ok (.iload_n 1, 1) := by decide +kernel
theorem dX2_stepTime_25 : decode cX2_stepTime 25 = .ok (.invokestatic 201, 3) := by decide +kernel
theorem dX2_stepTime_28 : decode cX2_stepTime 28 = .ok (.isub, 1) := by decide +kernel
theorem dX2_stepTime_29 : decode cX2_stepTime 29 = .ok (.invokestatic 204, 3) := by decide +kernel
theorem dX2_stepTime_32 : decode cX2_stepTime 32 = .ok (.imul, 1) := by decide +kernel
theorem dX2_stepTime_33 : decode cX2_stepTime 33 = .ok (.iadd, 1) := by decide +kernel
theorem dX2_stepTime_34 : decode cX2_stepTime 34 = .ok (.ireturn, 1) := by decide +kernel
theorem dX2_stepTime_35 : decode cX2_stepTime 35 = .ok (.iload_n 0, 1) := by decide +kernel
theorem dX2_stepTime_36 : decode cX2_stepTime 36 = .ok (.invokestatic 209, 3) := by decide +kernel
theorem dX2_stepTime_39 : decode cX2_stepTime 39 = .ok (.iload_n 1, 1) := by decide +kernel
theorem dX2_stepTime_40 : decode cX2_stepTime 40 = .ok (.invokestatic 209, 3) := by decide +kernel
theorem dX2_stepTime_43 : decode cX2_stepTime 43 = .ok (.if_icmp .ne 7, 3) := by decide +kernel
theorem dX2_stepTime_46 : decode cX2_stepTime 46 = .ok (.iconst 4, 1) := by decide +kernel
theorem dX2_stepTime_47 : decode cX2_stepTime 47 = .ok (.goto 4, 3) := by decide +kernel
theorem dX2_stepTime_50 : decode cX2_stepTime 50 = .ok (.iconst 2, 1) := by decide +kernel
theorem dX2_stepTime_51 : decode cX2_stepTime 51 = .ok (.ireturn, 1) := by decide +kernel
set_option maxRecDepth 20000 in
theorem ggX2_textTime_X2_at : GoodIn wsX2_textTime wsX2_at := goodIn_r _ [4] (by decide +kernel) (by decide +kernel)
set_option maxRecDepth 20000 in
theorem gX2_textTime_X2_at : GoodIn wsX2_textTime (va_wsS RX2 70 yX2_at wsX2_at) := goodIn_app (goodIn_of _ (by decide +kernel)) ggX2_textTime_X2_at
set_option maxRecDepth 20000 in
theorem ggX2_textTime_X2_swapped : GoodIn wsX2_textTime wsX2_swapped := goodIn_r _ [7] (by decide +kernel) (by decide +kernel)
set_option maxRecDepth 20000 in
theorem gX2_textTime_X2_swapped : GoodIn wsX2_textTime (va_wsS RX2 212 yX2_swapped wsX2_swapped) := goodIn_app (goodIn_of _ (by decide +kernel)) ggX2_textTime_X2_swapped
set_option maxRecDepth 20000 in
theorem ggX2_textTime_X2_stepTime : GoodIn wsX2_textTime wsX2_stepTime := goodIn_r _ [10, 11, 12, 13, 14, 15, 16, 3, 17, 18, 19, 20, 21, 22, 23] (by decide +kernel) (by decide +kernel)
set_option maxRecDepth 20000 in
theorem gX2_textTime_X2_stepTime : GoodIn wsX2_textTime (va_wsS RX2 216 yX2_stepTime wsX2_stepTime) := goodIn_app (goodIn_of _ (by decide +kernel)) ggX2_textTime_X2_stepTime
theorem dX2_textTime_0 : decode cX2_textTime 0 = .ok (.iconst 0, 1) := by decide +kernel
theorem dX2_textTime_1 : decode cX2_textTime 1 = .ok (.istore 5, 2) := by decide +kernel
theorem dX2_textTime_3 : decode cX2_textTime 3 = .ok (.iconst (-1), 1) := by decide +kernel
theorem dX2_textTime_4 : decode cX2_textTime 4 = .ok (.istore 6, 2) := by decide +kernel
theorem dX2_textTime_6 : decode cX2_textTime 6 = .ok (.iconst 0, 1) := by decide +kernel
theorem dX2_textTime_7 : decode cX2_textTime 7 = .ok (.istore 7, 2) := by decide +kernel
theorem dX2_textTime_9 : decode cX2_textTime 9 = .ok (.iload 7, 2) := by decide +kernel
theorem dX2_textTime_11 : decode cX2_textTime 11 = .ok (.iload_n 1, 1) := by decide +kernel
theorem dX2_textTime_12 : decode cX2_textTime 12 = .ok (.if_icmp .ge 52, 3) := by decide +kernel
theorem dX2_textTime_15 : decode cX2_textTime 15 = .ok (.aload_n 2, 1) := by decide +kernel
theorem dX2_textTime_16 : decode cX2_textTime 16 = .ok (.aload_n 0, 1) := by decide +kernel
theorem dX2_textTime_17 : decode cX2_textTime 17 = .ok (.iload 7, 2) := by decide +kernel
theorem dX2_textTime_19 : decode cX2_textTime 19 = .ok (.invokestatic 70, 3) := by decide +kernel
theorem dX2_textTime_22 : decode cX2_textTime 22 = .ok (.invokestatic 70, 3) := by decide +kernel
theorem dX2_textTime_25 : decode cX2_textTime 25 = .ok (.iload_n 3, 1) := by decide +kernel
theorem dX2_textTime_26 : decode cX2_textTime 26 = .ok (.iload 4, 2) := by decide +kernel
theorem dX2_textTime_28 : decode cX2_textTime 28 = .ok (.invokestatic 212, 3) := by decide +kernel
theorem dX2_textTime_31 : decode cX2_textTime 31 = .ok (.istore 8, 2) := by decide +kernel
theorem dX2_textTime_33 : decode cX2_textTime 33 = .ok (.iload 5, 2) := by decide +kernel
theorem dX2_textTime_35 : decode cX2_textTime 35 = .ok (.iload 7, 2) := by decide +kernel
theorem dX2_textTime_37 : decode cX2_textTime 37 = .ok (.ifCond .ne 7, 3) := by decide +kernel
theorem dX2_textTime_40 : decode cX2_textTime 40 = .ok (.iconst 2, 1) := by decide +kernel
theorem dX2_textTime_41 : decode cX2_textTime 41 = .ok (.goto 10, 3) := by decide +kernel
theorem dX2_textTime_44 : decode cX2_textTime 44 = .ok (.iload 6, 2) := by decide +kernel
theorem dX2_textTime_46 : decode cX2_textTime 46 = .ok (.iload 8, 2) := by decide +kernel
theorem dX2_textTime_48 : decode cX2_textTime 48 = .ok (.invokestatic 216, 3) := by decide +kernel
theorem dX2_textTime_51 : decode cX2_textTime 51 = .ok (.iadd, 1) := by decide +kernel
theorem dX2_textTime_52 : decode cX2_textTime 52 = .ok (.istore 5, 2) := by decide +kernel
theorem dX2_textTime_54 : decode cX2_textTime 54 = .ok (.iload 8, 2) := by decide +kernel
theorem dX2_textTime_56 : decode cX2_textTime 56 = .ok (.istore 6, 2) := by decide +kernel
theorem dX2_textTime_58 : decode cX2_textTime 58 = .ok (.iinc 7 1, 3) := by decide +kernel
theorem dX2_textTime_61 : decode cX2_textTime 61 = .ok (.goto (-52), 3) := by decide +kernel
theorem dX2_textTime_64 : decode cX2_textTime 64 = .ok (.iload 5, 2) := by decide +kernel
theorem dX2_textTime_66 : decode cX2_textTime 66 = .ok (.ireturn, 1) := by decide +kernel
theorem dX2_swapped_0 : decode cX2_swapped 0 = .ok (.iload_n 0, 1) := by decide +kernel
theorem dX2_swapped_1 : decode cX2_swapped 1 = .ok (.iload_n 1, 1) := by decide +kernel
theorem dX2_swapped_2 : decode cX2_swapped 2 = .ok (.if_icmp .ne 5, 3) := by decide +kernel
theorem dX2_swapped_5 : decode cX2_swapped 5 = .ok (.iload_n 2, 1) := by decide +kernel
theorem dX2_swapped_6 : decode cX2_swapped 6 = .ok (.ireturn, 1) := by decide +kernel
theorem dX2_swapped_7 : decode cX2_swapped 7 = .ok (.iload_n 0, 1) := by decide +kernel
theorem dX2_swapped_8 : decode cX2_swapped 8 = .ok (.iload_n 2, 1) := by decide +kernel
theorem dX2_swapped_9 : decode cX2_swapped 9 = .ok (.if_icmp .ne 7, 3) := by decide +kernel
theorem dX2_swapped_12 : decode cX2_swapped 12 = .ok (.iload_n 1, 1) := by decide +kernel
theorem dX2_swapped_13 : decode cX2_swapped 13 = .ok (.goto 4, 3) := by decide +kernel
theorem dX2_swapped_16 : decode cX2_swapped 16 = .ok (.iload_n 0, 1) := by decide +kernel
theorem dX2_swapped_17 : decode cX2_swapped 17 = .ok (.ireturn, 1) := by decide +kernel
theorem dX2_groups_0 : decode cX2_groups 0 = .ok (.iload_n 0, 1) := by decide +kernel
theorem dX2_groups_1 : decode cX2_groups 1 = .ok (.tableswitch 41 0 3 #[31, 34, 37, 39], 31) := by decide +kernel
theorem dX2_groups_32 : decode cX2_groups 32 = .ok (.bipush 12, 2) := by decide +kernel
theorem dX2_groups_34 : decode cX2_groups 34 = .ok (.ireturn, 1) := by decide +kernel
theorem dX2_groups_35 : decode cX2_groups 35 = .ok (.bipush 6, 2) := by decide +kernel
theorem dX2_groups_37 : decode cX2_groups 37 = .ok (.ireturn, 1) := by decide +kernel
theorem dX2_groups_38 : decode cX2_groups 38 = .ok (.iconst 2, 1) := by decide +kernel
theorem dX2_groups_39 : decode cX2_groups 39 = .ok (.ireturn, 1) := by decide +kernel
theorem dX2_groups_40 : decode cX2_groups 40 = .ok (.iconst 1, 1) := by decide +kernel
theorem dX2_groups_41 : decode cX2_groups 41 = .ok (.ireturn, 1) := by decide +kernel
theorem dX2_groups_42 : decode cX2_groups 42 = .ok (.iconst 0, 1) := by decide +kernel
theorem dX2_groups_43 : decode cX2_groups 43 = .ok (.ireturn, 1) := by decide +kernel
set_option maxRecDepth 20000 in
theorem ggX2_groupOf_X2_fingerOf : GoodIn wsX2_groupOf wsX2_fingerOf := goodIn_r _ [4] (by decide +kernel) (by decide +kernel)
set_option maxRecDepth 20000 in
theorem gX2_groupOf_X2_fingerOf : GoodIn wsX2_groupOf (va_wsS RX2 198 yX2_fingerOf wsX2_fingerOf) := goodIn_app (goodIn_of _ (by decide +kernel)) ggX2_groupOf_X2_fingerOf
set_option maxRecDepth 20000 in
theorem ggX2_groupOf_X2_handOf : GoodIn wsX2_groupOf wsX2_handOf := goodIn_r _ [7] (by decide +kernel) (by decide +kernel)
set_option maxRecDepth 20000 in
theorem gX2_groupOf_X2_handOf : GoodIn wsX2_groupOf (va_wsS RX2 209 yX2_handOf wsX2_handOf) := goodIn_app (goodIn_of _ (by decide +kernel)) ggX2_groupOf_X2_handOf
theorem dX2_groupOf_0 : decode cX2_groupOf 0 = .ok (.iload_n 0, 1) := by decide +kernel
theorem dX2_groupOf_1 : decode cX2_groupOf 1 = .ok (.tableswitch 39 0 2 #[27, 29, 34], 27) := by decide +kernel
theorem dX2_groupOf_28 : decode cX2_groupOf 28 = .ok (.iload_n 1, 1) := by decide +kernel
theorem dX2_groupOf_29 : decode cX2_groupOf 29 = .ok (.ireturn, 1) := by decide +kernel
theorem dX2_groupOf_30 : decode cX2_groupOf 30 = .ok (.iload_n 1, 1) := by decide +kernel
theorem dX2_groupOf_31 : decode cX2_groupOf 31 = .ok (.invokestatic 198, 3) := by decide +kernel
theorem dX2_groupOf_34 : decode cX2_groupOf 34 = .ok (.ireturn, 1) := by decide +kernel
theorem dX2_groupOf_35 : decode cX2_groupOf 35 = .ok (.iload_n 1, 1) := by decide +kernel
theorem dX2_groupOf_36 : decode cX2_groupOf 36 = .ok (.invokestatic 209, 3) := by decide +kernel
theorem dX2_groupOf_39 : decode cX2_groupOf 39 = .ok (.ireturn, 1) := by decide +kernel
theorem dX2_groupOf_40 : decode cX2_groupOf 40 = .ok (.iconst 0, 1) := by decide +kernel
theorem dX2_groupOf_41 : decode cX2_groupOf 41 = .ok (.ireturn, 1) := by decide +kernel
theorem dX3_init_0 : decode cX3_init 0 = .ok (.aload_n 0, 1) := by decide +kernel
theorem dX3_init_1 : decode cX3_init 1 = .ok (.invokespecial 1, 3) := by decide +kernel
theorem dX3_init_4 : decode cX3_init 4 = .ok (.aload_n 0, 1) := by decide +kernel
theorem dX3_init_5 : decode cX3_init 5 = .ok (.bipush 60, 2) := by decide +kernel
theorem dX3_init_7 : decode cX3_init 7 = .ok (.newarray .int, 2) := by decide +kernel
theorem dX3_init_9 : decode cX3_init 9 = .ok (.putfield 7, 3) := by decide +kernel
theorem dX3_init_12 : decode cX3_init 12 = .ok (.aload_n 0, 1) := by decide +kernel
theorem dX3_init_13 : decode cX3_init 13 = .ok (.bipush 60, 2) := by decide +kernel
theorem dX3_init_15 : decode cX3_init 15 = .ok (.newarray .int, 2) := by decide +kernel
theorem dX3_init_17 : decode cX3_init 17 = .ok (.putfield 13, 3) := by decide +kernel
theorem dX3_init_20 : decode cX3_init 20 = .ok (.aload_n 0, 1) := by decide +kernel
theorem dX3_init_21 : decode cX3_init 21 = .ok (.iconst 5, 1) := by decide +kernel
theorem dX3_init_22 : decode cX3_init 22 = .ok (.newarray .int, 2) := by decide +kernel
theorem dX3_init_24 : decode cX3_init 24 = .ok (.putfield 16, 3) := by decide +kernel
theorem dX3_init_27 : decode cX3_init 27 = .ok (.aload_n 0, 1) := by decide +kernel
theorem dX3_init_28 : decode cX3_init 28 = .ok (.bipush 60, 2) := by decide +kernel
theorem dX3_init_30 : decode cX3_init 30 = .ok (.newarray .int, 2) := by decide +kernel
theorem dX3_init_32 : decode cX3_init 32 = .ok (.putfield 19, 3) := by decide +kernel
theorem dX3_init_35 : decode cX3_init 35 = .ok (.aload_n 0, 1) := by decide +kernel
theorem dX3_init_36 : decode cX3_init 36 = .ok (.sipush 720, 3) := by decide +kernel
theorem dX3_init_39 : decode cX3_init 39 = .ok (.newarray .int, 2) := by decide +kernel
theorem dX3_init_41 : decode cX3_init 41 = .ok (.putfield 22, 3) := by decide +kernel
theorem dX3_init_44 : decode cX3_init 44 = .ok (.aload_n 0, 1) := by decide +kernel
theorem dX3_init_45 : decode cX3_init 45 = .ok (.iconst 5, 1) := by decide +kernel
theorem dX3_init_46 : decode cX3_init 46 = .ok (.newarray .int, 2) := by decide +kernel
theorem dX3_init_48 : decode cX3_init 48 = .ok (.putfield 25, 3) := by decide +kernel
theorem dX3_init_51 : decode cX3_init 51 = .ok (.aload_n 0, 1) := by decide +kernel
theorem dX3_init_52 : decode cX3_init 52 = .ok (.iconst 5, 1) := by decide +kernel
theorem dX3_init_53 : decode cX3_init 53 = .ok (.newarray .int, 2) := by decide +kernel
theorem dX3_init_55 : decode cX3_init 55 = .ok (.putfield 28, 3) := by decide +kernel
theorem dX3_init_58 : decode cX3_init 58 = .ok (.aload_n 0, 1) := by decide +kernel
theorem dX3_init_59 : decode cX3_init 59 = .ok (.iconst 5, 1) := by decide +kernel
theorem dX3_init_60 : decode cX3_init 60 = .ok (.newarray .int, 2) := by decide +kernel
theorem dX3_init_62 : decode cX3_init 62 = .ok (.putfield 31, 3) := by decide +kernel
theorem dX3_init_65 : decode cX3_init 65 = .ok (.aload_n 0, 1) := by decide +kernel
theorem dX3_init_66 : decode cX3_init 66 = .ok (.sipush 150, 3) := by decide +kernel
theorem dX3_init_69 : decode cX3_init 69 = .ok (.newarray .int, 2) := by decide +kernel
theorem dX3_init_71 : decode cX3_init 71 = .ok (.putfield 34, 3) := by decide +kernel
theorem dX3_init_74 : decode cX3_init 74 = .ok (.aload_n 0, 1) := by decide +kernel
theorem dX3_init_75 : decode cX3_init 75 = .ok (.bipush 24, 2) := by decide +kernel
theorem dX3_init_77 : decode cX3_init 77 = .ok (.newarray .int, 2) := by decide +kernel
theorem dX3_init_79 : decode cX3_init 79 = .ok (.putfield 37, 3) := by decide +kernel
theorem dX3_init_82 : decode cX3_init 82 = .ok (.aload_n 0, 1) := by decide +kernel
theorem dX3_init_83 : decode cX3_init 83 = .ok (.bipush 6, 2) := by decide +kernel
theorem dX3_init_85 : decode cX3_init 85 = .ok (.newarray .int, 2) := by decide +kernel
theorem dX3_init_87 : decode cX3_init 87 = .ok (.putfield 40, 3) := by decide +kernel
theorem dX3_init_90 : decode cX3_init 90 = .ok (.aload_n 0, 1) := by decide +kernel
theorem dX3_init_91 : decode cX3_init 91 = .ok (.bipush 30, 2) := by decide +kernel
theorem dX3_init_93 : decode cX3_init 93 = .ok (.newarray .int, 2) := by decide +kernel
theorem dX3_init_95 : decode cX3_init 95 = .ok (.putfield 43, 3) := by decide +kernel
theorem dX3_init_98 : decode cX3_init 98 = .ok (.aload_n 0, 1) := by decide +kernel
theorem dX3_init_99 : decode cX3_init 99 = .ok (.bipush 30, 2) := by decide +kernel
theorem dX3_init_101 : decode cX3_init 101 = .ok (.newarray .int, 2) := by decide +kernel
theorem dX3_init_103 : decode cX3_init 103 = .ok (.putfield 46, 3) := by decide +kernel
theorem dX3_init_106 : decode cX3_init 106 = .ok (.iconst 0, 1) := by decide +kernel
theorem dX3_init_107 : decode cX3_init 107 = .ok (.istore_n 1, 1) := by decide +kernel
theorem dX3_init_108 : decode cX3_init 108 = .ok (.iload_n 1, 1) := by decide +kernel
theorem dX3_init_109 : decode cX3_init 109 = .ok (.bipush 60, 2) := by decide +kernel
theorem dX3_init_111 : decode cX3_init 111 = .ok (.if_icmp .ge 29, 3) := by decide +kernel
theorem dX3_init_114 : decode cX3_init 114 = .ok (.aload_n 0, 1) := by decide +kernel
theorem dX3_init_115 : decode cX3_init 115 = .ok (.getfield 7, 3) := by decide +kernel
theorem dX3_init_118 : decode cX3_init 118 = .ok (.iload_n 1, 1) := by decide +kernel
theorem dX3_init_119 : decode cX3_init 119 = .ok (.iload_n 1, 1) := by decide +kernel
theorem dX3_init_120 : decode cX3_init 120 = .ok (.bipush 12, 2) := by decide +kernel
theorem dX3_init_122 : decode cX3_init 122 = .ok (.irem, 1) := by decide +kernel
theorem dX3_init_123 : decode cX3_init 123 = .ok (.iastore, 1) := by decide +kernel
theorem dX3_init_124 : decode cX3_init 124 = .ok (.aload_n 0, 1) := by decide +kernel
theorem dX3_init_125 : decode cX3_init 125 = .ok (.getfield 13, 3) := by decide +kernel
theorem dX3_init_128 : decode cX3_init 128 = .ok (.iload_n 1, 1) := by decide +kernel
theorem dX3_init_129 : decode cX3_init 129 = .ok (.iload_n 1, 1) := by decide +kernel
theorem dX3_init_130 : decode cX3_init 130 = .ok (.bipush 12, 2) := by decide +kernel
theorem dX3_init_132 : decode cX3_init 132 = .ok (.irem, 1) := by decide +kernel
theorem dX3_init_133 : decode cX3_init 133 = .ok (.iastore, 1) := by decide +kernel
theorem dX3_init_134 : decode cX3_init 134 = .ok (.iinc 1 1, 3) := by decide +kernel
theorem dX3_init_137 : decode cX3_init 137 = .ok (.goto (-29), 3) := by decide +kernel
theorem dX3_init_140 : decode cX3_init 140 = .ok (.return_, 1) := by decide +kernel
theorem dX3_thrown_0 : decode cX3_thrown 0 = .ok (.aload_n 0, 1) := by decide +kernel
theorem dX3_thrown_1 : decode cX3_thrown 1 = .ok (.getfield 49, 3) := by decide +kernel
theorem dX3_thrown_4 : decode cX3_thrown 4 = .ok (.ireturn, 1) := by decide +kernel
theorem dX3_refused_0 : decode cX3_refused 0 = .ok (.aload_n 0, 1) := by decide +kernel
theorem dX3_refused_1 : decode cX3_refused 1 = .ok (.iload_n 1, 1) := by decide +kernel
theorem dX3_refused_2 : decode cX3_refused 2 = .ok (.putfield 49, 3) := by decide +kernel
theorem dX3_refused_5 : decode cX3_refused 5 = .ok (.iload_n 1, 1) := by decide +kernel
theorem dX3_refused_6 : decode cX3_refused 6 = .ok (.ifCond .eq 7, 3) := by decide +kernel
theorem dX3_refused_9 : decode cX3_refused 9 = .ok (.iconst 1, 1) := by decide +kernel
theorem dX3_refused_10 : decode cX3_refused 10 = .ok (.goto 4, 3) := by decide +kernel
theorem dX3_refused_13 : decode cX3_refused 13 = .ok (.iconst 0, 1) := by decide +kernel
theorem dX3_refused_14 : decode cX3_refused 14 = .ok (.ireturn, 1) := by decide +kernel
theorem dX3_is_0 : decode cX3_is 0 = .ok (.iload_n 0, 1) := by decide +kernel
theorem dX3_is_1 : decode cX3_is 1 = .ok (.iload_n 1, 1) := by decide +kernel
theorem dX3_is_2 : decode cX3_is 2 = .ok (.if_icmp .lt 12, 3) := by decide +kernel
theorem dX3_is_5 : decode cX3_is 5 = .ok (.iload_n 0, 1) := by decide +kernel
theorem dX3_is_6 : decode cX3_is 6 = .ok (.iload_n 2, 1) := by decide +kernel
theorem dX3_is_7 : decode cX3_is 7 = .ok (.if_icmp .gt 7, 3) := by decide +kernel
theorem dX3_is_10 : decode cX3_is 10 = .ok (.iconst 1, 1) := by decide +kernel
theorem dX3_is_11 : decode cX3_is 11 = .ok (.goto 4, 3) := by decide +kernel
theorem dX3_is_14 : decode cX3_is 14 = .ok (.iconst 0, 1) := by decide +kernel
theorem dX3_is_15 : decode cX3_is 15 = .ok (.ireturn, 1) := by decide +kernel
set_option maxRecDepth 20000 in
theorem ggX3_isStudent_X3_is : GoodIn wsX3_isStudent wsX3_is := goodIn_r _ [5] (by decide +kernel) (by decide +kernel)
set_option maxRecDepth 20000 in
theorem gX3_isStudent_X3_is : GoodIn wsX3_isStudent (va_wsS RX3 56 yX3_is wsX3_is) := goodIn_app (goodIn_of _ (by decide +kernel)) ggX3_isStudent_X3_is
theorem dX3_isStudent_0 : decode cX3_isStudent 0 = .ok (.iload_n 1, 1) := by decide +kernel
theorem dX3_isStudent_1 : decode cX3_isStudent 1 = .ok (.iconst 0, 1) := by decide +kernel
theorem dX3_isStudent_2 : decode cX3_isStudent 2 = .ok (.aload_n 0, 1) := by decide +kernel
theorem dX3_isStudent_3 : decode cX3_isStudent 3 = .ok (.getfield 53, 3) := by decide +kernel
theorem dX3_isStudent_6 : decode cX3_isStudent 6 = .ok (.iconst 1, 1) := by decide +kernel
theorem dX3_isStudent_7 : decode cX3_isStudent 7 = .ok (.isub, 1) := by decide +kernel
theorem dX3_isStudent_8 : decode cX3_isStudent 8 = .ok (.invokestatic 56, 3) := by decide +kernel
theorem dX3_isStudent_11 : decode cX3_isStudent 11 = .ok (.ireturn, 1) := by decide +kernel
set_option maxRecDepth 20000 in
theorem ggX3_isKey_X3_is : GoodIn wsX3_isKey wsX3_is := goodIn_r _ [4] (by decide +kernel) (by decide +kernel)
set_option maxRecDepth 20000 in
theorem gX3_isKey_X3_is : GoodIn wsX3_isKey (va_wsS RX3 56 yX3_is wsX3_is) := goodIn_app (goodIn_of _ (by decide +kernel)) ggX3_isKey_X3_is
theorem dX3_isKey_0 : decode cX3_isKey 0 = .ok (.iload_n 0, 1) := by decide +kernel
theorem dX3_isKey_1 : decode cX3_isKey 1 = .ok (.iconst 0, 1) := by decide +kernel
theorem dX3_isKey_2 : decode cX3_isKey 2 = .ok (.bipush 11, 2) := by decide +kernel
theorem dX3_isKey_4 : decode cX3_isKey 4 = .ok (.invokestatic 56, 3) := by decide +kernel
theorem dX3_isKey_7 : decode cX3_isKey 7 = .ok (.ireturn, 1) := by decide +kernel
theorem dX3_step_0 : decode cX3_step 0 = .ok (.iload_n 0, 1) := by decide +kernel
theorem dX3_step_1 : decode cX3_step 1 = .ok (.iload_n 1, 1) := by decide +kernel
theorem dX3_step_2 : decode cX3_step 2 = .ok (.if_icmp .ne 5, 3) := by decide +kernel
theorem dX3_step_5 : decode cX3_step 5 = .ok (.iconst 3, 1) := by decide +kernel
theorem dX3_step_6 : decode cX3_step 6 = .ok (.ireturn, 1) := by decide +kernel
theorem dX3_step_7 : decode cX3_step 7 = .ok (.iload_n 0, 1) := by decide +kernel
theorem dX3_step_8 : decode cX3_step 8 = .ok (.bipush 6, 2) := by decide +kernel
theorem dX3_step_10 : decode cX3_step 10 = .ok (.irem, 1) := by decide +kernel
theorem dX3_step_11 : decode cX3_step 11 = .ok (.iload_n 1, 1) := by decide +kernel
theorem dX3_step_12 : decode cX3_step 12 = .ok (.bipush 6, 2) := by decide +kernel
theorem dX3_step_14 : decode cX3_step 14 = .ok (.irem, 1) := by decide +kernel
theorem dX3_step_15 : decode cX3_step 15 = .ok (.if_icmp .ne 6, 3) := by decide +kernel
theorem dX3_step_18 : decode cX3_step 18 = .ok (.bipush 7, 2) := by decide +kernel
theorem dX3_step_20 : decode cX3_step 20 = .ok (.ireturn, 1) := by decide +kernel
theorem dX3_step_21 : decode cX3_step 21 = .ok (.iload_n 0, 1) := by decide +kernel
theorem dX3_step_22 : decode cX3_step 22 = .ok (.bipush 6, 2) := by decide +kernel
theorem dX3_step_24 : decode cX3_step 24 = .ok (.irem, 1) := by decide +kernel
theorem dX3_step_25 : decode cX3_step 25 = .ok (.iconst 3, 1) := by decide +kernel
theorem dX3_step_26 : decode cX3_step 26 = .ok (.idiv, 1) := by decide +kernel
theorem dX3_step_27 : decode cX3_step 27 = .ok (.iload_n 1, 1) := by decide +kernel
theorem dX3_step_28 : decode cX3_step 28 = .ok (.bipush 6, 2) := by decide +kernel
theorem dX3_step_30 : decode cX3_step 30 = .ok (.irem, 1) := by decide +kernel
theorem dX3_step_31 : decode cX3_step 31 = .ok (.iconst 3, 1) := by decide +kernel
theorem dX3_step_32 : decode cX3_step 32 = .ok (.idiv, 1) := by decide +kernel
theorem dX3_step_33 : decode cX3_step 33 = .ok (.if_icmp .ne 7, 3) := by decide +kernel
theorem dX3_step_36 : decode cX3_step 36 = .ok (.iconst 4, 1) := by decide +kernel
theorem dX3_step_37 : decode cX3_step 37 = .ok (.goto 4, 3) := by decide +kernel
theorem dX3_step_40 : decode cX3_step 40 = .ok (.iconst 2, 1) := by decide +kernel
theorem dX3_step_41 : decode cX3_step 41 = .ok (.ireturn, 1) := by decide +kernel
theorem dX3_keyWith_0 : decode cX3_keyWith 0 = .ok (.aload_n 0, 1) := by decide +kernel
theorem dX3_keyWith_1 : decode cX3_keyWith 1 = .ok (.getfield 7, 3) := by decide +kernel
theorem dX3_keyWith_4 : decode cX3_keyWith 4 = .ok (.bipush 12, 2) := by decide +kernel
theorem dX3_keyWith_6 : decode cX3_keyWith 6 = .ok (.iload_n 1, 1) := by decide +kernel
theorem dX3_keyWith_7 : decode cX3_keyWith 7 = .ok (.imul, 1) := by decide +kernel
theorem dX3_keyWith_8 : decode cX3_keyWith 8 = .ok (.iload_n 2, 1) := by decide +kernel
theorem dX3_keyWith_9 : decode cX3_keyWith 9 = .ok (.iadd, 1) := by decide +kernel
theorem dX3_keyWith_10 : decode cX3_keyWith 10 = .ok (.iaload, 1) := by decide +kernel
theorem dX3_keyWith_11 : decode cX3_keyWith 11 = .ok (.istore 5, 2) := by decide +kernel
theorem dX3_keyWith_13 : decode cX3_keyWith 13 = .ok (.iload 5, 2) := by decide +kernel
theorem dX3_keyWith_15 : decode cX3_keyWith 15 = .ok (.iload_n 3, 1) := by decide +kernel
theorem dX3_keyWith_16 : decode cX3_keyWith 16 = .ok (.if_icmp .ne 8, 3) := by decide +kernel
theorem dX3_keyWith_19 : decode cX3_keyWith 19 = .ok (.iload 4, 2) := by decide +kernel
theorem dX3_keyWith_21 : decode cX3_keyWith 21 = .ok (.goto 16, 3) := by decide +kernel
theorem dX3_keyWith_24 : decode cX3_keyWith 24 = .ok (.iload 5, 2) := by decide +kernel
theorem dX3_keyWith_26 : decode cX3_keyWith 26 = .ok (.iload 4, 2) := by decide +kernel
theorem dX3_keyWith_28 : decode cX3_keyWith 28 = .ok (.if_icmp .ne 7, 3) := by decide +kernel
theorem dX3_keyWith_31 : decode cX3_keyWith 31 = .ok (.iload_n 3, 1) := by decide +kernel
theorem dX3_keyWith_32 : decode cX3_keyWith 32 = .ok (.goto 5, 3) := by decide +kernel
theorem dX3_keyWith_35 : decode cX3_keyWith 35 = .ok (.iload 5, 2) := by decide +kernel
theorem dX3_keyWith_37 : decode cX3_keyWith 37 = .ok (.ireturn, 1) := by decide +kernel
set_option maxRecDepth 20000 in
theorem ggX3_timeWith_X3_keyWith : GoodIn wsX3_timeWith wsX3_keyWith := goodIn_r _ [7, 8, 12, 13, 14, 15, 16, 17, 18, 19, 20, 21, 22, 23, 24, 25, 26, 27, 28] (by decide +kernel) (by decide +kernel)
set_option maxRecDepth 20000 in
theorem gX3_timeWith_X3_keyWith : GoodIn wsX3_timeWith (wsV RX3 60 RX3 yX3_keyWith wsX3_keyWith) := goodIn_app (goodIn_of _ (by decide +kernel)) ggX3_timeWith_X3_keyWith
set_option maxRecDepth 20000 in
theorem ggX3_timeWith_X3_step : GoodIn wsX3_timeWith wsX3_step := goodIn_r _ [11] (by decide +kernel) (by decide +kernel)
set_option maxRecDepth 20000 in
theorem gX3_timeWith_X3_step : GoodIn wsX3_timeWith (va_wsS RX3 64 yX3_step wsX3_step) := goodIn_app (goodIn_of _ (by decide +kernel)) ggX3_timeWith_X3_step
theorem dX3_timeWith_0 : decode cX3_timeWith 0 = .ok (.aload_n 0, 1) := by decide +kernel
theorem dX3_timeWith_1 : decode cX3_timeWith 1 = .ok (.getfield 31, 3) := by decide +kernel
theorem dX3_timeWith_4 : decode cX3_timeWith 4 = .ok (.iload_n 1, 1) := by decide +kernel
theorem dX3_timeWith_5 : decode cX3_timeWith 5 = .ok (.iaload, 1) := by decide +kernel
theorem dX3_timeWith_6 : decode cX3_timeWith 6 = .ok (.ifCond .ne 7, 3) := by decide +kernel
theorem dX3_timeWith_9 : decode cX3_timeWith 9 = .ok (.iconst 0, 1) := by decide +kernel
theorem dX3_timeWith_10 : decode cX3_timeWith 10 = .ok (.goto 4, 3) := by decide +kernel
theorem dX3_timeWith_13 : decode cX3_timeWith 13 = .ok (.iconst 2, 1) := by decide +kernel
theorem dX3_timeWith_14 : decode cX3_timeWith 14 = .ok (.istore 4, 2) := by decide +kernel
theorem dX3_timeWith_16 : decode cX3_timeWith 16 = .ok (.iconst 1, 1) := by decide +kernel
theorem dX3_timeWith_17 : decode cX3_timeWith 17 = .ok (.istore 5, 2) := by decide +kernel
theorem dX3_timeWith_19 : decode cX3_timeWith 19 = .ok (.iload 5, 2) := by decide +kernel
theorem dX3_timeWith_21 : decode cX3_timeWith 21 = .ok (.aload_n 0, 1) := by decide +kernel
theorem dX3_timeWith_22 : decode cX3_timeWith 22 = .ok (.getfield 31, 3) := by decide +kernel
theorem dX3_timeWith_25 : decode cX3_timeWith 25 = .ok (.iload_n 1, 1) := by decide +kernel
theorem dX3_timeWith_26 : decode cX3_timeWith 26 = .ok (.iaload, 1) := by decide +kernel
theorem dX3_timeWith_27 : decode cX3_timeWith 27 = .ok (.if_icmp .ge 61, 3) := by decide +kernel
theorem dX3_timeWith_30 : decode cX3_timeWith 30 = .ok (.aload_n 0, 1) := by decide +kernel
theorem dX3_timeWith_31 : decode cX3_timeWith 31 = .ok (.iload_n 1, 1) := by decide +kernel
theorem dX3_timeWith_32 : decode cX3_timeWith 32 = .ok (.aload_n 0, 1) := by decide +kernel
theorem dX3_timeWith_33 : decode cX3_timeWith 33 = .ok (.getfield 34, 3) := by decide +kernel
theorem dX3_timeWith_36 : decode cX3_timeWith 36 = .ok (.bipush 30, 2) := by decide +kernel
theorem dX3_timeWith_38 : decode cX3_timeWith 38 = .ok (.iload_n 1, 1) := by decide +kernel
theorem dX3_timeWith_39 : decode cX3_timeWith 39 = .ok (.imul, 1) := by decide +kernel
theorem dX3_timeWith_40 : decode cX3_timeWith 40 = .ok (.iload 5, 2) := by decide +kernel
theorem dX3_timeWith_42 : decode cX3_timeWith 42 = .ok (.iadd, 1) := by decide +kernel
theorem dX3_timeWith_43 : decode cX3_timeWith 43 = .ok (.iconst 1, 1) := by decide +kernel
theorem dX3_timeWith_44 : decode cX3_timeWith 44 = .ok (.isub, 1) := by decide +kernel
theorem dX3_timeWith_45 : decode cX3_timeWith 45 = .ok (.iaload, 1) := by decide +kernel
theorem dX3_timeWith_46 : decode cX3_timeWith 46 = .ok (.iload_n 2, 1) := by decide +kernel
theorem dX3_timeWith_47 : decode cX3_timeWith 47 = .ok (.iload_n 3, 1) := by decide +kernel
theorem dX3_timeWith_48 : decode cX3_timeWith 48 = .ok (.invokevirtual 60, 3) := by decide +kernel
theorem dX3_timeWith_51 : decode cX3_timeWith 51 = .ok (.istore 6, 2) := by decide +kernel
theorem dX3_timeWith_53 : decode cX3_timeWith 53 = .ok (.iload 4, 2) := by decide +kernel
theorem dX3_timeWith_55 : decode cX3_timeWith 55 = .ok (.iload 6, 2) := by decide +kernel
theorem dX3_timeWith_57 : decode cX3_timeWith 57 = .ok (.aload_n 0, 1) := by decide +kernel
theorem dX3_timeWith_58 : decode cX3_timeWith 58 = .ok (.iload_n 1, 1) := by decide +kernel
theorem dX3_timeWith_59 : decode cX3_timeWith 59 = .ok (.aload_n 0, 1) := by decide +kernel
theorem dX3_timeWith_60 : decode cX3_timeWith 60 = .ok (.getfield 34, 3) := by decide +kernel
theorem dX3_timeWith_63 : decode cX3_timeWith 63 = .ok (.bipush 30, 2) := by decide +kernel
theorem dX3_timeWith_65 : decode cX3_timeWith 65 = .ok (.iload_n 1, 1) := by decide +kernel
theorem dX3_timeWith_66 : decode cX3_timeWith 66 = .ok (.imul, 1) := by decide +kernel
theorem dX3_timeWith_67 : decode cX3_timeWith 67 = .ok (.iload 5, 2) := by decide +kernel
theorem dX3_timeWith_69 : decode cX3_timeWith 69 = .ok (.iadd, 1) := by decide +kernel
theorem dX3_timeWith_70 : decode cX3_timeWith 70 = .ok (.iaload, 1) := by decide +kernel
theorem dX3_timeWith_71 : decode cX3_timeWith 71 = .ok (.iload_n 2, 1) := by decide +kernel
theorem dX3_timeWith_72 : decode cX3_timeWith 72 = .ok (.iload_n 3, 1) := by decide +kernel
theorem dX3_timeWith_73 : decode cX3_timeWith 73 = .ok (.invokevirtual 60, 3) := by decide +kernel
theorem dX3_timeWith_76 : decode cX3_timeWith 76 = .ok (.invokestatic 64, 3) := by decide +kernel
theorem dX3_timeWith_79 : decode cX3_timeWith 79 = .ok (.iadd, 1) := by decide +kernel
theorem dX3_timeWith_80 : decode cX3_timeWith 80 = .ok (.istore 4, 2) := by decide +kernel
theorem dX3_timeWith_82 : decode cX3_timeWith 82 = .ok (.iinc 5 1, 3) := by decide +kernel
theorem dX3_timeWith_85 : decode cX3_timeWith 85 = .ok (.goto (-66), 3) := by decide +kernel
theorem dX3_timeWith_88 : decode cX3_timeWith 88 = .ok (.iload 4, 2) := by decide +kernel
theorem dX3_timeWith_90 : decode cX3_timeWith 90 = .ok (.ireturn, 1) := by decide +kernel
set_option maxRecDepth 20000 in
theorem ggX3_saved_X3_timeWith : GoodIn wsX3_saved wsX3_timeWith := goodIn_r _ [5, 6, 7, 8, 9, 10, 4, 11, 12, 13, 14, 15, 16, 17, 18, 19, 20, 21, 22, 23, 24, 25, 26, 27, 28, 29, 30, 31, 32] (by decide +kernel) (by decide +kernel)
set_option maxRecDepth 20000 in
theorem gX3_saved_X3_timeWith : GoodIn wsX3_saved (wsV RX3 68 RX3 yX3_timeWith wsX3_timeWith) := goodIn_app (goodIn_of _ (by decide +kernel)) ggX3_saved_X3_timeWith
theorem dX3_saved_0 : decode cX3_saved 0 = .ok (.aload_n 0, 1) := by decide +kernel
theorem dX3_saved_1 : decode cX3_saved 1 = .ok (.iload_n 1, 1) := by decide +kernel
theorem dX3_saved_2 : decode cX3_saved 2 = .ok (.iconst 0, 1) := by decide +kernel
theorem dX3_saved_3 : decode cX3_saved 3 = .ok (.iconst 0, 1) := by decide +kernel
theorem dX3_saved_4 : decode cX3_saved 4 = .ok (.invokevirtual 68, 3) := by decide +kernel
theorem dX3_saved_7 : decode cX3_saved 7 = .ok (.aload_n 0, 1) := by decide +kernel
theorem dX3_saved_8 : decode cX3_saved 8 = .ok (.iload_n 1, 1) := by decide +kernel
theorem dX3_saved_9 : decode cX3_saved 9 = .ok (.iload_n 2, 1) := by decide +kernel
theorem dX3_saved_10 : decode cX3_saved 10 = .ok (.iload_n 3, 1) := by decide +kernel
theorem dX3_saved_11 : decode cX3_saved 11 = .ok (.invokevirtual 68, 3) := by decide +kernel
theorem dX3_saved_14 : decode cX3_saved 14 = .ok (.isub, 1) := by decide +kernel
theorem dX3_saved_15 : decode cX3_saved 15 = .ok (.ireturn, 1) := by decide +kernel
set_option maxRecDepth 20000 in
theorem ggX3_student_X3_refused : GoodIn wsX3_student wsX3_refused := goodIn_r _ [7, 8, 9, 10, 11, 12, 13, 14, 15, 16, 17, 18, 19, 20, 21, 22, 23, 24, 25] (by decide +kernel) (by decide +kernel)
set_option maxRecDepth 20000 in
theorem gX3_student_X3_refused : GoodIn wsX3_student (wsV RX3 72 RX3 yX3_refused wsX3_refused) := goodIn_app (goodIn_of _ (by decide +kernel)) ggX3_student_X3_refused
theorem dX3_student_0 : decode cX3_student 0 = .ok (.aload_n 0, 1) := by decide +kernel
theorem dX3_student_1 : decode cX3_student 1 = .ok (.aload_n 0, 1) := by decide +kernel
theorem dX3_student_2 : decode cX3_student 2 = .ok (.getfield 53, 3) := by decide +kernel
theorem dX3_student_5 : decode cX3_student 5 = .ok (.iconst 5, 1) := by decide +kernel
theorem dX3_student_6 : decode cX3_student 6 = .ok (.if_icmp .ne 7, 3) := by decide +kernel
theorem dX3_student_9 : decode cX3_student 9 = .ok (.iconst 1, 1) := by decide +kernel
theorem dX3_student_10 : decode cX3_student 10 = .ok (.goto 4, 3) := by decide +kernel
theorem dX3_student_13 : decode cX3_student 13 = .ok (.iconst 0, 1) := by decide +kernel
theorem dX3_student_14 : decode cX3_student 14 = .ok (.invokevirtual 72, 3) := by decide +kernel
theorem dX3_student_17 : decode cX3_student 17 = .ok (.ifCond .eq 5, 3) := by decide +kernel
theorem dX3_student_20 : decode cX3_student 20 = .ok (.iconst 0, 1) := by decide +kernel
theorem dX3_student_21 : decode cX3_student 21 = .ok (.ireturn, 1) := by decide +kernel
theorem dX3_student_22 : decode cX3_student 22 = .ok (.aload_n 0, 1) := by decide +kernel
theorem dX3_student_23 : decode cX3_student 23 = .ok (.getfield 28, 3) := by decide +kernel
theorem dX3_student_26 : decode cX3_student 26 = .ok (.aload_n 0, 1) := by decide +kernel
theorem dX3_student_27 : decode cX3_student 27 = .ok (.getfield 53, 3) := by decide +kernel
theorem dX3_student_30 : decode cX3_student 30 = .ok (.iconst (-1), 1) := by decide +kernel
theorem dX3_student_31 : decode cX3_student 31 = .ok (.iastore, 1) := by decide +kernel
theorem dX3_student_32 : decode cX3_student 32 = .ok (.aload_n 0, 1) := by decide +kernel
theorem dX3_student_33 : decode cX3_student 33 = .ok (.dup, 1) := by decide +kernel
theorem dX3_student_34 : decode cX3_student 34 = .ok (.getfield 53, 3) := by decide +kernel
theorem dX3_student_37 : decode cX3_student 37 = .ok (.iconst 1, 1) := by decide +kernel
theorem dX3_student_38 : decode cX3_student 38 = .ok (.iadd, 1) := by decide +kernel
theorem dX3_student_39 : decode cX3_student 39 = .ok (.putfield 53, 3) := by decide +kernel
theorem dX3_student_42 : decode cX3_student 42 = .ok (.aload_n 0, 1) := by decide +kernel
theorem dX3_student_43 : decode cX3_student 43 = .ok (.getfield 53, 3) := by decide +kernel
theorem dX3_student_46 : decode cX3_student 46 = .ok (.iconst 1, 1) := by decide +kernel
theorem dX3_student_47 : decode cX3_student 47 = .ok (.isub, 1) := by decide +kernel
theorem dX3_student_48 : decode cX3_student 48 = .ok (.ireturn, 1) := by decide +kernel
set_option maxRecDepth 20000 in
theorem ggX3_carry_X3_isStudent : GoodIn wsX3_carry wsX3_isStudent := goodIn_r _ [6, 7, 8, 9, 5, 10, 16, 17, 18, 19, 20, 21, 22, 23, 24, 25, 26, 27, 28, 29, 30, 31, 32] (by decide +kernel) (by decide +kernel)
set_option maxRecDepth 20000 in
theorem gX3_carry_X3_isStudent : GoodIn wsX3_carry (wsV RX3 76 RX3 yX3_isStudent wsX3_isStudent) := goodIn_app (goodIn_of _ (by decide +kernel)) ggX3_carry_X3_isStudent
set_option maxRecDepth 20000 in
theorem ggX3_carry_X3_is : GoodIn wsX3_carry wsX3_is := goodIn_r _ [10] (by decide +kernel) (by decide +kernel)
set_option maxRecDepth 20000 in
theorem gX3_carry_X3_is : GoodIn wsX3_carry (va_wsS RX3 56 yX3_is wsX3_is) := goodIn_app (goodIn_of _ (by decide +kernel)) ggX3_carry_X3_is
set_option maxRecDepth 20000 in
theorem ggX3_carry_X3_refused : GoodIn wsX3_carry wsX3_refused := goodIn_r _ [14, 15, 16, 17, 18, 19, 20, 21, 22, 23, 24, 25, 26, 27, 28, 29, 30, 31, 32] (by decide +kernel) (by decide +kernel)
set_option maxRecDepth 20000 in
theorem gX3_carry_X3_refused : GoodIn wsX3_carry (wsV RX3 72 RX3 yX3_refused wsX3_refused) := goodIn_app (goodIn_of _ (by decide +kernel)) ggX3_carry_X3_refused
theorem dX3_carry_0 : decode cX3_carry 0 = .ok (.aload_n 0, 1) := by decide +kernel
theorem dX3_carry_1 : decode cX3_carry 1 = .ok (.aload_n 0, 1) := by decide +kernel
theorem dX3_carry_2 : decode cX3_carry 2 = .ok (.iload_n 1, 1) := by decide +kernel
theorem dX3_carry_3 : decode cX3_carry 3 = .ok (.invokevirtual 76, 3) := by decide +kernel
theorem dX3_carry_6 : decode cX3_carry 6 = .ok (.ifCond .ne 7, 3) := by decide +kernel
theorem dX3_carry_9 : decode cX3_carry 9 = .ok (.iconst 1, 1) := by decide +kernel
theorem dX3_carry_10 : decode cX3_carry 10 = .ok (.goto 17, 3) := by decide +kernel
theorem dX3_carry_13 : decode cX3_carry 13 = .ok (.iload_n 2, 1) := by decide +kernel
theorem dX3_carry_14 : decode cX3_carry 14 = .ok (.iconst 0, 1) := by decide +kernel
theorem dX3_carry_15 : decode cX3_carry 15 = .ok (.iconst 1, 1) := by decide +kernel
theorem dX3_carry_16 : decode cX3_carry 16 = .ok (.invokestatic 56, 3) := by decide +kernel
theorem dX3_carry_19 : decode cX3_carry 19 = .ok (.ifCond .ne 7, 3) := by decide +kernel
theorem dX3_carry_22 : decode cX3_carry 22 = .ok (.iconst 2, 1) := by decide +kernel
theorem dX3_carry_23 : decode cX3_carry 23 = .ok (.goto 4, 3) := by decide +kernel
theorem dX3_carry_26 : decode cX3_carry 26 = .ok (.iconst 0, 1) := by decide +kernel
theorem dX3_carry_27 : decode cX3_carry 27 = .ok (.invokevirtual 72, 3) := by decide +kernel
theorem dX3_carry_30 : decode cX3_carry 30 = .ok (.ifCond .eq 5, 3) := by decide +kernel
theorem dX3_carry_33 : decode cX3_carry 33 = .ok (.iconst 0, 1) := by decide +kernel
theorem dX3_carry_34 : decode cX3_carry 34 = .ok (.ireturn, 1) := by decide +kernel
theorem dX3_carry_35 : decode cX3_carry 35 = .ok (.aload_n 0, 1) := by decide +kernel
theorem dX3_carry_36 : decode cX3_carry 36 = .ok (.getfield 16, 3) := by decide +kernel
theorem dX3_carry_39 : decode cX3_carry 39 = .ok (.iload_n 1, 1) := by decide +kernel
theorem dX3_carry_40 : decode cX3_carry 40 = .ok (.iaload, 1) := by decide +kernel
theorem dX3_carry_41 : decode cX3_carry 41 = .ok (.istore_n 3, 1) := by decide +kernel
theorem dX3_carry_42 : decode cX3_carry 42 = .ok (.aload_n 0, 1) := by decide +kernel
theorem dX3_carry_43 : decode cX3_carry 43 = .ok (.getfield 16, 3) := by decide +kernel
theorem dX3_carry_46 : decode cX3_carry 46 = .ok (.iload_n 1, 1) := by decide +kernel
theorem dX3_carry_47 : decode cX3_carry 47 = .ok (.iload_n 2, 1) := by decide +kernel
theorem dX3_carry_48 : decode cX3_carry 48 = .ok (.iastore, 1) := by decide +kernel
theorem dX3_carry_49 : decode cX3_carry 49 = .ok (.iload_n 3, 1) := by decide +kernel
theorem dX3_carry_50 : decode cX3_carry 50 = .ok (.ireturn, 1) := by decide +kernel
set_option maxRecDepth 20000 in
theorem ggX3_why_X3_isStudent : GoodIn wsX3_why wsX3_isStudent := goodIn_r _ [5, 6, 7, 8, 4, 9, 13, 14, 15, 16, 17, 18, 19, 20, 21, 22, 23, 24, 25, 26, 27, 28, 29] (by decide +kernel) (by decide +kernel)
set_option maxRecDepth 20000 in
theorem gX3_why_X3_isStudent : GoodIn wsX3_why (wsV RX3 76 RX3 yX3_isStudent wsX3_isStudent) := goodIn_app (goodIn_of _ (by decide +kernel)) ggX3_why_X3_isStudent
set_option maxRecDepth 20000 in
theorem ggX3_why_X3_isKey : GoodIn wsX3_why wsX3_isKey := goodIn_r _ [12, 7, 8, 4, 9] (by decide +kernel) (by decide +kernel)
set_option maxRecDepth 20000 in
theorem gX3_why_X3_isKey : GoodIn wsX3_why (va_wsS RX3 79 yX3_isKey wsX3_isKey) := goodIn_app (goodIn_of _ (by decide +kernel)) ggX3_why_X3_isKey
theorem dX3_why_0 : decode cX3_why 0 = .ok (.aload_n 0, 1) := by decide +kernel
theorem dX3_why_1 : decode cX3_why 1 = .ok (.iload_n 1, 1) := by decide +kernel
theorem dX3_why_2 : decode cX3_why 2 = .ok (.invokevirtual 76, 3) := by decide +kernel
theorem dX3_why_5 : decode cX3_why 5 = .ok (.ifCond .eq 21, 3) := by decide +kernel
theorem dX3_why_8 : decode cX3_why 8 = .ok (.iload_n 2, 1) := by decide +kernel
theorem dX3_why_9 : decode cX3_why 9 = .ok (.invokestatic 79, 3) := by decide +kernel
theorem dX3_why_12 : decode cX3_why 12 = .ok (.ifCond .eq 14, 3) := by decide +kernel
theorem dX3_why_15 : decode cX3_why 15 = .ok (.iload_n 3, 1) := by decide +kernel
theorem dX3_why_16 : decode cX3_why 16 = .ok (.invokestatic 79, 3) := by decide +kernel
theorem dX3_why_19 : decode cX3_why 19 = .ok (.ifCond .eq 7, 3) := by decide +kernel
theorem dX3_why_22 : decode cX3_why 22 = .ok (.iconst 1, 1) := by decide +kernel
theorem dX3_why_23 : decode cX3_why 23 = .ok (.goto 4, 3) := by decide +kernel
theorem dX3_why_26 : decode cX3_why 26 = .ok (.iconst 0, 1) := by decide +kernel
theorem dX3_why_27 : decode cX3_why 27 = .ok (.istore 4, 2) := by decide +kernel
theorem dX3_why_29 : decode cX3_why 29 = .ok (.iload 4, 2) := by decide +kernel
theorem dX3_why_31 : decode cX3_why 31 = .ok (.ifCond .ne 7, 3) := by decide +kernel
theorem dX3_why_34 : decode cX3_why 34 = .ok (.iconst 1, 1) := by decide +kernel
theorem dX3_why_35 : decode cX3_why 35 = .ok (.goto 13, 3) := by decide +kernel
theorem dX3_why_38 : decode cX3_why 38 = .ok (.iload_n 2, 1) := by decide +kernel
theorem dX3_why_39 : decode cX3_why 39 = .ok (.iload_n 3, 1) := by decide +kernel
theorem dX3_why_40 : decode cX3_why 40 = .ok (.if_icmp .ne 7, 3) := by decide +kernel
theorem dX3_why_43 : decode cX3_why 43 = .ok (.iconst 2, 1) := by decide +kernel
theorem dX3_why_44 : decode cX3_why 44 = .ok (.goto 4, 3) := by decide +kernel
theorem dX3_why_47 : decode cX3_why 47 = .ok (.iconst 0, 1) := by decide +kernel
theorem dX3_why_48 : decode cX3_why 48 = .ok (.ireturn, 1) := by decide +kernel
set_option maxRecDepth 20000 in
theorem ggX3_swap_X3_why : GoodIn wsX3_swap wsX3_why := goodIn_r _ [9, 10, 11, 12, 8, 13, 14, 15, 16, 17, 18, 19, 20, 43, 44, 45, 46, 47, 48, 49, 50, 51, 52, 53, 54, 55, 56, 57, 58, 59] (by decide +kernel) (by decide +kernel)
set_option maxRecDepth 20000 in
theorem gX3_swap_X3_why : GoodIn wsX3_swap (wsV RX3 82 RX3 yX3_why wsX3_why) := goodIn_app (goodIn_of _ (by decide +kernel)) ggX3_swap_X3_why
set_option maxRecDepth 20000 in
theorem ggX3_swap_X3_refused : GoodIn wsX3_swap wsX3_refused := goodIn_r _ [24, 25, 43, 44, 45, 46, 47, 48, 49, 50, 51, 52, 53, 54, 55, 56, 57, 58, 59] (by decide +kernel) (by decide +kernel)
set_option maxRecDepth 20000 in
theorem gX3_swap_X3_refused : GoodIn wsX3_swap (wsV RX3 72 RX3 yX3_refused wsX3_refused) := goodIn_app (goodIn_of _ (by decide +kernel)) ggX3_swap_X3_refused
set_option maxRecDepth 20000 in
theorem ggX3_swap_X3_saved : GoodIn wsX3_swap wsX3_saved := goodIn_r _ [29, 30, 31, 32, 8, 33, 34, 35, 36, 37, 38, 39, 2, 40, 41, 42, 43, 44, 45, 46, 47, 48, 49, 50, 51, 52, 53, 54, 55, 56, 57, 58, 59] (by decide +kernel) (by decide +kernel)
set_option maxRecDepth 20000 in
theorem gX3_swap_X3_saved : GoodIn wsX3_swap (wsV RX3 85 RX3 yX3_saved wsX3_saved) := goodIn_app (goodIn_of _ (by decide +kernel)) ggX3_swap_X3_saved
theorem dX3_swap_0 : decode cX3_swap 0 = .ok (.aload_n 0, 1) := by decide +kernel
theorem dX3_swap_1 : decode cX3_swap 1 = .ok (.aload_n 0, 1) := by decide +kernel
theorem dX3_swap_2 : decode cX3_swap 2 = .ok (.iload_n 1, 1) := by decide +kernel
theorem dX3_swap_3 : decode cX3_swap 3 = .ok (.iload_n 2, 1) := by decide +kernel
theorem dX3_swap_4 : decode cX3_swap 4 = .ok (.iload_n 3, 1) := by decide +kernel
theorem dX3_swap_5 : decode cX3_swap 5 = .ok (.invokevirtual 82, 3) := by decide +kernel
theorem dX3_swap_8 : decode cX3_swap 8 = .ok (.invokevirtual 72, 3) := by decide +kernel
theorem dX3_swap_11 : decode cX3_swap 11 = .ok (.ifCond .eq 5, 3) := by decide +kernel
theorem dX3_swap_14 : decode cX3_swap 14 = .ok (.iconst 0, 1) := by decide +kernel
theorem dX3_swap_15 : decode cX3_swap 15 = .ok (.ireturn, 1) := by decide +kernel
theorem dX3_swap_16 : decode cX3_swap 16 = .ok (.aload_n 0, 1) := by decide +kernel
theorem dX3_swap_17 : decode cX3_swap 17 = .ok (.iload_n 1, 1) := by decide +kernel
theorem dX3_swap_18 : decode cX3_swap 18 = .ok (.iload_n 2, 1) := by decide +kernel
theorem dX3_swap_19 : decode cX3_swap 19 = .ok (.iload_n 3, 1) := by decide +kernel
theorem dX3_swap_20 : decode cX3_swap 20 = .ok (.invokevirtual 85, 3) := by decide +kernel
theorem dX3_swap_23 : decode cX3_swap 23 = .ok (.istore 4, 2) := by decide +kernel
theorem dX3_swap_25 : decode cX3_swap 25 = .ok (.bipush 12, 2) := by decide +kernel
theorem dX3_swap_27 : decode cX3_swap 27 = .ok (.iload_n 1, 1) := by decide +kernel
theorem dX3_swap_28 : decode cX3_swap 28 = .ok (.imul, 1) := by decide +kernel
theorem dX3_swap_29 : decode cX3_swap 29 = .ok (.istore 5, 2) := by decide +kernel
theorem dX3_swap_31 : decode cX3_swap 31 = .ok (.aload_n 0, 1) := by decide +kernel
theorem dX3_swap_32 : decode cX3_swap 32 = .ok (.getfield 13, 3) := by decide +kernel
theorem dX3_swap_35 : decode cX3_swap 35 = .ok (.iload 5, 2) := by decide +kernel
theorem dX3_swap_37 : decode cX3_swap 37 = .ok (.iload_n 2, 1) := by decide +kernel
theorem dX3_swap_38 : decode cX3_swap 38 = .ok (.iadd, 1) := by decide +kernel
theorem dX3_swap_39 : decode cX3_swap 39 = .ok (.iaload, 1) := by decide +kernel
theorem dX3_swap_40 : decode cX3_swap 40 = .ok (.istore 6, 2) := by decide +kernel
theorem dX3_swap_42 : decode cX3_swap 42 = .ok (.aload_n 0, 1) := by decide +kernel
theorem dX3_swap_43 : decode cX3_swap 43 = .ok (.getfield 13, 3) := by decide +kernel
theorem dX3_swap_46 : decode cX3_swap 46 = .ok (.iload 5, 2) := by decide +kernel
theorem dX3_swap_48 : decode cX3_swap 48 = .ok (.iload_n 2, 1) := by decide +kernel
theorem dX3_swap_49 : decode cX3_swap 49 = .ok (.iadd, 1) := by decide +kernel
theorem dX3_swap_50 : decode cX3_swap 50 = .ok (.aload_n 0, 1) := by decide +kernel
theorem dX3_swap_51 : decode cX3_swap 51 = .ok (.getfield 13, 3) := by decide +kernel
theorem dX3_swap_54 : decode cX3_swap 54 = .ok (.iload 5, 2) := by decide +kernel
theorem dX3_swap_56 : decode cX3_swap 56 = .ok (.iload_n 3, 1) := by decide +kernel
theorem dX3_swap_57 : decode cX3_swap 57 = .ok (.iadd, 1) := by decide +kernel
theorem dX3_swap_58 : decode cX3_swap 58 = .ok (.iaload, 1) := by decide +kernel
theorem dX3_swap_59 : decode cX3_swap 59 = .ok (.iastore, 1) := by decide +kernel
theorem dX3_swap_60 : decode cX3_swap 60 = .ok (.aload_n 0, 1) := by decide +kernel
theorem dX3_swap_61 : decode cX3_swap 61 = .ok (.getfield 13, 3) := by decide +kernel
theorem dX3_swap_64 : decode cX3_swap 64 = .ok (.iload 5, 2) := by decide +kernel
theorem dX3_swap_66 : decode cX3_swap 66 = .ok (.iload_n 3, 1) := by decide +kernel
theorem dX3_swap_67 : decode cX3_swap 67 = .ok (.iadd, 1) := by decide +kernel
theorem dX3_swap_68 : decode cX3_swap 68 = .ok (.iload 6, 2) := by decide +kernel
theorem dX3_swap_70 : decode cX3_swap 70 = .ok (.iastore, 1) := by decide +kernel
theorem dX3_swap_71 : decode cX3_swap 71 = .ok (.aload_n 0, 1) := by decide +kernel
theorem dX3_swap_72 : decode cX3_swap 72 = .ok (.getfield 7, 3) := by decide +kernel
theorem dX3_swap_75 : decode cX3_swap 75 = .ok (.iload 5, 2) := by decide +kernel
theorem dX3_swap_77 : decode cX3_swap 77 = .ok (.aload_n 0, 1) := by decide +kernel
theorem dX3_swap_78 : decode cX3_swap 78 = .ok (.getfield 13, 3) := by decide +kernel
theorem dX3_swap_81 : decode cX3_swap 81 = .ok (.iload 5, 2) := by decide +kernel
theorem dX3_swap_83 : decode cX3_swap 83 = .ok (.iload_n 2, 1) := by decide +kernel
theorem dX3_swap_84 : decode cX3_swap 84 = .ok (.iadd, 1) := by decide +kernel
theorem dX3_swap_85 : decode cX3_swap 85 = .ok (.iaload, 1) := by decide +kernel
theorem dX3_swap_86 : decode cX3_swap 86 = .ok (.iadd, 1) := by decide +kernel
theorem dX3_swap_87 : decode cX3_swap 87 = .ok (.iload_n 2, 1) := by decide +kernel
theorem dX3_swap_88 : decode cX3_swap 88 = .ok (.iastore, 1) := by decide +kernel
theorem dX3_swap_89 : decode cX3_swap 89 = .ok (.aload_n 0, 1) := by decide +kernel
theorem dX3_swap_90 : decode cX3_swap 90 = .ok (.getfield 7, 3) := by decide +kernel
theorem dX3_swap_93 : decode cX3_swap 93 = .ok (.iload 5, 2) := by decide +kernel
theorem dX3_swap_95 : decode cX3_swap 95 = .ok (.iload 6, 2) := by decide +kernel
theorem dX3_swap_97 : decode cX3_swap 97 = .ok (.iadd, 1) := by decide +kernel
theorem dX3_swap_98 : decode cX3_swap 98 = .ok (.iload_n 3, 1) := by decide +kernel
theorem dX3_swap_99 : decode cX3_swap 99 = .ok (.iastore, 1) := by decide +kernel
theorem dX3_swap_100 : decode cX3_swap 100 = .ok (.aload_n 0, 1) := by decide +kernel
theorem dX3_swap_101 : decode cX3_swap 101 = .ok (.getfield 16, 3) := by decide +kernel
theorem dX3_swap_104 : decode cX3_swap 104 = .ok (.iload_n 1, 1) := by decide +kernel
theorem dX3_swap_105 : decode cX3_swap 105 = .ok (.iaload, 1) := by decide +kernel
theorem dX3_swap_106 : decode cX3_swap 106 = .ok (.iconst 1, 1) := by decide +kernel
theorem dX3_swap_107 : decode cX3_swap 107 = .ok (.if_icmp .ne 43, 3) := by decide +kernel
theorem dX3_swap_110 : decode cX3_swap 110 = .ok (.aload_n 0, 1) := by decide +kernel
theorem dX3_swap_111 : decode cX3_swap 111 = .ok (.getfield 19, 3) := by decide +kernel
theorem dX3_swap_114 : decode cX3_swap 114 = .ok (.iload 5, 2) := by decide +kernel
theorem dX3_swap_116 : decode cX3_swap 116 = .ok (.iload_n 2, 1) := by decide +kernel
theorem dX3_swap_117 : decode cX3_swap 117 = .ok (.iadd, 1) := by decide +kernel
theorem dX3_swap_118 : decode cX3_swap 118 = .ok (.iaload, 1) := by decide +kernel
theorem dX3_swap_119 : decode cX3_swap 119 = .ok (.istore 7, 2) := by decide +kernel
theorem dX3_swap_121 : decode cX3_swap 121 = .ok (.aload_n 0, 1) := by decide +kernel
theorem dX3_swap_122 : decode cX3_swap 122 = .ok (.getfield 19, 3) := by decide +kernel
theorem dX3_swap_125 : decode cX3_swap 125 = .ok (.iload 5, 2) := by decide +kernel
theorem dX3_swap_127 : decode cX3_swap 127 = .ok (.iload_n 2, 1) := by decide +kernel
theorem dX3_swap_128 : decode cX3_swap 128 = .ok (.iadd, 1) := by decide +kernel
