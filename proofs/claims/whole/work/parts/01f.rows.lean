theorem dX3_rank_57 : decode cX3_rank 57 = .ok (.aload_n 0, 1) := by decide +kernel
theorem dX3_rank_58 : decode cX3_rank 58 = .ok (.iload 6, 2) := by decide +kernel
theorem dX3_rank_60 : decode cX3_rank 60 = .ok (.invokevirtual 103, 3) := by decide +kernel
theorem dX3_rank_63 : decode cX3_rank 63 = .ok (.iload 4, 2) := by decide +kernel
theorem dX3_rank_65 : decode cX3_rank 65 = .ok (.if_icmp .ne 13, 3) := by decide +kernel
theorem dX3_rank_68 : decode cX3_rank 68 = .ok (.iload 5, 2) := by decide +kernel
theorem dX3_rank_70 : decode cX3_rank 70 = .ok (.iload_n 2, 1) := by decide +kernel
theorem dX3_rank_71 : decode cX3_rank 71 = .ok (.if_icmp .ge 7, 3) := by decide +kernel
theorem dX3_rank_74 : decode cX3_rank 74 = .ok (.iconst 1, 1) := by decide +kernel
theorem dX3_rank_75 : decode cX3_rank 75 = .ok (.goto 4, 3) := by decide +kernel
theorem dX3_rank_78 : decode cX3_rank 78 = .ok (.iconst 0, 1) := by decide +kernel
theorem dX3_rank_79 : decode cX3_rank 79 = .ok (.iadd, 1) := by decide +kernel
theorem dX3_rank_80 : decode cX3_rank 80 = .ok (.istore_n 3, 1) := by decide +kernel
theorem dX3_rank_81 : decode cX3_rank 81 = .ok (.iinc 5 1, 3) := by decide +kernel
theorem dX3_rank_84 : decode cX3_rank 84 = .ok (.goto (-68), 3) := by decide +kernel
theorem dX3_rank_87 : decode cX3_rank 87 = .ok (.iload_n 3, 1) := by decide +kernel
theorem dX3_rank_88 : decode cX3_rank 88 = .ok (.ireturn, 1) := by decide +kernel
set_option maxRecDepth 20000 in
theorem ggX3_of_X3_isIn : GoodIn wsX3_of wsX3_isIn := goodIn_r _ [7, 8, 9, 10, 11, 6, 12, 26, 27, 28, 29, 30, 31, 32, 33, 34, 35, 36, 37, 38, 39, 40, 41, 42] (by decide +kernel) (by decide +kernel)
set_option maxRecDepth 20000 in
theorem gX3_of_X3_isIn : GoodIn wsX3_of (wsV RX3 98 RX3 yX3_isIn wsX3_isIn) := goodIn_app (goodIn_of _ (by decide +kernel)) ggX3_of_X3_isIn
set_option maxRecDepth 20000 in
theorem ggX3_of_X3_is : GoodIn wsX3_of wsX3_is := goodIn_r _ [12] (by decide +kernel) (by decide +kernel)
set_option maxRecDepth 20000 in
theorem gX3_of_X3_is : GoodIn wsX3_of (va_wsS RX3 56 yX3_is wsX3_is) := goodIn_app (goodIn_of _ (by decide +kernel)) ggX3_of_X3_is
set_option maxRecDepth 20000 in
theorem ggX3_of_X3_refused : GoodIn wsX3_of wsX3_refused := goodIn_r _ [16, 17, 26, 27, 28, 29, 30, 31, 32, 33, 34, 35, 36, 37, 38, 39, 40, 41, 42] (by decide +kernel) (by decide +kernel)
set_option maxRecDepth 20000 in
theorem gX3_of_X3_refused : GoodIn wsX3_of (wsV RX3 72 RX3 yX3_refused wsX3_refused) := goodIn_app (goodIn_of _ (by decide +kernel)) ggX3_of_X3_refused
set_option maxRecDepth 20000 in
theorem ggX3_of_X3_score : GoodIn wsX3_of wsX3_score := goodIn_r _ [21, 2, 1, 26, 27, 28, 29, 30, 31, 32, 33, 34, 35, 36, 37, 38, 39, 40, 41, 42] (by decide +kernel) (by decide +kernel)
set_option maxRecDepth 20000 in
theorem gX3_of_X3_score : GoodIn wsX3_of (wsV RX3 103 RX3 yX3_score wsX3_score) := goodIn_app (goodIn_of _ (by decide +kernel)) ggX3_of_X3_score
set_option maxRecDepth 20000 in
theorem ggX3_of_X3_rank : GoodIn wsX3_of wsX3_rank := goodIn_r _ [25, 9, 2, 18, 19, 20, 6, 21, 1, 26, 27, 28, 29, 30, 31, 32, 33, 34, 35, 36, 37, 38, 39, 40, 41, 42] (by decide +kernel) (by decide +kernel)
set_option maxRecDepth 20000 in
theorem gX3_of_X3_rank : GoodIn wsX3_of (wsV RX3 106 RX3 yX3_rank wsX3_rank) := goodIn_app (goodIn_of _ (by decide +kernel)) ggX3_of_X3_rank
theorem dX3_of_0 : decode cX3_of 0 = .ok (.aload_n 0, 1) := by decide +kernel
theorem dX3_of_1 : decode cX3_of 1 = .ok (.aload_n 0, 1) := by decide +kernel
theorem dX3_of_2 : decode cX3_of 2 = .ok (.iload_n 1, 1) := by decide +kernel
theorem dX3_of_3 : decode cX3_of 3 = .ok (.iload_n 2, 1) := by decide +kernel
theorem dX3_of_4 : decode cX3_of 4 = .ok (.invokevirtual 98, 3) := by decide +kernel
theorem dX3_of_7 : decode cX3_of 7 = .ok (.ifCond .ne 7, 3) := by decide +kernel
theorem dX3_of_10 : decode cX3_of 10 = .ok (.iconst 1, 1) := by decide +kernel
theorem dX3_of_11 : decode cX3_of 11 = .ok (.goto 17, 3) := by decide +kernel
theorem dX3_of_14 : decode cX3_of 14 = .ok (.iload_n 3, 1) := by decide +kernel
theorem dX3_of_15 : decode cX3_of 15 = .ok (.iconst 0, 1) := by decide +kernel
theorem dX3_of_16 : decode cX3_of 16 = .ok (.iconst 3, 1) := by decide +kernel
theorem dX3_of_17 : decode cX3_of 17 = .ok (.invokestatic 56, 3) := by decide +kernel
theorem dX3_of_20 : decode cX3_of 20 = .ok (.ifCond .ne 7, 3) := by decide +kernel
theorem dX3_of_23 : decode cX3_of 23 = .ok (.iconst 2, 1) := by decide +kernel
theorem dX3_of_24 : decode cX3_of 24 = .ok (.goto 4, 3) := by decide +kernel
theorem dX3_of_27 : decode cX3_of 27 = .ok (.iconst 0, 1) := by decide +kernel
theorem dX3_of_28 : decode cX3_of 28 = .ok (.invokevirtual 72, 3) := by decide +kernel
theorem dX3_of_31 : decode cX3_of 31 = .ok (.ifCond .eq 5, 3) := by decide +kernel
theorem dX3_of_34 : decode cX3_of 34 = .ok (.iconst 0, 1) := by decide +kernel
theorem dX3_of_35 : decode cX3_of 35 = .ok (.ireturn, 1) := by decide +kernel
theorem dX3_of_36 : decode cX3_of 36 = .ok (.iconst 5, 1) := by decide +kernel
theorem dX3_of_37 : decode cX3_of 37 = .ok (.iload_n 1, 1) := by decide +kernel
theorem dX3_of_38 : decode cX3_of 38 = .ok (.imul, 1) := by decide +kernel
theorem dX3_of_39 : decode cX3_of 39 = .ok (.iload_n 2, 1) := by decide +kernel
theorem dX3_of_40 : decode cX3_of 40 = .ok (.iadd, 1) := by decide +kernel
theorem dX3_of_41 : decode cX3_of 41 = .ok (.istore 4, 2) := by decide +kernel
theorem dX3_of_43 : decode cX3_of 43 = .ok (.iload_n 3, 1) := by decide +kernel
theorem dX3_of_44 : decode cX3_of 44 = .ok (.ifCond .ne 11, 3) := by decide +kernel
theorem dX3_of_47 : decode cX3_of 47 = .ok (.aload_n 0, 1) := by decide +kernel
theorem dX3_of_48 : decode cX3_of 48 = .ok (.getfield 43, 3) := by decide +kernel
theorem dX3_of_51 : decode cX3_of 51 = .ok (.iload 4, 2) := by decide +kernel
theorem dX3_of_53 : decode cX3_of 53 = .ok (.iaload, 1) := by decide +kernel
theorem dX3_of_54 : decode cX3_of 54 = .ok (.ireturn, 1) := by decide +kernel
theorem dX3_of_55 : decode cX3_of 55 = .ok (.aload_n 0, 1) := by decide +kernel
theorem dX3_of_56 : decode cX3_of 56 = .ok (.getfield 46, 3) := by decide +kernel
theorem dX3_of_59 : decode cX3_of 59 = .ok (.iload 4, 2) := by decide +kernel
theorem dX3_of_61 : decode cX3_of 61 = .ok (.iaload, 1) := by decide +kernel
theorem dX3_of_62 : decode cX3_of 62 = .ok (.ifCond .ne 7, 3) := by decide +kernel
theorem dX3_of_65 : decode cX3_of 65 = .ok (.iconst (-1), 1) := by decide +kernel
theorem dX3_of_66 : decode cX3_of 66 = .ok (.goto 38, 3) := by decide +kernel
theorem dX3_of_69 : decode cX3_of 69 = .ok (.iload_n 3, 1) := by decide +kernel
theorem dX3_of_70 : decode cX3_of 70 = .ok (.iconst 1, 1) := by decide +kernel
theorem dX3_of_71 : decode cX3_of 71 = .ok (.if_icmp .ne 13, 3) := by decide +kernel
theorem dX3_of_74 : decode cX3_of 74 = .ok (.aload_n 0, 1) := by decide +kernel
theorem dX3_of_75 : decode cX3_of 75 = .ok (.getfield 46, 3) := by decide +kernel
theorem dX3_of_78 : decode cX3_of 78 = .ok (.iload 4, 2) := by decide +kernel
theorem dX3_of_80 : decode cX3_of 80 = .ok (.iaload, 1) := by decide +kernel
theorem dX3_of_81 : decode cX3_of 81 = .ok (.goto 23, 3) := by decide +kernel
theorem dX3_of_84 : decode cX3_of 84 = .ok (.iload_n 3, 1) := by decide +kernel
theorem dX3_of_85 : decode cX3_of 85 = .ok (.iconst 2, 1) := by decide +kernel
theorem dX3_of_86 : decode cX3_of 86 = .ok (.if_icmp .ne 12, 3) := by decide +kernel
theorem dX3_of_89 : decode cX3_of 89 = .ok (.aload_n 0, 1) := by decide +kernel
theorem dX3_of_90 : decode cX3_of 90 = .ok (.iload 4, 2) := by decide +kernel
theorem dX3_of_92 : decode cX3_of 92 = .ok (.invokevirtual 103, 3) := by decide +kernel
theorem dX3_of_95 : decode cX3_of 95 = .ok (.goto 9, 3) := by decide +kernel
theorem dX3_of_98 : decode cX3_of 98 = .ok (.aload_n 0, 1) := by decide +kernel
theorem dX3_of_99 : decode cX3_of 99 = .ok (.iload_n 1, 1) := by decide +kernel
theorem dX3_of_100 : decode cX3_of 100 = .ok (.iload_n 2, 1) := by decide +kernel
theorem dX3_of_101 : decode cX3_of 101 = .ok (.invokevirtual 106, 3) := by decide +kernel
theorem dX3_of_104 : decode cX3_of 104 = .ok (.ireturn, 1) := by decide +kernel
set_option maxRecDepth 20000 in
theorem ggX3_ranked_X3_is : GoodIn wsX3_ranked wsX3_is := goodIn_r _ [7] (by decide +kernel) (by decide +kernel)
set_option maxRecDepth 20000 in
theorem gX3_ranked_X3_is : GoodIn wsX3_ranked (va_wsS RX3 56 yX3_is wsX3_is) := goodIn_app (goodIn_of _ (by decide +kernel)) ggX3_ranked_X3_is
set_option maxRecDepth 20000 in
theorem ggX3_ranked_X3_refused : GoodIn wsX3_ranked wsX3_refused := goodIn_r _ [11, 12, 22, 23, 24, 25, 26, 27, 28, 29, 30, 31, 32, 33, 34, 35, 36, 37, 38] (by decide +kernel) (by decide +kernel)
set_option maxRecDepth 20000 in
theorem gX3_ranked_X3_refused : GoodIn wsX3_ranked (wsV RX3 72 RX3 yX3_refused wsX3_refused) := goodIn_app (goodIn_of _ (by decide +kernel)) ggX3_ranked_X3_refused
set_option maxRecDepth 20000 in
theorem ggX3_ranked_X3_rank : GoodIn wsX3_ranked wsX3_rank := goodIn_r _ [16, 2, 3, 17, 18, 19, 6, 20, 21, 22, 23, 24, 25, 26, 27, 28, 29, 30, 31, 32, 33, 34, 35, 36, 37, 38] (by decide +kernel) (by decide +kernel)
set_option maxRecDepth 20000 in
theorem gX3_ranked_X3_rank : GoodIn wsX3_ranked (wsV RX3 106 RX3 yX3_rank wsX3_rank) := goodIn_app (goodIn_of _ (by decide +kernel)) ggX3_ranked_X3_rank
theorem dX3_ranked_0 : decode cX3_ranked 0 = .ok (.aload_n 0, 1) := by decide +kernel
theorem dX3_ranked_1 : decode cX3_ranked 1 = .ok (.iload_n 1, 1) := by decide +kernel
theorem dX3_ranked_2 : decode cX3_ranked 2 = .ok (.iconst 0, 1) := by decide +kernel
theorem dX3_ranked_3 : decode cX3_ranked 3 = .ok (.aload_n 0, 1) := by decide +kernel
theorem dX3_ranked_4 : decode cX3_ranked 4 = .ok (.getfield 95, 3) := by decide +kernel
theorem dX3_ranked_7 : decode cX3_ranked 7 = .ok (.iconst 1, 1) := by decide +kernel
theorem dX3_ranked_8 : decode cX3_ranked 8 = .ok (.isub, 1) := by decide +kernel
theorem dX3_ranked_9 : decode cX3_ranked 9 = .ok (.invokestatic 56, 3) := by decide +kernel
theorem dX3_ranked_12 : decode cX3_ranked 12 = .ok (.ifCond .eq 11, 3) := by decide +kernel
theorem dX3_ranked_15 : decode cX3_ranked 15 = .ok (.iload_n 2, 1) := by decide +kernel
theorem dX3_ranked_16 : decode cX3_ranked 16 = .ok (.ifCond .lt 7, 3) := by decide +kernel
theorem dX3_ranked_19 : decode cX3_ranked 19 = .ok (.iconst 0, 1) := by decide +kernel
theorem dX3_ranked_20 : decode cX3_ranked 20 = .ok (.goto 4, 3) := by decide +kernel
theorem dX3_ranked_23 : decode cX3_ranked 23 = .ok (.iconst 1, 1) := by decide +kernel
theorem dX3_ranked_24 : decode cX3_ranked 24 = .ok (.invokevirtual 72, 3) := by decide +kernel
theorem dX3_ranked_27 : decode cX3_ranked 27 = .ok (.ifCond .eq 5, 3) := by decide +kernel
theorem dX3_ranked_30 : decode cX3_ranked 30 = .ok (.iconst 0, 1) := by decide +kernel
theorem dX3_ranked_31 : decode cX3_ranked 31 = .ok (.ireturn, 1) := by decide +kernel
theorem dX3_ranked_32 : decode cX3_ranked 32 = .ok (.iconst (-1), 1) := by decide +kernel
theorem dX3_ranked_33 : decode cX3_ranked 33 = .ok (.istore_n 3, 1) := by decide +kernel
theorem dX3_ranked_34 : decode cX3_ranked 34 = .ok (.iconst 0, 1) := by decide +kernel
theorem dX3_ranked_35 : decode cX3_ranked 35 = .ok (.istore 4, 2) := by decide +kernel
theorem dX3_ranked_37 : decode cX3_ranked 37 = .ok (.iload 4, 2) := by decide +kernel
theorem dX3_ranked_39 : decode cX3_ranked 39 = .ok (.aload_n 0, 1) := by decide +kernel
theorem dX3_ranked_40 : decode cX3_ranked 40 = .ok (.getfield 40, 3) := by decide +kernel
theorem dX3_ranked_43 : decode cX3_ranked 43 = .ok (.iload_n 1, 1) := by decide +kernel
theorem dX3_ranked_44 : decode cX3_ranked 44 = .ok (.iaload, 1) := by decide +kernel
theorem dX3_ranked_45 : decode cX3_ranked 45 = .ok (.if_icmp .ge 41, 3) := by decide +kernel
theorem dX3_ranked_48 : decode cX3_ranked 48 = .ok (.aload_n 0, 1) := by decide +kernel
theorem dX3_ranked_49 : decode cX3_ranked 49 = .ok (.getfield 46, 3) := by decide +kernel
theorem dX3_ranked_52 : decode cX3_ranked 52 = .ok (.iconst 5, 1) := by decide +kernel
theorem dX3_ranked_53 : decode cX3_ranked 53 = .ok (.iload_n 1, 1) := by decide +kernel
theorem dX3_ranked_54 : decode cX3_ranked 54 = .ok (.imul, 1) := by decide +kernel
theorem dX3_ranked_55 : decode cX3_ranked 55 = .ok (.iload 4, 2) := by decide +kernel
theorem dX3_ranked_57 : decode cX3_ranked 57 = .ok (.iadd, 1) := by decide +kernel
theorem dX3_ranked_58 : decode cX3_ranked 58 = .ok (.iaload, 1) := by decide +kernel
theorem dX3_ranked_59 : decode cX3_ranked 59 = .ok (.ifCond .le 19, 3) := by decide +kernel
theorem dX3_ranked_62 : decode cX3_ranked 62 = .ok (.aload_n 0, 1) := by decide +kernel
theorem dX3_ranked_63 : decode cX3_ranked 63 = .ok (.iload_n 1, 1) := by decide +kernel
theorem dX3_ranked_64 : decode cX3_ranked 64 = .ok (.iload 4, 2) := by decide +kernel
theorem dX3_ranked_66 : decode cX3_ranked 66 = .ok (.invokevirtual 106, 3) := by decide +kernel
theorem dX3_ranked_69 : decode cX3_ranked 69 = .ok (.iload_n 2, 1) := by decide +kernel
theorem dX3_ranked_70 : decode cX3_ranked 70 = .ok (.if_icmp .ne 8, 3) := by decide +kernel
theorem dX3_ranked_73 : decode cX3_ranked 73 = .ok (.iload 4, 2) := by decide +kernel
theorem dX3_ranked_75 : decode cX3_ranked 75 = .ok (.goto 4, 3) := by decide +kernel
theorem dX3_ranked_78 : decode cX3_ranked 78 = .ok (.iload_n 3, 1) := by decide +kernel
theorem dX3_ranked_79 : decode cX3_ranked 79 = .ok (.istore_n 3, 1) := by decide +kernel
theorem dX3_ranked_80 : decode cX3_ranked 80 = .ok (.iinc 4 1, 3) := by decide +kernel
theorem dX3_ranked_83 : decode cX3_ranked 83 = .ok (.goto (-46), 3) := by decide +kernel
theorem dX3_ranked_86 : decode cX3_ranked 86 = .ok (.iload_n 3, 1) := by decide +kernel
theorem dX3_ranked_87 : decode cX3_ranked 87 = .ok (.ireturn, 1) := by decide +kernel
theorem dJ9_abs_0f7a4_0 : decode cJ9_abs_0f7a4 0 = .ok (.iload_n 0, 1) := by decide +kernel
theorem dJ9_abs_0f7a4_1 : decode cJ9_abs_0f7a4 1 = .ok (.ifCond .ge 8, 3) := by decide +kernel
theorem dJ9_abs_0f7a4_4 : decode cJ9_abs_0f7a4 4 = .ok (.iload_n 0, 1) := by decide +kernel
theorem dJ9_abs_0f7a4_5 : decode cJ9_abs_0f7a4 5 = .ok (.ineg, 1) := by decide +kernel
theorem dJ9_abs_0f7a4_6 : decode cJ9_abs_0f7a4 6 = .ok (.goto 4, 3) := by decide +kernel
theorem dJ9_abs_0f7a4_9 : decode cJ9_abs_0f7a4 9 = .ok (.iload_n 0, 1) := by decide +kernel
theorem dJ9_abs_0f7a4_10 : decode cJ9_abs_0f7a4 10 = .ok (.ireturn, 1) := by decide +kernel
theorem dJ7_fill_53178_0 : decode cJ7_fill_53178 0 = .ok (.iconst 0, 1) := by decide +kernel
theorem dJ7_fill_53178_1 : decode cJ7_fill_53178 1 = .ok (.istore_n 2, 1) := by decide +kernel
theorem dJ7_fill_53178_2 : decode cJ7_fill_53178 2 = .ok (.aload_n 0, 1) := by decide +kernel
theorem dJ7_fill_53178_3 : decode cJ7_fill_53178 3 = .ok (.arraylength, 1) := by decide +kernel
theorem dJ7_fill_53178_4 : decode cJ7_fill_53178 4 = .ok (.istore_n 3, 1) := by decide +kernel
theorem dJ7_fill_53178_5 : decode cJ7_fill_53178 5 = .ok (.iload_n 2, 1) := by decide +kernel
theorem dJ7_fill_53178_6 : decode cJ7_fill_53178 6 = .ok (.iload_n 3, 1) := by decide +kernel
theorem dJ7_fill_53178_7 : decode cJ7_fill_53178 7 = .ok (.if_icmp .ge 13, 3) := by decide +kernel
theorem dJ7_fill_53178_10 : decode cJ7_fill_53178 10 = .ok (.aload_n 0, 1) := by decide +kernel
theorem dJ7_fill_53178_11 : decode cJ7_fill_53178 11 = .ok (.iload_n 2, 1) := by decide +kernel
theorem dJ7_fill_53178_12 : decode cJ7_fill_53178 12 = .ok (.iload_n 1, 1) := by decide +kernel
theorem dJ7_fill_53178_13 : decode cJ7_fill_53178 13 = .ok (.iastore, 1) := by decide +kernel
theorem dJ7_fill_53178_14 : decode cJ7_fill_53178 14 = .ok (.iinc 2 1, 3) := by decide +kernel
theorem dJ7_fill_53178_17 : decode cJ7_fill_53178 17 = .ok (.goto (-12), 3) := by decide +kernel
theorem dJ7_fill_53178_20 : decode cJ7_fill_53178 20 = .ok (.return_, 1) := by decide +kernel
set_option maxRecDepth 20000 in
theorem ggL_student_X2_student : GoodIn wsL_student wsX2_student := goodIn_ca (goodIn_r _ [6, 7, 8, 9, 10, 11, 12, 13, 14, 15, 16, 17, 18, 19, 20, 21, 22, 23, 24, 25, 26, 27, 5, 28, 29, 30, 31, 32, 33, 34, 35, 36, 37, 38, 39, 40, 41] (by decide +kernel) (by decide +kernel)) (goodIn_sub (fun _ h => List.mem_cons_of_mem _ (List.mem_append_right _ h)) (by decide +kernel))
set_option maxRecDepth 20000 in
theorem gL_student_X2_student : GoodIn wsL_student (wsV RL 7 RX2 yX2_student wsX2_student) := goodIn_app (goodIn_of _ (by decide +kernel)) ggL_student_X2_student
theorem dL_student_0 : decode cL_student 0 = .ok (.aload_n 1, 1) := by decide +kernel
theorem dL_student_1 : decode cL_student 1 = .ok (.iconst 0, 1) := by decide +kernel
theorem dL_student_2 : decode cL_student 2 = .ok (.aload_n 0, 1) := by decide +kernel
theorem dL_student_3 : decode cL_student 3 = .ok (.invokevirtual 7, 3) := by decide +kernel
theorem dL_student_6 : decode cL_student 6 = .ok (.i2l, 1) := by decide +kernel
theorem dL_student_7 : decode cL_student 7 = .ok (.lastore, 1) := by decide +kernel
theorem dL_student_8 : decode cL_student 8 = .ok (.goto 6, 3) := by decide +kernel
theorem dL_student_11 : decode cL_student 11 = .ok (.astore_n 2, 1) := by decide +kernel
theorem dL_student_12 : decode cL_student 12 = .ok (.iconst 1, 1) := by decide +kernel
theorem dL_student_13 : decode cL_student 13 = .ok (.ireturn, 1) := by decide +kernel
theorem dL_student_14 : decode cL_student 14 = .ok (.iconst 0, 1) := by decide +kernel
theorem dL_student_15 : decode cL_student 15 = .ok (.ireturn, 1) := by decide +kernel
set_option maxRecDepth 20000 in
theorem ggL_carry_X2_carry : GoodIn wsL_carry wsX2_carry := goodIn_ca (goodIn_ca (goodIn_r _ [7, 8, 9, 10, 11, 12, 6, 13, 14, 15, 16, 17, 18, 19, 20, 21, 22, 23, 24, 25, 26, 27, 28, 29] (by decide +kernel) (by decide +kernel)) (goodIn_sub (fun _ h => List.mem_cons_of_mem _ (List.mem_append_left _ (List.mem_append_right _ h))) (by decide +kernel))) (goodIn_sub (fun _ h => List.mem_cons_of_mem _ (List.mem_append_right _ h)) (by decide +kernel))
set_option maxRecDepth 20000 in
theorem gL_carry_X2_carry : GoodIn wsL_carry (wsV RL 15 RX2 yX2_carry wsX2_carry) := goodIn_app (goodIn_of _ (by decide +kernel)) ggL_carry_X2_carry
theorem dL_carry_0 : decode cL_carry 0 = .ok (.aload_n 3, 1) := by decide +kernel
theorem dL_carry_1 : decode cL_carry 1 = .ok (.iconst 0, 1) := by decide +kernel
theorem dL_carry_2 : decode cL_carry 2 = .ok (.aload_n 0, 1) := by decide +kernel
theorem dL_carry_3 : decode cL_carry 3 = .ok (.iload_n 1, 1) := by decide +kernel
theorem dL_carry_4 : decode cL_carry 4 = .ok (.iload_n 2, 1) := by decide +kernel
theorem dL_carry_5 : decode cL_carry 5 = .ok (.invokevirtual 15, 3) := by decide +kernel
theorem dL_carry_8 : decode cL_carry 8 = .ok (.i2l, 1) := by decide +kernel
theorem dL_carry_9 : decode cL_carry 9 = .ok (.lastore, 1) := by decide +kernel
theorem dL_carry_10 : decode cL_carry 10 = .ok (.goto 11, 3) := by decide +kernel
theorem dL_carry_13 : decode cL_carry 13 = .ok (.astore 4, 2) := by decide +kernel
theorem dL_carry_15 : decode cL_carry 15 = .ok (.iconst 1, 1) := by decide +kernel
theorem dL_carry_16 : decode cL_carry 16 = .ok (.ireturn, 1) := by decide +kernel
theorem dL_carry_17 : decode cL_carry 17 = .ok (.astore 4, 2) := by decide +kernel
theorem dL_carry_19 : decode cL_carry 19 = .ok (.iconst 2, 1) := by decide +kernel
theorem dL_carry_20 : decode cL_carry 20 = .ok (.ireturn, 1) := by decide +kernel
theorem dL_carry_21 : decode cL_carry 21 = .ok (.iconst 0, 1) := by decide +kernel
theorem dL_carry_22 : decode cL_carry 22 = .ok (.ireturn, 1) := by decide +kernel
set_option maxRecDepth 20000 in
theorem ggL_swap_X2_swap : GoodIn wsL_swap wsX2_swap := goodIn_ca (goodIn_ca (goodIn_r _ [7, 8, 9, 10, 6, 11, 12, 13, 14, 15, 16, 17, 18, 19, 20, 21, 22, 23, 24, 25, 26, 27, 28, 29, 30, 31, 32, 33, 34, 35, 36, 37, 38, 39, 40, 41, 42, 43, 44, 45, 46, 47, 48, 49, 50, 51, 52, 53, 54, 55, 56, 57, 58, 59, 60, 61, 62, 63, 64, 65, 66, 67, 68, 69, 70, 71, 72, 73, 74, 75, 76, 77, 78] (by decide +kernel) (by decide +kernel)) (goodIn_sub (fun _ h => List.mem_cons_of_mem _ (List.mem_append_left _ (List.mem_append_right _ h))) (by decide +kernel))) (goodIn_sub (fun _ h => List.mem_cons_of_mem _ (List.mem_append_right _ h)) (by decide +kernel))
set_option maxRecDepth 20000 in
theorem gL_swap_X2_swap : GoodIn wsL_swap (wsV RL 23 RX2 yX2_swap wsX2_swap) := goodIn_app (goodIn_of _ (by decide +kernel)) ggL_swap_X2_swap
theorem dL_swap_0 : decode cL_swap 0 = .ok (.aload 4, 2) := by decide +kernel
theorem dL_swap_2 : decode cL_swap 2 = .ok (.iconst 0, 1) := by decide +kernel
theorem dL_swap_3 : decode cL_swap 3 = .ok (.aload_n 0, 1) := by decide +kernel
theorem dL_swap_4 : decode cL_swap 4 = .ok (.iload_n 1, 1) := by decide +kernel
theorem dL_swap_5 : decode cL_swap 5 = .ok (.iload_n 2, 1) := by decide +kernel
theorem dL_swap_6 : decode cL_swap 6 = .ok (.iload_n 3, 1) := by decide +kernel
theorem dL_swap_7 : decode cL_swap 7 = .ok (.invokevirtual 23, 3) := by decide +kernel
theorem dL_swap_10 : decode cL_swap 10 = .ok (.i2l, 1) := by decide +kernel
theorem dL_swap_11 : decode cL_swap 11 = .ok (.lastore, 1) := by decide +kernel
theorem dL_swap_12 : decode cL_swap 12 = .ok (.goto 11, 3) := by decide +kernel
theorem dL_swap_15 : decode cL_swap 15 = .ok (.astore 5, 2) := by decide +kernel
theorem dL_swap_17 : decode cL_swap 17 = .ok (.iconst 1, 1) := by decide +kernel
theorem dL_swap_18 : decode cL_swap 18 = .ok (.ireturn, 1) := by decide +kernel
theorem dL_swap_19 : decode cL_swap 19 = .ok (.astore 5, 2) := by decide +kernel
theorem dL_swap_21 : decode cL_swap 21 = .ok (.iconst 2, 1) := by decide +kernel
theorem dL_swap_22 : decode cL_swap 22 = .ok (.ireturn, 1) := by decide +kernel
theorem dL_swap_23 : decode cL_swap 23 = .ok (.iconst 0, 1) := by decide +kernel
theorem dL_swap_24 : decode cL_swap 24 = .ok (.ireturn, 1) := by decide +kernel
set_option maxRecDepth 20000 in
theorem ggL_keyOf_X2_keyOf : GoodIn wsL_keyOf wsX2_keyOf := goodIn_ca (goodIn_r _ [6, 7, 8, 9, 5, 10, 11, 12, 13, 14, 15, 16, 17, 18, 19, 20, 21, 22, 23, 24, 25, 26, 27, 28, 29, 30, 31, 32] (by decide +kernel) (by decide +kernel)) (goodIn_sub (fun _ h => List.mem_cons_of_mem _ (List.mem_append_right _ h)) (by decide +kernel))
set_option maxRecDepth 20000 in
theorem gL_keyOf_X2_keyOf : GoodIn wsL_keyOf (wsV RL 27 RX2 yX2_keyOf wsX2_keyOf) := goodIn_app (goodIn_of _ (by decide +kernel)) ggL_keyOf_X2_keyOf
theorem dL_keyOf_0 : decode cL_keyOf 0 = .ok (.aload_n 3, 1) := by decide +kernel
theorem dL_keyOf_1 : decode cL_keyOf 1 = .ok (.iconst 0, 1) := by decide +kernel
theorem dL_keyOf_2 : decode cL_keyOf 2 = .ok (.aload_n 0, 1) := by decide +kernel
theorem dL_keyOf_3 : decode cL_keyOf 3 = .ok (.iload_n 1, 1) := by decide +kernel
theorem dL_keyOf_4 : decode cL_keyOf 4 = .ok (.iload_n 2, 1) := by decide +kernel
theorem dL_keyOf_5 : decode cL_keyOf 5 = .ok (.invokevirtual 27, 3) := by decide +kernel
theorem dL_keyOf_8 : decode cL_keyOf 8 = .ok (.i2l, 1) := by decide +kernel
theorem dL_keyOf_9 : decode cL_keyOf 9 = .ok (.lastore, 1) := by decide +kernel
theorem dL_keyOf_10 : decode cL_keyOf 10 = .ok (.goto 7, 3) := by decide +kernel
theorem dL_keyOf_13 : decode cL_keyOf 13 = .ok (.astore 4, 2) := by decide +kernel
theorem dL_keyOf_15 : decode cL_keyOf 15 = .ok (.iconst 1, 1) := by decide +kernel
theorem dL_keyOf_16 : decode cL_keyOf 16 = .ok (.ireturn, 1) := by decide +kernel
theorem dL_keyOf_17 : decode cL_keyOf 17 = .ok (.iconst 0, 1) := by decide +kernel
theorem dL_keyOf_18 : decode cL_keyOf 18 = .ok (.ireturn, 1) := by decide +kernel
set_option maxRecDepth 20000 in
theorem ggL_letterOn_X2_letterOn : GoodIn wsL_letterOn wsX2_letterOn := goodIn_ca (goodIn_r _ [6, 7, 8, 9, 5, 10, 11, 12, 13, 14, 15, 16, 17, 18, 19, 20, 21, 22, 23, 24, 25, 26, 27, 28, 29, 30, 31, 32] (by decide +kernel) (by decide +kernel)) (goodIn_sub (fun _ h => List.mem_cons_of_mem _ (List.mem_append_right _ h)) (by decide +kernel))
set_option maxRecDepth 20000 in
theorem gL_letterOn_X2_letterOn : GoodIn wsL_letterOn (wsV RL 30 RX2 yX2_letterOn wsX2_letterOn) := goodIn_app (goodIn_of _ (by decide +kernel)) ggL_letterOn_X2_letterOn
theorem dL_letterOn_0 : decode cL_letterOn 0 = .ok (.aload_n 3, 1) := by decide +kernel
theorem dL_letterOn_1 : decode cL_letterOn 1 = .ok (.iconst 0, 1) := by decide +kernel
theorem dL_letterOn_2 : decode cL_letterOn 2 = .ok (.aload_n 0, 1) := by decide +kernel
theorem dL_letterOn_3 : decode cL_letterOn 3 = .ok (.iload_n 1, 1) := by decide +kernel
theorem dL_letterOn_4 : decode cL_letterOn 4 = .ok (.iload_n 2, 1) := by decide +kernel
theorem dL_letterOn_5 : decode cL_letterOn 5 = .ok (.invokevirtual 30, 3) := by decide +kernel
theorem dL_letterOn_8 : decode cL_letterOn 8 = .ok (.i2l, 1) := by decide +kernel
theorem dL_letterOn_9 : decode cL_letterOn 9 = .ok (.lastore, 1) := by decide +kernel
theorem dL_letterOn_10 : decode cL_letterOn 10 = .ok (.goto 7, 3) := by decide +kernel
theorem dL_letterOn_13 : decode cL_letterOn 13 = .ok (.astore 4, 2) := by decide +kernel
theorem dL_letterOn_15 : decode cL_letterOn 15 = .ok (.iconst 1, 1) := by decide +kernel
theorem dL_letterOn_16 : decode cL_letterOn 16 = .ok (.ireturn, 1) := by decide +kernel
theorem dL_letterOn_17 : decode cL_letterOn 17 = .ok (.iconst 0, 1) := by decide +kernel
theorem dL_letterOn_18 : decode cL_letterOn 18 = .ok (.ireturn, 1) := by decide +kernel
set_option maxRecDepth 20000 in
theorem ggL_press_X2_press : GoodIn wsL_press wsX2_press := goodIn_ca (goodIn_r _ [6, 7, 8, 9, 5, 10, 11, 12, 13, 14, 15, 16, 17, 18, 19, 20, 21, 22, 23, 24, 25, 26, 27, 28, 29, 30, 31, 32, 33, 34, 35, 36, 37, 38, 39, 40, 41, 42, 43, 44, 45, 46, 47, 48, 49, 50, 51, 52, 53, 54, 55, 56, 57, 58, 59, 60] (by decide +kernel) (by decide +kernel)) (goodIn_sub (fun _ h => List.mem_cons_of_mem _ (List.mem_append_right _ h)) (by decide +kernel))
set_option maxRecDepth 20000 in
theorem gL_press_X2_press : GoodIn wsL_press (wsV RL 33 RX2 yX2_press wsX2_press) := goodIn_app (goodIn_of _ (by decide +kernel)) ggL_press_X2_press
theorem dL_press_0 : decode cL_press 0 = .ok (.aload 4, 2) := by decide +kernel
theorem dL_press_2 : decode cL_press 2 = .ok (.iconst 0, 1) := by decide +kernel
theorem dL_press_3 : decode cL_press 3 = .ok (.aload_n 0, 1) := by decide +kernel
theorem dL_press_4 : decode cL_press 4 = .ok (.iload_n 1, 1) := by decide +kernel
theorem dL_press_5 : decode cL_press 5 = .ok (.iload_n 2, 1) := by decide +kernel
theorem dL_press_6 : decode cL_press 6 = .ok (.iload_n 3, 1) := by decide +kernel
theorem dL_press_7 : decode cL_press 7 = .ok (.invokevirtual 33, 3) := by decide +kernel
theorem dL_press_10 : decode cL_press 10 = .ok (.ifCond .eq 7, 3) := by decide +kernel
theorem dL_press_13 : decode cL_press 13 = .ok (.lconst 1, 1) := by decide +kernel
theorem dL_press_14 : decode cL_press 14 = .ok (.goto 4, 3) := by decide +kernel
theorem dL_press_17 : decode cL_press 17 = .ok (.lconst 0, 1) := by decide +kernel
theorem dL_press_18 : decode cL_press 18 = .ok (.lastore, 1) := by decide +kernel
theorem dL_press_19 : decode cL_press 19 = .ok (.goto 7, 3) := by decide +kernel
theorem dL_press_22 : decode cL_press 22 = .ok (.astore 5, 2) := by decide +kernel
theorem dL_press_24 : decode cL_press 24 = .ok (.iconst 1, 1) := by decide +kernel
theorem dL_press_25 : decode cL_press 25 = .ok (.ireturn, 1) := by decide +kernel
theorem dL_press_26 : decode cL_press 26 = .ok (.iconst 0, 1) := by decide +kernel
theorem dL_press_27 : decode cL_press 27 = .ok (.ireturn, 1) := by decide +kernel
set_option maxRecDepth 20000 in
theorem ggL_slips_X2_slips : GoodIn wsL_slips wsX2_slips := goodIn_ca (goodIn_ca (goodIn_r _ [7, 8, 9, 10, 11, 12, 6, 13, 14, 15, 16, 17, 18, 19, 20, 21, 22, 23, 24, 25, 26, 27, 28, 29, 30, 31, 32, 33, 34, 35, 36, 37, 38, 39, 40, 41, 42, 43, 44, 45, 46, 47] (by decide +kernel) (by decide +kernel)) (goodIn_sub (fun _ h => List.mem_cons_of_mem _ (List.mem_append_left _ (List.mem_append_right _ h))) (by decide +kernel))) (goodIn_sub (fun _ h => List.mem_cons_of_mem _ (List.mem_append_right _ h)) (by decide +kernel))
set_option maxRecDepth 20000 in
theorem gL_slips_X2_slips : GoodIn wsL_slips (wsV RL 37 RX2 yX2_slips wsX2_slips) := goodIn_app (goodIn_of _ (by decide +kernel)) ggL_slips_X2_slips
theorem dL_slips_0 : decode cL_slips 0 = .ok (.aload 4, 2) := by decide +kernel
theorem dL_slips_2 : decode cL_slips 2 = .ok (.iconst 0, 1) := by decide +kernel
theorem dL_slips_3 : decode cL_slips 3 = .ok (.aload_n 0, 1) := by decide +kernel
theorem dL_slips_4 : decode cL_slips 4 = .ok (.iload_n 1, 1) := by decide +kernel
theorem dL_slips_5 : decode cL_slips 5 = .ok (.iload_n 2, 1) := by decide +kernel
theorem dL_slips_6 : decode cL_slips 6 = .ok (.iload_n 3, 1) := by decide +kernel
theorem dL_slips_7 : decode cL_slips 7 = .ok (.invokevirtual 37, 3) := by decide +kernel
theorem dL_slips_10 : decode cL_slips 10 = .ok (.i2l, 1) := by decide +kernel
theorem dL_slips_11 : decode cL_slips 11 = .ok (.lastore, 1) := by decide +kernel
theorem dL_slips_12 : decode cL_slips 12 = .ok (.goto 11, 3) := by decide +kernel
theorem dL_slips_15 : decode cL_slips 15 = .ok (.astore 5, 2) := by decide +kernel
theorem dL_slips_17 : decode cL_slips 17 = .ok (.iconst 1, 1) := by decide +kernel
theorem dL_slips_18 : decode cL_slips 18 = .ok (.ireturn, 1) := by decide +kernel
theorem dL_slips_19 : decode cL_slips 19 = .ok (.astore 5, 2) := by decide +kernel
theorem dL_slips_21 : decode cL_slips 21 = .ok (.iconst 2, 1) := by decide +kernel
theorem dL_slips_22 : decode cL_slips 22 = .ok (.ireturn, 1) := by decide +kernel
theorem dL_slips_23 : decode cL_slips 23 = .ok (.iconst 0, 1) := by decide +kernel
theorem dL_slips_24 : decode cL_slips 24 = .ok (.ireturn, 1) := by decide +kernel
set_option maxRecDepth 20000 in
theorem ggL_pair_X2_pair : GoodIn wsL_pair wsX2_pair := goodIn_ca (goodIn_r _ [6, 7, 8, 9, 5, 10, 11, 12, 13, 14, 15, 16, 17, 18, 19, 20, 21, 22, 23, 24, 25, 26, 27, 28, 29, 30, 31, 32, 33, 34, 35] (by decide +kernel) (by decide +kernel)) (goodIn_sub (fun _ h => List.mem_cons_of_mem _ (List.mem_append_right _ h)) (by decide +kernel))
set_option maxRecDepth 20000 in
theorem gL_pair_X2_pair : GoodIn wsL_pair (wsV RL 40 RX2 yX2_pair wsX2_pair) := goodIn_app (goodIn_of _ (by decide +kernel)) ggL_pair_X2_pair
theorem dL_pair_0 : decode cL_pair 0 = .ok (.aload 4, 2) := by decide +kernel
theorem dL_pair_2 : decode cL_pair 2 = .ok (.iconst 0, 1) := by decide +kernel
theorem dL_pair_3 : decode cL_pair 3 = .ok (.aload_n 0, 1) := by decide +kernel
theorem dL_pair_4 : decode cL_pair 4 = .ok (.iload_n 1, 1) := by decide +kernel
theorem dL_pair_5 : decode cL_pair 5 = .ok (.iload_n 2, 1) := by decide +kernel
theorem dL_pair_6 : decode cL_pair 6 = .ok (.iload_n 3, 1) := by decide +kernel
theorem dL_pair_7 : decode cL_pair 7 = .ok (.invokevirtual 40, 3) := by decide +kernel
theorem dL_pair_10 : decode cL_pair 10 = .ok (.i2l, 1) := by decide +kernel
theorem dL_pair_11 : decode cL_pair 11 = .ok (.lastore, 1) := by decide +kernel
theorem dL_pair_12 : decode cL_pair 12 = .ok (.goto 7, 3) := by decide +kernel
theorem dL_pair_15 : decode cL_pair 15 = .ok (.astore 5, 2) := by decide +kernel
theorem dL_pair_17 : decode cL_pair 17 = .ok (.iconst 1, 1) := by decide +kernel
theorem dL_pair_18 : decode cL_pair 18 = .ok (.ireturn, 1) := by decide +kernel
theorem dL_pair_19 : decode cL_pair 19 = .ok (.iconst 0, 1) := by decide +kernel
theorem dL_pair_20 : decode cL_pair 20 = .ok (.ireturn, 1) := by decide +kernel
set_option maxRecDepth 20000 in
theorem ggL_pressed_X2_pressed : GoodIn wsL_pressed wsX2_pressed := goodIn_ca (goodIn_r _ [6, 7, 8, 9, 5, 10, 11, 12, 13, 14, 15, 16, 17, 18, 19, 20, 21, 22, 23, 24, 25, 26] (by decide +kernel) (by decide +kernel)) (goodIn_sub (fun _ h => List.mem_cons_of_mem _ (List.mem_append_right _ h)) (by decide +kernel))
set_option maxRecDepth 20000 in
theorem gL_pressed_X2_pressed : GoodIn wsL_pressed (wsV RL 43 RX2 yX2_pressed wsX2_pressed) := goodIn_app (goodIn_of _ (by decide +kernel)) ggL_pressed_X2_pressed
theorem dL_pressed_0 : decode cL_pressed 0 = .ok (.aload_n 2, 1) := by decide +kernel
theorem dL_pressed_1 : decode cL_pressed 1 = .ok (.iconst 0, 1) := by decide +kernel
theorem dL_pressed_2 : decode cL_pressed 2 = .ok (.aload_n 0, 1) := by decide +kernel
theorem dL_pressed_3 : decode cL_pressed 3 = .ok (.iload_n 1, 1) := by decide +kernel
theorem dL_pressed_4 : decode cL_pressed 4 = .ok (.invokevirtual 43, 3) := by decide +kernel
theorem dL_pressed_7 : decode cL_pressed 7 = .ok (.i2l, 1) := by decide +kernel
theorem dL_pressed_8 : decode cL_pressed 8 = .ok (.lastore, 1) := by decide +kernel
theorem dL_pressed_9 : decode cL_pressed 9 = .ok (.goto 6, 3) := by decide +kernel
theorem dL_pressed_12 : decode cL_pressed 12 = .ok (.astore_n 3, 1) := by decide +kernel
theorem dL_pressed_13 : decode cL_pressed 13 = .ok (.iconst 1, 1) := by decide +kernel
theorem dL_pressed_14 : decode cL_pressed 14 = .ok (.ireturn, 1) := by decide +kernel
theorem dL_pressed_15 : decode cL_pressed 15 = .ok (.iconst 0, 1) := by decide +kernel
theorem dL_pressed_16 : decode cL_pressed 16 = .ok (.ireturn, 1) := by decide +kernel
set_option maxRecDepth 20000 in
theorem ggL_history_X2_history : GoodIn wsL_history wsX2_history := goodIn_ca (goodIn_r _ [6, 7, 8, 9, 10, 11, 5, 12, 13, 14, 15, 16, 17, 18, 19, 20, 21, 22, 23, 24, 25, 26, 27, 28, 29] (by decide +kernel) (by decide +kernel)) (goodIn_sub (fun _ h => List.mem_cons_of_mem _ (List.mem_append_right _ h)) (by decide +kernel))
set_option maxRecDepth 20000 in
theorem gL_history_X2_history : GoodIn wsL_history (wsV RL 47 RX2 yX2_history wsX2_history) := goodIn_app (goodIn_of _ (by decide +kernel)) ggL_history_X2_history
theorem dL_history_0 : decode cL_history 0 = .ok (.aload_n 3, 1) := by decide +kernel
theorem dL_history_1 : decode cL_history 1 = .ok (.iconst 0, 1) := by decide +kernel
theorem dL_history_2 : decode cL_history 2 = .ok (.aload_n 0, 1) := by decide +kernel
theorem dL_history_3 : decode cL_history 3 = .ok (.iload_n 1, 1) := by decide +kernel
theorem dL_history_4 : decode cL_history 4 = .ok (.iload_n 2, 1) := by decide +kernel
theorem dL_history_5 : decode cL_history 5 = .ok (.invokevirtual 47, 3) := by decide +kernel
theorem dL_history_8 : decode cL_history 8 = .ok (.i2l, 1) := by decide +kernel
theorem dL_history_9 : decode cL_history 9 = .ok (.lastore, 1) := by decide +kernel
theorem dL_history_10 : decode cL_history 10 = .ok (.goto 7, 3) := by decide +kernel
theorem dL_history_13 : decode cL_history 13 = .ok (.astore 4, 2) := by decide +kernel
theorem dL_history_15 : decode cL_history 15 = .ok (.iconst 1, 1) := by decide +kernel
theorem dL_history_16 : decode cL_history 16 = .ok (.ireturn, 1) := by decide +kernel
theorem dL_history_17 : decode cL_history 17 = .ok (.iconst 0, 1) := by decide +kernel
theorem dL_history_18 : decode cL_history 18 = .ok (.ireturn, 1) := by decide +kernel
set_option maxRecDepth 20000 in
theorem ggL_time_X2_time : GoodIn wsL_time wsX2_time := goodIn_ca (goodIn_r _ [6, 7, 8, 9, 5, 10, 11, 12, 13, 14, 15, 16, 17, 18, 19, 20, 21, 22, 23, 24, 25, 26, 27, 28, 29, 30, 31, 32, 33, 34, 35, 36, 37, 38, 39, 40, 41, 42, 43, 44, 45, 46, 47, 48, 49, 50, 51, 52, 53, 54, 55, 56, 57] (by decide +kernel) (by decide +kernel)) (goodIn_sub (fun _ h => List.mem_cons_of_mem _ (List.mem_append_right _ h)) (by decide +kernel))
set_option maxRecDepth 20000 in
theorem gL_time_X2_time : GoodIn wsL_time (wsV RL 50 RX2 yX2_time wsX2_time) := goodIn_app (goodIn_of _ (by decide +kernel)) ggL_time_X2_time
theorem dL_time_0 : decode cL_time 0 = .ok (.aload_n 2, 1) := by decide +kernel
theorem dL_time_1 : decode cL_time 1 = .ok (.iconst 0, 1) := by decide +kernel
theorem dL_time_2 : decode cL_time 2 = .ok (.aload_n 0, 1) := by decide +kernel
theorem dL_time_3 : decode cL_time 3 = .ok (.iload_n 1, 1) := by decide +kernel
theorem dL_time_4 : decode cL_time 4 = .ok (.invokevirtual 50, 3) := by decide +kernel
theorem dL_time_7 : decode cL_time 7 = .ok (.i2l, 1) := by decide +kernel
theorem dL_time_8 : decode cL_time 8 = .ok (.lastore, 1) := by decide +kernel
theorem dL_time_9 : decode cL_time 9 = .ok (.goto 6, 3) := by decide +kernel
theorem dL_time_12 : decode cL_time 12 = .ok (.astore_n 3, 1) := by decide +kernel
theorem dL_time_13 : decode cL_time 13 = .ok (.iconst 1, 1) := by decide +kernel
theorem dL_time_14 : decode cL_time 14 = .ok (.ireturn, 1) := by decide +kernel
theorem dL_time_15 : decode cL_time 15 = .ok (.iconst 0, 1) := by decide +kernel
theorem dL_time_16 : decode cL_time 16 = .ok (.ireturn, 1) := by decide +kernel
set_option maxRecDepth 20000 in
theorem ggL_timeAnew_X2_timeAnew : GoodIn wsL_timeAnew wsX2_timeAnew := goodIn_ca (goodIn_r _ [6, 7, 8, 9, 10, 5, 11, 12, 13, 14, 15, 16, 17, 18, 19, 20, 21, 22, 23, 24, 25, 26, 27, 28, 29, 30, 31, 32, 33, 34, 35, 36, 37, 38, 39, 40, 41, 42, 43, 44, 45, 46, 47, 48, 49, 50, 51, 52, 53, 54, 55, 56, 57, 58, 59, 60, 61, 62, 63] (by decide +kernel) (by decide +kernel)) (goodIn_sub (fun _ h => List.mem_cons_of_mem _ (List.mem_append_right _ h)) (by decide +kernel))
set_option maxRecDepth 20000 in
theorem gL_timeAnew_X2_timeAnew : GoodIn wsL_timeAnew (wsV RL 53 RX2 yX2_timeAnew wsX2_timeAnew) := goodIn_app (goodIn_of _ (by decide +kernel)) ggL_timeAnew_X2_timeAnew
theorem dL_timeAnew_0 : decode cL_timeAnew 0 = .ok (.aload_n 2, 1) := by decide +kernel
theorem dL_timeAnew_1 : decode cL_timeAnew 1 = .ok (.iconst 0, 1) := by decide +kernel
theorem dL_timeAnew_2 : decode cL_timeAnew 2 = .ok (.aload_n 0, 1) := by decide +kernel
theorem dL_timeAnew_3 : decode cL_timeAnew 3 = .ok (.iload_n 1, 1) := by decide +kernel
theorem dL_timeAnew_4 : decode cL_timeAnew 4 = .ok (.invokevirtual 53, 3) := by decide +kernel
theorem dL_timeAnew_7 : decode cL_timeAnew 7 = .ok (.i2l, 1) := by decide +kernel
theorem dL_timeAnew_8 : decode cL_timeAnew 8 = .ok (.lastore, 1) := by decide +kernel
theorem dL_timeAnew_9 : decode cL_timeAnew 9 = .ok (.goto 6, 3) := by decide +kernel
theorem dL_timeAnew_12 : decode cL_timeAnew 12 = .ok (.astore_n 3, 1) := by decide +kernel
theorem dL_timeAnew_13 : decode cL_timeAnew 13 = .ok (.iconst 1, 1) := by decide +kernel
theorem dL_timeAnew_14 : decode cL_timeAnew 14 = .ok (.ireturn, 1) := by decide +kernel
theorem dL_timeAnew_15 : decode cL_timeAnew 15 = .ok (.iconst 0, 1) := by decide +kernel
theorem dL_timeAnew_16 : decode cL_timeAnew 16 = .ok (.ireturn, 1) := by decide +kernel
set_option maxRecDepth 20000 in
theorem ggL_lesson_X2_lesson : GoodIn wsL_lesson wsX2_lesson := goodIn_ca (goodIn_r _ [6, 7, 8, 9, 10, 11, 5, 12, 13, 14, 15, 16, 17, 18, 19, 20, 21, 22, 23, 24, 25, 26, 27, 28, 29, 30, 31, 32, 33, 34, 35, 36, 37, 38, 39, 40, 41, 42] (by decide +kernel) (by decide +kernel)) (goodIn_sub (fun _ h => List.mem_cons_of_mem _ (List.mem_append_right _ h)) (by decide +kernel))
set_option maxRecDepth 20000 in
theorem gL_lesson_X2_lesson : GoodIn wsL_lesson (wsV RL 56 RX2 yX2_lesson wsX2_lesson) := goodIn_app (goodIn_of _ (by decide +kernel)) ggL_lesson_X2_lesson
theorem dL_lesson_0 : decode cL_lesson 0 = .ok (.aload_n 3, 1) := by decide +kernel
theorem dL_lesson_1 : decode cL_lesson 1 = .ok (.iconst 0, 1) := by decide +kernel
theorem dL_lesson_2 : decode cL_lesson 2 = .ok (.aload_n 0, 1) := by decide +kernel
theorem dL_lesson_3 : decode cL_lesson 3 = .ok (.iload_n 1, 1) := by decide +kernel
theorem dL_lesson_4 : decode cL_lesson 4 = .ok (.iload_n 2, 1) := by decide +kernel
theorem dL_lesson_5 : decode cL_lesson 5 = .ok (.invokevirtual 56, 3) := by decide +kernel
theorem dL_lesson_8 : decode cL_lesson 8 = .ok (.i2l, 1) := by decide +kernel
theorem dL_lesson_9 : decode cL_lesson 9 = .ok (.lastore, 1) := by decide +kernel
theorem dL_lesson_10 : decode cL_lesson 10 = .ok (.goto 7, 3) := by decide +kernel
theorem dL_lesson_13 : decode cL_lesson 13 = .ok (.astore 4, 2) := by decide +kernel
theorem dL_lesson_15 : decode cL_lesson 15 = .ok (.iconst 1, 1) := by decide +kernel
theorem dL_lesson_16 : decode cL_lesson 16 = .ok (.ireturn, 1) := by decide +kernel
theorem dL_lesson_17 : decode cL_lesson 17 = .ok (.iconst 0, 1) := by decide +kernel
theorem dL_lesson_18 : decode cL_lesson 18 = .ok (.ireturn, 1) := by decide +kernel
set_option maxRecDepth 20000 in
theorem ggL_saves_X2_saves : GoodIn wsL_saves wsX2_saves := goodIn_ca (goodIn_ca (goodIn_r _ [7, 8, 9, 10, 6, 11, 12, 13, 14, 15, 16, 17, 18, 19, 20, 21, 22, 23, 24, 25, 26, 27, 28, 29, 30, 31, 32, 33, 34, 35, 36, 37, 38, 39, 40, 41, 42, 43, 44, 45, 46, 47, 48, 49, 50, 51, 52, 53, 54, 55, 56, 57, 58, 59, 60, 61, 62, 63, 64, 65, 66, 67, 68, 69, 70] (by decide +kernel) (by decide +kernel)) (goodIn_sub (fun _ h => List.mem_cons_of_mem _ (List.mem_append_left _ (List.mem_append_right _ h))) (by decide +kernel))) (goodIn_sub (fun _ h => List.mem_cons_of_mem _ (List.mem_append_right _ h)) (by decide +kernel))
set_option maxRecDepth 20000 in
theorem gL_saves_X2_saves : GoodIn wsL_saves (wsV RL 59 RX2 yX2_saves wsX2_saves) := goodIn_app (goodIn_of _ (by decide +kernel)) ggL_saves_X2_saves
theorem dL_saves_0 : decode cL_saves 0 = .ok (.aload 4, 2) := by decide +kernel
theorem dL_saves_2 : decode cL_saves 2 = .ok (.iconst 0, 1) := by decide +kernel
theorem dL_saves_3 : decode cL_saves 3 = .ok (.aload_n 0, 1) := by decide +kernel
theorem dL_saves_4 : decode cL_saves 4 = .ok (.iload_n 1, 1) := by decide +kernel
theorem dL_saves_5 : decode cL_saves 5 = .ok (.iload_n 2, 1) := by decide +kernel
theorem dL_saves_6 : decode cL_saves 6 = .ok (.iload_n 3, 1) := by decide +kernel
theorem dL_saves_7 : decode cL_saves 7 = .ok (.invokevirtual 59, 3) := by decide +kernel
theorem dL_saves_10 : decode cL_saves 10 = .ok (.i2l, 1) := by decide +kernel
theorem dL_saves_11 : decode cL_saves 11 = .ok (.lastore, 1) := by decide +kernel
theorem dL_saves_12 : decode cL_saves 12 = .ok (.goto 11, 3) := by decide +kernel
theorem dL_saves_15 : decode cL_saves 15 = .ok (.astore 5, 2) := by decide +kernel
theorem dL_saves_17 : decode cL_saves 17 = .ok (.iconst 1, 1) := by decide +kernel
theorem dL_saves_18 : decode cL_saves 18 = .ok (.ireturn, 1) := by decide +kernel
theorem dL_saves_19 : decode cL_saves 19 = .ok (.astore 5, 2) := by decide +kernel
theorem dL_saves_21 : decode cL_saves 21 = .ok (.iconst 2, 1) := by decide +kernel
theorem dL_saves_22 : decode cL_saves 22 = .ok (.ireturn, 1) := by decide +kernel
theorem dL_saves_23 : decode cL_saves 23 = .ok (.iconst 0, 1) := by decide +kernel
theorem dL_saves_24 : decode cL_saves 24 = .ok (.ireturn, 1) := by decide +kernel
set_option maxRecDepth 20000 in
theorem ggL_best_X2_best : GoodIn wsL_best wsX2_best := goodIn_ca (goodIn_r _ [6, 7, 8, 9, 5, 10, 11, 12, 13, 14, 15, 16, 17, 18, 19, 20, 21, 22, 23, 24, 25, 26, 27, 28, 29, 30, 31, 32, 33, 34, 35, 36, 37, 38, 39, 40, 41, 42, 43, 44, 45, 46, 47, 48, 49, 50, 51, 52, 53, 54, 55, 56, 57, 58, 59, 60, 61] (by decide +kernel) (by decide +kernel)) (goodIn_sub (fun _ h => List.mem_cons_of_mem _ (List.mem_append_right _ h)) (by decide +kernel))
set_option maxRecDepth 20000 in
theorem gL_best_X2_best : GoodIn wsL_best (wsV RL 62 RX2 yX2_best wsX2_best) := goodIn_app (goodIn_of _ (by decide +kernel)) ggL_best_X2_best
theorem dL_best_0 : decode cL_best 0 = .ok (.aload_n 2, 1) := by decide +kernel
theorem dL_best_1 : decode cL_best 1 = .ok (.iconst 0, 1) := by decide +kernel
theorem dL_best_2 : decode cL_best 2 = .ok (.aload_n 0, 1) := by decide +kernel
theorem dL_best_3 : decode cL_best 3 = .ok (.iload_n 1, 1) := by decide +kernel
theorem dL_best_4 : decode cL_best 4 = .ok (.invokevirtual 62, 3) := by decide +kernel
theorem dL_best_7 : decode cL_best 7 = .ok (.i2l, 1) := by decide +kernel
theorem dL_best_8 : decode cL_best 8 = .ok (.lastore, 1) := by decide +kernel
theorem dL_best_9 : decode cL_best 9 = .ok (.goto 6, 3) := by decide +kernel
theorem dL_best_12 : decode cL_best 12 = .ok (.astore_n 3, 1) := by decide +kernel
theorem dL_best_13 : decode cL_best 13 = .ok (.iconst 1, 1) := by decide +kernel
theorem dL_best_14 : decode cL_best 14 = .ok (.ireturn, 1) := by decide +kernel
theorem dL_best_15 : decode cL_best 15 = .ok (.iconst 0, 1) := by decide +kernel
theorem dL_best_16 : decode cL_best 16 = .ok (.ireturn, 1) := by decide +kernel
set_option maxRecDepth 20000 in
theorem ggL_draft_X2_draft : GoodIn wsL_draft wsX2_draft := goodIn_ca (goodIn_ca (goodIn_r _ [7, 8, 9, 10, 11, 12, 13, 6, 14, 15, 16, 17, 18, 19, 20, 21, 22, 23, 24] (by decide +kernel) (by decide +kernel)) (goodIn_sub (fun _ h => List.mem_cons_of_mem _ (List.mem_append_left _ (List.mem_append_right _ h))) (by decide +kernel))) (goodIn_sub (fun _ h => List.mem_cons_of_mem _ (List.mem_append_right _ h)) (by decide +kernel))
set_option maxRecDepth 20000 in
theorem gL_draft_X2_draft : GoodIn wsL_draft (wsV RL 65 RX2 yX2_draft wsX2_draft) := goodIn_app (goodIn_of _ (by decide +kernel)) ggL_draft_X2_draft
theorem dL_draft_0 : decode cL_draft 0 = .ok (.aload_n 2, 1) := by decide +kernel
theorem dL_draft_1 : decode cL_draft 1 = .ok (.iconst 0, 1) := by decide +kernel
theorem dL_draft_2 : decode cL_draft 2 = .ok (.aload_n 0, 1) := by decide +kernel
theorem dL_draft_3 : decode cL_draft 3 = .ok (.iload_n 1, 1) := by decide +kernel
theorem dL_draft_4 : decode cL_draft 4 = .ok (.invokevirtual 65, 3) := by decide +kernel
theorem dL_draft_7 : decode cL_draft 7 = .ok (.i2l, 1) := by decide +kernel
theorem dL_draft_8 : decode cL_draft 8 = .ok (.lastore, 1) := by decide +kernel
theorem dL_draft_9 : decode cL_draft 9 = .ok (.goto 9, 3) := by decide +kernel
theorem dL_draft_12 : decode cL_draft 12 = .ok (.astore_n 3, 1) := by decide +kernel
theorem dL_draft_13 : decode cL_draft 13 = .ok (.iconst 1, 1) := by decide +kernel
theorem dL_draft_14 : decode cL_draft 14 = .ok (.ireturn, 1) := by decide +kernel
theorem dL_draft_15 : decode cL_draft 15 = .ok (.astore_n 3, 1) := by decide +kernel
theorem dL_draft_16 : decode cL_draft 16 = .ok (.iconst 2, 1) := by decide +kernel
theorem dL_draft_17 : decode cL_draft 17 = .ok (.ireturn, 1) := by decide +kernel
theorem dL_draft_18 : decode cL_draft 18 = .ok (.iconst 0, 1) := by decide +kernel
theorem dL_draft_19 : decode cL_draft 19 = .ok (.ireturn, 1) := by decide +kernel
set_option maxRecDepth 20000 in
theorem ggL_contest_X2_contest : GoodIn wsL_contest wsX2_contest := goodIn_ca (goodIn_r _ [6, 7, 8, 9, 10, 11, 12, 13, 14, 5, 15, 16, 17, 18, 19, 20, 21, 22, 23, 24, 25, 26, 27, 28, 29, 30, 31, 32, 33, 34, 35, 36, 37, 38, 39, 40, 41, 42, 43, 44, 45, 46, 47, 48, 49, 50, 51, 52, 53, 54, 55, 56, 57, 58, 59, 60, 61, 62, 63, 64, 65, 66, 67, 68, 69, 70, 71, 72] (by decide +kernel) (by decide +kernel)) (goodIn_sub (fun _ h => List.mem_cons_of_mem _ (List.mem_append_right _ h)) (by decide +kernel))
set_option maxRecDepth 20000 in
theorem gL_contest_X2_contest : GoodIn wsL_contest (wsV RL 68 RX2 yX2_contest wsX2_contest) := goodIn_app (goodIn_of _ (by decide +kernel)) ggL_contest_X2_contest
theorem dL_contest_0 : decode cL_contest 0 = .ok (.aload_n 1, 1) := by decide +kernel
theorem dL_contest_1 : decode cL_contest 1 = .ok (.iconst 0, 1) := by decide +kernel
theorem dL_contest_2 : decode cL_contest 2 = .ok (.aload_n 0, 1) := by decide +kernel
theorem dL_contest_3 : decode cL_contest 3 = .ok (.invokevirtual 68, 3) := by decide +kernel
theorem dL_contest_6 : decode cL_contest 6 = .ok (.i2l, 1) := by decide +kernel
theorem dL_contest_7 : decode cL_contest 7 = .ok (.lastore, 1) := by decide +kernel
theorem dL_contest_8 : decode cL_contest 8 = .ok (.goto 6, 3) := by decide +kernel
theorem dL_contest_11 : decode cL_contest 11 = .ok (.astore_n 2, 1) := by decide +kernel
theorem dL_contest_12 : decode cL_contest 12 = .ok (.iconst 1, 1) := by decide +kernel
theorem dL_contest_13 : decode cL_contest 13 = .ok (.ireturn, 1) := by decide +kernel
theorem dL_contest_14 : decode cL_contest 14 = .ok (.iconst 0, 1) := by decide +kernel
theorem dL_contest_15 : decode cL_contest 15 = .ok (.ireturn, 1) := by decide +kernel
set_option maxRecDepth 20000 in
theorem ggL_result_X2_result : GoodIn wsL_result wsX2_result := goodIn_ca (goodIn_ca (goodIn_ca (goodIn_r _ [8, 9, 10, 11, 12, 13, 14, 15, 16, 7, 17, 18, 19, 20, 21, 22, 23, 24, 25, 26, 27, 28, 29, 30, 31, 32, 33, 34, 35, 36, 37, 38, 39, 40, 41, 42] (by decide +kernel) (by decide +kernel)) (goodIn_sub (fun _ h => List.mem_cons_of_mem _ (List.mem_append_left _ (List.mem_append_left _ (List.mem_append_right _ h)))) (by decide +kernel))) (goodIn_sub (fun _ h => List.mem_cons_of_mem _ (List.mem_append_left _ (List.mem_append_right _ h))) (by decide +kernel))) (goodIn_sub (fun _ h => List.mem_cons_of_mem _ (List.mem_append_right _ h)) (by decide +kernel))
set_option maxRecDepth 20000 in
theorem gL_result_X2_result : GoodIn wsL_result (wsV RL 71 RX2 yX2_result wsX2_result) := goodIn_app (goodIn_of _ (by decide +kernel)) ggL_result_X2_result
theorem dL_result_0 : decode cL_result 0 = .ok (.aload 4, 2) := by decide +kernel
theorem dL_result_2 : decode cL_result 2 = .ok (.iconst 0, 1) := by decide +kernel
theorem dL_result_3 : decode cL_result 3 = .ok (.aload_n 0, 1) := by decide +kernel
theorem dL_result_4 : decode cL_result 4 = .ok (.iload_n 1, 1) := by decide +kernel
theorem dL_result_5 : decode cL_result 5 = .ok (.iload_n 2, 1) := by decide +kernel
theorem dL_result_6 : decode cL_result 6 = .ok (.iload_n 3, 1) := by decide +kernel
theorem dL_result_7 : decode cL_result 7 = .ok (.invokevirtual 71, 3) := by decide +kernel
theorem dL_result_10 : decode cL_result 10 = .ok (.i2l, 1) := by decide +kernel
theorem dL_result_11 : decode cL_result 11 = .ok (.lastore, 1) := by decide +kernel
theorem dL_result_12 : decode cL_result 12 = .ok (.goto 15, 3) := by decide +kernel
theorem dL_result_15 : decode cL_result 15 = .ok (.astore 5, 2) := by decide +kernel
theorem dL_result_17 : decode cL_result 17 = .ok (.iconst 1, 1) := by decide +kernel
theorem dL_result_18 : decode cL_result 18 = .ok (.ireturn, 1) := by decide +kernel
theorem dL_result_19 : decode cL_result 19 = .ok (.astore 5, 2) := by decide +kernel
theorem dL_result_21 : decode cL_result 21 = .ok (.iconst 2, 1) := by decide +kernel
theorem dL_result_22 : decode cL_result 22 = .ok (.ireturn, 1) := by decide +kernel
theorem dL_result_23 : decode cL_result 23 = .ok (.astore 5, 2) := by decide +kernel
theorem dL_result_25 : decode cL_result 25 = .ok (.iconst 3, 1) := by decide +kernel
theorem dL_result_26 : decode cL_result 26 = .ok (.ireturn, 1) := by decide +kernel
theorem dL_result_27 : decode cL_result 27 = .ok (.iconst 0, 1) := by decide +kernel
theorem dL_result_28 : decode cL_result 28 = .ok (.ireturn, 1) := by decide +kernel
set_option maxRecDepth 20000 in
theorem ggL_of_X2_of : GoodIn wsL_of wsX2_of := goodIn_ca (goodIn_ca (goodIn_r _ [7, 8, 9, 10, 11, 12, 6, 13, 14, 15, 16, 17, 18, 19, 20, 21, 22, 23, 24, 25, 26, 27, 28, 29, 30, 31, 32, 33, 34, 35, 36, 37, 38, 39, 40, 41, 42, 43, 44] (by decide +kernel) (by decide +kernel)) (goodIn_sub (fun _ h => List.mem_cons_of_mem _ (List.mem_append_left _ (List.mem_append_right _ h))) (by decide +kernel))) (goodIn_sub (fun _ h => List.mem_cons_of_mem _ (List.mem_append_right _ h)) (by decide +kernel))
set_option maxRecDepth 20000 in
theorem gL_of_X2_of : GoodIn wsL_of (wsV RL 74 RX2 yX2_of wsX2_of) := goodIn_app (goodIn_of _ (by decide +kernel)) ggL_of_X2_of
theorem dL_of_0 : decode cL_of 0 = .ok (.aload 4, 2) := by decide +kernel
theorem dL_of_2 : decode cL_of 2 = .ok (.iconst 0, 1) := by decide +kernel
theorem dL_of_3 : decode cL_of 3 = .ok (.aload_n 0, 1) := by decide +kernel
theorem dL_of_4 : decode cL_of 4 = .ok (.iload_n 1, 1) := by decide +kernel
theorem dL_of_5 : decode cL_of 5 = .ok (.iload_n 2, 1) := by decide +kernel
theorem dL_of_6 : decode cL_of 6 = .ok (.iload_n 3, 1) := by decide +kernel
theorem dL_of_7 : decode cL_of 7 = .ok (.invokevirtual 74, 3) := by decide +kernel
theorem dL_of_10 : decode cL_of 10 = .ok (.i2l, 1) := by decide +kernel
theorem dL_of_11 : decode cL_of 11 = .ok (.lastore, 1) := by decide +kernel
theorem dL_of_12 : decode cL_of 12 = .ok (.goto 11, 3) := by decide +kernel
theorem dL_of_15 : decode cL_of 15 = .ok (.astore 5, 2) := by decide +kernel
theorem dL_of_17 : decode cL_of 17 = .ok (.iconst 1, 1) := by decide +kernel
theorem dL_of_18 : decode cL_of 18 = .ok (.ireturn, 1) := by decide +kernel
theorem dL_of_19 : decode cL_of 19 = .ok (.astore 5, 2) := by decide +kernel
theorem dL_of_21 : decode cL_of 21 = .ok (.iconst 2, 1) := by decide +kernel
theorem dL_of_22 : decode cL_of 22 = .ok (.ireturn, 1) := by decide +kernel
theorem dL_of_23 : decode cL_of 23 = .ok (.iconst 0, 1) := by decide +kernel
theorem dL_of_24 : decode cL_of 24 = .ok (.ireturn, 1) := by decide +kernel
set_option maxRecDepth 20000 in
theorem ggL_ranked_X2_ranked : GoodIn wsL_ranked wsX2_ranked := goodIn_ca (goodIn_r _ [6, 7, 8, 9, 10, 11, 5, 12, 13, 14, 15, 16, 17, 18, 19, 20, 21, 22, 23, 24, 25, 26, 27, 28, 29, 30, 31, 32, 33, 34, 35, 36, 37] (by decide +kernel) (by decide +kernel)) (goodIn_sub (fun _ h => List.mem_cons_of_mem _ (List.mem_append_right _ h)) (by decide +kernel))
set_option maxRecDepth 20000 in
theorem gL_ranked_X2_ranked : GoodIn wsL_ranked (wsV RL 77 RX2 yX2_ranked wsX2_ranked) := goodIn_app (goodIn_of _ (by decide +kernel)) ggL_ranked_X2_ranked
theorem dL_ranked_0 : decode cL_ranked 0 = .ok (.aload_n 3, 1) := by decide +kernel
theorem dL_ranked_1 : decode cL_ranked 1 = .ok (.iconst 0, 1) := by decide +kernel
theorem dL_ranked_2 : decode cL_ranked 2 = .ok (.aload_n 0, 1) := by decide +kernel
theorem dL_ranked_3 : decode cL_ranked 3 = .ok (.iload_n 1, 1) := by decide +kernel
theorem dL_ranked_4 : decode cL_ranked 4 = .ok (.iload_n 2, 1) := by decide +kernel
theorem dL_ranked_5 : decode cL_ranked 5 = .ok (.invokevirtual 77, 3) := by decide +kernel
theorem dL_ranked_8 : decode cL_ranked 8 = .ok (.i2l, 1) := by decide +kernel
theorem dL_ranked_9 : decode cL_ranked 9 = .ok (.lastore, 1) := by decide +kernel
theorem dL_ranked_10 : decode cL_ranked 10 = .ok (.goto 7, 3) := by decide +kernel
theorem dL_ranked_13 : decode cL_ranked 13 = .ok (.astore 4, 2) := by decide +kernel
theorem dL_ranked_15 : decode cL_ranked 15 = .ok (.iconst 1, 1) := by decide +kernel
theorem dL_ranked_16 : decode cL_ranked 16 = .ok (.ireturn, 1) := by decide +kernel
theorem dL_ranked_17 : decode cL_ranked 17 = .ok (.iconst 0, 1) := by decide +kernel
theorem dL_ranked_18 : decode cL_ranked 18 = .ok (.ireturn, 1) := by decide +kernel
set_option maxRecDepth 20000 in
theorem ggL_law_X2_init : GoodIn wsL_law wsX2_init := goodIn_r _ [9, 10, 11, 12, 13, 14, 15, 16, 17, 18, 19, 20, 474, 475, 476, 477, 478] (by decide +kernel) (by decide +kernel)
set_option maxRecDepth 20000 in
theorem gL_law_X2_init : GoodIn wsL_law (wsX2_init) := ggL_law_X2_init
set_option maxRecDepth 20000 in
theorem ggL_law_X3_init : GoodIn wsL_law wsX3_init := goodIn_r _ [23, 24, 11, 12, 17, 25, 26, 27, 28, 29, 30, 31, 32, 33, 34, 35, 36, 37, 479, 480, 481, 482, 483, 484, 485, 486, 487, 488, 489, 490, 491, 492, 493, 494, 495] (by decide +kernel) (by decide +kernel)
set_option maxRecDepth 20000 in
theorem gL_law_X3_init : GoodIn wsL_law (wsX3_init) := ggL_law_X3_init
set_option maxRecDepth 20000 in
theorem ggL_law_L_student : GoodIn wsL_law wsL_student := goodIn_ca (goodIn_r _ [41, 42, 43, 44, 45, 2, 46, 47, 48, 14, 13, 49, 50, 51, 52, 53, 11, 12, 17, 54, 55, 56, 57, 58, 59, 60, 61, 62, 63, 474, 475, 476, 477, 478, 496, 497, 498, 499, 500, 501, 502, 503] (by decide +kernel) (by decide +kernel)) (goodIn_sub (fun _ h => List.mem_append_left _ (List.mem_append_left _ (List.mem_append_right _ h))) (by decide +kernel))
set_option maxRecDepth 20000 in
theorem gL_law_L_student : GoodIn wsL_law (va_wsS RL 84 yL_student wsL_student) := goodIn_app (goodIn_of _ (by decide +kernel)) ggL_law_L_student
set_option maxRecDepth 20000 in
theorem ggL_law_X3_student : GoodIn wsL_law wsX3_student := goodIn_r _ [67, 68, 31, 69, 70, 71, 5, 72, 73, 479, 480, 481, 482, 483, 484, 485, 486, 487, 488, 489, 490, 491, 492, 493, 494, 495] (by decide +kernel) (by decide +kernel)
set_option maxRecDepth 20000 in
theorem gL_law_X3_student : GoodIn wsL_law (wsV RL 89 RX3 yX3_student wsX3_student) := goodIn_app (goodIn_of _ (by decide +kernel)) ggL_law_X3_student
set_option maxRecDepth 20000 in
theorem ggL_law_X3_thrown : GoodIn wsL_law wsX3_thrown := goodIn_r _ [77, 73, 479, 480, 481, 482, 483, 484, 485, 486, 487, 488, 489, 490, 491, 492, 493, 494, 495] (by decide +kernel) (by decide +kernel)
set_option maxRecDepth 20000 in
theorem gL_law_X3_thrown : GoodIn wsL_law (wsV RL 90 RX3 yX3_thrown wsX3_thrown) := goodIn_app (goodIn_of _ (by decide +kernel)) ggL_law_X3_thrown
set_option maxRecDepth 20000 in
theorem ggL_law_L_carry : GoodIn wsL_law wsL_carry := goodIn_ca (goodIn_ca (goodIn_r _ [80, 81, 82, 83, 84, 85, 2, 86, 87, 88, 89, 90, 91, 92, 93, 94, 14, 496, 497, 498, 499, 500, 501, 502, 503, 474, 475, 476, 477, 478] (by decide +kernel) (by decide +kernel)) (goodIn_sub (fun _ h => List.mem_append_left _ (List.mem_append_right _ h)) (by decide +kernel))) (goodIn_sub (fun _ h => List.mem_append_right _ h) (by decide +kernel))
set_option maxRecDepth 20000 in
theorem gL_law_L_carry : GoodIn wsL_law (va_wsS RL 93 yL_carry wsL_carry) := goodIn_app (goodIn_of _ (by decide +kernel)) ggL_law_L_carry
set_option maxRecDepth 20000 in
theorem ggL_law_X3_carry : GoodIn wsL_law wsX3_carry := goodIn_r _ [98, 27, 99, 100, 101, 5, 102, 68, 103, 104, 105, 69, 70, 71, 72, 73, 479, 480, 481, 482, 483, 484, 485, 486, 487, 488, 489, 490, 491, 492, 493, 494, 495] (by decide +kernel) (by decide +kernel)
set_option maxRecDepth 20000 in
theorem gL_law_X3_carry : GoodIn wsL_law (wsV RL 96 RX3 yX3_carry wsX3_carry) := goodIn_app (goodIn_of _ (by decide +kernel)) ggL_law_X3_carry
set_option maxRecDepth 20000 in
theorem ggL_law_L_swap : GoodIn wsL_law wsL_swap := goodIn_ca (goodIn_ca (goodIn_r _ [108, 81, 82, 109, 110, 111, 2, 112, 89, 90, 91, 92, 93, 94, 14, 113, 114, 115, 87, 88, 116, 117, 118, 119, 50, 120, 121, 122, 123, 124, 125, 59, 60, 54, 126, 127, 128, 129, 130, 131, 132, 133, 134, 135, 136, 137, 138, 139, 140, 141, 142, 143, 144, 145, 146, 147, 148, 149, 150, 151, 152, 55, 56, 57, 62, 63, 474, 475, 476, 477, 478, 496, 497, 498, 499, 500, 501, 502, 503] (by decide +kernel) (by decide +kernel)) (goodIn_sub (fun _ h => List.mem_append_right _ h) (by decide +kernel))) (goodIn_sub (fun _ h => List.mem_append_left _ (List.mem_append_right _ h)) (by decide +kernel))
set_option maxRecDepth 20000 in
theorem gL_law_L_swap : GoodIn wsL_law (va_wsS RL 97 yL_swap wsL_swap) := goodIn_app (goodIn_of _ (by decide +kernel)) ggL_law_L_swap
set_option maxRecDepth 20000 in
theorem ggL_law_X3_swap : GoodIn wsL_law wsX3_swap := goodIn_r _ [156, 26, 25, 27, 28, 157, 158, 159, 5, 160, 99, 100, 101, 102, 68, 103, 104, 105, 161, 162, 163, 69, 70, 71, 72, 73, 164, 165, 166, 167, 168, 169, 170, 171, 32, 33, 172, 173, 174, 175, 176, 177, 178, 479, 480, 481, 482, 483, 484, 485, 486, 487, 488, 489, 490, 491, 492, 493, 494, 495] (by decide +kernel) (by decide +kernel)
set_option maxRecDepth 20000 in
theorem gL_law_X3_swap : GoodIn wsL_law (wsV RL 100 RX3 yX3_swap wsX3_swap) := goodIn_app (goodIn_of _ (by decide +kernel)) ggL_law_X3_swap
set_option maxRecDepth 20000 in
theorem ggL_law_L_keyOf : GoodIn wsL_law wsL_keyOf := goodIn_ca (goodIn_r _ [181, 81, 182, 183, 184, 2, 185, 89, 90, 91, 92, 93, 94, 14, 186, 187, 188, 128, 129, 130, 496, 497, 498, 499, 500, 501, 502, 503, 474, 475, 476, 477, 478] (by decide +kernel) (by decide +kernel)) (goodIn_sub (fun _ h => List.mem_append_right _ h) (by decide +kernel))
set_option maxRecDepth 20000 in
theorem gL_law_L_keyOf : GoodIn wsL_law (va_wsS RL 101 yL_keyOf wsL_keyOf) := goodIn_app (goodIn_of _ (by decide +kernel)) ggL_law_L_keyOf
set_option maxRecDepth 20000 in
theorem ggL_law_X3_keyOf : GoodIn wsL_law wsX3_keyOf := goodIn_r _ [192, 25, 99, 100, 101, 5, 102, 68, 103, 104, 105, 161, 162, 163, 69, 70, 71, 72, 73, 479, 480, 481, 482, 483, 484, 485, 486, 487, 488, 489, 490, 491, 492, 493, 494, 495] (by decide +kernel) (by decide +kernel)
set_option maxRecDepth 20000 in
theorem gL_law_X3_keyOf : GoodIn wsL_law (wsV RL 103 RX3 yX3_keyOf wsX3_keyOf) := goodIn_app (goodIn_of _ (by decide +kernel)) ggL_law_X3_keyOf
set_option maxRecDepth 20000 in
theorem ggL_law_L_letterOn : GoodIn wsL_law wsL_letterOn := goodIn_ca (goodIn_r _ [195, 81, 196, 197, 198, 2, 199, 89, 90, 91, 92, 93, 94, 14, 116, 117, 118, 128, 129, 130, 496, 497, 498, 499, 500, 501, 502, 503, 474, 475, 476, 477, 478] (by decide +kernel) (by decide +kernel)) (goodIn_sub (fun _ h => List.mem_append_right _ h) (by decide +kernel))
set_option maxRecDepth 20000 in
theorem gL_law_L_letterOn : GoodIn wsL_law (va_wsS RL 104 yL_letterOn wsL_letterOn) := goodIn_app (goodIn_of _ (by decide +kernel)) ggL_law_L_letterOn
set_option maxRecDepth 20000 in
theorem ggL_law_X3_letterOn : GoodIn wsL_law wsX3_letterOn := goodIn_r _ [203, 26, 99, 100, 101, 5, 102, 68, 103, 104, 105, 161, 162, 163, 69, 70, 71, 72, 73, 479, 480, 481, 482, 483, 484, 485, 486, 487, 488, 489, 490, 491, 492, 493, 494, 495] (by decide +kernel) (by decide +kernel)
set_option maxRecDepth 20000 in
theorem gL_law_X3_letterOn : GoodIn wsL_law (wsV RL 106 RX3 yX3_letterOn wsX3_letterOn) := goodIn_app (goodIn_of _ (by decide +kernel)) ggL_law_X3_letterOn
set_option maxRecDepth 20000 in
theorem ggL_law_L_press : GoodIn wsL_law wsL_press := goodIn_ca (goodIn_r _ [206, 81, 207, 208, 209, 2, 210, 89, 90, 91, 92, 93, 94, 14, 186, 187, 188, 116, 117, 118, 211, 50, 212, 213, 54, 57, 60, 58, 59, 61, 129, 130, 214, 215, 128, 216, 62, 63, 217, 218, 219, 220, 221, 222, 223, 224, 225, 226, 474, 475, 476, 477, 478, 496, 497, 498, 499, 500, 501, 502, 503] (by decide +kernel) (by decide +kernel)) (goodIn_sub (fun _ h => List.mem_append_right _ h) (by decide +kernel))
set_option maxRecDepth 20000 in
theorem gL_law_L_press : GoodIn wsL_law (va_wsS RL 107 yL_press wsL_press) := goodIn_app (goodIn_of _ (by decide +kernel)) ggL_law_L_press
set_option maxRecDepth 20000 in
theorem ggL_law_X3_press : GoodIn wsL_law wsX3_press := goodIn_r _ [230, 25, 28, 31, 29, 30, 32, 33, 99, 100, 101, 5, 102, 68, 103, 104, 105, 161, 162, 163, 69, 70, 71, 72, 73, 479, 480, 481, 482, 483, 484, 485, 486, 487, 488, 489, 490, 491, 492, 493, 494, 495] (by decide +kernel) (by decide +kernel)
set_option maxRecDepth 20000 in
theorem gL_law_X3_press : GoodIn wsL_law (wsV RL 109 RX3 yX3_press wsX3_press) := goodIn_app (goodIn_of _ (by decide +kernel)) ggL_law_X3_press
set_option maxRecDepth 20000 in
theorem ggL_law_L_slips : GoodIn wsL_law wsL_slips := goodIn_ca (goodIn_ca (goodIn_r _ [233, 81, 82, 234, 235, 236, 2, 237, 87, 88, 89, 90, 91, 92, 93, 94, 14, 238, 239, 240, 241, 50, 242, 243, 57, 244, 245, 141, 142, 143, 147, 148, 149, 129, 130, 474, 475, 476, 477, 478, 496, 497, 498, 499, 500, 501, 502, 503] (by decide +kernel) (by decide +kernel)) (goodIn_sub (fun _ h => List.mem_append_left _ (List.mem_append_right _ h)) (by decide +kernel))) (goodIn_sub (fun _ h => List.mem_append_right _ h) (by decide +kernel))
set_option maxRecDepth 20000 in
theorem gL_law_L_slips : GoodIn wsL_law (va_wsS RL 110 yL_slips wsL_slips) := goodIn_app (goodIn_of _ (by decide +kernel)) ggL_law_L_slips
set_option maxRecDepth 20000 in
theorem ggL_law_X3_slips : GoodIn wsL_law wsX3_slips := goodIn_r _ [249, 28, 99, 100, 101, 5, 102, 68, 103, 104, 105, 69, 70, 71, 72, 73, 479, 480, 481, 482, 483, 484, 485, 486, 487, 488, 489, 490, 491, 492, 493, 494, 495] (by decide +kernel) (by decide +kernel)
set_option maxRecDepth 20000 in
theorem gL_law_X3_slips : GoodIn wsL_law (wsV RL 112 RX3 yX3_slips wsX3_slips) := goodIn_app (goodIn_of _ (by decide +kernel)) ggL_law_X3_slips
set_option maxRecDepth 20000 in
theorem ggL_law_L_pair : GoodIn wsL_law wsL_pair := goodIn_ca (goodIn_r _ [252, 81, 253, 254, 255, 2, 256, 89, 90, 91, 92, 93, 94, 14, 186, 187, 188, 257, 217, 218, 128, 129, 130, 496, 497, 498, 499, 500, 501, 502, 503, 474, 475, 476, 477, 478] (by decide +kernel) (by decide +kernel)) (goodIn_sub (fun _ h => List.mem_append_right _ h) (by decide +kernel))
set_option maxRecDepth 20000 in
theorem gL_law_L_pair : GoodIn wsL_law (va_wsS RL 113 yL_pair wsL_pair) := goodIn_app (goodIn_of _ (by decide +kernel)) ggL_law_L_pair
set_option maxRecDepth 20000 in
theorem ggL_law_X3_pair : GoodIn wsL_law wsX3_pair := goodIn_r _ [261, 29, 99, 100, 101, 5, 102, 68, 103, 104, 105, 161, 162, 163, 69, 70, 71, 72, 73, 479, 480, 481, 482, 483, 484, 485, 486, 487, 488, 489, 490, 491, 492, 493, 494, 495] (by decide +kernel) (by decide +kernel)
set_option maxRecDepth 20000 in
theorem gL_law_X3_pair : GoodIn wsL_law (wsV RL 115 RX3 yX3_pair wsX3_pair) := goodIn_app (goodIn_of _ (by decide +kernel)) ggL_law_X3_pair
set_option maxRecDepth 20000 in
theorem ggL_law_L_pressed : GoodIn wsL_law wsL_pressed := goodIn_ca (goodIn_r _ [264, 81, 265, 266, 267, 2, 268, 89, 90, 91, 92, 93, 94, 14, 496, 497, 498, 499, 500, 501, 502, 503, 474, 475, 476, 477, 478] (by decide +kernel) (by decide +kernel)) (goodIn_sub (fun _ h => List.mem_append_right _ h) (by decide +kernel))
set_option maxRecDepth 20000 in
theorem gL_law_L_pressed : GoodIn wsL_law (va_wsS RL 116 yL_pressed wsL_pressed) := goodIn_app (goodIn_of _ (by decide +kernel)) ggL_law_L_pressed
set_option maxRecDepth 20000 in
theorem ggL_law_X3_pressed : GoodIn wsL_law wsX3_pressed := goodIn_r _ [272, 30, 99, 100, 101, 5, 102, 68, 103, 104, 105, 69, 70, 71, 72, 73, 479, 480, 481, 482, 483, 484, 485, 486, 487, 488, 489, 490, 491, 492, 493, 494, 495] (by decide +kernel) (by decide +kernel)
set_option maxRecDepth 20000 in
theorem gL_law_X3_pressed : GoodIn wsL_law (wsV RL 119 RX3 yX3_pressed wsX3_pressed) := goodIn_app (goodIn_of _ (by decide +kernel)) ggL_law_X3_pressed
set_option maxRecDepth 20000 in
theorem ggL_law_L_history : GoodIn wsL_law wsL_history := goodIn_ca (goodIn_r _ [275, 81, 276, 277, 278, 2, 279, 93, 94, 89, 90, 91, 92, 14, 128, 129, 130, 496, 497, 498, 499, 500, 501, 502, 503, 474, 475, 476, 477, 478] (by decide +kernel) (by decide +kernel)) (goodIn_sub (fun _ h => List.mem_append_right _ h) (by decide +kernel))
set_option maxRecDepth 20000 in
theorem gL_law_L_history : GoodIn wsL_law (va_wsS RL 120 yL_history wsL_history) := goodIn_app (goodIn_of _ (by decide +kernel)) ggL_law_L_history
set_option maxRecDepth 20000 in
theorem ggL_law_X3_history : GoodIn wsL_law wsX3_history := goodIn_r _ [283, 32, 33, 99, 100, 101, 5, 102, 68, 103, 104, 105, 69, 70, 71, 72, 73, 479, 480, 481, 482, 483, 484, 485, 486, 487, 488, 489, 490, 491, 492, 493, 494, 495] (by decide +kernel) (by decide +kernel)
set_option maxRecDepth 20000 in
theorem gL_law_X3_history : GoodIn wsL_law (wsV RL 122 RX3 yX3_history wsX3_history) := goodIn_app (goodIn_of _ (by decide +kernel)) ggL_law_X3_history
set_option maxRecDepth 20000 in
theorem ggL_law_L_time : GoodIn wsL_law wsL_time := goodIn_ca (goodIn_r _ [286, 81, 287, 288, 289, 2, 290, 89, 90, 91, 92, 93, 94, 14, 123, 50, 124, 125, 59, 60, 54, 126, 127, 128, 129, 130, 131, 132, 133, 134, 135, 136, 137, 138, 139, 140, 141, 142, 143, 144, 145, 146, 147, 148, 149, 474, 475, 476, 477, 478, 496, 497, 498, 499, 500, 501, 502, 503] (by decide +kernel) (by decide +kernel)) (goodIn_sub (fun _ h => List.mem_append_right _ h) (by decide +kernel))
set_option maxRecDepth 20000 in
theorem gL_law_L_time : GoodIn wsL_law (va_wsS RL 123 yL_time wsL_time) := goodIn_app (goodIn_of _ (by decide +kernel)) ggL_law_L_time
set_option maxRecDepth 20000 in
theorem ggL_law_X3_time : GoodIn wsL_law wsX3_time := goodIn_r _ [294, 99, 100, 101, 5, 102, 68, 103, 104, 105, 69, 70, 71, 72, 73, 168, 169, 170, 171, 32, 33, 172, 173, 174, 175, 25, 176, 177, 178, 479, 480, 481, 482, 483, 484, 485, 486, 487, 488, 489, 490, 491, 492, 493, 494, 495] (by decide +kernel) (by decide +kernel)
set_option maxRecDepth 20000 in
theorem gL_law_X3_time : GoodIn wsL_law (wsV RL 125 RX3 yX3_time wsX3_time) := goodIn_app (goodIn_of _ (by decide +kernel)) ggL_law_X3_time
set_option maxRecDepth 20000 in
theorem ggL_law_L_timeAnew : GoodIn wsL_law wsL_timeAnew := goodIn_ca (goodIn_r _ [297, 81, 298, 299, 300, 2, 301, 20, 89, 90, 91, 92, 93, 94, 14, 302, 50, 303, 304, 60, 59, 54, 305, 306, 307, 308, 129, 130, 217, 218, 214, 215, 128, 216, 62, 63, 135, 136, 137, 138, 139, 140, 141, 142, 143, 144, 145, 146, 147, 148, 149, 474, 475, 476, 477, 478, 496, 497, 498, 499, 500, 501, 502, 503] (by decide +kernel) (by decide +kernel)) (goodIn_sub (fun _ h => List.mem_append_right _ h) (by decide +kernel))
set_option maxRecDepth 20000 in
theorem gL_law_L_timeAnew : GoodIn wsL_law (va_wsS RL 126 yL_timeAnew wsL_timeAnew) := goodIn_app (goodIn_of _ (by decide +kernel)) ggL_law_L_timeAnew
set_option maxRecDepth 20000 in
theorem ggL_law_X3_timeAnew : GoodIn wsL_law wsX3_timeAnew := goodIn_r _ [312, 313, 292, 293, 5, 294, 99, 100, 101, 102, 68, 103, 104, 105, 69, 70, 71, 72, 73, 168, 169, 170, 171, 32, 33, 172, 173, 174, 175, 25, 176, 177, 178, 479, 480, 481, 482, 483, 484, 485, 486, 487, 488, 489, 490, 491, 492, 493, 494, 495] (by decide +kernel) (by decide +kernel)
set_option maxRecDepth 20000 in
theorem gL_law_X3_timeAnew : GoodIn wsL_law (wsV RL 128 RX3 yX3_timeAnew wsX3_timeAnew) := goodIn_app (goodIn_of _ (by decide +kernel)) ggL_law_X3_timeAnew
set_option maxRecDepth 20000 in
theorem ggL_law_L_lesson : GoodIn wsL_law wsL_lesson := goodIn_ca (goodIn_r _ [316, 81, 317, 318, 319, 2, 320, 93, 94, 89, 90, 91, 92, 14, 321, 50, 322, 323, 324, 325, 326, 327, 328, 329, 330, 331, 57, 54, 129, 130, 474, 475, 476, 477, 478, 496, 497, 498, 499, 500, 501, 502, 503] (by decide +kernel) (by decide +kernel)) (goodIn_sub (fun _ h => List.mem_append_right _ h) (by decide +kernel))
set_option maxRecDepth 20000 in
theorem gL_law_L_lesson : GoodIn wsL_law (va_wsS RL 129 yL_lesson wsL_lesson) := goodIn_app (goodIn_of _ (by decide +kernel)) ggL_law_L_lesson
set_option maxRecDepth 20000 in
theorem ggL_law_X3_lesson : GoodIn wsL_law wsX3_lesson := goodIn_r _ [335, 28, 25, 99, 100, 101, 5, 102, 68, 103, 104, 105, 69, 70, 71, 72, 73, 479, 480, 481, 482, 483, 484, 485, 486, 487, 488, 489, 490, 491, 492, 493, 494, 495] (by decide +kernel) (by decide +kernel)
set_option maxRecDepth 20000 in
theorem gL_law_X3_lesson : GoodIn wsL_law (wsV RL 131 RX3 yX3_lesson wsX3_lesson) := goodIn_app (goodIn_of _ (by decide +kernel)) ggL_law_X3_lesson
set_option maxRecDepth 20000 in
theorem ggL_law_L_saves : GoodIn wsL_law wsL_saves := goodIn_ca (goodIn_ca (goodIn_r _ [338, 81, 82, 339, 340, 341, 2, 342, 89, 90, 91, 92, 93, 94, 14, 113, 114, 115, 87, 88, 116, 117, 118, 119, 50, 120, 121, 122, 123, 124, 125, 59, 60, 54, 126, 127, 128, 129, 130, 131, 132, 133, 134, 135, 136, 137, 138, 139, 140, 141, 142, 143, 144, 145, 146, 147, 148, 149, 474, 475, 476, 477, 478, 496, 497, 498, 499, 500, 501, 502, 503] (by decide +kernel) (by decide +kernel)) (goodIn_sub (fun _ h => List.mem_append_right _ h) (by decide +kernel))) (goodIn_sub (fun _ h => List.mem_append_left _ (List.mem_append_right _ h)) (by decide +kernel))
set_option maxRecDepth 20000 in
theorem gL_law_L_saves : GoodIn wsL_law (va_wsS RL 132 yL_saves wsL_saves) := goodIn_app (goodIn_of _ (by decide +kernel)) ggL_law_L_saves
set_option maxRecDepth 20000 in
theorem ggL_law_X3_saves : GoodIn wsL_law wsX3_saves := goodIn_r _ [346, 157, 158, 159, 5, 160, 99, 100, 101, 102, 68, 103, 104, 105, 161, 162, 163, 69, 70, 71, 72, 73, 164, 165, 166, 167, 168, 169, 170, 171, 32, 33, 172, 173, 174, 175, 25, 176, 177, 178, 479, 480, 481, 482, 483, 484, 485, 486, 487, 488, 489, 490, 491, 492, 493, 494, 495] (by decide +kernel) (by decide +kernel)
set_option maxRecDepth 20000 in
theorem gL_law_X3_saves : GoodIn wsL_law (wsV RL 134 RX3 yX3_saves wsX3_saves) := goodIn_app (goodIn_of _ (by decide +kernel)) ggL_law_X3_saves
set_option maxRecDepth 20000 in
theorem ggL_law_L_best : GoodIn wsL_law wsL_best := goodIn_ca (goodIn_r _ [349, 81, 350, 351, 352, 2, 353, 89, 90, 91, 92, 93, 94, 14, 354, 50, 355, 356, 122, 123, 124, 125, 59, 60, 54, 126, 127, 128, 129, 130, 131, 132, 133, 134, 135, 136, 137, 138, 139, 140, 141, 142, 143, 144, 145, 146, 147, 148, 149, 474, 475, 476, 477, 478, 496, 497, 498, 499, 500, 501, 502, 503] (by decide +kernel) (by decide +kernel)) (goodIn_sub (fun _ h => List.mem_append_right _ h) (by decide +kernel))
set_option maxRecDepth 20000 in
theorem gL_law_L_best : GoodIn wsL_law (va_wsS RL 135 yL_best wsL_best) := goodIn_app (goodIn_of _ (by decide +kernel)) ggL_law_L_best
set_option maxRecDepth 20000 in
theorem ggL_law_X3_best : GoodIn wsL_law wsX3_best := goodIn_r _ [360, 99, 100, 101, 5, 102, 68, 103, 104, 105, 69, 70, 71, 72, 73, 164, 165, 166, 167, 168, 169, 170, 171, 32, 33, 172, 173, 174, 175, 25, 176, 177, 178, 479, 480, 481, 482, 483, 484, 485, 486, 487, 488, 489, 490, 491, 492, 493, 494, 495] (by decide +kernel) (by decide +kernel)
set_option maxRecDepth 20000 in
theorem gL_law_X3_best : GoodIn wsL_law (wsV RL 137 RX3 yX3_best wsX3_best) := goodIn_app (goodIn_of _ (by decide +kernel)) ggL_law_X3_best
set_option maxRecDepth 20000 in
theorem ggL_law_L_draft : GoodIn wsL_law wsL_draft := goodIn_ca (goodIn_ca (goodIn_r _ [363, 81, 42, 364, 365, 366, 2, 367, 47, 48, 19, 18, 186, 187, 188, 93, 94, 216, 62, 63, 474, 475, 476, 477, 478] (by decide +kernel) (by decide +kernel)) (goodIn_sub (fun _ h => List.mem_append_left _ (List.mem_append_left _ (List.mem_append_right _ h))) (by decide +kernel))) (goodIn_sub (fun _ h => List.mem_append_right _ h) (by decide +kernel))
set_option maxRecDepth 20000 in
theorem gL_law_L_draft : GoodIn wsL_law (va_wsS RL 138 yL_draft wsL_draft) := goodIn_app (goodIn_of _ (by decide +kernel)) ggL_law_L_draft
set_option maxRecDepth 20000 in
theorem ggL_law_X3_draft : GoodIn wsL_law wsX3_draft := goodIn_r _ [371, 372, 34, 161, 162, 5, 163, 103, 104, 105, 69, 70, 71, 72, 73, 479, 480, 481, 482, 483, 484, 485, 486, 487, 488, 489, 490, 491, 492, 493, 494, 495] (by decide +kernel) (by decide +kernel)
set_option maxRecDepth 20000 in
theorem gL_law_X3_draft : GoodIn wsL_law (wsV RL 140 RX3 yX3_draft wsX3_draft) := goodIn_app (goodIn_of _ (by decide +kernel)) ggL_law_X3_draft
set_option maxRecDepth 20000 in
theorem ggL_law_X2_clear : GoodIn wsL_law wsX2_clear := goodIn_r _ [376, 19, 474, 475, 476, 477, 478] (by decide +kernel) (by decide +kernel)
set_option maxRecDepth 20000 in
theorem gL_law_X2_clear : GoodIn wsL_law (wsV RL 141 RX2 yX2_clear wsX2_clear) := goodIn_app (goodIn_of _ (by decide +kernel)) ggL_law_X2_clear
set_option maxRecDepth 20000 in
theorem ggL_law_X3_clear : GoodIn wsL_law wsX3_clear := goodIn_r _ [380, 73, 372, 479, 480, 481, 482, 483, 484, 485, 486, 487, 488, 489, 490, 491, 492, 493, 494, 495] (by decide +kernel) (by decide +kernel)
set_option maxRecDepth 20000 in
theorem gL_law_X3_clear : GoodIn wsL_law (wsV RL 144 RX3 yX3_clear wsX3_clear) := goodIn_app (goodIn_of _ (by decide +kernel)) ggL_law_X3_clear
set_option maxRecDepth 20000 in
theorem ggL_law_L_contest : GoodIn wsL_law wsL_contest := goodIn_ca (goodIn_r _ [383, 42, 384, 385, 386, 2, 387, 47, 48, 19, 14, 16, 388, 389, 390, 391, 15, 392, 393, 18, 394, 395, 396, 11, 12, 17, 397, 398, 399, 400, 126, 127, 128, 129, 130, 131, 132, 133, 134, 135, 136, 137, 138, 139, 140, 141, 142, 143, 144, 145, 146, 147, 148, 149, 216, 62, 63, 474, 475, 476, 477, 478, 504, 505, 506, 496, 497, 498, 499, 500, 501, 502, 503] (by decide +kernel) (by decide +kernel)) (goodIn_sub (fun _ h => List.mem_append_left _ (List.mem_append_left _ (List.mem_append_right _ h))) (by decide +kernel))
set_option maxRecDepth 20000 in
theorem gL_law_L_contest : GoodIn wsL_law (va_wsS RL 145 yL_contest wsL_contest) := goodIn_app (goodIn_of _ (by decide +kernel)) ggL_law_L_contest
set_option maxRecDepth 20000 in
theorem ggL_law_X3_contest : GoodIn wsL_law wsX3_contest := goodIn_r _ [404, 372, 68, 405, 35, 25, 34, 36, 69, 70, 71, 5, 72, 73, 176, 177, 178, 479, 480, 481, 482, 483, 484, 485, 486, 487, 488, 489, 490, 491, 492, 493, 494, 495] (by decide +kernel) (by decide +kernel)
set_option maxRecDepth 20000 in
theorem gL_law_X3_contest : GoodIn wsL_law (wsV RL 147 RX3 yX3_contest wsX3_contest) := goodIn_app (goodIn_of _ (by decide +kernel)) ggL_law_X3_contest
set_option maxRecDepth 20000 in
theorem ggL_law_L_result : GoodIn wsL_law wsL_result := goodIn_ca (goodIn_ca (goodIn_ca (goodIn_r _ [408, 81, 82, 42, 409, 410, 411, 2, 412, 87, 88, 47, 48, 413, 414, 415, 416, 417, 93, 94, 16, 418, 419, 420, 128, 129, 130, 421, 393, 422, 423, 398, 216, 62, 63, 504, 505, 506, 474, 475, 476, 477, 478] (by decide +kernel) (by decide +kernel)) (goodIn_sub (fun _ h => List.mem_append_left _ (List.mem_append_right _ h)) (by decide +kernel))) (goodIn_sub (fun _ h => List.mem_append_left _ (List.mem_append_left _ (List.mem_append_right _ h))) (by decide +kernel))) (goodIn_sub (fun _ h => List.mem_append_right _ h) (by decide +kernel))
set_option maxRecDepth 20000 in
theorem gL_law_L_result : GoodIn wsL_law (va_wsS RL 148 yL_result wsL_result) := goodIn_app (goodIn_of _ (by decide +kernel)) ggL_law_L_result
set_option maxRecDepth 20000 in
theorem ggL_law_X3_result : GoodIn wsL_law wsX3_result := goodIn_r _ [427, 428, 37, 429, 430, 431, 5, 432, 405, 35, 103, 104, 105, 69, 70, 71, 72, 73, 433, 434, 435, 436, 36, 479, 480, 481, 482, 483, 484, 485, 486, 487, 488, 489, 490, 491, 492, 493, 494, 495] (by decide +kernel) (by decide +kernel)
set_option maxRecDepth 20000 in
theorem gL_law_X3_result : GoodIn wsL_law (wsV RL 150 RX3 yX3_result wsX3_result) := goodIn_app (goodIn_of _ (by decide +kernel)) ggL_law_X3_result
set_option maxRecDepth 20000 in
theorem ggL_law_L_of : GoodIn wsL_law wsL_of := goodIn_ca (goodIn_ca (goodIn_r _ [439, 81, 82, 440, 441, 442, 2, 443, 87, 88, 414, 415, 416, 417, 93, 94, 16, 418, 419, 420, 128, 129, 130, 421, 393, 422, 423, 398, 444, 445, 446, 399, 447, 448, 449, 450, 451, 474, 475, 476, 477, 478, 504, 505, 506] (by decide +kernel) (by decide +kernel)) (goodIn_sub (fun _ h => List.mem_append_left _ (List.mem_append_right _ h)) (by decide +kernel))) (goodIn_sub (fun _ h => List.mem_append_right _ h) (by decide +kernel))
set_option maxRecDepth 20000 in
theorem gL_law_L_of : GoodIn wsL_law (va_wsS RL 151 yL_of wsL_of) := goodIn_app (goodIn_of _ (by decide +kernel)) ggL_law_L_of
set_option maxRecDepth 20000 in
theorem ggL_law_X3_of : GoodIn wsL_law wsX3_of := goodIn_r _ [455, 36, 37, 429, 430, 431, 5, 432, 405, 35, 103, 104, 105, 69, 70, 71, 72, 73, 433, 434, 435, 436, 456, 457, 458, 459, 479, 480, 481, 482, 483, 484, 485, 486, 487, 488, 489, 490, 491, 492, 493, 494, 495] (by decide +kernel) (by decide +kernel)
set_option maxRecDepth 20000 in
theorem gL_law_X3_of : GoodIn wsL_law (wsV RL 153 RX3 yX3_of wsX3_of) := goodIn_app (goodIn_of _ (by decide +kernel)) ggL_law_X3_of
set_option maxRecDepth 20000 in
theorem ggL_law_L_ranked : GoodIn wsL_law wsL_ranked := goodIn_ca (goodIn_r _ [462, 81, 463, 464, 465, 2, 466, 93, 94, 414, 415, 416, 417, 16, 467, 393, 468, 469, 451, 421, 422, 423, 398, 129, 130, 447, 448, 449, 450, 399, 474, 475, 476, 477, 478, 504, 505, 506] (by decide +kernel) (by decide +kernel)) (goodIn_sub (fun _ h => List.mem_append_right _ h) (by decide +kernel))
set_option maxRecDepth 20000 in
theorem gL_law_L_ranked : GoodIn wsL_law (va_wsS RL 154 yL_ranked wsL_ranked) := goodIn_app (goodIn_of _ (by decide +kernel)) ggL_law_L_ranked
set_option maxRecDepth 20000 in
theorem ggL_law_X3_ranked : GoodIn wsL_law wsX3_ranked := goodIn_r _ [473, 405, 35, 37, 103, 104, 5, 105, 69, 70, 71, 72, 73, 456, 457, 458, 459, 433, 434, 435, 436, 36, 479, 480, 481, 482, 483, 484, 485, 486, 487, 488, 489, 490, 491, 492, 493, 494, 495] (by decide +kernel) (by decide +kernel)
set_option maxRecDepth 20000 in
theorem gL_law_X3_ranked : GoodIn wsL_law (wsV RL 156 RX3 yX3_ranked wsX3_ranked) := goodIn_app (goodIn_of _ (by decide +kernel)) ggL_law_X3_ranked
theorem dL_law_0 : decode cL_law 0 = .ok (.new 8, 3) := by decide +kernel
theorem dL_law_3 : decode cL_law 3 = .ok (.dup, 1) := by decide +kernel
theorem dL_law_4 : decode cL_law 4 = .ok (.invokespecial 80, 3) := by decide +kernel
theorem dL_law_7 : decode cL_law 7 = .ok (.astore_n 1, 1) := by decide +kernel
theorem dL_law_8 : decode cL_law 8 = .ok (.new 81, 3) := by decide +kernel
theorem dL_law_11 : decode cL_law 11 = .ok (.dup, 1) := by decide +kernel
theorem dL_law_12 : decode cL_law 12 = .ok (.invokespecial 83, 3) := by decide +kernel
theorem dL_law_15 : decode cL_law 15 = .ok (.astore_n 2, 1) := by decide +kernel
theorem dL_law_16 : decode cL_law 16 = .ok (.iconst 1, 1) := by decide +kernel
theorem dL_law_17 : decode cL_law 17 = .ok (.newarray .long, 2) := by decide +kernel
theorem dL_law_19 : decode cL_law 19 = .ok (.astore_n 3, 1) := by decide +kernel
theorem dL_law_20 : decode cL_law 20 = .ok (.iconst 0, 1) := by decide +kernel
theorem dL_law_21 : decode cL_law 21 = .ok (.istore 4, 2) := by decide +kernel
theorem dL_law_23 : decode cL_law 23 = .ok (.iload 4, 2) := by decide +kernel
theorem dL_law_25 : decode cL_law 25 = .ok (.aload_n 0, 1) := by decide +kernel
theorem dL_law_26 : decode cL_law 26 = .ok (.arraylength, 1) := by decide +kernel
theorem dL_law_27 : decode cL_law 27 = .ok (.iconst 4, 1) := by decide +kernel
theorem dL_law_28 : decode cL_law 28 = .ok (.isub, 1) := by decide +kernel
theorem dL_law_29 : decode cL_law 29 = .ok (.if_icmp .gt 1469, 3) := by decide +kernel
theorem dL_law_32 : decode cL_law 32 = .ok (.aload_n 0, 1) := by decide +kernel
theorem dL_law_33 : decode cL_law 33 = .ok (.iload 4, 2) := by decide +kernel
theorem dL_law_35 : decode cL_law 35 = .ok (.iaload, 1) := by decide +kernel
theorem dL_law_36 : decode cL_law 36 = .ok (.bipush 31, 2) := by decide +kernel
theorem dL_law_38 : decode cL_law 38 = .ok (.iand, 1) := by decide +kernel
theorem dL_law_39 : decode cL_law 39 = .ok (.tableswitch 1453 0 20 #[97, 141, 209, 289, 357, 425, 512, 592, 672, 728, 796, 852, 908, 976, 1056, 1112, 1168, 1181, 1225, 1305, 1385], 97) := by decide +kernel
theorem dL_law_136 : decode cL_law 136 = .ok (.aload_n 1, 1) := by decide +kernel
theorem dL_law_137 : decode cL_law 137 = .ok (.aload_n 3, 1) := by decide +kernel
theorem dL_law_138 : decode cL_law 138 = .ok (.invokestatic 84, 3) := by decide +kernel
theorem dL_law_141 : decode cL_law 141 = .ok (.istore 5, 2) := by decide +kernel
theorem dL_law_143 : decode cL_law 143 = .ok (.aload_n 2, 1) := by decide +kernel
theorem dL_law_144 : decode cL_law 144 = .ok (.invokevirtual 89, 3) := by decide +kernel
theorem dL_law_147 : decode cL_law 147 = .ok (.istore 6, 2) := by decide +kernel
theorem dL_law_149 : decode cL_law 149 = .ok (.aload_n 2, 1) := by decide +kernel
theorem dL_law_150 : decode cL_law 150 = .ok (.invokevirtual 90, 3) := by decide +kernel
theorem dL_law_153 : decode cL_law 153 = .ok (.iload 5, 2) := by decide +kernel
theorem dL_law_155 : decode cL_law 155 = .ok (.if_icmp .eq 5, 3) := by decide +kernel
theorem dL_law_158 : decode cL_law 158 = .ok (.iconst 0, 1) := by decide +kernel
theorem dL_law_159 : decode cL_law 159 = .ok (.ireturn, 1) := by decide +kernel
theorem dL_law_160 : decode cL_law 160 = .ok (.iload 5, 2) := by decide +kernel
theorem dL_law_162 : decode cL_law 162 = .ok (.ifCond .ne 15, 3) := by decide +kernel
theorem dL_law_165 : decode cL_law 165 = .ok (.aload_n 3, 1) := by decide +kernel
theorem dL_law_166 : decode cL_law 166 = .ok (.iconst 0, 1) := by decide +kernel
theorem dL_law_167 : decode cL_law 167 = .ok (.laload, 1) := by decide +kernel
theorem dL_law_168 : decode cL_law 168 = .ok (.iload 6, 2) := by decide +kernel
theorem dL_law_170 : decode cL_law 170 = .ok (.i2l, 1) := by decide +kernel
theorem dL_law_171 : decode cL_law 171 = .ok (.lcmp, 1) := by decide +kernel
theorem dL_law_172 : decode cL_law 172 = .ok (.ifCond .eq 5, 3) := by decide +kernel
theorem dL_law_175 : decode cL_law 175 = .ok (.iconst 0, 1) := by decide +kernel
theorem dL_law_176 : decode cL_law 176 = .ok (.ireturn, 1) := by decide +kernel
theorem dL_law_177 : decode cL_law 177 = .ok (.goto 1315, 3) := by decide +kernel
theorem dL_law_180 : decode cL_law 180 = .ok (.aload_n 1, 1) := by decide +kernel
theorem dL_law_181 : decode cL_law 181 = .ok (.aload_n 0, 1) := by decide +kernel
theorem dL_law_182 : decode cL_law 182 = .ok (.iload 4, 2) := by decide +kernel
theorem dL_law_184 : decode cL_law 184 = .ok (.iconst 1, 1) := by decide +kernel
theorem dL_law_185 : decode cL_law 185 = .ok (.iadd, 1) := by decide +kernel
theorem dL_law_186 : decode cL_law 186 = .ok (.iaload, 1) := by decide +kernel
theorem dL_law_187 : decode cL_law 187 = .ok (.aload_n 0, 1) := by decide +kernel
theorem dL_law_188 : decode cL_law 188 = .ok (.iload 4, 2) := by decide +kernel
theorem dL_law_190 : decode cL_law 190 = .ok (.iconst 2, 1) := by decide +kernel
theorem dL_law_191 : decode cL_law 191 = .ok (.iadd, 1) := by decide +kernel
theorem dL_law_192 : decode cL_law 192 = .ok (.iaload, 1) := by decide +kernel
theorem dL_law_193 : decode cL_law 193 = .ok (.aload_n 3, 1) := by decide +kernel
theorem dL_law_194 : decode cL_law 194 = .ok (.invokestatic 93, 3) := by decide +kernel
theorem dL_law_197 : decode cL_law 197 = .ok (.istore 5, 2) := by decide +kernel
theorem dL_law_199 : decode cL_law 199 = .ok (.aload_n 2, 1) := by decide +kernel
theorem dL_law_200 : decode cL_law 200 = .ok (.aload_n 0, 1) := by decide +kernel
theorem dL_law_201 : decode cL_law 201 = .ok (.iload 4, 2) := by decide +kernel
theorem dL_law_203 : decode cL_law 203 = .ok (.iconst 1, 1) := by decide +kernel
theorem dL_law_204 : decode cL_law 204 = .ok (.iadd, 1) := by decide +kernel
theorem dL_law_205 : decode cL_law 205 = .ok (.iaload, 1) := by decide +kernel
theorem dL_law_206 : decode cL_law 206 = .ok (.aload_n 0, 1) := by decide +kernel
theorem dL_law_207 : decode cL_law 207 = .ok (.iload 4, 2) := by decide +kernel
theorem dL_law_209 : decode cL_law 209 = .ok (.iconst 2, 1) := by decide +kernel
theorem dL_law_210 : decode cL_law 210 = .ok (.iadd, 1) := by decide +kernel
theorem dL_law_211 : decode cL_law 211 = .ok (.iaload, 1) := by decide +kernel
theorem dL_law_212 : decode cL_law 212 = .ok (.invokevirtual 96, 3) := by decide +kernel
theorem dL_law_215 : decode cL_law 215 = .ok (.istore 6, 2) := by decide +kernel
theorem dL_law_217 : decode cL_law 217 = .ok (.aload_n 2, 1) := by decide +kernel
theorem dL_law_218 : decode cL_law 218 = .ok (.invokevirtual 90, 3) := by decide +kernel
theorem dL_law_221 : decode cL_law 221 = .ok (.iload 5, 2) := by decide +kernel
theorem dL_law_223 : decode cL_law 223 = .ok (.if_icmp .eq 5, 3) := by decide +kernel
theorem dL_law_226 : decode cL_law 226 = .ok (.iconst 0, 1) := by decide +kernel
theorem dL_law_227 : decode cL_law 227 = .ok (.ireturn, 1) := by decide +kernel
theorem dL_law_228 : decode cL_law 228 = .ok (.iload 5, 2) := by decide +kernel
theorem dL_law_230 : decode cL_law 230 = .ok (.ifCond .ne 15, 3) := by decide +kernel
theorem dL_law_233 : decode cL_law 233 = .ok (.aload_n 3, 1) := by decide +kernel
theorem dL_law_234 : decode cL_law 234 = .ok (.iconst 0, 1) := by decide +kernel
theorem dL_law_235 : decode cL_law 235 = .ok (.laload, 1) := by decide +kernel
theorem dL_law_236 : decode cL_law 236 = .ok (.iload 6, 2) := by decide +kernel
theorem dL_law_238 : decode cL_law 238 = .ok (.i2l, 1) := by decide +kernel
theorem dL_law_239 : decode cL_law 239 = .ok (.lcmp, 1) := by decide +kernel
theorem dL_law_240 : decode cL_law 240 = .ok (.ifCond .eq 5, 3) := by decide +kernel
theorem dL_law_243 : decode cL_law 243 = .ok (.iconst 0, 1) := by decide +kernel
theorem dL_law_244 : decode cL_law 244 = .ok (.ireturn, 1) := by decide +kernel
theorem dL_law_245 : decode cL_law 245 = .ok (.goto 1247, 3) := by decide +kernel
theorem dL_law_248 : decode cL_law 248 = .ok (.aload_n 1, 1) := by decide +kernel
theorem dL_law_249 : decode cL_law 249 = .ok (.aload_n 0, 1) := by decide +kernel
theorem dL_law_250 : decode cL_law 250 = .ok (.iload 4, 2) := by decide +kernel
theorem dL_law_252 : decode cL_law 252 = .ok (.iconst 1, 1) := by decide +kernel
theorem dL_law_253 : decode cL_law 253 = .ok (.iadd, 1) := by decide +kernel
theorem dL_law_254 : decode cL_law 254 = .ok (.iaload, 1) := by decide +kernel
theorem dL_law_255 : decode cL_law 255 = .ok (.aload_n 0, 1) := by decide +kernel
theorem dL_law_256 : decode cL_law 256 = .ok (.iload 4, 2) := by decide +kernel
theorem dL_law_258 : decode cL_law 258 = .ok (.iconst 2, 1) := by decide +kernel
theorem dL_law_259 : decode cL_law 259 = .ok (.iadd, 1) := by decide +kernel
theorem dL_law_260 : decode cL_law 260 = .ok (.iaload, 1) := by decide +kernel
theorem dL_law_261 : decode cL_law 261 = .ok (.aload_n 0, 1) := by decide +kernel
theorem dL_law_262 : decode cL_law 262 = .ok (.iload 4, 2) := by decide +kernel
theorem dL_law_264 : decode cL_law 264 = .ok (.iconst 3, 1) := by decide +kernel
theorem dL_law_265 : decode cL_law 265 = .ok (.iadd, 1) := by decide +kernel
theorem dL_law_266 : decode cL_law 266 = .ok (.iaload, 1) := by decide +kernel
theorem dL_law_267 : decode cL_law 267 = .ok (.aload_n 3, 1) := by decide +kernel
theorem dL_law_268 : decode cL_law 268 = .ok (.invokestatic 97, 3) := by decide +kernel
theorem dL_law_271 : decode cL_law 271 = .ok (.istore 5, 2) := by decide +kernel
theorem dL_law_273 : decode cL_law 273 = .ok (.aload_n 2, 1) := by decide +kernel
theorem dL_law_274 : decode cL_law 274 = .ok (.aload_n 0, 1) := by decide +kernel
theorem dL_law_275 : decode cL_law 275 = .ok (.iload 4, 2) := by decide +kernel
theorem dL_law_277 : decode cL_law 277 = .ok (.iconst 1, 1) := by decide +kernel
theorem dL_law_278 : decode cL_law 278 = .ok (.iadd, 1) := by decide +kernel
theorem dL_law_279 : decode cL_law 279 = .ok (.iaload, 1) := by decide +kernel
theorem dL_law_280 : decode cL_law 280 = .ok (.aload_n 0, 1) := by decide +kernel
theorem dL_law_281 : decode cL_law 281 = .ok (.iload 4, 2) := by decide +kernel
theorem dL_law_283 : decode cL_law 283 = .ok (.iconst 2, 1) := by decide +kernel
theorem dL_law_284 : decode cL_law 284 = .ok (.iadd, 1) := by decide +kernel
theorem dL_law_285 : decode cL_law 285 = .ok (.iaload, 1) := by decide +kernel
theorem dL_law_286 : decode cL_law 286 = .ok (.aload_n 0, 1) := by decide +kernel
theorem dL_law_287 : decode cL_law 287 = .ok (.iload 4, 2) := by decide +kernel
theorem dL_law_289 : decode cL_law 289 = .ok (.iconst 3, 1) := by decide +kernel
theorem dL_law_290 : decode cL_law 290 = .ok (.iadd, 1) := by decide +kernel
theorem dL_law_291 : decode cL_law 291 = .ok (.iaload, 1) := by decide +kernel
theorem dL_law_292 : decode cL_law 292 = .ok (.invokevirtual 100, 3) := by decide +kernel
theorem dL_law_295 : decode cL_law 295 = .ok (.istore 6, 2) := by decide +kernel
theorem dL_law_297 : decode cL_law 297 = .ok (.aload_n 2, 1) := by decide +kernel
theorem dL_law_298 : decode cL_law 298 = .ok (.invokevirtual 90, 3) := by decide +kernel
theorem dL_law_301 : decode cL_law 301 = .ok (.iload 5, 2) := by decide +kernel
theorem dL_law_303 : decode cL_law 303 = .ok (.if_icmp .eq 5, 3) := by decide +kernel
theorem dL_law_306 : decode cL_law 306 = .ok (.iconst 0, 1) := by decide +kernel
theorem dL_law_307 : decode cL_law 307 = .ok (.ireturn, 1) := by decide +kernel
theorem dL_law_308 : decode cL_law 308 = .ok (.iload 5, 2) := by decide +kernel
theorem dL_law_310 : decode cL_law 310 = .ok (.ifCond .ne 15, 3) := by decide +kernel
theorem dL_law_313 : decode cL_law 313 = .ok (.aload_n 3, 1) := by decide +kernel
theorem dL_law_314 : decode cL_law 314 = .ok (.iconst 0, 1) := by decide +kernel
theorem dL_law_315 : decode cL_law 315 = .ok (.laload, 1) := by decide +kernel
theorem dL_law_316 : decode cL_law 316 = .ok (.iload 6, 2) := by decide +kernel
theorem dL_law_318 : decode cL_law 318 = .ok (.i2l, 1) := by decide +kernel
theorem dL_law_319 : decode cL_law 319 = .ok (.lcmp, 1) := by decide +kernel
theorem dL_law_320 : decode cL_law 320 = .ok (.ifCond .eq 5, 3) := by decide +kernel
theorem dL_law_323 : decode cL_law 323 = .ok (.iconst 0, 1) := by decide +kernel
theorem dL_law_324 : decode cL_law 324 = .ok (.ireturn, 1) := by decide +kernel
theorem dL_law_325 : decode cL_law 325 = .ok (.goto 1167, 3) := by decide +kernel
theorem dL_law_328 : decode cL_law 328 = .ok (.aload_n 1, 1) := by decide +kernel
theorem dL_law_329 : decode cL_law 329 = .ok (.aload_n 0, 1) := by decide +kernel
theorem dL_law_330 : decode cL_law 330 = .ok (.iload 4, 2) := by decide +kernel
theorem dL_law_332 : decode cL_law 332 = .ok (.iconst 1, 1) := by decide +kernel
theorem dL_law_333 : decode cL_law 333 = .ok (.iadd, 1) := by decide +kernel
theorem dL_law_334 : decode cL_law 334 = .ok (.iaload, 1) := by decide +kernel
theorem dL_law_335 : decode cL_law 335 = .ok (.aload_n 0, 1) := by decide +kernel
theorem dL_law_336 : decode cL_law 336 = .ok (.iload 4, 2) := by decide +kernel
theorem dL_law_338 : decode cL_law 338 = .ok (.iconst 2, 1) := by decide +kernel
theorem dL_law_339 : decode cL_law 339 = .ok (.iadd, 1) := by decide +kernel
theorem dL_law_340 : decode cL_law 340 = .ok (.iaload, 1) := by decide +kernel
theorem dL_law_341 : decode cL_law 341 = .ok (.aload_n 3, 1) := by decide +kernel
theorem dL_law_342 : decode cL_law 342 = .ok (.invokestatic 101, 3) := by decide +kernel
theorem dL_law_345 : decode cL_law 345 = .ok (.istore 5, 2) := by decide +kernel
theorem dL_law_347 : decode cL_law 347 = .ok (.aload_n 2, 1) := by decide +kernel
theorem dL_law_348 : decode cL_law 348 = .ok (.aload_n 0, 1) := by decide +kernel
theorem dL_law_349 : decode cL_law 349 = .ok (.iload 4, 2) := by decide +kernel
theorem dL_law_351 : decode cL_law 351 = .ok (.iconst 1, 1) := by decide +kernel
theorem dL_law_352 : decode cL_law 352 = .ok (.iadd, 1) := by decide +kernel
theorem dL_law_353 : decode cL_law 353 = .ok (.iaload, 1) := by decide +kernel
theorem dL_law_354 : decode cL_law 354 = .ok (.aload_n 0, 1) := by decide +kernel
theorem dL_law_355 : decode cL_law 355 = .ok (.iload 4, 2) := by decide +kernel
theorem dL_law_357 : decode cL_law 357 = .ok (.iconst 2, 1) := by decide +kernel
theorem dL_law_358 : decode cL_law 358 = .ok (.iadd, 1) := by decide +kernel
theorem dL_law_359 : decode cL_law 359 = .ok (.iaload, 1) := by decide +kernel
theorem dL_law_360 : decode cL_law 360 = .ok (.invokevirtual 103, 3) := by decide +kernel
theorem dL_law_363 : decode cL_law 363 = .ok (.istore 6, 2) := by decide +kernel
theorem dL_law_365 : decode cL_law 365 = .ok (.aload_n 2, 1) := by decide +kernel
theorem dL_law_366 : decode cL_law 366 = .ok (.invokevirtual 90, 3) := by decide +kernel
theorem dL_law_369 : decode cL_law 369 = .ok (.iload 5, 2) := by decide +kernel
theorem dL_law_371 : decode cL_law 371 = .ok (.if_icmp .eq 5, 3) := by decide +kernel
theorem dL_law_374 : decode cL_law 374 = .ok (.iconst 0, 1) := by decide +kernel
theorem dL_law_375 : decode cL_law 375 = .ok (.ireturn, 1) := by decide +kernel
theorem dL_law_376 : decode cL_law 376 = .ok (.iload 5, 2) := by decide +kernel
theorem dL_law_378 : decode cL_law 378 = .ok (.ifCond .ne 15, 3) := by decide +kernel
theorem dL_law_381 : decode cL_law 381 = .ok (.aload_n 3, 1) := by decide +kernel
theorem dL_law_382 : decode cL_law 382 = .ok (.iconst 0, 1) := by decide +kernel
theorem dL_law_383 : decode cL_law 383 = .ok (.laload, 1) := by decide +kernel
theorem dL_law_384 : decode cL_law 384 = .ok (.iload 6, 2) := by decide +kernel
theorem dL_law_386 : decode cL_law 386 = .ok (.i2l, 1) := by decide +kernel
theorem dL_law_387 : decode cL_law 387 = .ok (.lcmp, 1) := by decide +kernel
theorem dL_law_388 : decode cL_law 388 = .ok (.ifCond .eq 5, 3) := by decide +kernel
theorem dL_law_391 : decode cL_law 391 = .ok (.iconst 0, 1) := by decide +kernel
theorem dL_law_392 : decode cL_law 392 = .ok (.ireturn, 1) := by decide +kernel
theorem dL_law_393 : decode cL_law 393 = .ok (.goto 1099, 3) := by decide +kernel
theorem dL_law_396 : decode cL_law 396 = .ok (.aload_n 1, 1) := by decide +kernel
theorem dL_law_397 : decode cL_law 397 = .ok (.aload_n 0, 1) := by decide +kernel
theorem dL_law_398 : decode cL_law 398 = .ok (.iload 4, 2) := by decide +kernel
theorem dL_law_400 : decode cL_law 400 = .ok (.iconst 1, 1) := by decide +kernel
theorem dL_law_401 : decode cL_law 401 = .ok (.iadd, 1) := by decide +kernel
theorem dL_law_402 : decode cL_law 402 = .ok (.iaload, 1) := by decide +kernel
theorem dL_law_403 : decode cL_law 403 = .ok (.aload_n 0, 1) := by decide +kernel
theorem dL_law_404 : decode cL_law 404 = .ok (.iload 4, 2) := by decide +kernel
theorem dL_law_406 : decode cL_law 406 = .ok (.iconst 2, 1) := by decide +kernel
theorem dL_law_407 : decode cL_law 407 = .ok (.iadd, 1) := by decide +kernel
theorem dL_law_408 : decode cL_law 408 = .ok (.iaload, 1) := by decide +kernel
theorem dL_law_409 : decode cL_law 409 = .ok (.aload_n 3, 1) := by decide +kernel
theorem dL_law_410 : decode cL_law 410 = .ok (.invokestatic 104, 3) := by decide +kernel
theorem dL_law_413 : decode cL_law 413 = .ok (.istore 5, 2) := by decide +kernel
theorem dL_law_415 : decode cL_law 415 = .ok (.aload_n 2, 1) := by decide +kernel
theorem dL_law_416 : decode cL_law 416 = .ok (.aload_n 0, 1) := by decide +kernel
theorem dL_law_417 : decode cL_law 417 = .ok (.iload 4, 2) := by decide +kernel
theorem dL_law_419 : decode cL_law 419 = .ok (.iconst 1, 1) := by decide +kernel
theorem dL_law_420 : decode cL_law 420 = .ok (.iadd, 1) := by decide +kernel
theorem dL_law_421 : decode cL_law 421 = .ok (.iaload, 1) := by decide +kernel
theorem dL_law_422 : decode cL_law 422 = .ok (.aload_n 0, 1) := by decide +kernel
theorem dL_law_423 : decode cL_law 423 = .ok (.iload 4, 2) := by decide +kernel
theorem dL_law_425 : decode cL_law 425 = .ok (.iconst 2, 1) := by decide +kernel
theorem dL_law_426 : decode cL_law 426 = .ok (.iadd, 1) := by decide +kernel
theorem dL_law_427 : decode cL_law 427 = .ok (.iaload, 1) := by decide +kernel
theorem dL_law_428 : decode cL_law 428 = .ok (.invokevirtual 106, 3) := by decide +kernel
theorem dL_law_431 : decode cL_law 431 = .ok (.istore 6, 2) := by decide +kernel
theorem dL_law_433 : decode cL_law 433 = .ok (.aload_n 2, 1) := by decide +kernel
theorem dL_law_434 : decode cL_law 434 = .ok (.invokevirtual 90, 3) := by decide +kernel
theorem dL_law_437 : decode cL_law 437 = .ok (.iload 5, 2) := by decide +kernel
theorem dL_law_439 : decode cL_law 439 = .ok (.if_icmp .eq 5, 3) := by decide +kernel
theorem dL_law_442 : decode cL_law 442 = .ok (.iconst 0, 1) := by decide +kernel
theorem dL_law_443 : decode cL_law 443 = .ok (.ireturn, 1) := by decide +kernel
theorem dL_law_444 : decode cL_law 444 = .ok (.iload 5, 2) := by decide +kernel
theorem dL_law_446 : decode cL_law 446 = .ok (.ifCond .ne 15, 3) := by decide +kernel
theorem dL_law_449 : decode cL_law 449 = .ok (.aload_n 3, 1) := by decide +kernel
theorem dL_law_450 : decode cL_law 450 = .ok (.iconst 0, 1) := by decide +kernel
theorem dL_law_451 : decode cL_law 451 = .ok (.laload, 1) := by decide +kernel
theorem dL_law_452 : decode cL_law 452 = .ok (.iload 6, 2) := by decide +kernel
theorem dL_law_454 : decode cL_law 454 = .ok (.i2l, 1) := by decide +kernel
theorem dL_law_455 : decode cL_law 455 = .ok (.lcmp, 1) := by decide +kernel
theorem dL_law_456 : decode cL_law 456 = .ok (.ifCond .eq 5, 3) := by decide +kernel
theorem dL_law_459 : decode cL_law 459 = .ok (.iconst 0, 1) := by decide +kernel
theorem dL_law_460 : decode cL_law 460 = .ok (.ireturn, 1) := by decide +kernel
theorem dL_law_461 : decode cL_law 461 = .ok (.goto 1031, 3) := by decide +kernel
theorem dL_law_464 : decode cL_law 464 = .ok (.aload_n 1, 1) := by decide +kernel
theorem dL_law_465 : decode cL_law 465 = .ok (.aload_n 0, 1) := by decide +kernel
theorem dL_law_466 : decode cL_law 466 = .ok (.iload 4, 2) := by decide +kernel
theorem dL_law_468 : decode cL_law 468 = .ok (.iconst 1, 1) := by decide +kernel
theorem dL_law_469 : decode cL_law 469 = .ok (.iadd, 1) := by decide +kernel
theorem dL_law_470 : decode cL_law 470 = .ok (.iaload, 1) := by decide +kernel
theorem dL_law_471 : decode cL_law 471 = .ok (.aload_n 0, 1) := by decide +kernel
theorem dL_law_472 : decode cL_law 472 = .ok (.iload 4, 2) := by decide +kernel
theorem dL_law_474 : decode cL_law 474 = .ok (.iconst 2, 1) := by decide +kernel
theorem dL_law_475 : decode cL_law 475 = .ok (.iadd, 1) := by decide +kernel
theorem dL_law_476 : decode cL_law 476 = .ok (.iaload, 1) := by decide +kernel
theorem dL_law_477 : decode cL_law 477 = .ok (.aload_n 0, 1) := by decide +kernel
theorem dL_law_478 : decode cL_law 478 = .ok (.iload 4, 2) := by decide +kernel
theorem dL_law_480 : decode cL_law 480 = .ok (.iconst 3, 1) := by decide +kernel
