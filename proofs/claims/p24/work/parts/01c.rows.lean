theorem dX0_init_0 : decode cX0_init 0 = .ok (.aload_n 0, 1) := by decide +kernel
theorem dX0_init_1 : decode cX0_init 1 = .ok (.invokespecial 3, 3) := by decide +kernel
theorem dX0_init_4 : decode cX0_init 4 = .ok (.aload_n 0, 1) := by decide +kernel
theorem dX0_init_5 : decode cX0_init 5 = .ok (.iconst 5, 1) := by decide +kernel
theorem dX0_init_6 : decode cX0_init 6 = .ok (.newarray .int, 2) := by decide +kernel
theorem dX0_init_8 : decode cX0_init 8 = .ok (.putfield 9, 3) := by decide +kernel
theorem dX0_init_11 : decode cX0_init 11 = .ok (.aload_n 0, 1) := by decide +kernel
theorem dX0_init_12 : decode cX0_init 12 = .ok (.iconst 5, 1) := by decide +kernel
theorem dX0_init_13 : decode cX0_init 13 = .ok (.newarray .int, 2) := by decide +kernel
theorem dX0_init_15 : decode cX0_init 15 = .ok (.putfield 15, 3) := by decide +kernel
theorem dX0_init_18 : decode cX0_init 18 = .ok (.aload_n 0, 1) := by decide +kernel
theorem dX0_init_19 : decode cX0_init 19 = .ok (.iconst 5, 1) := by decide +kernel
theorem dX0_init_20 : decode cX0_init 20 = .ok (.newarray .int, 2) := by decide +kernel
theorem dX0_init_22 : decode cX0_init 22 = .ok (.putfield 18, 3) := by decide +kernel
theorem dX0_init_25 : decode cX0_init 25 = .ok (.return_, 1) := by decide +kernel
set_option maxRecDepth 20000 in
theorem ggX0_hasResult_X2_at : GoodIn wsX0_hasResult wsX2_at := goodIn_r _ [4] (by decide +kernel) (by decide +kernel)
set_option maxRecDepth 20000 in
theorem gX0_hasResult_X2_at_n21 : GoodIn wsX0_hasResult (wsX2_at) := ggX0_hasResult_X2_at
theorem dX0_hasResult_0 : decode cX0_hasResult 0 = .ok (.aload_n 0, 1) := by decide +kernel
theorem dX0_hasResult_1 : decode cX0_hasResult 1 = .ok (.getfield 15, 3) := by decide +kernel
theorem dX0_hasResult_4 : decode cX0_hasResult 4 = .ok (.iload_n 1, 1) := by decide +kernel
theorem dX0_hasResult_5 : decode cX0_hasResult 5 = .ok (.invokestatic 21, 3) := by decide +kernel
theorem dX0_hasResult_8 : decode cX0_hasResult 8 = .ok (.ifCond .le 7, 3) := by decide +kernel
theorem dX0_hasResult_11 : decode cX0_hasResult 11 = .ok (.iconst 1, 1) := by decide +kernel
theorem dX0_hasResult_12 : decode cX0_hasResult 12 = .ok (.goto 4, 3) := by decide +kernel
theorem dX0_hasResult_15 : decode cX0_hasResult 15 = .ok (.iconst 0, 1) := by decide +kernel
theorem dX0_hasResult_16 : decode cX0_hasResult 16 = .ok (.ireturn, 1) := by decide +kernel
set_option maxRecDepth 20000 in
theorem ggX0_told_X2_at : GoodIn wsX0_told wsX2_at := goodIn_r _ [5] (by decide +kernel) (by decide +kernel)
set_option maxRecDepth 20000 in
theorem gX0_told_X2_at_n21 : GoodIn wsX0_told (wsX2_at) := ggX0_told_X2_at
set_option maxRecDepth 20000 in
theorem ggX0_told_X0_rankOf : GoodIn wsX0_told wsX0_rankOf := goodIn_r _ [10, 2, 3, 4, 5, 11, 12, 13, 9, 14, 1, 15, 16, 17] (by decide +kernel) (by decide +kernel)
set_option maxRecDepth 20000 in
theorem gX0_told_X0_rankOf : GoodIn wsX0_told (wsV RX0 25 RX0 yX0_rankOf wsX0_rankOf) := goodIn_app (goodIn_of _ (by decide +kernel)) ggX0_told_X0_rankOf
theorem dX0_told_0 : decode cX0_told 0 = .ok (.iload_n 2, 1) := by decide +kernel
theorem dX0_told_1 : decode cX0_told 1 = .ok (.lookupswitch 45 #[(1, 27), (2, 36)], 27) := by decide +kernel
theorem dX0_told_28 : decode cX0_told 28 = .ok (.aload_n 0, 1) := by decide +kernel
theorem dX0_told_29 : decode cX0_told 29 = .ok (.getfield 15, 3) := by decide +kernel
theorem dX0_told_32 : decode cX0_told 32 = .ok (.iload_n 1, 1) := by decide +kernel
theorem dX0_told_33 : decode cX0_told 33 = .ok (.invokestatic 21, 3) := by decide +kernel
theorem dX0_told_36 : decode cX0_told 36 = .ok (.ireturn, 1) := by decide +kernel
theorem dX0_told_37 : decode cX0_told 37 = .ok (.aload_n 0, 1) := by decide +kernel
theorem dX0_told_38 : decode cX0_told 38 = .ok (.getfield 18, 3) := by decide +kernel
theorem dX0_told_41 : decode cX0_told 41 = .ok (.iload_n 1, 1) := by decide +kernel
theorem dX0_told_42 : decode cX0_told 42 = .ok (.invokestatic 21, 3) := by decide +kernel
theorem dX0_told_45 : decode cX0_told 45 = .ok (.ireturn, 1) := by decide +kernel
theorem dX0_told_46 : decode cX0_told 46 = .ok (.aload_n 0, 1) := by decide +kernel
theorem dX0_told_47 : decode cX0_told 47 = .ok (.iload_n 1, 1) := by decide +kernel
theorem dX0_told_48 : decode cX0_told 48 = .ok (.invokevirtual 25, 3) := by decide +kernel
theorem dX0_told_51 : decode cX0_told 51 = .ok (.ireturn, 1) := by decide +kernel
set_option maxRecDepth 20000 in
theorem ggX0_rankOf_X2_at : GoodIn wsX0_rankOf wsX2_at := goodIn_r _ [4] (by decide +kernel) (by decide +kernel)
set_option maxRecDepth 20000 in
theorem gX0_rankOf_X2_at_n21 : GoodIn wsX0_rankOf (wsX2_at) := ggX0_rankOf_X2_at
set_option maxRecDepth 20000 in
theorem ggX0_rankOf_X0_hasResult : GoodIn wsX0_rankOf wsX0_hasResult := goodIn_r _ [9, 10, 2, 3, 4, 11, 12, 13] (by decide +kernel) (by decide +kernel)
set_option maxRecDepth 20000 in
theorem gX0_rankOf_X0_hasResult : GoodIn wsX0_rankOf (wsV RX0 29 RX0 yX0_hasResult wsX0_hasResult) := goodIn_app (goodIn_of _ (by decide +kernel)) ggX0_rankOf_X0_hasResult
theorem dX0_rankOf_0 : decode cX0_rankOf 0 = .ok (.aload_n 0, 1) := by decide +kernel
theorem dX0_rankOf_1 : decode cX0_rankOf 1 = .ok (.getfield 18, 3) := by decide +kernel
theorem dX0_rankOf_4 : decode cX0_rankOf 4 = .ok (.iload_n 1, 1) := by decide +kernel
theorem dX0_rankOf_5 : decode cX0_rankOf 5 = .ok (.invokestatic 21, 3) := by decide +kernel
theorem dX0_rankOf_8 : decode cX0_rankOf 8 = .ok (.istore_n 2, 1) := by decide +kernel
theorem dX0_rankOf_9 : decode cX0_rankOf 9 = .ok (.iconst 0, 1) := by decide +kernel
theorem dX0_rankOf_10 : decode cX0_rankOf 10 = .ok (.istore_n 3, 1) := by decide +kernel
theorem dX0_rankOf_11 : decode cX0_rankOf 11 = .ok (.iconst 0, 1) := by decide +kernel
theorem dX0_rankOf_12 : decode cX0_rankOf 12 = .ok (.istore 4, 2) := by decide +kernel
theorem dX0_rankOf_14 : decode cX0_rankOf 14 = .ok (.iload 4, 2) := by decide +kernel
theorem dX0_rankOf_16 : decode cX0_rankOf 16 = .ok (.iconst 5, 1) := by decide +kernel
theorem dX0_rankOf_17 : decode cX0_rankOf 17 = .ok (.if_icmp .ge 50, 3) := by decide +kernel
theorem dX0_rankOf_20 : decode cX0_rankOf 20 = .ok (.aload_n 0, 1) := by decide +kernel
theorem dX0_rankOf_21 : decode cX0_rankOf 21 = .ok (.getfield 18, 3) := by decide +kernel
theorem dX0_rankOf_24 : decode cX0_rankOf 24 = .ok (.iload 4, 2) := by decide +kernel
theorem dX0_rankOf_26 : decode cX0_rankOf 26 = .ok (.invokestatic 21, 3) := by decide +kernel
theorem dX0_rankOf_29 : decode cX0_rankOf 29 = .ok (.istore 5, 2) := by decide +kernel
theorem dX0_rankOf_31 : decode cX0_rankOf 31 = .ok (.aload_n 0, 1) := by decide +kernel
theorem dX0_rankOf_32 : decode cX0_rankOf 32 = .ok (.iload 4, 2) := by decide +kernel
theorem dX0_rankOf_34 : decode cX0_rankOf 34 = .ok (.invokevirtual 29, 3) := by decide +kernel
theorem dX0_rankOf_37 : decode cX0_rankOf 37 = .ok (.ifCond .eq 24, 3) := by decide +kernel
theorem dX0_rankOf_40 : decode cX0_rankOf 40 = .ok (.iload 5, 2) := by decide +kernel
theorem dX0_rankOf_42 : decode cX0_rankOf 42 = .ok (.iload_n 2, 1) := by decide +kernel
theorem dX0_rankOf_43 : decode cX0_rankOf 43 = .ok (.if_icmp .lt 15, 3) := by decide +kernel
theorem dX0_rankOf_46 : decode cX0_rankOf 46 = .ok (.iload 5, 2) := by decide +kernel
theorem dX0_rankOf_48 : decode cX0_rankOf 48 = .ok (.iload_n 2, 1) := by decide +kernel
theorem dX0_rankOf_49 : decode cX0_rankOf 49 = .ok (.if_icmp .ne 12, 3) := by decide +kernel
theorem dX0_rankOf_52 : decode cX0_rankOf 52 = .ok (.iload 4, 2) := by decide +kernel
theorem dX0_rankOf_54 : decode cX0_rankOf 54 = .ok (.iload_n 1, 1) := by decide +kernel
theorem dX0_rankOf_55 : decode cX0_rankOf 55 = .ok (.if_icmp .ge 6, 3) := by decide +kernel
theorem dX0_rankOf_58 : decode cX0_rankOf 58 = .ok (.iinc 3 1, 3) := by decide +kernel
theorem dX0_rankOf_61 : decode cX0_rankOf 61 = .ok (.iinc 4 1, 3) := by decide +kernel
theorem dX0_rankOf_64 : decode cX0_rankOf 64 = .ok (.goto (-50), 3) := by decide +kernel
theorem dX0_rankOf_67 : decode cX0_rankOf 67 = .ok (.iload_n 3, 1) := by decide +kernel
theorem dX0_rankOf_68 : decode cX0_rankOf 68 = .ok (.ireturn, 1) := by decide +kernel
set_option maxRecDepth 20000 in
theorem ggX0_holderOf_X0_hasResult : GoodIn wsX0_holderOf wsX0_hasResult := goodIn_r _ [5, 6, 7, 8, 9, 15, 16, 17] (by decide +kernel) (by decide +kernel)
set_option maxRecDepth 20000 in
theorem gX0_holderOf_X0_hasResult : GoodIn wsX0_holderOf (wsV RX0 29 RX0 yX0_hasResult wsX0_hasResult) := goodIn_app (goodIn_of _ (by decide +kernel)) ggX0_holderOf_X0_hasResult
set_option maxRecDepth 20000 in
theorem ggX0_holderOf_X0_rankOf : GoodIn wsX0_holderOf wsX0_rankOf := goodIn_r _ [13, 14, 7, 8, 9, 1, 2, 3, 4, 5, 6, 15, 16, 17] (by decide +kernel) (by decide +kernel)
set_option maxRecDepth 20000 in
theorem gX0_holderOf_X0_rankOf : GoodIn wsX0_holderOf (wsV RX0 25 RX0 yX0_rankOf wsX0_rankOf) := goodIn_app (goodIn_of _ (by decide +kernel)) ggX0_holderOf_X0_rankOf
theorem dX0_holderOf_0 : decode cX0_holderOf 0 = .ok (.iconst 0, 1) := by decide +kernel
theorem dX0_holderOf_1 : decode cX0_holderOf 1 = .ok (.istore_n 2, 1) := by decide +kernel
theorem dX0_holderOf_2 : decode cX0_holderOf 2 = .ok (.iload_n 2, 1) := by decide +kernel
theorem dX0_holderOf_3 : decode cX0_holderOf 3 = .ok (.iconst 5, 1) := by decide +kernel
theorem dX0_holderOf_4 : decode cX0_holderOf 4 = .ok (.if_icmp .ge 28, 3) := by decide +kernel
theorem dX0_holderOf_7 : decode cX0_holderOf 7 = .ok (.aload_n 0, 1) := by decide +kernel
theorem dX0_holderOf_8 : decode cX0_holderOf 8 = .ok (.iload_n 2, 1) := by decide +kernel
theorem dX0_holderOf_9 : decode cX0_holderOf 9 = .ok (.invokevirtual 29, 3) := by decide +kernel
theorem dX0_holderOf_12 : decode cX0_holderOf 12 = .ok (.ifCond .eq 14, 3) := by decide +kernel
theorem dX0_holderOf_15 : decode cX0_holderOf 15 = .ok (.aload_n 0, 1) := by decide +kernel
theorem dX0_holderOf_16 : decode cX0_holderOf 16 = .ok (.iload_n 2, 1) := by decide +kernel
theorem dX0_holderOf_17 : decode cX0_holderOf 17 = .ok (.invokevirtual 25, 3) := by decide +kernel
theorem dX0_holderOf_20 : decode cX0_holderOf 20 = .ok (.iload_n 1, 1) := by decide +kernel
theorem dX0_holderOf_21 : decode cX0_holderOf 21 = .ok (.if_icmp .ne 5, 3) := by decide +kernel
theorem dX0_holderOf_24 : decode cX0_holderOf 24 = .ok (.iload_n 2, 1) := by decide +kernel
theorem dX0_holderOf_25 : decode cX0_holderOf 25 = .ok (.ireturn, 1) := by decide +kernel
theorem dX0_holderOf_26 : decode cX0_holderOf 26 = .ok (.iinc 2 1, 3) := by decide +kernel
theorem dX0_holderOf_29 : decode cX0_holderOf 29 = .ok (.goto (-27), 3) := by decide +kernel
theorem dX0_holderOf_32 : decode cX0_holderOf 32 = .ok (.iconst (-1), 1) := by decide +kernel
theorem dX0_holderOf_33 : decode cX0_holderOf 33 = .ok (.ireturn, 1) := by decide +kernel
set_option maxRecDepth 20000 in
theorem ggX1_init_X2_put : GoodIn wsX1_init wsX2_put := goodIn_r _ [15] (by decide +kernel) (by decide +kernel)
set_option maxRecDepth 20000 in
theorem gX1_init_X2_put_n37 : GoodIn wsX1_init (wsX2_put) := ggX1_init_X2_put
theorem dX1_init_0 : decode cX1_init 0 = .ok (.aload_n 0, 1) := by decide +kernel
theorem dX1_init_1 : decode cX1_init 1 = .ok (.invokespecial 3, 3) := by decide +kernel
theorem dX1_init_4 : decode cX1_init 4 = .ok (.aload_n 0, 1) := by decide +kernel
theorem dX1_init_5 : decode cX1_init 5 = .ok (.bipush 12, 2) := by decide +kernel
theorem dX1_init_7 : decode cX1_init 7 = .ok (.newarray .int, 2) := by decide +kernel
theorem dX1_init_9 : decode cX1_init 9 = .ok (.putfield 9, 3) := by decide +kernel
theorem dX1_init_12 : decode cX1_init 12 = .ok (.aload_n 0, 1) := by decide +kernel
theorem dX1_init_13 : decode cX1_init 13 = .ok (.bipush 12, 2) := by decide +kernel
theorem dX1_init_15 : decode cX1_init 15 = .ok (.newarray .int, 2) := by decide +kernel
theorem dX1_init_17 : decode cX1_init 17 = .ok (.putfield 15, 3) := by decide +kernel
theorem dX1_init_20 : decode cX1_init 20 = .ok (.aload_n 0, 1) := by decide +kernel
theorem dX1_init_21 : decode cX1_init 21 = .ok (.iconst 0, 1) := by decide +kernel
theorem dX1_init_22 : decode cX1_init 22 = .ok (.putfield 18, 3) := by decide +kernel
theorem dX1_init_25 : decode cX1_init 25 = .ok (.aload_n 0, 1) := by decide +kernel
theorem dX1_init_26 : decode cX1_init 26 = .ok (.bipush 12, 2) := by decide +kernel
theorem dX1_init_28 : decode cX1_init 28 = .ok (.newarray .int, 2) := by decide +kernel
theorem dX1_init_30 : decode cX1_init 30 = .ok (.putfield 22, 3) := by decide +kernel
theorem dX1_init_33 : decode cX1_init 33 = .ok (.aload_n 0, 1) := by decide +kernel
theorem dX1_init_34 : decode cX1_init 34 = .ok (.sipush 144, 3) := by decide +kernel
theorem dX1_init_37 : decode cX1_init 37 = .ok (.newarray .int, 2) := by decide +kernel
theorem dX1_init_39 : decode cX1_init 39 = .ok (.putfield 25, 3) := by decide +kernel
theorem dX1_init_42 : decode cX1_init 42 = .ok (.aload_n 0, 1) := by decide +kernel
theorem dX1_init_43 : decode cX1_init 43 = .ok (.bipush 30, 2) := by decide +kernel
theorem dX1_init_45 : decode cX1_init 45 = .ok (.newarray .int, 2) := by decide +kernel
theorem dX1_init_47 : decode cX1_init 47 = .ok (.putfield 28, 3) := by decide +kernel
theorem dX1_init_50 : decode cX1_init 50 = .ok (.aload_n 0, 1) := by decide +kernel
theorem dX1_init_51 : decode cX1_init 51 = .ok (.iconst 0, 1) := by decide +kernel
theorem dX1_init_52 : decode cX1_init 52 = .ok (.putfield 31, 3) := by decide +kernel
theorem dX1_init_55 : decode cX1_init 55 = .ok (.aload_n 0, 1) := by decide +kernel
theorem dX1_init_56 : decode cX1_init 56 = .ok (.iconst 0, 1) := by decide +kernel
theorem dX1_init_57 : decode cX1_init 57 = .ok (.putfield 34, 3) := by decide +kernel
theorem dX1_init_60 : decode cX1_init 60 = .ok (.iconst 0, 1) := by decide +kernel
theorem dX1_init_61 : decode cX1_init 61 = .ok (.istore_n 1, 1) := by decide +kernel
theorem dX1_init_62 : decode cX1_init 62 = .ok (.iload_n 1, 1) := by decide +kernel
theorem dX1_init_63 : decode cX1_init 63 = .ok (.bipush 12, 2) := by decide +kernel
theorem dX1_init_65 : decode cX1_init 65 = .ok (.if_icmp .ge 27, 3) := by decide +kernel
theorem dX1_init_68 : decode cX1_init 68 = .ok (.aload_n 0, 1) := by decide +kernel
theorem dX1_init_69 : decode cX1_init 69 = .ok (.getfield 9, 3) := by decide +kernel
theorem dX1_init_72 : decode cX1_init 72 = .ok (.iload_n 1, 1) := by decide +kernel
theorem dX1_init_73 : decode cX1_init 73 = .ok (.iload_n 1, 1) := by decide +kernel
theorem dX1_init_74 : decode cX1_init 74 = .ok (.invokestatic 37, 3) := by decide +kernel
theorem dX1_init_77 : decode cX1_init 77 = .ok (.aload_n 0, 1) := by decide +kernel
theorem dX1_init_78 : decode cX1_init 78 = .ok (.getfield 15, 3) := by decide +kernel
theorem dX1_init_81 : decode cX1_init 81 = .ok (.iload_n 1, 1) := by decide +kernel
theorem dX1_init_82 : decode cX1_init 82 = .ok (.iload_n 1, 1) := by decide +kernel
theorem dX1_init_83 : decode cX1_init 83 = .ok (.invokestatic 37, 3) := by decide +kernel
theorem dX1_init_86 : decode cX1_init 86 = .ok (.iinc 1 1, 3) := by decide +kernel
theorem dX1_init_89 : decode cX1_init 89 = .ok (.goto (-27), 3) := by decide +kernel
theorem dX1_init_92 : decode cX1_init 92 = .ok (.return_, 1) := by decide +kernel
set_option maxRecDepth 20000 in
theorem ggX1_type_X2_at : GoodIn wsX1_type wsX2_at := goodIn_r _ [9] (by decide +kernel) (by decide +kernel)
set_option maxRecDepth 20000 in
theorem gX1_type_X2_at_n41 : GoodIn wsX1_type (wsX2_at) := ggX1_type_X2_at
set_option maxRecDepth 20000 in
theorem ggX1_type_X2_count : GoodIn wsX1_type wsX2_count := goodIn_r _ [11, 12, 7, 8, 9, 13, 14, 15] (by decide +kernel) (by decide +kernel)
set_option maxRecDepth 20000 in
theorem gX1_type_X2_count_n45 : GoodIn wsX1_type (wsX2_count) := ggX1_type_X2_count
set_option maxRecDepth 20000 in
theorem ggX1_type_X2_pairPlace : GoodIn wsX1_type wsX2_pairPlace := goodIn_r _ [17] (by decide +kernel) (by decide +kernel)
set_option maxRecDepth 20000 in
theorem gX1_type_X2_pairPlace_n49 : GoodIn wsX1_type (wsX2_pairPlace) := ggX1_type_X2_pairPlace
set_option maxRecDepth 20000 in
theorem ggX1_type_X1_keep : GoodIn wsX1_type wsX1_keep := goodIn_r _ [22, 3, 5, 23, 24, 25, 26, 14, 8, 15, 27, 28, 29, 30, 31, 32, 33, 34] (by decide +kernel) (by decide +kernel)
set_option maxRecDepth 20000 in
theorem gX1_type_X1_keep : GoodIn wsX1_type (wsV RX1 53 RX1 yX1_keep wsX1_keep) := goodIn_app (goodIn_of _ (by decide +kernel)) ggX1_type_X1_keep
theorem dX1_type_0 : decode cX1_type 0 = .ok (.aload_n 0, 1) := by decide +kernel
theorem dX1_type_1 : decode cX1_type 1 = .ok (.getfield 9, 3) := by decide +kernel
theorem dX1_type_4 : decode cX1_type 4 = .ok (.iload_n 1, 1) := by decide +kernel
theorem dX1_type_5 : decode cX1_type 5 = .ok (.invokestatic 41, 3) := by decide +kernel
theorem dX1_type_8 : decode cX1_type 8 = .ok (.istore_n 3, 1) := by decide +kernel
theorem dX1_type_9 : decode cX1_type 9 = .ok (.iload_n 3, 1) := by decide +kernel
theorem dX1_type_10 : decode cX1_type 10 = .ok (.iload_n 2, 1) := by decide +kernel
theorem dX1_type_11 : decode cX1_type 11 = .ok (.if_icmp .eq 7, 3) := by decide +kernel
theorem dX1_type_14 : decode cX1_type 14 = .ok (.iconst 1, 1) := by decide +kernel
theorem dX1_type_15 : decode cX1_type 15 = .ok (.goto 4, 3) := by decide +kernel
theorem dX1_type_18 : decode cX1_type 18 = .ok (.iconst 0, 1) := by decide +kernel
theorem dX1_type_19 : decode cX1_type 19 = .ok (.istore 4, 2) := by decide +kernel
theorem dX1_type_21 : decode cX1_type 21 = .ok (.iload 4, 2) := by decide +kernel
theorem dX1_type_23 : decode cX1_type 23 = .ok (.ifCond .eq 42, 3) := by decide +kernel
theorem dX1_type_26 : decode cX1_type 26 = .ok (.aload_n 0, 1) := by decide +kernel
theorem dX1_type_27 : decode cX1_type 27 = .ok (.getfield 22, 3) := by decide +kernel
theorem dX1_type_30 : decode cX1_type 30 = .ok (.iload_n 3, 1) := by decide +kernel
theorem dX1_type_31 : decode cX1_type 31 = .ok (.invokestatic 45, 3) := by decide +kernel
theorem dX1_type_34 : decode cX1_type 34 = .ok (.aload_n 0, 1) := by decide +kernel
theorem dX1_type_35 : decode cX1_type 35 = .ok (.getfield 31, 3) := by decide +kernel
theorem dX1_type_38 : decode cX1_type 38 = .ok (.ifCond .le 27, 3) := by decide +kernel
theorem dX1_type_41 : decode cX1_type 41 = .ok (.aload_n 0, 1) := by decide +kernel
theorem dX1_type_42 : decode cX1_type 42 = .ok (.getfield 25, 3) := by decide +kernel
theorem dX1_type_45 : decode cX1_type 45 = .ok (.aload_n 0, 1) := by decide +kernel
theorem dX1_type_46 : decode cX1_type 46 = .ok (.getfield 28, 3) := by decide +kernel
theorem dX1_type_49 : decode cX1_type 49 = .ok (.aload_n 0, 1) := by decide +kernel
theorem dX1_type_50 : decode cX1_type 50 = .ok (.getfield 31, 3) := by decide +kernel
theorem dX1_type_53 : decode cX1_type 53 = .ok (.iconst 1, 1) := by decide +kernel
theorem dX1_type_54 : decode cX1_type 54 = .ok (.isub, 1) := by decide +kernel
theorem dX1_type_55 : decode cX1_type 55 = .ok (.invokestatic 41, 3) := by decide +kernel
theorem dX1_type_58 : decode cX1_type 58 = .ok (.iload_n 1, 1) := by decide +kernel
theorem dX1_type_59 : decode cX1_type 59 = .ok (.invokestatic 49, 3) := by decide +kernel
theorem dX1_type_62 : decode cX1_type 62 = .ok (.invokestatic 45, 3) := by decide +kernel
theorem dX1_type_65 : decode cX1_type 65 = .ok (.aload_n 0, 1) := by decide +kernel
theorem dX1_type_66 : decode cX1_type 66 = .ok (.iload_n 1, 1) := by decide +kernel
theorem dX1_type_67 : decode cX1_type 67 = .ok (.invokevirtual 53, 3) := by decide +kernel
theorem dX1_type_70 : decode cX1_type 70 = .ok (.aload_n 0, 1) := by decide +kernel
theorem dX1_type_71 : decode cX1_type 71 = .ok (.dup, 1) := by decide +kernel
theorem dX1_type_72 : decode cX1_type 72 = .ok (.getfield 34, 3) := by decide +kernel
theorem dX1_type_75 : decode cX1_type 75 = .ok (.iconst 1, 1) := by decide +kernel
theorem dX1_type_76 : decode cX1_type 76 = .ok (.iadd, 1) := by decide +kernel
theorem dX1_type_77 : decode cX1_type 77 = .ok (.putfield 34, 3) := by decide +kernel
theorem dX1_type_80 : decode cX1_type 80 = .ok (.iload 4, 2) := by decide +kernel
theorem dX1_type_82 : decode cX1_type 82 = .ok (.ireturn, 1) := by decide +kernel
set_option maxRecDepth 20000 in
theorem ggX1_keep_X2_put : GoodIn wsX1_keep wsX2_put := goodIn_r _ [9] (by decide +kernel) (by decide +kernel)
set_option maxRecDepth 20000 in
theorem gX1_keep_X2_put_n37 : GoodIn wsX1_keep (wsX2_put) := ggX1_keep_X2_put
theorem dX1_keep_0 : decode cX1_keep 0 = .ok (.aload_n 0, 1) := by decide +kernel
theorem dX1_keep_1 : decode cX1_keep 1 = .ok (.getfield 31, 3) := by decide +kernel
theorem dX1_keep_4 : decode cX1_keep 4 = .ok (.bipush 30, 2) := by decide +kernel
theorem dX1_keep_6 : decode cX1_keep 6 = .ok (.if_icmp .ne 28, 3) := by decide +kernel
theorem dX1_keep_9 : decode cX1_keep 9 = .ok (.aload_n 0, 1) := by decide +kernel
theorem dX1_keep_10 : decode cX1_keep 10 = .ok (.getfield 28, 3) := by decide +kernel
theorem dX1_keep_13 : decode cX1_keep 13 = .ok (.iconst 1, 1) := by decide +kernel
theorem dX1_keep_14 : decode cX1_keep 14 = .ok (.aload_n 0, 1) := by decide +kernel
theorem dX1_keep_15 : decode cX1_keep 15 = .ok (.getfield 28, 3) := by decide +kernel
theorem dX1_keep_18 : decode cX1_keep 18 = .ok (.iconst 0, 1) := by decide +kernel
theorem dX1_keep_19 : decode cX1_keep 19 = .ok (.bipush 29, 2) := by decide +kernel
theorem dX1_keep_21 : decode cX1_keep 21 = .ok (.invokestatic 57, 3) := by decide +kernel
theorem dX1_keep_24 : decode cX1_keep 24 = .ok (.aload_n 0, 1) := by decide +kernel
theorem dX1_keep_25 : decode cX1_keep 25 = .ok (.dup, 1) := by decide +kernel
theorem dX1_keep_26 : decode cX1_keep 26 = .ok (.getfield 31, 3) := by decide +kernel
theorem dX1_keep_29 : decode cX1_keep 29 = .ok (.iconst 1, 1) := by decide +kernel
theorem dX1_keep_30 : decode cX1_keep 30 = .ok (.isub, 1) := by decide +kernel
theorem dX1_keep_31 : decode cX1_keep 31 = .ok (.putfield 31, 3) := by decide +kernel
theorem dX1_keep_34 : decode cX1_keep 34 = .ok (.aload_n 0, 1) := by decide +kernel
theorem dX1_keep_35 : decode cX1_keep 35 = .ok (.getfield 28, 3) := by decide +kernel
theorem dX1_keep_38 : decode cX1_keep 38 = .ok (.aload_n 0, 1) := by decide +kernel
theorem dX1_keep_39 : decode cX1_keep 39 = .ok (.getfield 31, 3) := by decide +kernel
theorem dX1_keep_42 : decode cX1_keep 42 = .ok (.iload_n 1, 1) := by decide +kernel
theorem dX1_keep_43 : decode cX1_keep 43 = .ok (.invokestatic 37, 3) := by decide +kernel
theorem dX1_keep_46 : decode cX1_keep 46 = .ok (.aload_n 0, 1) := by decide +kernel
theorem dX1_keep_47 : decode cX1_keep 47 = .ok (.dup, 1) := by decide +kernel
theorem dX1_keep_48 : decode cX1_keep 48 = .ok (.getfield 31, 3) := by decide +kernel
theorem dX1_keep_51 : decode cX1_keep 51 = .ok (.iconst 1, 1) := by decide +kernel
theorem dX1_keep_52 : decode cX1_keep 52 = .ok (.iadd, 1) := by decide +kernel
theorem dX1_keep_53 : decode cX1_keep 53 = .ok (.putfield 31, 3) := by decide +kernel
theorem dX1_keep_56 : decode cX1_keep 56 = .ok (.return_, 1) := by decide +kernel
set_option maxRecDepth 20000 in
theorem ggX1_exchange_X2_at : GoodIn wsX1_exchange wsX2_at := goodIn_r _ [7] (by decide +kernel) (by decide +kernel)
set_option maxRecDepth 20000 in
theorem gX1_exchange_X2_at_n41 : GoodIn wsX1_exchange (wsX2_at) := ggX1_exchange_X2_at
set_option maxRecDepth 20000 in
theorem ggX1_exchange_X2_put : GoodIn wsX1_exchange wsX2_put := goodIn_r _ [9] (by decide +kernel) (by decide +kernel)
set_option maxRecDepth 20000 in
theorem gX1_exchange_X2_put_n37 : GoodIn wsX1_exchange (wsX2_put) := ggX1_exchange_X2_put
theorem dX1_exchange_0 : decode cX1_exchange 0 = .ok (.aload_n 0, 1) := by decide +kernel
theorem dX1_exchange_1 : decode cX1_exchange 1 = .ok (.getfield 15, 3) := by decide +kernel
theorem dX1_exchange_4 : decode cX1_exchange 4 = .ok (.iload_n 1, 1) := by decide +kernel
theorem dX1_exchange_5 : decode cX1_exchange 5 = .ok (.invokestatic 41, 3) := by decide +kernel
theorem dX1_exchange_8 : decode cX1_exchange 8 = .ok (.istore_n 3, 1) := by decide +kernel
theorem dX1_exchange_9 : decode cX1_exchange 9 = .ok (.aload_n 0, 1) := by decide +kernel
theorem dX1_exchange_10 : decode cX1_exchange 10 = .ok (.getfield 15, 3) := by decide +kernel
theorem dX1_exchange_13 : decode cX1_exchange 13 = .ok (.iload_n 2, 1) := by decide +kernel
theorem dX1_exchange_14 : decode cX1_exchange 14 = .ok (.invokestatic 41, 3) := by decide +kernel
theorem dX1_exchange_17 : decode cX1_exchange 17 = .ok (.istore 4, 2) := by decide +kernel
theorem dX1_exchange_19 : decode cX1_exchange 19 = .ok (.aload_n 0, 1) := by decide +kernel
theorem dX1_exchange_20 : decode cX1_exchange 20 = .ok (.getfield 15, 3) := by decide +kernel
theorem dX1_exchange_23 : decode cX1_exchange 23 = .ok (.iload_n 1, 1) := by decide +kernel
theorem dX1_exchange_24 : decode cX1_exchange 24 = .ok (.iload 4, 2) := by decide +kernel
theorem dX1_exchange_26 : decode cX1_exchange 26 = .ok (.invokestatic 37, 3) := by decide +kernel
theorem dX1_exchange_29 : decode cX1_exchange 29 = .ok (.aload_n 0, 1) := by decide +kernel
theorem dX1_exchange_30 : decode cX1_exchange 30 = .ok (.getfield 15, 3) := by decide +kernel
theorem dX1_exchange_33 : decode cX1_exchange 33 = .ok (.iload_n 2, 1) := by decide +kernel
theorem dX1_exchange_34 : decode cX1_exchange 34 = .ok (.iload_n 3, 1) := by decide +kernel
theorem dX1_exchange_35 : decode cX1_exchange 35 = .ok (.invokestatic 37, 3) := by decide +kernel
theorem dX1_exchange_38 : decode cX1_exchange 38 = .ok (.aload_n 0, 1) := by decide +kernel
theorem dX1_exchange_39 : decode cX1_exchange 39 = .ok (.getfield 9, 3) := by decide +kernel
theorem dX1_exchange_42 : decode cX1_exchange 42 = .ok (.iload_n 3, 1) := by decide +kernel
theorem dX1_exchange_43 : decode cX1_exchange 43 = .ok (.iload_n 2, 1) := by decide +kernel
theorem dX1_exchange_44 : decode cX1_exchange 44 = .ok (.invokestatic 37, 3) := by decide +kernel
theorem dX1_exchange_47 : decode cX1_exchange 47 = .ok (.aload_n 0, 1) := by decide +kernel
theorem dX1_exchange_48 : decode cX1_exchange 48 = .ok (.getfield 9, 3) := by decide +kernel
theorem dX1_exchange_51 : decode cX1_exchange 51 = .ok (.iload 4, 2) := by decide +kernel
theorem dX1_exchange_53 : decode cX1_exchange 53 = .ok (.iload_n 1, 1) := by decide +kernel
theorem dX1_exchange_54 : decode cX1_exchange 54 = .ok (.invokestatic 37, 3) := by decide +kernel
theorem dX1_exchange_57 : decode cX1_exchange 57 = .ok (.aload_n 0, 1) := by decide +kernel
theorem dX1_exchange_58 : decode cX1_exchange 58 = .ok (.getfield 18, 3) := by decide +kernel
theorem dX1_exchange_61 : decode cX1_exchange 61 = .ok (.iconst 1, 1) := by decide +kernel
theorem dX1_exchange_62 : decode cX1_exchange 62 = .ok (.if_icmp .ne 39, 3) := by decide +kernel
theorem dX1_exchange_65 : decode cX1_exchange 65 = .ok (.aload_n 0, 1) := by decide +kernel
theorem dX1_exchange_66 : decode cX1_exchange 66 = .ok (.getfield 22, 3) := by decide +kernel
theorem dX1_exchange_69 : decode cX1_exchange 69 = .ok (.iload_n 1, 1) := by decide +kernel
theorem dX1_exchange_70 : decode cX1_exchange 70 = .ok (.invokestatic 41, 3) := by decide +kernel
theorem dX1_exchange_73 : decode cX1_exchange 73 = .ok (.istore 5, 2) := by decide +kernel
theorem dX1_exchange_75 : decode cX1_exchange 75 = .ok (.aload_n 0, 1) := by decide +kernel
theorem dX1_exchange_76 : decode cX1_exchange 76 = .ok (.getfield 22, 3) := by decide +kernel
theorem dX1_exchange_79 : decode cX1_exchange 79 = .ok (.iload_n 1, 1) := by decide +kernel
theorem dX1_exchange_80 : decode cX1_exchange 80 = .ok (.aload_n 0, 1) := by decide +kernel
theorem dX1_exchange_81 : decode cX1_exchange 81 = .ok (.getfield 22, 3) := by decide +kernel
theorem dX1_exchange_84 : decode cX1_exchange 84 = .ok (.iload_n 2, 1) := by decide +kernel
theorem dX1_exchange_85 : decode cX1_exchange 85 = .ok (.invokestatic 41, 3) := by decide +kernel
theorem dX1_exchange_88 : decode cX1_exchange 88 = .ok (.invokestatic 37, 3) := by decide +kernel
theorem dX1_exchange_91 : decode cX1_exchange 91 = .ok (.aload_n 0, 1) := by decide +kernel
theorem dX1_exchange_92 : decode cX1_exchange 92 = .ok (.getfield 22, 3) := by decide +kernel
theorem dX1_exchange_95 : decode cX1_exchange 95 = .ok (.iload_n 2, 1) := by decide +kernel
theorem dX1_exchange_96 : decode cX1_exchange 96 = .ok (.iload 5, 2) := by decide +kernel
theorem dX1_exchange_98 : decode cX1_exchange 98 = .ok (.invokestatic 37, 3) := by decide +kernel
theorem dX1_exchange_101 : decode cX1_exchange 101 = .ok (.return_, 1) := by decide +kernel
set_option maxRecDepth 20000 in
theorem ggX1_slipsOf_X2_groupOf : GoodIn wsX1_slipsOf wsX2_groupOf := goodIn_r _ [4, 5, 6, 3, 7, 8, 9, 10] (by decide +kernel) (by decide +kernel)
set_option maxRecDepth 20000 in
theorem gX1_slipsOf_X2_groupOf_n63 : GoodIn wsX1_slipsOf (wsX2_groupOf) := ggX1_slipsOf_X2_groupOf
set_option maxRecDepth 20000 in
theorem ggX1_slipsOf_X2_at : GoodIn wsX1_slipsOf wsX2_at := goodIn_r _ [12] (by decide +kernel) (by decide +kernel)
set_option maxRecDepth 20000 in
theorem gX1_slipsOf_X2_at_n41 : GoodIn wsX1_slipsOf (wsX2_at) := ggX1_slipsOf_X2_at
theorem dX1_slipsOf_0 : decode cX1_slipsOf 0 = .ok (.iconst 0, 1) := by decide +kernel
theorem dX1_slipsOf_1 : decode cX1_slipsOf 1 = .ok (.istore_n 3, 1) := by decide +kernel
theorem dX1_slipsOf_2 : decode cX1_slipsOf 2 = .ok (.iconst 0, 1) := by decide +kernel
theorem dX1_slipsOf_3 : decode cX1_slipsOf 3 = .ok (.istore 4, 2) := by decide +kernel
theorem dX1_slipsOf_5 : decode cX1_slipsOf 5 = .ok (.iload 4, 2) := by decide +kernel
theorem dX1_slipsOf_7 : decode cX1_slipsOf 7 = .ok (.bipush 12, 2) := by decide +kernel
theorem dX1_slipsOf_9 : decode cX1_slipsOf 9 = .ok (.if_icmp .ge 31, 3) := by decide +kernel
theorem dX1_slipsOf_12 : decode cX1_slipsOf 12 = .ok (.iload_n 1, 1) := by decide +kernel
theorem dX1_slipsOf_13 : decode cX1_slipsOf 13 = .ok (.iload 4, 2) := by decide +kernel
theorem dX1_slipsOf_15 : decode cX1_slipsOf 15 = .ok (.invokestatic 63, 3) := by decide +kernel
theorem dX1_slipsOf_18 : decode cX1_slipsOf 18 = .ok (.iload_n 2, 1) := by decide +kernel
theorem dX1_slipsOf_19 : decode cX1_slipsOf 19 = .ok (.if_icmp .ne 15, 3) := by decide +kernel
theorem dX1_slipsOf_22 : decode cX1_slipsOf 22 = .ok (.iload_n 3, 1) := by decide +kernel
theorem dX1_slipsOf_23 : decode cX1_slipsOf 23 = .ok (.aload_n 0, 1) := by decide +kernel
theorem dX1_slipsOf_24 : decode cX1_slipsOf 24 = .ok (.getfield 22, 3) := by decide +kernel
theorem dX1_slipsOf_27 : decode cX1_slipsOf 27 = .ok (.iload 4, 2) := by decide +kernel
theorem dX1_slipsOf_29 : decode cX1_slipsOf 29 = .ok (.invokestatic 41, 3) := by decide +kernel
theorem dX1_slipsOf_32 : decode cX1_slipsOf 32 = .ok (.iadd, 1) := by decide +kernel
theorem dX1_slipsOf_33 : decode cX1_slipsOf 33 = .ok (.istore_n 3, 1) := by decide +kernel
theorem dX1_slipsOf_34 : decode cX1_slipsOf 34 = .ok (.iinc 4 1, 3) := by decide +kernel
theorem dX1_slipsOf_37 : decode cX1_slipsOf 37 = .ok (.goto (-32), 3) := by decide +kernel
theorem dX1_slipsOf_40 : decode cX1_slipsOf 40 = .ok (.iload_n 3, 1) := by decide +kernel
theorem dX1_slipsOf_41 : decode cX1_slipsOf 41 = .ok (.ireturn, 1) := by decide +kernel
set_option maxRecDepth 20000 in
theorem ggX1_timeWith_X2_textTime : GoodIn wsX1_timeWith wsX2_textTime := goodIn_r _ [6, 7, 8, 5, 9, 10, 11, 12, 13, 14, 15, 16, 17, 18, 19, 20, 21, 22, 23, 24, 25, 26, 27, 28] (by decide +kernel) (by decide +kernel)
set_option maxRecDepth 20000 in
theorem gX1_timeWith_X2_textTime_n66 : GoodIn wsX1_timeWith (wsX2_textTime) := ggX1_timeWith_X2_textTime
theorem dX1_timeWith_0 : decode cX1_timeWith 0 = .ok (.aload_n 0, 1) := by decide +kernel
theorem dX1_timeWith_1 : decode cX1_timeWith 1 = .ok (.getfield 28, 3) := by decide +kernel
theorem dX1_timeWith_4 : decode cX1_timeWith 4 = .ok (.aload_n 0, 1) := by decide +kernel
theorem dX1_timeWith_5 : decode cX1_timeWith 5 = .ok (.getfield 31, 3) := by decide +kernel
theorem dX1_timeWith_8 : decode cX1_timeWith 8 = .ok (.aload_n 0, 1) := by decide +kernel
theorem dX1_timeWith_9 : decode cX1_timeWith 9 = .ok (.getfield 9, 3) := by decide +kernel
theorem dX1_timeWith_12 : decode cX1_timeWith 12 = .ok (.iload_n 1, 1) := by decide +kernel
theorem dX1_timeWith_13 : decode cX1_timeWith 13 = .ok (.iload_n 2, 1) := by decide +kernel
theorem dX1_timeWith_14 : decode cX1_timeWith 14 = .ok (.invokestatic 66, 3) := by decide +kernel
theorem dX1_timeWith_17 : decode cX1_timeWith 17 = .ok (.ireturn, 1) := by decide +kernel
set_option maxRecDepth 20000 in
theorem ggX1_savedBy_X1_timeWith : GoodIn wsX1_savedBy wsX1_timeWith := goodIn_r _ [5, 6, 7, 8, 9, 10, 11, 12, 13, 14, 15, 16, 17, 18, 19, 20, 21, 22, 23, 24, 25, 26, 27, 28, 29, 30, 31, 32, 33, 34, 35, 36, 37, 38, 39, 40, 41] (by decide +kernel) (by decide +kernel)
set_option maxRecDepth 20000 in
theorem gX1_savedBy_X1_timeWith : GoodIn wsX1_savedBy (wsV RX1 70 RX1 yX1_timeWith wsX1_timeWith) := goodIn_app (goodIn_of _ (by decide +kernel)) ggX1_savedBy_X1_timeWith
theorem dX1_savedBy_0 : decode cX1_savedBy 0 = .ok (.aload_n 0, 1) := by decide +kernel
theorem dX1_savedBy_1 : decode cX1_savedBy 1 = .ok (.iconst (-1), 1) := by decide +kernel
theorem dX1_savedBy_2 : decode cX1_savedBy 2 = .ok (.iconst (-1), 1) := by decide +kernel
theorem dX1_savedBy_3 : decode cX1_savedBy 3 = .ok (.invokevirtual 70, 3) := by decide +kernel
theorem dX1_savedBy_6 : decode cX1_savedBy 6 = .ok (.aload_n 0, 1) := by decide +kernel
theorem dX1_savedBy_7 : decode cX1_savedBy 7 = .ok (.iload_n 1, 1) := by decide +kernel
theorem dX1_savedBy_8 : decode cX1_savedBy 8 = .ok (.iload_n 2, 1) := by decide +kernel
theorem dX1_savedBy_9 : decode cX1_savedBy 9 = .ok (.invokevirtual 70, 3) := by decide +kernel
theorem dX1_savedBy_12 : decode cX1_savedBy 12 = .ok (.isub, 1) := by decide +kernel
theorem dX1_savedBy_13 : decode cX1_savedBy 13 = .ok (.ireturn, 1) := by decide +kernel
set_option maxRecDepth 20000 in
theorem ggX1_timeByCounts_J7_fill_53178 : GoodIn wsX1_timeByCounts wsJ7_fill_53178 := goodIn_r _ [7] (by decide +kernel) (by decide +kernel)
set_option maxRecDepth 20000 in
theorem gX1_timeByCounts_J7_fill_53178 : GoodIn wsX1_timeByCounts (va_wsS RX1 73 yJ7_fill_53178 wsJ7_fill_53178) := goodIn_app (goodIn_of _ (by decide +kernel)) ggX1_timeByCounts_J7_fill_53178
set_option maxRecDepth 20000 in
theorem ggX1_timeByCounts_X2_at : GoodIn wsX1_timeByCounts wsX2_at := goodIn_r _ [10] (by decide +kernel) (by decide +kernel)
set_option maxRecDepth 20000 in
theorem gX1_timeByCounts_X2_at_n41 : GoodIn wsX1_timeByCounts (wsX2_at) := ggX1_timeByCounts_X2_at
set_option maxRecDepth 20000 in
theorem ggX1_timeByCounts_X2_pairPlace : GoodIn wsX1_timeByCounts wsX2_pairPlace := goodIn_r _ [12] (by decide +kernel) (by decide +kernel)
set_option maxRecDepth 20000 in
theorem gX1_timeByCounts_X2_pairPlace_n49 : GoodIn wsX1_timeByCounts (wsX2_pairPlace) := ggX1_timeByCounts_X2_pairPlace
set_option maxRecDepth 20000 in
theorem ggX1_timeByCounts_X2_count : GoodIn wsX1_timeByCounts wsX2_count := goodIn_r _ [14, 15, 8, 9, 10, 16, 17, 18] (by decide +kernel) (by decide +kernel)
set_option maxRecDepth 20000 in
theorem gX1_timeByCounts_X2_count_n45 : GoodIn wsX1_timeByCounts (wsX2_count) := ggX1_timeByCounts_X2_count
set_option maxRecDepth 20000 in
theorem ggX1_timeByCounts_X2_stepTime : GoodIn wsX1_timeByCounts wsX2_stepTime := goodIn_r _ [20, 21, 22, 23, 24, 25, 26, 9, 27, 28, 29, 30, 31, 32, 33] (by decide +kernel) (by decide +kernel)
set_option maxRecDepth 20000 in
theorem gX1_timeByCounts_X2_stepTime_n78 : GoodIn wsX1_timeByCounts (wsX2_stepTime) := ggX1_timeByCounts_X2_stepTime
theorem dX1_timeByCounts_0 : decode cX1_timeByCounts 0 = .ok (.aload_n 1, 1) := by decide +kernel
theorem dX1_timeByCounts_1 : decode cX1_timeByCounts 1 = .ok (.iconst 0, 1) := by decide +kernel
theorem dX1_timeByCounts_2 : decode cX1_timeByCounts 2 = .ok (.invokestatic 73, 3) := by decide +kernel
theorem dX1_timeByCounts_5 : decode cX1_timeByCounts 5 = .ok (.iconst 1, 1) := by decide +kernel
theorem dX1_timeByCounts_6 : decode cX1_timeByCounts 6 = .ok (.istore_n 2, 1) := by decide +kernel
theorem dX1_timeByCounts_7 : decode cX1_timeByCounts 7 = .ok (.iload_n 2, 1) := by decide +kernel
theorem dX1_timeByCounts_8 : decode cX1_timeByCounts 8 = .ok (.aload_n 0, 1) := by decide +kernel
theorem dX1_timeByCounts_9 : decode cX1_timeByCounts 9 = .ok (.getfield 31, 3) := by decide +kernel
theorem dX1_timeByCounts_12 : decode cX1_timeByCounts 12 = .ok (.if_icmp .ge 34, 3) := by decide +kernel
theorem dX1_timeByCounts_15 : decode cX1_timeByCounts 15 = .ok (.aload_n 1, 1) := by decide +kernel
theorem dX1_timeByCounts_16 : decode cX1_timeByCounts 16 = .ok (.aload_n 0, 1) := by decide +kernel
theorem dX1_timeByCounts_17 : decode cX1_timeByCounts 17 = .ok (.getfield 28, 3) := by decide +kernel
theorem dX1_timeByCounts_20 : decode cX1_timeByCounts 20 = .ok (.iload_n 2, 1) := by decide +kernel
theorem dX1_timeByCounts_21 : decode cX1_timeByCounts 21 = .ok (.iconst 1, 1) := by decide +kernel
theorem dX1_timeByCounts_22 : decode cX1_timeByCounts 22 = .ok (.isub, 1) := by decide +kernel
theorem dX1_timeByCounts_23 : decode cX1_timeByCounts 23 = .ok (.invokestatic 41, 3) := by decide +kernel
theorem dX1_timeByCounts_26 : decode cX1_timeByCounts 26 = .ok (.aload_n 0, 1) := by decide +kernel
theorem dX1_timeByCounts_27 : decode cX1_timeByCounts 27 = .ok (.getfield 28, 3) := by decide +kernel
theorem dX1_timeByCounts_30 : decode cX1_timeByCounts 30 = .ok (.iload_n 2, 1) := by decide +kernel
theorem dX1_timeByCounts_31 : decode cX1_timeByCounts 31 = .ok (.invokestatic 41, 3) := by decide +kernel
theorem dX1_timeByCounts_34 : decode cX1_timeByCounts 34 = .ok (.invokestatic 49, 3) := by decide +kernel
theorem dX1_timeByCounts_37 : decode cX1_timeByCounts 37 = .ok (.invokestatic 45, 3) := by decide +kernel
theorem dX1_timeByCounts_40 : decode cX1_timeByCounts 40 = .ok (.iinc 2 1, 3) := by decide +kernel
theorem dX1_timeByCounts_43 : decode cX1_timeByCounts 43 = .ok (.goto (-36), 3) := by decide +kernel
theorem dX1_timeByCounts_46 : decode cX1_timeByCounts 46 = .ok (.aload_n 0, 1) := by decide +kernel
theorem dX1_timeByCounts_47 : decode cX1_timeByCounts 47 = .ok (.getfield 31, 3) := by decide +kernel
theorem dX1_timeByCounts_50 : decode cX1_timeByCounts 50 = .ok (.ifCond .le 7, 3) := by decide +kernel
theorem dX1_timeByCounts_53 : decode cX1_timeByCounts 53 = .ok (.iconst 2, 1) := by decide +kernel
theorem dX1_timeByCounts_54 : decode cX1_timeByCounts 54 = .ok (.goto 4, 3) := by decide +kernel
theorem dX1_timeByCounts_57 : decode cX1_timeByCounts 57 = .ok (.iconst 0, 1) := by decide +kernel
theorem dX1_timeByCounts_58 : decode cX1_timeByCounts 58 = .ok (.istore_n 2, 1) := by decide +kernel
theorem dX1_timeByCounts_59 : decode cX1_timeByCounts 59 = .ok (.iconst 0, 1) := by decide +kernel
theorem dX1_timeByCounts_60 : decode cX1_timeByCounts 60 = .ok (.istore_n 3, 1) := by decide +kernel
theorem dX1_timeByCounts_61 : decode cX1_timeByCounts 61 = .ok (.iload_n 3, 1) := by decide +kernel
theorem dX1_timeByCounts_62 : decode cX1_timeByCounts 62 = .ok (.bipush 12, 2) := by decide +kernel
theorem dX1_timeByCounts_64 : decode cX1_timeByCounts 64 = .ok (.if_icmp .ge 63, 3) := by decide +kernel
theorem dX1_timeByCounts_67 : decode cX1_timeByCounts 67 = .ok (.iconst 0, 1) := by decide +kernel
theorem dX1_timeByCounts_68 : decode cX1_timeByCounts 68 = .ok (.istore 4, 2) := by decide +kernel
theorem dX1_timeByCounts_70 : decode cX1_timeByCounts 70 = .ok (.iload 4, 2) := by decide +kernel
theorem dX1_timeByCounts_72 : decode cX1_timeByCounts 72 = .ok (.bipush 12, 2) := by decide +kernel
theorem dX1_timeByCounts_74 : decode cX1_timeByCounts 74 = .ok (.if_icmp .ge 47, 3) := by decide +kernel
theorem dX1_timeByCounts_77 : decode cX1_timeByCounts 77 = .ok (.aload_n 0, 1) := by decide +kernel
theorem dX1_timeByCounts_78 : decode cX1_timeByCounts 78 = .ok (.getfield 9, 3) := by decide +kernel
theorem dX1_timeByCounts_81 : decode cX1_timeByCounts 81 = .ok (.iload_n 3, 1) := by decide +kernel
theorem dX1_timeByCounts_82 : decode cX1_timeByCounts 82 = .ok (.invokestatic 41, 3) := by decide +kernel
theorem dX1_timeByCounts_85 : decode cX1_timeByCounts 85 = .ok (.aload_n 0, 1) := by decide +kernel
theorem dX1_timeByCounts_86 : decode cX1_timeByCounts 86 = .ok (.getfield 9, 3) := by decide +kernel
theorem dX1_timeByCounts_89 : decode cX1_timeByCounts 89 = .ok (.iload 4, 2) := by decide +kernel
theorem dX1_timeByCounts_91 : decode cX1_timeByCounts 91 = .ok (.invokestatic 41, 3) := by decide +kernel
theorem dX1_timeByCounts_94 : decode cX1_timeByCounts 94 = .ok (.invokestatic 78, 3) := by decide +kernel
theorem dX1_timeByCounts_97 : decode cX1_timeByCounts 97 = .ok (.istore 5, 2) := by decide +kernel
theorem dX1_timeByCounts_99 : decode cX1_timeByCounts 99 = .ok (.iload_n 2, 1) := by decide +kernel
theorem dX1_timeByCounts_100 : decode cX1_timeByCounts 100 = .ok (.aload_n 1, 1) := by decide +kernel
theorem dX1_timeByCounts_101 : decode cX1_timeByCounts 101 = .ok (.iload_n 3, 1) := by decide +kernel
theorem dX1_timeByCounts_102 : decode cX1_timeByCounts 102 = .ok (.iload 4, 2) := by decide +kernel
theorem dX1_timeByCounts_104 : decode cX1_timeByCounts 104 = .ok (.invokestatic 49, 3) := by decide +kernel
theorem dX1_timeByCounts_107 : decode cX1_timeByCounts 107 = .ok (.invokestatic 41, 3) := by decide +kernel
theorem dX1_timeByCounts_110 : decode cX1_timeByCounts 110 = .ok (.iload 5, 2) := by decide +kernel
theorem dX1_timeByCounts_112 : decode cX1_timeByCounts 112 = .ok (.imul, 1) := by decide +kernel
theorem dX1_timeByCounts_113 : decode cX1_timeByCounts 113 = .ok (.iadd, 1) := by decide +kernel
theorem dX1_timeByCounts_114 : decode cX1_timeByCounts 114 = .ok (.istore_n 2, 1) := by decide +kernel
theorem dX1_timeByCounts_115 : decode cX1_timeByCounts 115 = .ok (.iinc 4 1, 3) := by decide +kernel
theorem dX1_timeByCounts_118 : decode cX1_timeByCounts 118 = .ok (.goto (-48), 3) := by decide +kernel
theorem dX1_timeByCounts_121 : decode cX1_timeByCounts 121 = .ok (.iinc 3 1, 3) := by decide +kernel
theorem dX1_timeByCounts_124 : decode cX1_timeByCounts 124 = .ok (.goto (-63), 3) := by decide +kernel
theorem dX1_timeByCounts_127 : decode cX1_timeByCounts 127 = .ok (.iload_n 2, 1) := by decide +kernel
theorem dX1_timeByCounts_128 : decode cX1_timeByCounts 128 = .ok (.ireturn, 1) := by decide +kernel
set_option maxRecDepth 20000 in
theorem ggX1_bestExchange_X1_timeWith : GoodIn wsX1_bestExchange wsX1_timeWith := goodIn_r _ [5, 6, 7, 8, 9, 10, 11, 12, 13, 14, 15, 16, 17, 18, 19, 20, 21, 22, 23, 24, 25, 26, 27, 28, 29, 30, 31, 32, 33, 34, 35, 36, 37, 38, 39, 40, 41] (by decide +kernel) (by decide +kernel)
set_option maxRecDepth 20000 in
theorem gX1_bestExchange_X1_timeWith : GoodIn wsX1_bestExchange (wsV RX1 70 RX1 yX1_timeWith wsX1_timeWith) := goodIn_app (goodIn_of _ (by decide +kernel)) ggX1_bestExchange_X1_timeWith
theorem dX1_bestExchange_0 : decode cX1_bestExchange 0 = .ok (.aload_n 0, 1) := by decide +kernel
theorem dX1_bestExchange_1 : decode cX1_bestExchange 1 = .ok (.iconst (-1), 1) := by decide +kernel
theorem dX1_bestExchange_2 : decode cX1_bestExchange 2 = .ok (.iconst (-1), 1) := by decide +kernel
theorem dX1_bestExchange_3 : decode cX1_bestExchange 3 = .ok (.invokevirtual 70, 3) := by decide +kernel
theorem dX1_bestExchange_6 : decode cX1_bestExchange 6 = .ok (.istore_n 1, 1) := by decide +kernel
theorem dX1_bestExchange_7 : decode cX1_bestExchange 7 = .ok (.iconst 0, 1) := by decide +kernel
theorem dX1_bestExchange_8 : decode cX1_bestExchange 8 = .ok (.istore_n 2, 1) := by decide +kernel
theorem dX1_bestExchange_9 : decode cX1_bestExchange 9 = .ok (.iconst (-1), 1) := by decide +kernel
theorem dX1_bestExchange_10 : decode cX1_bestExchange 10 = .ok (.istore_n 3, 1) := by decide +kernel
theorem dX1_bestExchange_11 : decode cX1_bestExchange 11 = .ok (.iconst 0, 1) := by decide +kernel
theorem dX1_bestExchange_12 : decode cX1_bestExchange 12 = .ok (.istore 4, 2) := by decide +kernel
theorem dX1_bestExchange_14 : decode cX1_bestExchange 14 = .ok (.iload 4, 2) := by decide +kernel
theorem dX1_bestExchange_16 : decode cX1_bestExchange 16 = .ok (.bipush 12, 2) := by decide +kernel
theorem dX1_bestExchange_18 : decode cX1_bestExchange 18 = .ok (.if_icmp .ge 58, 3) := by decide +kernel
theorem dX1_bestExchange_21 : decode cX1_bestExchange 21 = .ok (.iload 4, 2) := by decide +kernel
theorem dX1_bestExchange_23 : decode cX1_bestExchange 23 = .ok (.iconst 1, 1) := by decide +kernel
theorem dX1_bestExchange_24 : decode cX1_bestExchange 24 = .ok (.iadd, 1) := by decide +kernel
theorem dX1_bestExchange_25 : decode cX1_bestExchange 25 = .ok (.istore 5, 2) := by decide +kernel
theorem dX1_bestExchange_27 : decode cX1_bestExchange 27 = .ok (.iload 5, 2) := by decide +kernel
theorem dX1_bestExchange_29 : decode cX1_bestExchange 29 = .ok (.bipush 12, 2) := by decide +kernel
theorem dX1_bestExchange_31 : decode cX1_bestExchange 31 = .ok (.if_icmp .ge 39, 3) := by decide +kernel
theorem dX1_bestExchange_34 : decode cX1_bestExchange 34 = .ok (.iload_n 1, 1) := by decide +kernel
theorem dX1_bestExchange_35 : decode cX1_bestExchange 35 = .ok (.aload_n 0, 1) := by decide +kernel
theorem dX1_bestExchange_36 : decode cX1_bestExchange 36 = .ok (.iload 4, 2) := by decide +kernel
theorem dX1_bestExchange_38 : decode cX1_bestExchange 38 = .ok (.iload 5, 2) := by decide +kernel
theorem dX1_bestExchange_40 : decode cX1_bestExchange 40 = .ok (.invokevirtual 70, 3) := by decide +kernel
theorem dX1_bestExchange_43 : decode cX1_bestExchange 43 = .ok (.isub, 1) := by decide +kernel
theorem dX1_bestExchange_44 : decode cX1_bestExchange 44 = .ok (.istore 6, 2) := by decide +kernel
theorem dX1_bestExchange_46 : decode cX1_bestExchange 46 = .ok (.iload 6, 2) := by decide +kernel
theorem dX1_bestExchange_48 : decode cX1_bestExchange 48 = .ok (.iload_n 2, 1) := by decide +kernel
theorem dX1_bestExchange_49 : decode cX1_bestExchange 49 = .ok (.if_icmp .le 15, 3) := by decide +kernel
theorem dX1_bestExchange_52 : decode cX1_bestExchange 52 = .ok (.iload 6, 2) := by decide +kernel
theorem dX1_bestExchange_54 : decode cX1_bestExchange 54 = .ok (.istore_n 2, 1) := by decide +kernel
theorem dX1_bestExchange_55 : decode cX1_bestExchange 55 = .ok (.bipush 12, 2) := by decide +kernel
theorem dX1_bestExchange_57 : decode cX1_bestExchange 57 = .ok (.iload 4, 2) := by decide +kernel
theorem dX1_bestExchange_59 : decode cX1_bestExchange 59 = .ok (.imul, 1) := by decide +kernel
theorem dX1_bestExchange_60 : decode cX1_bestExchange 60 = .ok (.iload 5, 2) := by decide +kernel
theorem dX1_bestExchange_62 : decode cX1_bestExchange 62 = .ok (.iadd, 1) := by decide +kernel
theorem dX1_bestExchange_63 : decode cX1_bestExchange 63 = .ok (.istore_n 3, 1) := by decide +kernel
theorem dX1_bestExchange_64 : decode cX1_bestExchange 64 = .ok (.iinc 5 1, 3) := by decide +kernel
theorem dX1_bestExchange_67 : decode cX1_bestExchange 67 = .ok (.goto (-40), 3) := by decide +kernel
theorem dX1_bestExchange_70 : decode cX1_bestExchange 70 = .ok (.iinc 4 1, 3) := by decide +kernel
theorem dX1_bestExchange_73 : decode cX1_bestExchange 73 = .ok (.goto (-59), 3) := by decide +kernel
theorem dX1_bestExchange_76 : decode cX1_bestExchange 76 = .ok (.iload_n 3, 1) := by decide +kernel
theorem dX1_bestExchange_77 : decode cX1_bestExchange 77 = .ok (.ireturn, 1) := by decide +kernel
set_option maxRecDepth 20000 in
theorem ggX1_slippingLetter_X1_lettersAhead : GoodIn wsX1_slippingLetter wsX1_lettersAhead := goodIn_r _ [5, 6, 7, 8, 4, 9, 10, 11, 12, 13, 14, 15, 16, 17, 18, 19, 20, 21, 22] (by decide +kernel) (by decide +kernel)
set_option maxRecDepth 20000 in
theorem gX1_slippingLetter_X1_lettersAhead : GoodIn wsX1_slippingLetter (wsV RX1 81 RX1 yX1_lettersAhead wsX1_lettersAhead) := goodIn_app (goodIn_of _ (by decide +kernel)) ggX1_slippingLetter_X1_lettersAhead
theorem dX1_slippingLetter_0 : decode cX1_slippingLetter 0 = .ok (.iconst 0, 1) := by decide +kernel
theorem dX1_slippingLetter_1 : decode cX1_slippingLetter 1 = .ok (.istore_n 2, 1) := by decide +kernel
theorem dX1_slippingLetter_2 : decode cX1_slippingLetter 2 = .ok (.iconst 0, 1) := by decide +kernel
theorem dX1_slippingLetter_3 : decode cX1_slippingLetter 3 = .ok (.istore_n 3, 1) := by decide +kernel
theorem dX1_slippingLetter_4 : decode cX1_slippingLetter 4 = .ok (.iload_n 3, 1) := by decide +kernel
theorem dX1_slippingLetter_5 : decode cX1_slippingLetter 5 = .ok (.bipush 12, 2) := by decide +kernel
theorem dX1_slippingLetter_7 : decode cX1_slippingLetter 7 = .ok (.if_icmp .ge 20, 3) := by decide +kernel
theorem dX1_slippingLetter_10 : decode cX1_slippingLetter 10 = .ok (.aload_n 0, 1) := by decide +kernel
theorem dX1_slippingLetter_11 : decode cX1_slippingLetter 11 = .ok (.iload_n 3, 1) := by decide +kernel
theorem dX1_slippingLetter_12 : decode cX1_slippingLetter 12 = .ok (.invokevirtual 81, 3) := by decide +kernel
theorem dX1_slippingLetter_15 : decode cX1_slippingLetter 15 = .ok (.iload_n 1, 1) := by decide +kernel
theorem dX1_slippingLetter_16 : decode cX1_slippingLetter 16 = .ok (.if_icmp .ne 5, 3) := by decide +kernel
theorem dX1_slippingLetter_19 : decode cX1_slippingLetter 19 = .ok (.iload_n 3, 1) := by decide +kernel
theorem dX1_slippingLetter_20 : decode cX1_slippingLetter 20 = .ok (.istore_n 2, 1) := by decide +kernel
theorem dX1_slippingLetter_21 : decode cX1_slippingLetter 21 = .ok (.iinc 3 1, 3) := by decide +kernel
theorem dX1_slippingLetter_24 : decode cX1_slippingLetter 24 = .ok (.goto (-20), 3) := by decide +kernel
theorem dX1_slippingLetter_27 : decode cX1_slippingLetter 27 = .ok (.iload_n 2, 1) := by decide +kernel
theorem dX1_slippingLetter_28 : decode cX1_slippingLetter 28 = .ok (.ireturn, 1) := by decide +kernel
set_option maxRecDepth 20000 in
theorem ggX1_lettersAhead_X1_letterSlips : GoodIn wsX1_lettersAhead wsX1_letterSlips := goodIn_r _ [5, 6, 7, 8, 9, 10, 11, 12, 13, 14, 15, 16, 17, 18] (by decide +kernel) (by decide +kernel)
set_option maxRecDepth 20000 in
theorem gX1_lettersAhead_X1_letterSlips : GoodIn wsX1_lettersAhead (wsV RX1 85 RX1 yX1_letterSlips wsX1_letterSlips) := goodIn_app (goodIn_of _ (by decide +kernel)) ggX1_lettersAhead_X1_letterSlips
theorem dX1_lettersAhead_0 : decode cX1_lettersAhead 0 = .ok (.aload_n 0, 1) := by decide +kernel
theorem dX1_lettersAhead_1 : decode cX1_lettersAhead 1 = .ok (.iload_n 1, 1) := by decide +kernel
theorem dX1_lettersAhead_2 : decode cX1_lettersAhead 2 = .ok (.invokevirtual 85, 3) := by decide +kernel
theorem dX1_lettersAhead_5 : decode cX1_lettersAhead 5 = .ok (.istore_n 2, 1) := by decide +kernel
theorem dX1_lettersAhead_6 : decode cX1_lettersAhead 6 = .ok (.iconst 0, 1) := by decide +kernel
theorem dX1_lettersAhead_7 : decode cX1_lettersAhead 7 = .ok (.istore_n 3, 1) := by decide +kernel
theorem dX1_lettersAhead_8 : decode cX1_lettersAhead 8 = .ok (.iconst 0, 1) := by decide +kernel
theorem dX1_lettersAhead_9 : decode cX1_lettersAhead 9 = .ok (.istore 4, 2) := by decide +kernel
theorem dX1_lettersAhead_11 : decode cX1_lettersAhead 11 = .ok (.iload 4, 2) := by decide +kernel
theorem dX1_lettersAhead_13 : decode cX1_lettersAhead 13 = .ok (.bipush 12, 2) := by decide +kernel
theorem dX1_lettersAhead_15 : decode cX1_lettersAhead 15 = .ok (.if_icmp .ge 38, 3) := by decide +kernel
theorem dX1_lettersAhead_18 : decode cX1_lettersAhead 18 = .ok (.aload_n 0, 1) := by decide +kernel
theorem dX1_lettersAhead_19 : decode cX1_lettersAhead 19 = .ok (.iload 4, 2) := by decide +kernel
theorem dX1_lettersAhead_21 : decode cX1_lettersAhead 21 = .ok (.invokevirtual 85, 3) := by decide +kernel
theorem dX1_lettersAhead_24 : decode cX1_lettersAhead 24 = .ok (.istore 5, 2) := by decide +kernel
theorem dX1_lettersAhead_26 : decode cX1_lettersAhead 26 = .ok (.iload 5, 2) := by decide +kernel
theorem dX1_lettersAhead_28 : decode cX1_lettersAhead 28 = .ok (.iload_n 2, 1) := by decide +kernel
theorem dX1_lettersAhead_29 : decode cX1_lettersAhead 29 = .ok (.if_icmp .gt 15, 3) := by decide +kernel
theorem dX1_lettersAhead_32 : decode cX1_lettersAhead 32 = .ok (.iload 5, 2) := by decide +kernel
theorem dX1_lettersAhead_34 : decode cX1_lettersAhead 34 = .ok (.iload_n 2, 1) := by decide +kernel
theorem dX1_lettersAhead_35 : decode cX1_lettersAhead 35 = .ok (.if_icmp .ne 12, 3) := by decide +kernel
theorem dX1_lettersAhead_38 : decode cX1_lettersAhead 38 = .ok (.iload 4, 2) := by decide +kernel
theorem dX1_lettersAhead_40 : decode cX1_lettersAhead 40 = .ok (.iload_n 1, 1) := by decide +kernel
theorem dX1_lettersAhead_41 : decode cX1_lettersAhead 41 = .ok (.if_icmp .ge 6, 3) := by decide +kernel
theorem dX1_lettersAhead_44 : decode cX1_lettersAhead 44 = .ok (.iinc 3 1, 3) := by decide +kernel
theorem dX1_lettersAhead_47 : decode cX1_lettersAhead 47 = .ok (.iinc 4 1, 3) := by decide +kernel
theorem dX1_lettersAhead_50 : decode cX1_lettersAhead 50 = .ok (.goto (-39), 3) := by decide +kernel
theorem dX1_lettersAhead_53 : decode cX1_lettersAhead 53 = .ok (.iload_n 3, 1) := by decide +kernel
theorem dX1_lettersAhead_54 : decode cX1_lettersAhead 54 = .ok (.ireturn, 1) := by decide +kernel
set_option maxRecDepth 20000 in
theorem ggX1_letterSlips_X2_at : GoodIn wsX1_letterSlips wsX2_at := goodIn_r _ [5] (by decide +kernel) (by decide +kernel)
set_option maxRecDepth 20000 in
theorem gX1_letterSlips_X2_at_n41 : GoodIn wsX1_letterSlips (wsX2_at) := ggX1_letterSlips_X2_at
theorem dX1_letterSlips_0 : decode cX1_letterSlips 0 = .ok (.aload_n 0, 1) := by decide +kernel
theorem dX1_letterSlips_1 : decode cX1_letterSlips 1 = .ok (.getfield 22, 3) := by decide +kernel
theorem dX1_letterSlips_4 : decode cX1_letterSlips 4 = .ok (.aload_n 0, 1) := by decide +kernel
theorem dX1_letterSlips_5 : decode cX1_letterSlips 5 = .ok (.getfield 9, 3) := by decide +kernel
theorem dX1_letterSlips_8 : decode cX1_letterSlips 8 = .ok (.iload_n 1, 1) := by decide +kernel
theorem dX1_letterSlips_9 : decode cX1_letterSlips 9 = .ok (.invokestatic 41, 3) := by decide +kernel
theorem dX1_letterSlips_12 : decode cX1_letterSlips 12 = .ok (.invokestatic 41, 3) := by decide +kernel
theorem dX1_letterSlips_15 : decode cX1_letterSlips 15 = .ok (.ireturn, 1) := by decide +kernel
theorem dX2_init_0 : decode cX2_init 0 = .ok (.aload_n 0, 1) := by decide +kernel
theorem dX2_init_1 : decode cX2_init 1 = .ok (.invokespecial 1, 3) := by decide +kernel
theorem dX2_init_4 : decode cX2_init 4 = .ok (.aload_n 0, 1) := by decide +kernel
theorem dX2_init_5 : decode cX2_init 5 = .ok (.iconst 5, 1) := by decide +kernel
theorem dX2_init_6 : decode cX2_init 6 = .ok (.anewarray 9, 3) := by decide +kernel
theorem dX2_init_9 : decode cX2_init 9 = .ok (.putfield 11, 3) := by decide +kernel
theorem dX2_init_12 : decode cX2_init 12 = .ok (.aload_n 0, 1) := by decide +kernel
theorem dX2_init_13 : decode cX2_init 13 = .ok (.bipush 6, 2) := by decide +kernel
theorem dX2_init_15 : decode cX2_init 15 = .ok (.anewarray 15, 3) := by decide +kernel
theorem dX2_init_18 : decode cX2_init 18 = .ok (.putfield 17, 3) := by decide +kernel
theorem dX2_init_21 : decode cX2_init 21 = .ok (.aload_n 0, 1) := by decide +kernel
theorem dX2_init_22 : decode cX2_init 22 = .ok (.bipush 24, 2) := by decide +kernel
theorem dX2_init_24 : decode cX2_init 24 = .ok (.newarray .int, 2) := by decide +kernel
theorem dX2_init_26 : decode cX2_init 26 = .ok (.putfield 21, 3) := by decide +kernel
theorem dX2_init_29 : decode cX2_init 29 = .ok (.aload_n 0, 1) := by decide +kernel
theorem dX2_init_30 : decode cX2_init 30 = .ok (.iconst 0, 1) := by decide +kernel
theorem dX2_init_31 : decode cX2_init 31 = .ok (.putfield 25, 3) := by decide +kernel
theorem dX2_init_34 : decode cX2_init 34 = .ok (.aload_n 0, 1) := by decide +kernel
theorem dX2_init_35 : decode cX2_init 35 = .ok (.sipush 144, 3) := by decide +kernel
theorem dX2_init_38 : decode cX2_init 38 = .ok (.newarray .int, 2) := by decide +kernel
theorem dX2_init_40 : decode cX2_init 40 = .ok (.putfield 29, 3) := by decide +kernel
theorem dX2_init_43 : decode cX2_init 43 = .ok (.return_, 1) := by decide +kernel
set_option maxRecDepth 20000 in
theorem ggX2_student_X1_init : GoodIn wsX2_student wsX1_init := goodIn_r _ [8, 9, 10, 11, 12, 13, 14, 15, 16, 17, 18, 19, 20, 21, 22, 23, 29, 30, 31, 32, 33, 34, 35, 36] (by decide +kernel) (by decide +kernel)
set_option maxRecDepth 20000 in
theorem gX2_student_X1_init_n32 : GoodIn wsX2_student (wsX1_init) := ggX2_student_X1_init
theorem dX2_student_0 : decode cX2_student 0 = .ok (.iconst 0, 1) := by decide +kernel
theorem dX2_student_1 : decode cX2_student 1 = .ok (.istore_n 1, 1) := by decide +kernel
theorem dX2_student_2 : decode cX2_student 2 = .ok (.iload_n 1, 1) := by decide +kernel
theorem dX2_student_3 : decode cX2_student 3 = .ok (.aload_n 0, 1) := by decide +kernel
theorem dX2_student_4 : decode cX2_student 4 = .ok (.getfield 11, 3) := by decide +kernel
theorem dX2_student_7 : decode cX2_student 7 = .ok (.arraylength, 1) := by decide +kernel
theorem dX2_student_8 : decode cX2_student 8 = .ok (.if_icmp .ge 33, 3) := by decide +kernel
theorem dX2_student_11 : decode cX2_student 11 = .ok (.aload_n 0, 1) := by decide +kernel
theorem dX2_student_12 : decode cX2_student 12 = .ok (.getfield 11, 3) := by decide +kernel
theorem dX2_student_15 : decode cX2_student 15 = .ok (.iload_n 1, 1) := by decide +kernel
theorem dX2_student_16 : decode cX2_student 16 = .ok (.aaload, 1) := by decide +kernel
theorem dX2_student_17 : decode cX2_student 17 = .ok (.ifnonnull 18, 3) := by decide +kernel
theorem dX2_student_20 : decode cX2_student 20 = .ok (.aload_n 0, 1) := by decide +kernel
theorem dX2_student_21 : decode cX2_student 21 = .ok (.getfield 11, 3) := by decide +kernel
theorem dX2_student_24 : decode cX2_student 24 = .ok (.iload_n 1, 1) := by decide +kernel
theorem dX2_student_25 : decode cX2_student 25 = .ok (.new 9, 3) := by decide +kernel
theorem dX2_student_28 : decode cX2_student 28 = .ok (.dup, 1) := by decide +kernel
theorem dX2_student_29 : decode cX2_student 29 = .ok (.invokespecial 32, 3) := by decide +kernel
theorem dX2_student_32 : decode cX2_student 32 = .ok (.aastore, 1) := by decide +kernel
theorem dX2_student_33 : decode cX2_student 33 = .ok (.iload_n 1, 1) := by decide +kernel
theorem dX2_student_34 : decode cX2_student 34 = .ok (.ireturn, 1) := by decide +kernel
theorem dX2_student_35 : decode cX2_student 35 = .ok (.iinc 1 1, 3) := by decide +kernel
theorem dX2_student_38 : decode cX2_student 38 = .ok (.goto (-36), 3) := by decide +kernel
theorem dX2_student_41 : decode cX2_student 41 = .ok (.new 33, 3) := by decide +kernel
theorem dX2_student_44 : decode cX2_student 44 = .ok (.dup, 1) := by decide +kernel
theorem dX2_student_45 : decode cX2_student 45 = .ok (.ldc 35, 2) := by decide +kernel
theorem dX2_student_47 : decode cX2_student 47 = .ok (.invokespecial 37, 3) := by decide +kernel
theorem dX2_student_50 : decode cX2_student 50 = .ok (.athrow, 1) := by decide +kernel
set_option maxRecDepth 20000 in
theorem ggX2_carry_X2_studentAt : GoodIn wsX2_carry wsX2_studentAt := goodIn_ca (goodIn_r _ [7, 8, 9, 10, 19, 20, 21, 22, 23] (by decide +kernel) (by decide +kernel)) (goodIn_sub (fun _ h => List.mem_cons_of_mem _ (List.mem_append_right _ h)) (by decide +kernel))
set_option maxRecDepth 20000 in
theorem gX2_carry_X2_studentAt : GoodIn wsX2_carry (wsV RX2 40 RX2 yX2_studentAt wsX2_studentAt) := goodIn_app (goodIn_of _ (by decide +kernel)) ggX2_carry_X2_studentAt
theorem dX2_carry_0 : decode cX2_carry 0 = .ok (.aload_n 0, 1) := by decide +kernel
theorem dX2_carry_1 : decode cX2_carry 1 = .ok (.iload_n 1, 1) := by decide +kernel
theorem dX2_carry_2 : decode cX2_carry 2 = .ok (.invokevirtual 40, 3) := by decide +kernel
theorem dX2_carry_5 : decode cX2_carry 5 = .ok (.astore_n 3, 1) := by decide +kernel
theorem dX2_carry_6 : decode cX2_carry 6 = .ok (.iload_n 2, 1) := by decide +kernel
theorem dX2_carry_7 : decode cX2_carry 7 = .ok (.ifCond .eq 18, 3) := by decide +kernel
theorem dX2_carry_10 : decode cX2_carry 10 = .ok (.iload_n 2, 1) := by decide +kernel
theorem dX2_carry_11 : decode cX2_carry 11 = .ok (.iconst 1, 1) := by decide +kernel
theorem dX2_carry_12 : decode cX2_carry 12 = .ok (.if_icmp .eq 13, 3) := by decide +kernel
theorem dX2_carry_15 : decode cX2_carry 15 = .ok (.new 44, 3) := by decide +kernel
theorem dX2_carry_18 : decode cX2_carry 18 = .ok (.dup, 1) := by decide +kernel
theorem dX2_carry_19 : decode cX2_carry 19 = .ok (.ldc 46, 2) := by decide +kernel
theorem dX2_carry_21 : decode cX2_carry 21 = .ok (.invokespecial 48, 3) := by decide +kernel
theorem dX2_carry_24 : decode cX2_carry 24 = .ok (.athrow, 1) := by decide +kernel
theorem dX2_carry_25 : decode cX2_carry 25 = .ok (.aload_n 3, 1) := by decide +kernel
theorem dX2_carry_26 : decode cX2_carry 26 = .ok (.getfield 49, 3) := by decide +kernel
theorem dX2_carry_29 : decode cX2_carry 29 = .ok (.istore 4, 2) := by decide +kernel
theorem dX2_carry_31 : decode cX2_carry 31 = .ok (.aload_n 3, 1) := by decide +kernel
theorem dX2_carry_32 : decode cX2_carry 32 = .ok (.iload_n 2, 1) := by decide +kernel
theorem dX2_carry_33 : decode cX2_carry 33 = .ok (.putfield 49, 3) := by decide +kernel
theorem dX2_carry_36 : decode cX2_carry 36 = .ok (.iload 4, 2) := by decide +kernel
theorem dX2_carry_38 : decode cX2_carry 38 = .ok (.ireturn, 1) := by decide +kernel
set_option maxRecDepth 20000 in
theorem ggX2_swap_X2_studentAt : GoodIn wsX2_swap wsX2_studentAt := goodIn_ca (goodIn_r _ [5, 6, 7, 8, 60, 61, 62, 63, 64] (by decide +kernel) (by decide +kernel)) (goodIn_sub (fun _ h => List.mem_cons_of_mem _ (List.mem_append_left _ (List.mem_append_right _ h))) (by decide +kernel))
set_option maxRecDepth 20000 in
theorem gX2_swap_X2_studentAt : GoodIn wsX2_swap (wsV RX2 40 RX2 yX2_studentAt wsX2_studentAt) := goodIn_app (goodIn_of _ (by decide +kernel)) ggX2_swap_X2_studentAt
set_option maxRecDepth 20000 in
theorem ggX2_swap_X2_needTwoKeys : GoodIn wsX2_swap wsX2_needTwoKeys := goodIn_ca (goodIn_ca (goodIn_r _ [11, 12, 13, 14, 15, 4, 16, 6, 7] (by decide +kernel) (by decide +kernel)) (goodIn_sub (fun _ h => List.mem_cons_of_mem _ (List.mem_append_right _ h)) (by decide +kernel))) (goodIn_sub (fun _ h => List.mem_cons_of_mem _ (List.mem_append_left _ (List.mem_append_right _ h))) (by decide +kernel))
set_option maxRecDepth 20000 in
theorem gX2_swap_X2_needTwoKeys : GoodIn wsX2_swap (va_wsS RX2 52 yX2_needTwoKeys wsX2_needTwoKeys) := goodIn_app (goodIn_of _ (by decide +kernel)) ggX2_swap_X2_needTwoKeys
set_option maxRecDepth 20000 in
theorem ggX2_swap_X1_savedBy : GoodIn wsX2_swap wsX1_savedBy := goodIn_r _ [20, 21, 22, 23, 18, 24, 25, 26, 27, 28, 4, 29, 30, 31, 32, 33, 34, 35, 36, 37, 38, 39, 40, 41, 42, 43, 44, 45, 46, 47, 48, 49, 50, 51, 65, 66, 67, 68, 69, 70, 71, 72] (by decide +kernel) (by decide +kernel)
set_option maxRecDepth 20000 in
theorem gX2_swap_X1_savedBy_n56 : GoodIn wsX2_swap (wsX1_savedBy) := ggX2_swap_X1_savedBy
set_option maxRecDepth 20000 in
theorem ggX2_swap_X1_exchange : GoodIn wsX2_swap wsX1_exchange := goodIn_r _ [54, 55, 27, 56, 57, 31, 4, 32, 58, 59, 65, 66, 67, 68, 69, 70, 71, 72] (by decide +kernel) (by decide +kernel)
set_option maxRecDepth 20000 in
theorem gX2_swap_X1_exchange_n60 : GoodIn wsX2_swap (wsX1_exchange) := ggX2_swap_X1_exchange
theorem dX2_swap_0 : decode cX2_swap 0 = .ok (.aload_n 0, 1) := by decide +kernel
theorem dX2_swap_1 : decode cX2_swap 1 = .ok (.iload_n 1, 1) := by decide +kernel
theorem dX2_swap_2 : decode cX2_swap 2 = .ok (.invokevirtual 40, 3) := by decide +kernel
theorem dX2_swap_5 : decode cX2_swap 5 = .ok (.astore 4, 2) := by decide +kernel
theorem dX2_swap_7 : decode cX2_swap 7 = .ok (.iload_n 2, 1) := by decide +kernel
theorem dX2_swap_8 : decode cX2_swap 8 = .ok (.iload_n 3, 1) := by decide +kernel
theorem dX2_swap_9 : decode cX2_swap 9 = .ok (.invokestatic 52, 3) := by decide +kernel
theorem dX2_swap_12 : decode cX2_swap 12 = .ok (.aload 4, 2) := by decide +kernel
theorem dX2_swap_14 : decode cX2_swap 14 = .ok (.iload_n 2, 1) := by decide +kernel
theorem dX2_swap_15 : decode cX2_swap 15 = .ok (.iload_n 3, 1) := by decide +kernel
theorem dX2_swap_16 : decode cX2_swap 16 = .ok (.invokevirtual 56, 3) := by decide +kernel
theorem dX2_swap_19 : decode cX2_swap 19 = .ok (.istore 5, 2) := by decide +kernel
theorem dX2_swap_21 : decode cX2_swap 21 = .ok (.aload 4, 2) := by decide +kernel
theorem dX2_swap_23 : decode cX2_swap 23 = .ok (.iload_n 2, 1) := by decide +kernel
theorem dX2_swap_24 : decode cX2_swap 24 = .ok (.iload_n 3, 1) := by decide +kernel
theorem dX2_swap_25 : decode cX2_swap 25 = .ok (.invokevirtual 60, 3) := by decide +kernel
theorem dX2_swap_28 : decode cX2_swap 28 = .ok (.iload 5, 2) := by decide +kernel
theorem dX2_swap_30 : decode cX2_swap 30 = .ok (.ireturn, 1) := by decide +kernel
set_option maxRecDepth 20000 in
theorem ggX2_keyOf_X2_studentAt : GoodIn wsX2_keyOf wsX2_studentAt := goodIn_ca (goodIn_r _ [5, 6, 7, 8, 23, 24, 25, 26, 27] (by decide +kernel) (by decide +kernel)) (goodIn_sub (fun _ h => List.mem_cons_of_mem _ (List.mem_append_right _ h)) (by decide +kernel))
set_option maxRecDepth 20000 in
theorem gX2_keyOf_X2_studentAt : GoodIn wsX2_keyOf (wsV RX2 40 RX2 yX2_studentAt wsX2_studentAt) := goodIn_app (goodIn_of _ (by decide +kernel)) ggX2_keyOf_X2_studentAt
set_option maxRecDepth 20000 in
theorem ggX2_keyOf_X2_needLetter : GoodIn wsX2_keyOf wsX2_needLetter := goodIn_ca (goodIn_r _ [11, 6, 7] (by decide +kernel) (by decide +kernel)) (goodIn_sub (fun _ h => List.mem_cons_of_mem _ (List.mem_append_right _ h)) (by decide +kernel))
set_option maxRecDepth 20000 in
theorem gX2_keyOf_X2_needLetter : GoodIn wsX2_keyOf (va_wsS RX2 63 yX2_needLetter wsX2_needLetter) := goodIn_app (goodIn_of _ (by decide +kernel)) ggX2_keyOf_X2_needLetter
set_option maxRecDepth 20000 in
theorem ggX2_keyOf_X2_at : GoodIn wsX2_keyOf wsX2_at := goodIn_r _ [14] (by decide +kernel) (by decide +kernel)
set_option maxRecDepth 20000 in
theorem gX2_keyOf_X2_at : GoodIn wsX2_keyOf (va_wsS RX2 70 yX2_at wsX2_at) := goodIn_app (goodIn_of _ (by decide +kernel)) ggX2_keyOf_X2_at
theorem dX2_keyOf_0 : decode cX2_keyOf 0 = .ok (.aload_n 0, 1) := by decide +kernel
theorem dX2_keyOf_1 : decode cX2_keyOf 1 = .ok (.iload_n 1, 1) := by decide +kernel
theorem dX2_keyOf_2 : decode cX2_keyOf 2 = .ok (.invokevirtual 40, 3) := by decide +kernel
theorem dX2_keyOf_5 : decode cX2_keyOf 5 = .ok (.astore_n 3, 1) := by decide +kernel
theorem dX2_keyOf_6 : decode cX2_keyOf 6 = .ok (.iload_n 2, 1) := by decide +kernel
theorem dX2_keyOf_7 : decode cX2_keyOf 7 = .ok (.invokestatic 63, 3) := by decide +kernel
theorem dX2_keyOf_10 : decode cX2_keyOf 10 = .ok (.aload_n 3, 1) := by decide +kernel
theorem dX2_keyOf_11 : decode cX2_keyOf 11 = .ok (.getfield 67, 3) := by decide +kernel
theorem dX2_keyOf_14 : decode cX2_keyOf 14 = .ok (.iload_n 2, 1) := by decide +kernel
theorem dX2_keyOf_15 : decode cX2_keyOf 15 = .ok (.invokestatic 70, 3) := by decide +kernel
theorem dX2_keyOf_18 : decode cX2_keyOf 18 = .ok (.ireturn, 1) := by decide +kernel
set_option maxRecDepth 20000 in
theorem ggX2_letterOn_X2_studentAt : GoodIn wsX2_letterOn wsX2_studentAt := goodIn_ca (goodIn_r _ [5, 6, 7, 8, 23, 24, 25, 26, 27] (by decide +kernel) (by decide +kernel)) (goodIn_sub (fun _ h => List.mem_cons_of_mem _ (List.mem_append_right _ h)) (by decide +kernel))
set_option maxRecDepth 20000 in
theorem gX2_letterOn_X2_studentAt : GoodIn wsX2_letterOn (wsV RX2 40 RX2 yX2_studentAt wsX2_studentAt) := goodIn_app (goodIn_of _ (by decide +kernel)) ggX2_letterOn_X2_studentAt
set_option maxRecDepth 20000 in
theorem ggX2_letterOn_X2_needKey : GoodIn wsX2_letterOn wsX2_needKey := goodIn_ca (goodIn_r _ [11, 6, 7] (by decide +kernel) (by decide +kernel)) (goodIn_sub (fun _ h => List.mem_cons_of_mem _ (List.mem_append_right _ h)) (by decide +kernel))
set_option maxRecDepth 20000 in
theorem gX2_letterOn_X2_needKey : GoodIn wsX2_letterOn (va_wsS RX2 74 yX2_needKey wsX2_needKey) := goodIn_app (goodIn_of _ (by decide +kernel)) ggX2_letterOn_X2_needKey
set_option maxRecDepth 20000 in
theorem ggX2_letterOn_X2_at : GoodIn wsX2_letterOn wsX2_at := goodIn_r _ [14] (by decide +kernel) (by decide +kernel)
set_option maxRecDepth 20000 in
theorem gX2_letterOn_X2_at : GoodIn wsX2_letterOn (va_wsS RX2 70 yX2_at wsX2_at) := goodIn_app (goodIn_of _ (by decide +kernel)) ggX2_letterOn_X2_at
theorem dX2_letterOn_0 : decode cX2_letterOn 0 = .ok (.aload_n 0, 1) := by decide +kernel
theorem dX2_letterOn_1 : decode cX2_letterOn 1 = .ok (.iload_n 1, 1) := by decide +kernel
theorem dX2_letterOn_2 : decode cX2_letterOn 2 = .ok (.invokevirtual 40, 3) := by decide +kernel
theorem dX2_letterOn_5 : decode cX2_letterOn 5 = .ok (.astore_n 3, 1) := by decide +kernel
theorem dX2_letterOn_6 : decode cX2_letterOn 6 = .ok (.iload_n 2, 1) := by decide +kernel
theorem dX2_letterOn_7 : decode cX2_letterOn 7 = .ok (.invokestatic 74, 3) := by decide +kernel
theorem dX2_letterOn_10 : decode cX2_letterOn 10 = .ok (.aload_n 3, 1) := by decide +kernel
theorem dX2_letterOn_11 : decode cX2_letterOn 11 = .ok (.getfield 77, 3) := by decide +kernel
theorem dX2_letterOn_14 : decode cX2_letterOn 14 = .ok (.iload_n 2, 1) := by decide +kernel
theorem dX2_letterOn_15 : decode cX2_letterOn 15 = .ok (.invokestatic 70, 3) := by decide +kernel
theorem dX2_letterOn_18 : decode cX2_letterOn 18 = .ok (.ireturn, 1) := by decide +kernel
set_option maxRecDepth 20000 in
theorem ggX2_press_X2_studentAt : GoodIn wsX2_press wsX2_studentAt := goodIn_ca (goodIn_r _ [5, 6, 7, 8, 43, 44, 45, 46, 47] (by decide +kernel) (by decide +kernel)) (goodIn_sub (fun _ h => List.mem_cons_of_mem _ (List.mem_append_right _ h)) (by decide +kernel))
set_option maxRecDepth 20000 in
theorem gX2_press_X2_studentAt : GoodIn wsX2_press (wsV RX2 40 RX2 yX2_studentAt wsX2_studentAt) := goodIn_app (goodIn_of _ (by decide +kernel)) ggX2_press_X2_studentAt
set_option maxRecDepth 20000 in
theorem ggX2_press_X2_needLetter : GoodIn wsX2_press wsX2_needLetter := goodIn_ca (goodIn_r _ [11, 6, 7] (by decide +kernel) (by decide +kernel)) (goodIn_sub (fun _ h => List.mem_cons_of_mem _ (List.mem_append_right _ h)) (by decide +kernel))
set_option maxRecDepth 20000 in
theorem gX2_press_X2_needLetter : GoodIn wsX2_press (va_wsS RX2 63 yX2_needLetter wsX2_needLetter) := goodIn_app (goodIn_of _ (by decide +kernel)) ggX2_press_X2_needLetter
set_option maxRecDepth 20000 in
theorem ggX2_press_X2_needKey : GoodIn wsX2_press wsX2_needKey := goodIn_ca (goodIn_r _ [14, 6, 7] (by decide +kernel) (by decide +kernel)) (goodIn_sub (fun _ h => List.mem_cons_of_mem _ (List.mem_append_right _ h)) (by decide +kernel))
set_option maxRecDepth 20000 in
theorem gX2_press_X2_needKey : GoodIn wsX2_press (va_wsS RX2 74 yX2_needKey wsX2_needKey) := goodIn_app (goodIn_of _ (by decide +kernel)) ggX2_press_X2_needKey
set_option maxRecDepth 20000 in
theorem ggX2_press_X1_type : GoodIn wsX2_press wsX1_type := goodIn_r _ [18, 19, 20, 21, 22, 23, 24, 25, 4, 26, 27, 28, 29, 30, 31, 32, 33, 34, 35, 36, 37, 16, 38, 39, 40, 41, 42, 48, 49, 50, 51, 52, 53, 54, 55] (by decide +kernel) (by decide +kernel)
set_option maxRecDepth 20000 in
theorem gX2_press_X1_type_n80 : GoodIn wsX2_press (wsX1_type) := ggX2_press_X1_type
theorem dX2_press_0 : decode cX2_press 0 = .ok (.aload_n 0, 1) := by decide +kernel
theorem dX2_press_1 : decode cX2_press 1 = .ok (.iload_n 1, 1) := by decide +kernel
theorem dX2_press_2 : decode cX2_press 2 = .ok (.invokevirtual 40, 3) := by decide +kernel
theorem dX2_press_5 : decode cX2_press 5 = .ok (.astore 4, 2) := by decide +kernel
theorem dX2_press_7 : decode cX2_press 7 = .ok (.iload_n 2, 1) := by decide +kernel
theorem dX2_press_8 : decode cX2_press 8 = .ok (.invokestatic 63, 3) := by decide +kernel
theorem dX2_press_11 : decode cX2_press 11 = .ok (.iload_n 3, 1) := by decide +kernel
theorem dX2_press_12 : decode cX2_press 12 = .ok (.invokestatic 74, 3) := by decide +kernel
theorem dX2_press_15 : decode cX2_press 15 = .ok (.aload 4, 2) := by decide +kernel
theorem dX2_press_17 : decode cX2_press 17 = .ok (.iload_n 2, 1) := by decide +kernel
theorem dX2_press_18 : decode cX2_press 18 = .ok (.iload_n 3, 1) := by decide +kernel
theorem dX2_press_19 : decode cX2_press 19 = .ok (.invokevirtual 80, 3) := by decide +kernel
theorem dX2_press_22 : decode cX2_press 22 = .ok (.ireturn, 1) := by decide +kernel
set_option maxRecDepth 20000 in
theorem ggX2_slips_X2_studentAt : GoodIn wsX2_slips wsX2_studentAt := goodIn_ca (goodIn_r _ [7, 8, 9, 10, 29, 30, 31, 32, 33] (by decide +kernel) (by decide +kernel)) (goodIn_sub (fun _ h => List.mem_cons_of_mem _ (List.mem_append_right _ h)) (by decide +kernel))
set_option maxRecDepth 20000 in
theorem gX2_slips_X2_studentAt : GoodIn wsX2_slips (wsV RX2 40 RX2 yX2_studentAt wsX2_studentAt) := goodIn_app (goodIn_of _ (by decide +kernel)) ggX2_slips_X2_studentAt
set_option maxRecDepth 20000 in
theorem ggX2_slips_X2_groups : GoodIn wsX2_slips wsX2_groups := goodIn_r _ [13] (by decide +kernel) (by decide +kernel)
set_option maxRecDepth 20000 in
theorem gX2_slips_X2_groups : GoodIn wsX2_slips (va_wsS RX2 84 yX2_groups wsX2_groups) := goodIn_app (goodIn_of _ (by decide +kernel)) ggX2_slips_X2_groups
set_option maxRecDepth 20000 in
theorem ggX2_slips_X1_slipsOf : GoodIn wsX2_slips wsX1_slipsOf := goodIn_r _ [17, 18, 19, 6, 20, 21, 22, 23, 24, 25, 26, 27, 28, 34, 35, 36, 37, 38, 39, 40, 41] (by decide +kernel) (by decide +kernel)
set_option maxRecDepth 20000 in
theorem gX2_slips_X1_slipsOf_n90 : GoodIn wsX2_slips (wsX1_slipsOf) := ggX2_slips_X1_slipsOf
theorem dX2_slips_0 : decode cX2_slips 0 = .ok (.aload_n 0, 1) := by decide +kernel
theorem dX2_slips_1 : decode cX2_slips 1 = .ok (.iload_n 1, 1) := by decide +kernel
theorem dX2_slips_2 : decode cX2_slips 2 = .ok (.invokevirtual 40, 3) := by decide +kernel
theorem dX2_slips_5 : decode cX2_slips 5 = .ok (.astore 4, 2) := by decide +kernel
theorem dX2_slips_7 : decode cX2_slips 7 = .ok (.iload_n 3, 1) := by decide +kernel
theorem dX2_slips_8 : decode cX2_slips 8 = .ok (.ifCond .lt 11, 3) := by decide +kernel
theorem dX2_slips_11 : decode cX2_slips 11 = .ok (.iload_n 3, 1) := by decide +kernel
theorem dX2_slips_12 : decode cX2_slips 12 = .ok (.iload_n 2, 1) := by decide +kernel
theorem dX2_slips_13 : decode cX2_slips 13 = .ok (.invokestatic 84, 3) := by decide +kernel
theorem dX2_slips_16 : decode cX2_slips 16 = .ok (.if_icmp .lt 13, 3) := by decide +kernel
theorem dX2_slips_19 : decode cX2_slips 19 = .ok (.new 44, 3) := by decide +kernel
theorem dX2_slips_22 : decode cX2_slips 22 = .ok (.dup, 1) := by decide +kernel
theorem dX2_slips_23 : decode cX2_slips 23 = .ok (.ldc 88, 2) := by decide +kernel
theorem dX2_slips_25 : decode cX2_slips 25 = .ok (.invokespecial 48, 3) := by decide +kernel
theorem dX2_slips_28 : decode cX2_slips 28 = .ok (.athrow, 1) := by decide +kernel
theorem dX2_slips_29 : decode cX2_slips 29 = .ok (.aload 4, 2) := by decide +kernel
theorem dX2_slips_31 : decode cX2_slips 31 = .ok (.iload_n 2, 1) := by decide +kernel
theorem dX2_slips_32 : decode cX2_slips 32 = .ok (.iload_n 3, 1) := by decide +kernel
theorem dX2_slips_33 : decode cX2_slips 33 = .ok (.invokevirtual 90, 3) := by decide +kernel
theorem dX2_slips_36 : decode cX2_slips 36 = .ok (.ireturn, 1) := by decide +kernel
set_option maxRecDepth 20000 in
theorem ggX2_pair_X2_studentAt : GoodIn wsX2_pair wsX2_studentAt := goodIn_ca (goodIn_r _ [5, 6, 7, 8, 26, 27, 28, 29, 30] (by decide +kernel) (by decide +kernel)) (goodIn_sub (fun _ h => List.mem_cons_of_mem _ (List.mem_append_right _ h)) (by decide +kernel))
set_option maxRecDepth 20000 in
theorem gX2_pair_X2_studentAt : GoodIn wsX2_pair (wsV RX2 40 RX2 yX2_studentAt wsX2_studentAt) := goodIn_app (goodIn_of _ (by decide +kernel)) ggX2_pair_X2_studentAt
set_option maxRecDepth 20000 in
theorem ggX2_pair_X2_needLetter : GoodIn wsX2_pair wsX2_needLetter := goodIn_ca (goodIn_r _ [11, 6, 7] (by decide +kernel) (by decide +kernel)) (goodIn_sub (fun _ h => List.mem_cons_of_mem _ (List.mem_append_right _ h)) (by decide +kernel))
set_option maxRecDepth 20000 in
theorem gX2_pair_X2_needLetter : GoodIn wsX2_pair (va_wsS RX2 63 yX2_needLetter wsX2_needLetter) := goodIn_app (goodIn_of _ (by decide +kernel)) ggX2_pair_X2_needLetter
set_option maxRecDepth 20000 in
theorem ggX2_pair_X2_pairPlace : GoodIn wsX2_pair wsX2_pairPlace := goodIn_r _ [14] (by decide +kernel) (by decide +kernel)
set_option maxRecDepth 20000 in
theorem gX2_pair_X2_pairPlace : GoodIn wsX2_pair (va_wsS RX2 96 yX2_pairPlace wsX2_pairPlace) := goodIn_app (goodIn_of _ (by decide +kernel)) ggX2_pair_X2_pairPlace
set_option maxRecDepth 20000 in
theorem ggX2_pair_X2_at : GoodIn wsX2_pair wsX2_at := goodIn_r _ [17] (by decide +kernel) (by decide +kernel)
set_option maxRecDepth 20000 in
theorem gX2_pair_X2_at : GoodIn wsX2_pair (va_wsS RX2 70 yX2_at wsX2_at) := goodIn_app (goodIn_of _ (by decide +kernel)) ggX2_pair_X2_at
theorem dX2_pair_0 : decode cX2_pair 0 = .ok (.aload_n 0, 1) := by decide +kernel
theorem dX2_pair_1 : decode cX2_pair 1 = .ok (.iload_n 1, 1) := by decide +kernel
theorem dX2_pair_2 : decode cX2_pair 2 = .ok (.invokevirtual 40, 3) := by decide +kernel
theorem dX2_pair_5 : decode cX2_pair 5 = .ok (.astore 4, 2) := by decide +kernel
theorem dX2_pair_7 : decode cX2_pair 7 = .ok (.iload_n 2, 1) := by decide +kernel
theorem dX2_pair_8 : decode cX2_pair 8 = .ok (.invokestatic 63, 3) := by decide +kernel
theorem dX2_pair_11 : decode cX2_pair 11 = .ok (.iload_n 3, 1) := by decide +kernel
theorem dX2_pair_12 : decode cX2_pair 12 = .ok (.invokestatic 63, 3) := by decide +kernel
theorem dX2_pair_15 : decode cX2_pair 15 = .ok (.aload 4, 2) := by decide +kernel
theorem dX2_pair_17 : decode cX2_pair 17 = .ok (.getfield 93, 3) := by decide +kernel
theorem dX2_pair_20 : decode cX2_pair 20 = .ok (.iload_n 2, 1) := by decide +kernel
theorem dX2_pair_21 : decode cX2_pair 21 = .ok (.iload_n 3, 1) := by decide +kernel
theorem dX2_pair_22 : decode cX2_pair 22 = .ok (.invokestatic 96, 3) := by decide +kernel
theorem dX2_pair_25 : decode cX2_pair 25 = .ok (.invokestatic 70, 3) := by decide +kernel
theorem dX2_pair_28 : decode cX2_pair 28 = .ok (.ireturn, 1) := by decide +kernel
set_option maxRecDepth 20000 in
theorem ggX2_pressed_X2_studentAt : GoodIn wsX2_pressed wsX2_studentAt := goodIn_ca (goodIn_r _ [5, 6, 7, 8, 17, 18, 19, 20, 21] (by decide +kernel) (by decide +kernel)) (goodIn_sub (fun _ h => List.mem_cons_of_mem _ (List.mem_append_right _ h)) (by decide +kernel))
set_option maxRecDepth 20000 in
theorem gX2_pressed_X2_studentAt : GoodIn wsX2_pressed (wsV RX2 40 RX2 yX2_studentAt wsX2_studentAt) := goodIn_app (goodIn_of _ (by decide +kernel)) ggX2_pressed_X2_studentAt
theorem dX2_pressed_0 : decode cX2_pressed 0 = .ok (.aload_n 0, 1) := by decide +kernel
theorem dX2_pressed_1 : decode cX2_pressed 1 = .ok (.iload_n 1, 1) := by decide +kernel
theorem dX2_pressed_2 : decode cX2_pressed 2 = .ok (.invokevirtual 40, 3) := by decide +kernel
theorem dX2_pressed_5 : decode cX2_pressed 5 = .ok (.getfield 99, 3) := by decide +kernel
theorem dX2_pressed_8 : decode cX2_pressed 8 = .ok (.ireturn, 1) := by decide +kernel
set_option maxRecDepth 20000 in
theorem ggX2_history_X2_studentAt : GoodIn wsX2_history wsX2_studentAt := goodIn_ca (goodIn_r _ [7, 1, 2, 8, 20, 21, 22, 23, 24] (by decide +kernel) (by decide +kernel)) (goodIn_sub (fun _ h => List.mem_cons_of_mem _ (List.mem_append_right _ h)) (by decide +kernel))
set_option maxRecDepth 20000 in
theorem gX2_history_X2_studentAt : GoodIn wsX2_history (wsV RX2 40 RX2 yX2_studentAt wsX2_studentAt) := goodIn_app (goodIn_of _ (by decide +kernel)) ggX2_history_X2_studentAt
set_option maxRecDepth 20000 in
theorem ggX2_history_X2_at : GoodIn wsX2_history wsX2_at := goodIn_r _ [11] (by decide +kernel) (by decide +kernel)
set_option maxRecDepth 20000 in
theorem gX2_history_X2_at : GoodIn wsX2_history (va_wsS RX2 70 yX2_at wsX2_at) := goodIn_app (goodIn_of _ (by decide +kernel)) ggX2_history_X2_at
theorem dX2_history_0 : decode cX2_history 0 = .ok (.aload_n 0, 1) := by decide +kernel
theorem dX2_history_1 : decode cX2_history 1 = .ok (.iload_n 1, 1) := by decide +kernel
theorem dX2_history_2 : decode cX2_history 2 = .ok (.invokevirtual 40, 3) := by decide +kernel
theorem dX2_history_5 : decode cX2_history 5 = .ok (.astore_n 3, 1) := by decide +kernel
theorem dX2_history_6 : decode cX2_history 6 = .ok (.iload_n 2, 1) := by decide +kernel
theorem dX2_history_7 : decode cX2_history 7 = .ok (.ifCond .ge 13, 3) := by decide +kernel
theorem dX2_history_10 : decode cX2_history 10 = .ok (.new 102, 3) := by decide +kernel
theorem dX2_history_13 : decode cX2_history 13 = .ok (.dup, 1) := by decide +kernel
theorem dX2_history_14 : decode cX2_history 14 = .ok (.ldc 104, 2) := by decide +kernel
theorem dX2_history_16 : decode cX2_history 16 = .ok (.invokespecial 106, 3) := by decide +kernel
theorem dX2_history_19 : decode cX2_history 19 = .ok (.athrow, 1) := by decide +kernel
theorem dX2_history_20 : decode cX2_history 20 = .ok (.iload_n 2, 1) := by decide +kernel
theorem dX2_history_21 : decode cX2_history 21 = .ok (.aload_n 3, 1) := by decide +kernel
theorem dX2_history_22 : decode cX2_history 22 = .ok (.getfield 107, 3) := by decide +kernel
theorem dX2_history_25 : decode cX2_history 25 = .ok (.if_icmp .ge 14, 3) := by decide +kernel
theorem dX2_history_28 : decode cX2_history 28 = .ok (.aload_n 3, 1) := by decide +kernel
theorem dX2_history_29 : decode cX2_history 29 = .ok (.getfield 110, 3) := by decide +kernel
theorem dX2_history_32 : decode cX2_history 32 = .ok (.iload_n 2, 1) := by decide +kernel
theorem dX2_history_33 : decode cX2_history 33 = .ok (.invokestatic 70, 3) := by decide +kernel
theorem dX2_history_36 : decode cX2_history 36 = .ok (.goto 4, 3) := by decide +kernel
theorem dX2_history_39 : decode cX2_history 39 = .ok (.iconst (-1), 1) := by decide +kernel
theorem dX2_history_40 : decode cX2_history 40 = .ok (.ireturn, 1) := by decide +kernel
set_option maxRecDepth 20000 in
theorem ggX2_time_X2_studentAt : GoodIn wsX2_time wsX2_studentAt := goodIn_ca (goodIn_r _ [5, 6, 7, 8, 40, 41, 42, 43, 44] (by decide +kernel) (by decide +kernel)) (goodIn_sub (fun _ h => List.mem_cons_of_mem _ (List.mem_append_right _ h)) (by decide +kernel))
set_option maxRecDepth 20000 in
theorem gX2_time_X2_studentAt : GoodIn wsX2_time (wsV RX2 40 RX2 yX2_studentAt wsX2_studentAt) := goodIn_app (goodIn_of _ (by decide +kernel)) ggX2_time_X2_studentAt
set_option maxRecDepth 20000 in
theorem ggX2_time_X1_timeWith : GoodIn wsX2_time wsX1_timeWith := goodIn_r _ [12, 13, 14, 15, 16, 4, 17, 18, 19, 20, 21, 22, 23, 24, 25, 26, 27, 28, 29, 30, 31, 32, 33, 34, 35, 36, 37, 38, 39, 45, 46, 47, 48, 49, 50, 51, 52] (by decide +kernel) (by decide +kernel)
set_option maxRecDepth 20000 in
theorem gX2_time_X1_timeWith_n113 : GoodIn wsX2_time (wsX1_timeWith) := ggX2_time_X1_timeWith
theorem dX2_time_0 : decode cX2_time 0 = .ok (.aload_n 0, 1) := by decide +kernel
theorem dX2_time_1 : decode cX2_time 1 = .ok (.iload_n 1, 1) := by decide +kernel
theorem dX2_time_2 : decode cX2_time 2 = .ok (.invokevirtual 40, 3) := by decide +kernel
theorem dX2_time_5 : decode cX2_time 5 = .ok (.iconst (-1), 1) := by decide +kernel
theorem dX2_time_6 : decode cX2_time 6 = .ok (.iconst (-1), 1) := by decide +kernel
theorem dX2_time_7 : decode cX2_time 7 = .ok (.invokevirtual 113, 3) := by decide +kernel
theorem dX2_time_10 : decode cX2_time 10 = .ok (.ireturn, 1) := by decide +kernel
set_option maxRecDepth 20000 in
theorem ggX2_timeAnew_X2_studentAt : GoodIn wsX2_timeAnew wsX2_studentAt := goodIn_ca (goodIn_r _ [6, 7, 8, 9, 46, 47, 48, 49, 50] (by decide +kernel) (by decide +kernel)) (goodIn_sub (fun _ h => List.mem_cons_of_mem _ (List.mem_append_right _ h)) (by decide +kernel))
set_option maxRecDepth 20000 in
theorem gX2_timeAnew_X2_studentAt : GoodIn wsX2_timeAnew (wsV RX2 40 RX2 yX2_studentAt wsX2_studentAt) := goodIn_app (goodIn_of _ (by decide +kernel)) ggX2_timeAnew_X2_studentAt
set_option maxRecDepth 20000 in
theorem ggX2_timeAnew_X1_timeByCounts : GoodIn wsX2_timeAnew wsX1_timeByCounts := goodIn_r _ [13, 14, 15, 16, 17, 18, 19, 20, 21, 5, 22, 23, 24, 25, 26, 27, 28, 29, 30, 31, 32, 33, 34, 35, 36, 37, 38, 39, 40, 41, 42, 43, 44, 45, 51, 52, 53, 54, 55, 56, 57, 58] (by decide +kernel) (by decide +kernel)
set_option maxRecDepth 20000 in
theorem gX2_timeAnew_X1_timeByCounts_n116 : GoodIn wsX2_timeAnew (wsX1_timeByCounts) := ggX2_timeAnew_X1_timeByCounts
theorem dX2_timeAnew_0 : decode cX2_timeAnew 0 = .ok (.aload_n 0, 1) := by decide +kernel
theorem dX2_timeAnew_1 : decode cX2_timeAnew 1 = .ok (.iload_n 1, 1) := by decide +kernel
theorem dX2_timeAnew_2 : decode cX2_timeAnew 2 = .ok (.invokevirtual 40, 3) := by decide +kernel
theorem dX2_timeAnew_5 : decode cX2_timeAnew 5 = .ok (.aload_n 0, 1) := by decide +kernel
theorem dX2_timeAnew_6 : decode cX2_timeAnew 6 = .ok (.getfield 29, 3) := by decide +kernel
theorem dX2_timeAnew_9 : decode cX2_timeAnew 9 = .ok (.invokevirtual 116, 3) := by decide +kernel
theorem dX2_timeAnew_12 : decode cX2_timeAnew 12 = .ok (.ireturn, 1) := by decide +kernel
set_option maxRecDepth 20000 in
theorem ggX2_lesson_X2_studentAt : GoodIn wsX2_lesson wsX2_studentAt := goodIn_ca (goodIn_r _ [7, 1, 2, 8, 25, 26, 27, 28, 29] (by decide +kernel) (by decide +kernel)) (goodIn_sub (fun _ h => List.mem_cons_of_mem _ (List.mem_append_right _ h)) (by decide +kernel))
set_option maxRecDepth 20000 in
theorem gX2_lesson_X2_studentAt : GoodIn wsX2_lesson (wsV RX2 40 RX2 yX2_studentAt wsX2_studentAt) := goodIn_app (goodIn_of _ (by decide +kernel)) ggX2_lesson_X2_studentAt
set_option maxRecDepth 20000 in
theorem ggX2_lesson_X1_slippingLetter : GoodIn wsX2_lesson wsX1_slippingLetter := goodIn_r _ [12, 13, 14, 15, 10, 16, 17, 18, 19, 20, 21, 22, 23, 6, 24, 30, 31, 32, 33, 34, 35, 36, 37] (by decide +kernel) (by decide +kernel)
set_option maxRecDepth 20000 in
theorem gX2_lesson_X1_slippingLetter_n122 : GoodIn wsX2_lesson (wsX1_slippingLetter) := ggX2_lesson_X1_slippingLetter
theorem dX2_lesson_0 : decode cX2_lesson 0 = .ok (.aload_n 0, 1) := by decide +kernel
theorem dX2_lesson_1 : decode cX2_lesson 1 = .ok (.iload_n 1, 1) := by decide +kernel
theorem dX2_lesson_2 : decode cX2_lesson 2 = .ok (.invokevirtual 40, 3) := by decide +kernel
theorem dX2_lesson_5 : decode cX2_lesson 5 = .ok (.astore_n 3, 1) := by decide +kernel
theorem dX2_lesson_6 : decode cX2_lesson 6 = .ok (.iload_n 2, 1) := by decide +kernel
theorem dX2_lesson_7 : decode cX2_lesson 7 = .ok (.ifCond .lt 9, 3) := by decide +kernel
theorem dX2_lesson_10 : decode cX2_lesson 10 = .ok (.iload_n 2, 1) := by decide +kernel
theorem dX2_lesson_11 : decode cX2_lesson 11 = .ok (.bipush 100, 2) := by decide +kernel
theorem dX2_lesson_13 : decode cX2_lesson 13 = .ok (.if_icmp .lt 13, 3) := by decide +kernel
theorem dX2_lesson_16 : decode cX2_lesson 16 = .ok (.new 102, 3) := by decide +kernel
theorem dX2_lesson_19 : decode cX2_lesson 19 = .ok (.dup, 1) := by decide +kernel
theorem dX2_lesson_20 : decode cX2_lesson 20 = .ok (.ldc 120, 2) := by decide +kernel
theorem dX2_lesson_22 : decode cX2_lesson 22 = .ok (.invokespecial 106, 3) := by decide +kernel
theorem dX2_lesson_25 : decode cX2_lesson 25 = .ok (.athrow, 1) := by decide +kernel
theorem dX2_lesson_26 : decode cX2_lesson 26 = .ok (.aload_n 3, 1) := by decide +kernel
theorem dX2_lesson_27 : decode cX2_lesson 27 = .ok (.iload_n 2, 1) := by decide +kernel
theorem dX2_lesson_28 : decode cX2_lesson 28 = .ok (.iconst 3, 1) := by decide +kernel
theorem dX2_lesson_29 : decode cX2_lesson 29 = .ok (.irem, 1) := by decide +kernel
theorem dX2_lesson_30 : decode cX2_lesson 30 = .ok (.invokevirtual 122, 3) := by decide +kernel
theorem dX2_lesson_33 : decode cX2_lesson 33 = .ok (.ireturn, 1) := by decide +kernel
set_option maxRecDepth 20000 in
theorem ggX2_saves_X2_studentAt : GoodIn wsX2_saves wsX2_studentAt := goodIn_ca (goodIn_r _ [5, 6, 7, 8, 52, 53, 54, 55, 56] (by decide +kernel) (by decide +kernel)) (goodIn_sub (fun _ h => List.mem_cons_of_mem _ (List.mem_append_left _ (List.mem_append_right _ h))) (by decide +kernel))
set_option maxRecDepth 20000 in
theorem gX2_saves_X2_studentAt : GoodIn wsX2_saves (wsV RX2 40 RX2 yX2_studentAt wsX2_studentAt) := goodIn_app (goodIn_of _ (by decide +kernel)) ggX2_saves_X2_studentAt
set_option maxRecDepth 20000 in
theorem ggX2_saves_X2_needTwoKeys : GoodIn wsX2_saves wsX2_needTwoKeys := goodIn_ca (goodIn_ca (goodIn_r _ [11, 12, 13, 14, 15, 4, 16, 6, 7] (by decide +kernel) (by decide +kernel)) (goodIn_sub (fun _ h => List.mem_cons_of_mem _ (List.mem_append_right _ h)) (by decide +kernel))) (goodIn_sub (fun _ h => List.mem_cons_of_mem _ (List.mem_append_left _ (List.mem_append_right _ h))) (by decide +kernel))
set_option maxRecDepth 20000 in
theorem gX2_saves_X2_needTwoKeys : GoodIn wsX2_saves (va_wsS RX2 52 yX2_needTwoKeys wsX2_needTwoKeys) := goodIn_app (goodIn_of _ (by decide +kernel)) ggX2_saves_X2_needTwoKeys
set_option maxRecDepth 20000 in
theorem ggX2_saves_X1_savedBy : GoodIn wsX2_saves wsX1_savedBy := goodIn_r _ [20, 21, 22, 23, 18, 24, 25, 26, 27, 28, 4, 29, 30, 31, 32, 33, 34, 35, 36, 37, 38, 39, 40, 41, 42, 43, 44, 45, 46, 47, 48, 49, 50, 51, 57, 58, 59, 60, 61, 62, 63, 64] (by decide +kernel) (by decide +kernel)
set_option maxRecDepth 20000 in
theorem gX2_saves_X1_savedBy_n56 : GoodIn wsX2_saves (wsX1_savedBy) := ggX2_saves_X1_savedBy
theorem dX2_saves_0 : decode cX2_saves 0 = .ok (.aload_n 0, 1) := by decide +kernel
theorem dX2_saves_1 : decode cX2_saves 1 = .ok (.iload_n 1, 1) := by decide +kernel
theorem dX2_saves_2 : decode cX2_saves 2 = .ok (.invokevirtual 40, 3) := by decide +kernel
theorem dX2_saves_5 : decode cX2_saves 5 = .ok (.astore 4, 2) := by decide +kernel
theorem dX2_saves_7 : decode cX2_saves 7 = .ok (.iload_n 2, 1) := by decide +kernel
theorem dX2_saves_8 : decode cX2_saves 8 = .ok (.iload_n 3, 1) := by decide +kernel
theorem dX2_saves_9 : decode cX2_saves 9 = .ok (.invokestatic 52, 3) := by decide +kernel
theorem dX2_saves_12 : decode cX2_saves 12 = .ok (.aload 4, 2) := by decide +kernel
theorem dX2_saves_14 : decode cX2_saves 14 = .ok (.iload_n 2, 1) := by decide +kernel
theorem dX2_saves_15 : decode cX2_saves 15 = .ok (.iload_n 3, 1) := by decide +kernel
theorem dX2_saves_16 : decode cX2_saves 16 = .ok (.invokevirtual 56, 3) := by decide +kernel
theorem dX2_saves_19 : decode cX2_saves 19 = .ok (.ireturn, 1) := by decide +kernel
set_option maxRecDepth 20000 in
theorem ggX2_best_X2_studentAt : GoodIn wsX2_best wsX2_studentAt := goodIn_ca (goodIn_r _ [5, 6, 7, 8, 44, 45, 46, 47, 48] (by decide +kernel) (by decide +kernel)) (goodIn_sub (fun _ h => List.mem_cons_of_mem _ (List.mem_append_right _ h)) (by decide +kernel))
set_option maxRecDepth 20000 in
theorem gX2_best_X2_studentAt : GoodIn wsX2_best (wsV RX2 40 RX2 yX2_studentAt wsX2_studentAt) := goodIn_app (goodIn_of _ (by decide +kernel)) ggX2_best_X2_studentAt
set_option maxRecDepth 20000 in
theorem ggX2_best_X1_bestExchange : GoodIn wsX2_best wsX1_bestExchange := goodIn_r _ [12, 13, 14, 15, 10, 16, 17, 18, 19, 20, 4, 21, 22, 23, 24, 25, 26, 27, 28, 29, 30, 31, 32, 33, 34, 35, 36, 37, 38, 39, 40, 41, 42, 43, 49, 50, 51, 52, 53, 54, 55, 56] (by decide +kernel) (by decide +kernel)
set_option maxRecDepth 20000 in
theorem gX2_best_X1_bestExchange_n125 : GoodIn wsX2_best (wsX1_bestExchange) := ggX2_best_X1_bestExchange
theorem dX2_best_0 : decode cX2_best 0 = .ok (.aload_n 0, 1) := by decide +kernel
theorem dX2_best_1 : decode cX2_best 1 = .ok (.iload_n 1, 1) := by decide +kernel
theorem dX2_best_2 : decode cX2_best 2 = .ok (.invokevirtual 40, 3) := by decide +kernel
theorem dX2_best_5 : decode cX2_best 5 = .ok (.invokevirtual 125, 3) := by decide +kernel
theorem dX2_best_8 : decode cX2_best 8 = .ok (.ireturn, 1) := by decide +kernel
set_option maxRecDepth 20000 in
theorem ggX2_draft_X2_needLetter : GoodIn wsX2_draft wsX2_needLetter := goodIn_ca (goodIn_r _ [8, 9, 10] (by decide +kernel) (by decide +kernel)) (goodIn_sub (fun _ h => List.mem_cons_of_mem _ (List.mem_append_right _ h)) (by decide +kernel))
set_option maxRecDepth 20000 in
theorem gX2_draft_X2_needLetter : GoodIn wsX2_draft (va_wsS RX2 63 yX2_needLetter wsX2_needLetter) := goodIn_app (goodIn_of _ (by decide +kernel)) ggX2_draft_X2_needLetter
set_option maxRecDepth 20000 in
theorem ggX2_draft_X2_put : GoodIn wsX2_draft wsX2_put := goodIn_r _ [13] (by decide +kernel) (by decide +kernel)
set_option maxRecDepth 20000 in
theorem gX2_draft_X2_put : GoodIn wsX2_draft (va_wsS RX2 131 yX2_put wsX2_put) := goodIn_app (goodIn_of _ (by decide +kernel)) ggX2_draft_X2_put
theorem dX2_draft_0 : decode cX2_draft 0 = .ok (.iload_n 1, 1) := by decide +kernel
theorem dX2_draft_1 : decode cX2_draft 1 = .ok (.invokestatic 63, 3) := by decide +kernel
theorem dX2_draft_4 : decode cX2_draft 4 = .ok (.aload_n 0, 1) := by decide +kernel
theorem dX2_draft_5 : decode cX2_draft 5 = .ok (.getfield 25, 3) := by decide +kernel
theorem dX2_draft_8 : decode cX2_draft 8 = .ok (.bipush 24, 2) := by decide +kernel
theorem dX2_draft_10 : decode cX2_draft 10 = .ok (.if_icmp .lt 13, 3) := by decide +kernel
theorem dX2_draft_13 : decode cX2_draft 13 = .ok (.new 33, 3) := by decide +kernel
theorem dX2_draft_16 : decode cX2_draft 16 = .ok (.dup, 1) := by decide +kernel
theorem dX2_draft_17 : decode cX2_draft 17 = .ok (.ldc 129, 2) := by decide +kernel
theorem dX2_draft_19 : decode cX2_draft 19 = .ok (.invokespecial 37, 3) := by decide +kernel
theorem dX2_draft_22 : decode cX2_draft 22 = .ok (.athrow, 1) := by decide +kernel
theorem dX2_draft_23 : decode cX2_draft 23 = .ok (.aload_n 0, 1) := by decide +kernel
theorem dX2_draft_24 : decode cX2_draft 24 = .ok (.getfield 21, 3) := by decide +kernel
