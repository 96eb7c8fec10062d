theorem dX3_swap_129 : decode cX3_swap 129 = .ok (.aload_n 0, 1) := by decide +kernel
theorem dX3_swap_130 : decode cX3_swap 130 = .ok (.getfield 19, 3) := by decide +kernel
theorem dX3_swap_133 : decode cX3_swap 133 = .ok (.iload 5, 2) := by decide +kernel
theorem dX3_swap_135 : decode cX3_swap 135 = .ok (.iload_n 3, 1) := by decide +kernel
theorem dX3_swap_136 : decode cX3_swap 136 = .ok (.iadd, 1) := by decide +kernel
theorem dX3_swap_137 : decode cX3_swap 137 = .ok (.iaload, 1) := by decide +kernel
theorem dX3_swap_138 : decode cX3_swap 138 = .ok (.iastore, 1) := by decide +kernel
theorem dX3_swap_139 : decode cX3_swap 139 = .ok (.aload_n 0, 1) := by decide +kernel
theorem dX3_swap_140 : decode cX3_swap 140 = .ok (.getfield 19, 3) := by decide +kernel
theorem dX3_swap_143 : decode cX3_swap 143 = .ok (.iload 5, 2) := by decide +kernel
theorem dX3_swap_145 : decode cX3_swap 145 = .ok (.iload_n 3, 1) := by decide +kernel
theorem dX3_swap_146 : decode cX3_swap 146 = .ok (.iadd, 1) := by decide +kernel
theorem dX3_swap_147 : decode cX3_swap 147 = .ok (.iload 7, 2) := by decide +kernel
theorem dX3_swap_149 : decode cX3_swap 149 = .ok (.iastore, 1) := by decide +kernel
theorem dX3_swap_150 : decode cX3_swap 150 = .ok (.iload 4, 2) := by decide +kernel
theorem dX3_swap_152 : decode cX3_swap 152 = .ok (.ireturn, 1) := by decide +kernel
set_option maxRecDepth 20000 in
theorem ggX3_keyOf_X3_isStudent : GoodIn wsX3_keyOf wsX3_isStudent := goodIn_r _ [6, 7, 8, 9, 5, 10, 19, 20, 21, 22, 23, 24, 25, 26, 27, 28, 29, 30, 31, 32, 33, 34, 35] (by decide +kernel) (by decide +kernel)
set_option maxRecDepth 20000 in
theorem gX3_keyOf_X3_isStudent : GoodIn wsX3_keyOf (wsV RX3 76 RX3 yX3_isStudent wsX3_isStudent) := goodIn_app (goodIn_of _ (by decide +kernel)) ggX3_keyOf_X3_isStudent
set_option maxRecDepth 20000 in
theorem ggX3_keyOf_X3_isKey : GoodIn wsX3_keyOf wsX3_isKey := goodIn_r _ [13, 8, 9, 5, 10] (by decide +kernel) (by decide +kernel)
set_option maxRecDepth 20000 in
theorem gX3_keyOf_X3_isKey : GoodIn wsX3_keyOf (va_wsS RX3 79 yX3_isKey wsX3_isKey) := goodIn_app (goodIn_of _ (by decide +kernel)) ggX3_keyOf_X3_isKey
set_option maxRecDepth 20000 in
theorem ggX3_keyOf_X3_refused : GoodIn wsX3_keyOf wsX3_refused := goodIn_r _ [17, 18, 19, 20, 21, 22, 23, 24, 25, 26, 27, 28, 29, 30, 31, 32, 33, 34, 35] (by decide +kernel) (by decide +kernel)
set_option maxRecDepth 20000 in
theorem gX3_keyOf_X3_refused : GoodIn wsX3_keyOf (wsV RX3 72 RX3 yX3_refused wsX3_refused) := goodIn_app (goodIn_of _ (by decide +kernel)) ggX3_keyOf_X3_refused
theorem dX3_keyOf_0 : decode cX3_keyOf 0 = .ok (.aload_n 0, 1) := by decide +kernel
theorem dX3_keyOf_1 : decode cX3_keyOf 1 = .ok (.aload_n 0, 1) := by decide +kernel
theorem dX3_keyOf_2 : decode cX3_keyOf 2 = .ok (.iload_n 1, 1) := by decide +kernel
theorem dX3_keyOf_3 : decode cX3_keyOf 3 = .ok (.invokevirtual 76, 3) := by decide +kernel
theorem dX3_keyOf_6 : decode cX3_keyOf 6 = .ok (.ifCond .eq 14, 3) := by decide +kernel
theorem dX3_keyOf_9 : decode cX3_keyOf 9 = .ok (.iload_n 2, 1) := by decide +kernel
theorem dX3_keyOf_10 : decode cX3_keyOf 10 = .ok (.invokestatic 79, 3) := by decide +kernel
theorem dX3_keyOf_13 : decode cX3_keyOf 13 = .ok (.ifCond .eq 7, 3) := by decide +kernel
theorem dX3_keyOf_16 : decode cX3_keyOf 16 = .ok (.iconst 0, 1) := by decide +kernel
theorem dX3_keyOf_17 : decode cX3_keyOf 17 = .ok (.goto 4, 3) := by decide +kernel
theorem dX3_keyOf_20 : decode cX3_keyOf 20 = .ok (.iconst 1, 1) := by decide +kernel
theorem dX3_keyOf_21 : decode cX3_keyOf 21 = .ok (.invokevirtual 72, 3) := by decide +kernel
theorem dX3_keyOf_24 : decode cX3_keyOf 24 = .ok (.ifCond .eq 7, 3) := by decide +kernel
theorem dX3_keyOf_27 : decode cX3_keyOf 27 = .ok (.iconst 0, 1) := by decide +kernel
theorem dX3_keyOf_28 : decode cX3_keyOf 28 = .ok (.goto 14, 3) := by decide +kernel
theorem dX3_keyOf_31 : decode cX3_keyOf 31 = .ok (.aload_n 0, 1) := by decide +kernel
theorem dX3_keyOf_32 : decode cX3_keyOf 32 = .ok (.getfield 7, 3) := by decide +kernel
theorem dX3_keyOf_35 : decode cX3_keyOf 35 = .ok (.bipush 12, 2) := by decide +kernel
theorem dX3_keyOf_37 : decode cX3_keyOf 37 = .ok (.iload_n 1, 1) := by decide +kernel
theorem dX3_keyOf_38 : decode cX3_keyOf 38 = .ok (.imul, 1) := by decide +kernel
theorem dX3_keyOf_39 : decode cX3_keyOf 39 = .ok (.iload_n 2, 1) := by decide +kernel
theorem dX3_keyOf_40 : decode cX3_keyOf 40 = .ok (.iadd, 1) := by decide +kernel
theorem dX3_keyOf_41 : decode cX3_keyOf 41 = .ok (.iaload, 1) := by decide +kernel
theorem dX3_keyOf_42 : decode cX3_keyOf 42 = .ok (.ireturn, 1) := by decide +kernel
set_option maxRecDepth 20000 in
theorem ggX3_letterOn_X3_isStudent : GoodIn wsX3_letterOn wsX3_isStudent := goodIn_r _ [6, 7, 8, 9, 5, 10, 19, 20, 21, 22, 23, 24, 25, 26, 27, 28, 29, 30, 31, 32, 33, 34, 35] (by decide +kernel) (by decide +kernel)
set_option maxRecDepth 20000 in
theorem gX3_letterOn_X3_isStudent : GoodIn wsX3_letterOn (wsV RX3 76 RX3 yX3_isStudent wsX3_isStudent) := goodIn_app (goodIn_of _ (by decide +kernel)) ggX3_letterOn_X3_isStudent
set_option maxRecDepth 20000 in
theorem ggX3_letterOn_X3_isKey : GoodIn wsX3_letterOn wsX3_isKey := goodIn_r _ [13, 8, 9, 5, 10] (by decide +kernel) (by decide +kernel)
set_option maxRecDepth 20000 in
theorem gX3_letterOn_X3_isKey : GoodIn wsX3_letterOn (va_wsS RX3 79 yX3_isKey wsX3_isKey) := goodIn_app (goodIn_of _ (by decide +kernel)) ggX3_letterOn_X3_isKey
set_option maxRecDepth 20000 in
theorem ggX3_letterOn_X3_refused : GoodIn wsX3_letterOn wsX3_refused := goodIn_r _ [17, 18, 19, 20, 21, 22, 23, 24, 25, 26, 27, 28, 29, 30, 31, 32, 33, 34, 35] (by decide +kernel) (by decide +kernel)
set_option maxRecDepth 20000 in
theorem gX3_letterOn_X3_refused : GoodIn wsX3_letterOn (wsV RX3 72 RX3 yX3_refused wsX3_refused) := goodIn_app (goodIn_of _ (by decide +kernel)) ggX3_letterOn_X3_refused
theorem dX3_letterOn_0 : decode cX3_letterOn 0 = .ok (.aload_n 0, 1) := by decide +kernel
theorem dX3_letterOn_1 : decode cX3_letterOn 1 = .ok (.aload_n 0, 1) := by decide +kernel
theorem dX3_letterOn_2 : decode cX3_letterOn 2 = .ok (.iload_n 1, 1) := by decide +kernel
theorem dX3_letterOn_3 : decode cX3_letterOn 3 = .ok (.invokevirtual 76, 3) := by decide +kernel
theorem dX3_letterOn_6 : decode cX3_letterOn 6 = .ok (.ifCond .eq 14, 3) := by decide +kernel
theorem dX3_letterOn_9 : decode cX3_letterOn 9 = .ok (.iload_n 2, 1) := by decide +kernel
theorem dX3_letterOn_10 : decode cX3_letterOn 10 = .ok (.invokestatic 79, 3) := by decide +kernel
theorem dX3_letterOn_13 : decode cX3_letterOn 13 = .ok (.ifCond .eq 7, 3) := by decide +kernel
theorem dX3_letterOn_16 : decode cX3_letterOn 16 = .ok (.iconst 0, 1) := by decide +kernel
theorem dX3_letterOn_17 : decode cX3_letterOn 17 = .ok (.goto 4, 3) := by decide +kernel
theorem dX3_letterOn_20 : decode cX3_letterOn 20 = .ok (.iconst 1, 1) := by decide +kernel
theorem dX3_letterOn_21 : decode cX3_letterOn 21 = .ok (.invokevirtual 72, 3) := by decide +kernel
theorem dX3_letterOn_24 : decode cX3_letterOn 24 = .ok (.ifCond .eq 7, 3) := by decide +kernel
theorem dX3_letterOn_27 : decode cX3_letterOn 27 = .ok (.iconst 0, 1) := by decide +kernel
theorem dX3_letterOn_28 : decode cX3_letterOn 28 = .ok (.goto 14, 3) := by decide +kernel
theorem dX3_letterOn_31 : decode cX3_letterOn 31 = .ok (.aload_n 0, 1) := by decide +kernel
theorem dX3_letterOn_32 : decode cX3_letterOn 32 = .ok (.getfield 13, 3) := by decide +kernel
theorem dX3_letterOn_35 : decode cX3_letterOn 35 = .ok (.bipush 12, 2) := by decide +kernel
theorem dX3_letterOn_37 : decode cX3_letterOn 37 = .ok (.iload_n 1, 1) := by decide +kernel
theorem dX3_letterOn_38 : decode cX3_letterOn 38 = .ok (.imul, 1) := by decide +kernel
theorem dX3_letterOn_39 : decode cX3_letterOn 39 = .ok (.iload_n 2, 1) := by decide +kernel
theorem dX3_letterOn_40 : decode cX3_letterOn 40 = .ok (.iadd, 1) := by decide +kernel
theorem dX3_letterOn_41 : decode cX3_letterOn 41 = .ok (.iaload, 1) := by decide +kernel
theorem dX3_letterOn_42 : decode cX3_letterOn 42 = .ok (.ireturn, 1) := by decide +kernel
set_option maxRecDepth 20000 in
theorem ggX3_press_X3_isStudent : GoodIn wsX3_press wsX3_isStudent := goodIn_r _ [12, 13, 14, 15, 11, 16, 25, 26, 27, 28, 29, 30, 31, 32, 33, 34, 35, 36, 37, 38, 39, 40, 41] (by decide +kernel) (by decide +kernel)
set_option maxRecDepth 20000 in
theorem gX3_press_X3_isStudent : GoodIn wsX3_press (wsV RX3 76 RX3 yX3_isStudent wsX3_isStudent) := goodIn_app (goodIn_of _ (by decide +kernel)) ggX3_press_X3_isStudent
set_option maxRecDepth 20000 in
theorem ggX3_press_X3_isKey : GoodIn wsX3_press wsX3_isKey := goodIn_r _ [19, 14, 15, 11, 16] (by decide +kernel) (by decide +kernel)
set_option maxRecDepth 20000 in
theorem gX3_press_X3_isKey : GoodIn wsX3_press (va_wsS RX3 79 yX3_isKey wsX3_isKey) := goodIn_app (goodIn_of _ (by decide +kernel)) ggX3_press_X3_isKey
set_option maxRecDepth 20000 in
theorem ggX3_press_X3_refused : GoodIn wsX3_press wsX3_refused := goodIn_r _ [23, 24, 25, 26, 27, 28, 29, 30, 31, 32, 33, 34, 35, 36, 37, 38, 39, 40, 41] (by decide +kernel) (by decide +kernel)
set_option maxRecDepth 20000 in
theorem gX3_press_X3_refused : GoodIn wsX3_press (wsV RX3 72 RX3 yX3_refused wsX3_refused) := goodIn_app (goodIn_of _ (by decide +kernel)) ggX3_press_X3_refused
theorem dX3_press_0 : decode cX3_press 0 = .ok (.aload_n 0, 1) := by decide +kernel
theorem dX3_press_1 : decode cX3_press 1 = .ok (.aload_n 0, 1) := by decide +kernel
theorem dX3_press_2 : decode cX3_press 2 = .ok (.iload_n 1, 1) := by decide +kernel
theorem dX3_press_3 : decode cX3_press 3 = .ok (.invokevirtual 76, 3) := by decide +kernel
theorem dX3_press_6 : decode cX3_press 6 = .ok (.ifCond .eq 21, 3) := by decide +kernel
theorem dX3_press_9 : decode cX3_press 9 = .ok (.iload_n 2, 1) := by decide +kernel
theorem dX3_press_10 : decode cX3_press 10 = .ok (.invokestatic 79, 3) := by decide +kernel
theorem dX3_press_13 : decode cX3_press 13 = .ok (.ifCond .eq 14, 3) := by decide +kernel
theorem dX3_press_16 : decode cX3_press 16 = .ok (.iload_n 3, 1) := by decide +kernel
theorem dX3_press_17 : decode cX3_press 17 = .ok (.invokestatic 79, 3) := by decide +kernel
theorem dX3_press_20 : decode cX3_press 20 = .ok (.ifCond .eq 7, 3) := by decide +kernel
theorem dX3_press_23 : decode cX3_press 23 = .ok (.iconst 0, 1) := by decide +kernel
theorem dX3_press_24 : decode cX3_press 24 = .ok (.goto 4, 3) := by decide +kernel
theorem dX3_press_27 : decode cX3_press 27 = .ok (.iconst 1, 1) := by decide +kernel
theorem dX3_press_28 : decode cX3_press 28 = .ok (.invokevirtual 72, 3) := by decide +kernel
theorem dX3_press_31 : decode cX3_press 31 = .ok (.ifCond .eq 5, 3) := by decide +kernel
theorem dX3_press_34 : decode cX3_press 34 = .ok (.iconst 0, 1) := by decide +kernel
theorem dX3_press_35 : decode cX3_press 35 = .ok (.ireturn, 1) := by decide +kernel
theorem dX3_press_36 : decode cX3_press 36 = .ok (.aload_n 0, 1) := by decide +kernel
theorem dX3_press_37 : decode cX3_press 37 = .ok (.getfield 7, 3) := by decide +kernel
theorem dX3_press_40 : decode cX3_press 40 = .ok (.bipush 12, 2) := by decide +kernel
theorem dX3_press_42 : decode cX3_press 42 = .ok (.iload_n 1, 1) := by decide +kernel
theorem dX3_press_43 : decode cX3_press 43 = .ok (.imul, 1) := by decide +kernel
theorem dX3_press_44 : decode cX3_press 44 = .ok (.iload_n 2, 1) := by decide +kernel
theorem dX3_press_45 : decode cX3_press 45 = .ok (.iadd, 1) := by decide +kernel
theorem dX3_press_46 : decode cX3_press 46 = .ok (.iaload, 1) := by decide +kernel
theorem dX3_press_47 : decode cX3_press 47 = .ok (.istore 4, 2) := by decide +kernel
theorem dX3_press_49 : decode cX3_press 49 = .ok (.iload 4, 2) := by decide +kernel
theorem dX3_press_51 : decode cX3_press 51 = .ok (.iload_n 3, 1) := by decide +kernel
theorem dX3_press_52 : decode cX3_press 52 = .ok (.if_icmp .eq 7, 3) := by decide +kernel
theorem dX3_press_55 : decode cX3_press 55 = .ok (.iconst 1, 1) := by decide +kernel
theorem dX3_press_56 : decode cX3_press 56 = .ok (.goto 4, 3) := by decide +kernel
theorem dX3_press_59 : decode cX3_press 59 = .ok (.iconst 0, 1) := by decide +kernel
theorem dX3_press_60 : decode cX3_press 60 = .ok (.istore 5, 2) := by decide +kernel
theorem dX3_press_62 : decode cX3_press 62 = .ok (.aload_n 0, 1) := by decide +kernel
theorem dX3_press_63 : decode cX3_press 63 = .ok (.getfield 19, 3) := by decide +kernel
theorem dX3_press_66 : decode cX3_press 66 = .ok (.bipush 12, 2) := by decide +kernel
theorem dX3_press_68 : decode cX3_press 68 = .ok (.iload_n 1, 1) := by decide +kernel
theorem dX3_press_69 : decode cX3_press 69 = .ok (.imul, 1) := by decide +kernel
theorem dX3_press_70 : decode cX3_press 70 = .ok (.iload 4, 2) := by decide +kernel
theorem dX3_press_72 : decode cX3_press 72 = .ok (.iadd, 1) := by decide +kernel
theorem dX3_press_73 : decode cX3_press 73 = .ok (.dup2, 1) := by decide +kernel
theorem dX3_press_74 : decode cX3_press 74 = .ok (.iaload, 1) := by decide +kernel
theorem dX3_press_75 : decode cX3_press 75 = .ok (.iload 5, 2) := by decide +kernel
theorem dX3_press_77 : decode cX3_press 77 = .ok (.ifCond .eq 7, 3) := by decide +kernel
theorem dX3_press_80 : decode cX3_press 80 = .ok (.iconst 1, 1) := by decide +kernel
theorem dX3_press_81 : decode cX3_press 81 = .ok (.goto 4, 3) := by decide +kernel
theorem dX3_press_84 : decode cX3_press 84 = .ok (.iconst 0, 1) := by decide +kernel
theorem dX3_press_85 : decode cX3_press 85 = .ok (.iadd, 1) := by decide +kernel
theorem dX3_press_86 : decode cX3_press 86 = .ok (.iastore, 1) := by decide +kernel
theorem dX3_press_87 : decode cX3_press 87 = .ok (.aload_n 0, 1) := by decide +kernel
theorem dX3_press_88 : decode cX3_press 88 = .ok (.getfield 28, 3) := by decide +kernel
theorem dX3_press_91 : decode cX3_press 91 = .ok (.iload_n 1, 1) := by decide +kernel
theorem dX3_press_92 : decode cX3_press 92 = .ok (.iaload, 1) := by decide +kernel
theorem dX3_press_93 : decode cX3_press 93 = .ok (.iconst (-1), 1) := by decide +kernel
theorem dX3_press_94 : decode cX3_press 94 = .ok (.if_icmp .eq 38, 3) := by decide +kernel
theorem dX3_press_97 : decode cX3_press 97 = .ok (.aload_n 0, 1) := by decide +kernel
theorem dX3_press_98 : decode cX3_press 98 = .ok (.getfield 22, 3) := by decide +kernel
theorem dX3_press_101 : decode cX3_press 101 = .ok (.sipush 144, 3) := by decide +kernel
theorem dX3_press_104 : decode cX3_press 104 = .ok (.iload_n 1, 1) := by decide +kernel
theorem dX3_press_105 : decode cX3_press 105 = .ok (.imul, 1) := by decide +kernel
theorem dX3_press_106 : decode cX3_press 106 = .ok (.bipush 12, 2) := by decide +kernel
theorem dX3_press_108 : decode cX3_press 108 = .ok (.aload_n 0, 1) := by decide +kernel
theorem dX3_press_109 : decode cX3_press 109 = .ok (.getfield 28, 3) := by decide +kernel
theorem dX3_press_112 : decode cX3_press 112 = .ok (.iload_n 1, 1) := by decide +kernel
theorem dX3_press_113 : decode cX3_press 113 = .ok (.iaload, 1) := by decide +kernel
theorem dX3_press_114 : decode cX3_press 114 = .ok (.imul, 1) := by decide +kernel
theorem dX3_press_115 : decode cX3_press 115 = .ok (.iadd, 1) := by decide +kernel
theorem dX3_press_116 : decode cX3_press 116 = .ok (.iload_n 2, 1) := by decide +kernel
theorem dX3_press_117 : decode cX3_press 117 = .ok (.iadd, 1) := by decide +kernel
theorem dX3_press_118 : decode cX3_press 118 = .ok (.dup2, 1) := by decide +kernel
theorem dX3_press_119 : decode cX3_press 119 = .ok (.iaload, 1) := by decide +kernel
theorem dX3_press_120 : decode cX3_press 120 = .ok (.iload 5, 2) := by decide +kernel
theorem dX3_press_122 : decode cX3_press 122 = .ok (.ifCond .eq 7, 3) := by decide +kernel
theorem dX3_press_125 : decode cX3_press 125 = .ok (.iconst 1, 1) := by decide +kernel
theorem dX3_press_126 : decode cX3_press 126 = .ok (.goto 4, 3) := by decide +kernel
theorem dX3_press_129 : decode cX3_press 129 = .ok (.iconst 0, 1) := by decide +kernel
theorem dX3_press_130 : decode cX3_press 130 = .ok (.iadd, 1) := by decide +kernel
theorem dX3_press_131 : decode cX3_press 131 = .ok (.iastore, 1) := by decide +kernel
theorem dX3_press_132 : decode cX3_press 132 = .ok (.aload_n 0, 1) := by decide +kernel
theorem dX3_press_133 : decode cX3_press 133 = .ok (.getfield 28, 3) := by decide +kernel
theorem dX3_press_136 : decode cX3_press 136 = .ok (.iload_n 1, 1) := by decide +kernel
theorem dX3_press_137 : decode cX3_press 137 = .ok (.iload_n 2, 1) := by decide +kernel
theorem dX3_press_138 : decode cX3_press 138 = .ok (.iastore, 1) := by decide +kernel
theorem dX3_press_139 : decode cX3_press 139 = .ok (.aload_n 0, 1) := by decide +kernel
theorem dX3_press_140 : decode cX3_press 140 = .ok (.getfield 25, 3) := by decide +kernel
theorem dX3_press_143 : decode cX3_press 143 = .ok (.iload_n 1, 1) := by decide +kernel
theorem dX3_press_144 : decode cX3_press 144 = .ok (.dup2, 1) := by decide +kernel
theorem dX3_press_145 : decode cX3_press 145 = .ok (.iaload, 1) := by decide +kernel
theorem dX3_press_146 : decode cX3_press 146 = .ok (.iconst 1, 1) := by decide +kernel
theorem dX3_press_147 : decode cX3_press 147 = .ok (.iadd, 1) := by decide +kernel
theorem dX3_press_148 : decode cX3_press 148 = .ok (.iastore, 1) := by decide +kernel
theorem dX3_press_149 : decode cX3_press 149 = .ok (.aload_n 0, 1) := by decide +kernel
theorem dX3_press_150 : decode cX3_press 150 = .ok (.getfield 31, 3) := by decide +kernel
theorem dX3_press_153 : decode cX3_press 153 = .ok (.iload_n 1, 1) := by decide +kernel
theorem dX3_press_154 : decode cX3_press 154 = .ok (.iaload, 1) := by decide +kernel
theorem dX3_press_155 : decode cX3_press 155 = .ok (.bipush 30, 2) := by decide +kernel
theorem dX3_press_157 : decode cX3_press 157 = .ok (.if_icmp .ne 55, 3) := by decide +kernel
theorem dX3_press_160 : decode cX3_press 160 = .ok (.iconst 1, 1) := by decide +kernel
theorem dX3_press_161 : decode cX3_press 161 = .ok (.istore 6, 2) := by decide +kernel
theorem dX3_press_163 : decode cX3_press 163 = .ok (.iload 6, 2) := by decide +kernel
theorem dX3_press_165 : decode cX3_press 165 = .ok (.bipush 30, 2) := by decide +kernel
theorem dX3_press_167 : decode cX3_press 167 = .ok (.if_icmp .ge 35, 3) := by decide +kernel
theorem dX3_press_170 : decode cX3_press 170 = .ok (.aload_n 0, 1) := by decide +kernel
theorem dX3_press_171 : decode cX3_press 171 = .ok (.getfield 34, 3) := by decide +kernel
theorem dX3_press_174 : decode cX3_press 174 = .ok (.bipush 30, 2) := by decide +kernel
theorem dX3_press_176 : decode cX3_press 176 = .ok (.iload_n 1, 1) := by decide +kernel
theorem dX3_press_177 : decode cX3_press 177 = .ok (.imul, 1) := by decide +kernel
theorem dX3_press_178 : decode cX3_press 178 = .ok (.iload 6, 2) := by decide +kernel
theorem dX3_press_180 : decode cX3_press 180 = .ok (.iadd, 1) := by decide +kernel
theorem dX3_press_181 : decode cX3_press 181 = .ok (.iconst 1, 1) := by decide +kernel
theorem dX3_press_182 : decode cX3_press 182 = .ok (.isub, 1) := by decide +kernel
theorem dX3_press_183 : decode cX3_press 183 = .ok (.aload_n 0, 1) := by decide +kernel
theorem dX3_press_184 : decode cX3_press 184 = .ok (.getfield 34, 3) := by decide +kernel
theorem dX3_press_187 : decode cX3_press 187 = .ok (.bipush 30, 2) := by decide +kernel
theorem dX3_press_189 : decode cX3_press 189 = .ok (.iload_n 1, 1) := by decide +kernel
theorem dX3_press_190 : decode cX3_press 190 = .ok (.imul, 1) := by decide +kernel
theorem dX3_press_191 : decode cX3_press 191 = .ok (.iload 6, 2) := by decide +kernel
theorem dX3_press_193 : decode cX3_press 193 = .ok (.iadd, 1) := by decide +kernel
theorem dX3_press_194 : decode cX3_press 194 = .ok (.iaload, 1) := by decide +kernel
theorem dX3_press_195 : decode cX3_press 195 = .ok (.iastore, 1) := by decide +kernel
theorem dX3_press_196 : decode cX3_press 196 = .ok (.iinc 6 1, 3) := by decide +kernel
theorem dX3_press_199 : decode cX3_press 199 = .ok (.goto (-36), 3) := by decide +kernel
theorem dX3_press_202 : decode cX3_press 202 = .ok (.aload_n 0, 1) := by decide +kernel
theorem dX3_press_203 : decode cX3_press 203 = .ok (.getfield 31, 3) := by decide +kernel
theorem dX3_press_206 : decode cX3_press 206 = .ok (.iload_n 1, 1) := by decide +kernel
theorem dX3_press_207 : decode cX3_press 207 = .ok (.dup2, 1) := by decide +kernel
theorem dX3_press_208 : decode cX3_press 208 = .ok (.iaload, 1) := by decide +kernel
theorem dX3_press_209 : decode cX3_press 209 = .ok (.iconst 1, 1) := by decide +kernel
theorem dX3_press_210 : decode cX3_press 210 = .ok (.isub, 1) := by decide +kernel
theorem dX3_press_211 : decode cX3_press 211 = .ok (.iastore, 1) := by decide +kernel
theorem dX3_press_212 : decode cX3_press 212 = .ok (.aload_n 0, 1) := by decide +kernel
theorem dX3_press_213 : decode cX3_press 213 = .ok (.getfield 34, 3) := by decide +kernel
theorem dX3_press_216 : decode cX3_press 216 = .ok (.bipush 30, 2) := by decide +kernel
theorem dX3_press_218 : decode cX3_press 218 = .ok (.iload_n 1, 1) := by decide +kernel
theorem dX3_press_219 : decode cX3_press 219 = .ok (.imul, 1) := by decide +kernel
theorem dX3_press_220 : decode cX3_press 220 = .ok (.aload_n 0, 1) := by decide +kernel
theorem dX3_press_221 : decode cX3_press 221 = .ok (.getfield 31, 3) := by decide +kernel
theorem dX3_press_224 : decode cX3_press 224 = .ok (.iload_n 1, 1) := by decide +kernel
theorem dX3_press_225 : decode cX3_press 225 = .ok (.iaload, 1) := by decide +kernel
theorem dX3_press_226 : decode cX3_press 226 = .ok (.iadd, 1) := by decide +kernel
theorem dX3_press_227 : decode cX3_press 227 = .ok (.iload_n 2, 1) := by decide +kernel
theorem dX3_press_228 : decode cX3_press 228 = .ok (.iastore, 1) := by decide +kernel
theorem dX3_press_229 : decode cX3_press 229 = .ok (.aload_n 0, 1) := by decide +kernel
theorem dX3_press_230 : decode cX3_press 230 = .ok (.getfield 31, 3) := by decide +kernel
theorem dX3_press_233 : decode cX3_press 233 = .ok (.iload_n 1, 1) := by decide +kernel
theorem dX3_press_234 : decode cX3_press 234 = .ok (.dup2, 1) := by decide +kernel
theorem dX3_press_235 : decode cX3_press 235 = .ok (.iaload, 1) := by decide +kernel
theorem dX3_press_236 : decode cX3_press 236 = .ok (.iconst 1, 1) := by decide +kernel
theorem dX3_press_237 : decode cX3_press 237 = .ok (.iadd, 1) := by decide +kernel
theorem dX3_press_238 : decode cX3_press 238 = .ok (.iastore, 1) := by decide +kernel
theorem dX3_press_239 : decode cX3_press 239 = .ok (.iload 5, 2) := by decide +kernel
theorem dX3_press_241 : decode cX3_press 241 = .ok (.ireturn, 1) := by decide +kernel
set_option maxRecDepth 20000 in
theorem ggX3_slips_X3_isStudent : GoodIn wsX3_slips wsX3_isStudent := goodIn_r _ [6, 7, 8, 9, 5, 10, 16, 17, 18, 19, 20, 21, 22, 23, 24, 25, 26, 27, 28, 29, 30, 31, 32] (by decide +kernel) (by decide +kernel)
set_option maxRecDepth 20000 in
theorem gX3_slips_X3_isStudent : GoodIn wsX3_slips (wsV RX3 76 RX3 yX3_isStudent wsX3_isStudent) := goodIn_app (goodIn_of _ (by decide +kernel)) ggX3_slips_X3_isStudent
set_option maxRecDepth 20000 in
theorem ggX3_slips_X3_is : GoodIn wsX3_slips wsX3_is := goodIn_r _ [10] (by decide +kernel) (by decide +kernel)
set_option maxRecDepth 20000 in
theorem gX3_slips_X3_is : GoodIn wsX3_slips (va_wsS RX3 56 yX3_is wsX3_is) := goodIn_app (goodIn_of _ (by decide +kernel)) ggX3_slips_X3_is
set_option maxRecDepth 20000 in
theorem ggX3_slips_X3_refused : GoodIn wsX3_slips wsX3_refused := goodIn_r _ [14, 15, 16, 17, 18, 19, 20, 21, 22, 23, 24, 25, 26, 27, 28, 29, 30, 31, 32] (by decide +kernel) (by decide +kernel)
set_option maxRecDepth 20000 in
theorem gX3_slips_X3_refused : GoodIn wsX3_slips (wsV RX3 72 RX3 yX3_refused wsX3_refused) := goodIn_app (goodIn_of _ (by decide +kernel)) ggX3_slips_X3_refused
theorem dX3_slips_0 : decode cX3_slips 0 = .ok (.iload_n 2, 1) := by decide +kernel
theorem dX3_slips_1 : decode cX3_slips 1 = .ok (.ifCond .ne 8, 3) := by decide +kernel
theorem dX3_slips_4 : decode cX3_slips 4 = .ok (.bipush 11, 2) := by decide +kernel
theorem dX3_slips_6 : decode cX3_slips 6 = .ok (.goto 22, 3) := by decide +kernel
theorem dX3_slips_9 : decode cX3_slips 9 = .ok (.iload_n 2, 1) := by decide +kernel
theorem dX3_slips_10 : decode cX3_slips 10 = .ok (.iconst 1, 1) := by decide +kernel
theorem dX3_slips_11 : decode cX3_slips 11 = .ok (.if_icmp .ne 7, 3) := by decide +kernel
theorem dX3_slips_14 : decode cX3_slips 14 = .ok (.iconst 5, 1) := by decide +kernel
theorem dX3_slips_15 : decode cX3_slips 15 = .ok (.goto 13, 3) := by decide +kernel
theorem dX3_slips_18 : decode cX3_slips 18 = .ok (.iload_n 2, 1) := by decide +kernel
theorem dX3_slips_19 : decode cX3_slips 19 = .ok (.iconst 2, 1) := by decide +kernel
theorem dX3_slips_20 : decode cX3_slips 20 = .ok (.if_icmp .ne 7, 3) := by decide +kernel
theorem dX3_slips_23 : decode cX3_slips 23 = .ok (.iconst 1, 1) := by decide +kernel
theorem dX3_slips_24 : decode cX3_slips 24 = .ok (.goto 4, 3) := by decide +kernel
theorem dX3_slips_27 : decode cX3_slips 27 = .ok (.iconst 0, 1) := by decide +kernel
theorem dX3_slips_28 : decode cX3_slips 28 = .ok (.istore 4, 2) := by decide +kernel
theorem dX3_slips_30 : decode cX3_slips 30 = .ok (.aload_n 0, 1) := by decide +kernel
theorem dX3_slips_31 : decode cX3_slips 31 = .ok (.aload_n 0, 1) := by decide +kernel
theorem dX3_slips_32 : decode cX3_slips 32 = .ok (.iload_n 1, 1) := by decide +kernel
theorem dX3_slips_33 : decode cX3_slips 33 = .ok (.invokevirtual 76, 3) := by decide +kernel
theorem dX3_slips_36 : decode cX3_slips 36 = .ok (.ifCond .ne 7, 3) := by decide +kernel
theorem dX3_slips_39 : decode cX3_slips 39 = .ok (.iconst 1, 1) := by decide +kernel
theorem dX3_slips_40 : decode cX3_slips 40 = .ok (.goto 27, 3) := by decide +kernel
theorem dX3_slips_43 : decode cX3_slips 43 = .ok (.iload_n 2, 1) := by decide +kernel
theorem dX3_slips_44 : decode cX3_slips 44 = .ok (.iconst 0, 1) := by decide +kernel
theorem dX3_slips_45 : decode cX3_slips 45 = .ok (.iconst 3, 1) := by decide +kernel
theorem dX3_slips_46 : decode cX3_slips 46 = .ok (.invokestatic 56, 3) := by decide +kernel
theorem dX3_slips_49 : decode cX3_slips 49 = .ok (.ifCond .eq 13, 3) := by decide +kernel
theorem dX3_slips_52 : decode cX3_slips 52 = .ok (.iload_n 3, 1) := by decide +kernel
theorem dX3_slips_53 : decode cX3_slips 53 = .ok (.iconst 0, 1) := by decide +kernel
theorem dX3_slips_54 : decode cX3_slips 54 = .ok (.iload 4, 2) := by decide +kernel
theorem dX3_slips_56 : decode cX3_slips 56 = .ok (.invokestatic 56, 3) := by decide +kernel
theorem dX3_slips_59 : decode cX3_slips 59 = .ok (.ifCond .ne 7, 3) := by decide +kernel
theorem dX3_slips_62 : decode cX3_slips 62 = .ok (.iconst 2, 1) := by decide +kernel
theorem dX3_slips_63 : decode cX3_slips 63 = .ok (.goto 4, 3) := by decide +kernel
theorem dX3_slips_66 : decode cX3_slips 66 = .ok (.iconst 0, 1) := by decide +kernel
theorem dX3_slips_67 : decode cX3_slips 67 = .ok (.invokevirtual 72, 3) := by decide +kernel
theorem dX3_slips_70 : decode cX3_slips 70 = .ok (.ifCond .eq 5, 3) := by decide +kernel
theorem dX3_slips_73 : decode cX3_slips 73 = .ok (.iconst 0, 1) := by decide +kernel
theorem dX3_slips_74 : decode cX3_slips 74 = .ok (.ireturn, 1) := by decide +kernel
theorem dX3_slips_75 : decode cX3_slips 75 = .ok (.iconst 0, 1) := by decide +kernel
theorem dX3_slips_76 : decode cX3_slips 76 = .ok (.istore 5, 2) := by decide +kernel
theorem dX3_slips_78 : decode cX3_slips 78 = .ok (.iconst 0, 1) := by decide +kernel
theorem dX3_slips_79 : decode cX3_slips 79 = .ok (.istore 6, 2) := by decide +kernel
theorem dX3_slips_81 : decode cX3_slips 81 = .ok (.iload 6, 2) := by decide +kernel
theorem dX3_slips_83 : decode cX3_slips 83 = .ok (.bipush 12, 2) := by decide +kernel
theorem dX3_slips_85 : decode cX3_slips 85 = .ok (.if_icmp .ge 76, 3) := by decide +kernel
theorem dX3_slips_88 : decode cX3_slips 88 = .ok (.iload_n 2, 1) := by decide +kernel
theorem dX3_slips_89 : decode cX3_slips 89 = .ok (.ifCond .ne 8, 3) := by decide +kernel
theorem dX3_slips_92 : decode cX3_slips 92 = .ok (.iload 6, 2) := by decide +kernel
theorem dX3_slips_94 : decode cX3_slips 94 = .ok (.goto 32, 3) := by decide +kernel
theorem dX3_slips_97 : decode cX3_slips 97 = .ok (.iload_n 2, 1) := by decide +kernel
theorem dX3_slips_98 : decode cX3_slips 98 = .ok (.iconst 1, 1) := by decide +kernel
theorem dX3_slips_99 : decode cX3_slips 99 = .ok (.if_icmp .ne 11, 3) := by decide +kernel
theorem dX3_slips_102 : decode cX3_slips 102 = .ok (.iload 6, 2) := by decide +kernel
theorem dX3_slips_104 : decode cX3_slips 104 = .ok (.bipush 6, 2) := by decide +kernel
theorem dX3_slips_106 : decode cX3_slips 106 = .ok (.irem, 1) := by decide +kernel
theorem dX3_slips_107 : decode cX3_slips 107 = .ok (.goto 19, 3) := by decide +kernel
theorem dX3_slips_110 : decode cX3_slips 110 = .ok (.iload_n 2, 1) := by decide +kernel
theorem dX3_slips_111 : decode cX3_slips 111 = .ok (.iconst 2, 1) := by decide +kernel
theorem dX3_slips_112 : decode cX3_slips 112 = .ok (.if_icmp .ne 13, 3) := by decide +kernel
theorem dX3_slips_115 : decode cX3_slips 115 = .ok (.iload 6, 2) := by decide +kernel
theorem dX3_slips_117 : decode cX3_slips 117 = .ok (.bipush 6, 2) := by decide +kernel
theorem dX3_slips_119 : decode cX3_slips 119 = .ok (.irem, 1) := by decide +kernel
theorem dX3_slips_120 : decode cX3_slips 120 = .ok (.iconst 3, 1) := by decide +kernel
theorem dX3_slips_121 : decode cX3_slips 121 = .ok (.idiv, 1) := by decide +kernel
theorem dX3_slips_122 : decode cX3_slips 122 = .ok (.goto 4, 3) := by decide +kernel
theorem dX3_slips_125 : decode cX3_slips 125 = .ok (.iconst 0, 1) := by decide +kernel
theorem dX3_slips_126 : decode cX3_slips 126 = .ok (.istore 7, 2) := by decide +kernel
theorem dX3_slips_128 : decode cX3_slips 128 = .ok (.iload 5, 2) := by decide +kernel
theorem dX3_slips_130 : decode cX3_slips 130 = .ok (.iload 7, 2) := by decide +kernel
theorem dX3_slips_132 : decode cX3_slips 132 = .ok (.iload_n 3, 1) := by decide +kernel
theorem dX3_slips_133 : decode cX3_slips 133 = .ok (.if_icmp .ne 18, 3) := by decide +kernel
theorem dX3_slips_136 : decode cX3_slips 136 = .ok (.aload_n 0, 1) := by decide +kernel
theorem dX3_slips_137 : decode cX3_slips 137 = .ok (.getfield 19, 3) := by decide +kernel
theorem dX3_slips_140 : decode cX3_slips 140 = .ok (.bipush 12, 2) := by decide +kernel
theorem dX3_slips_142 : decode cX3_slips 142 = .ok (.iload_n 1, 1) := by decide +kernel
theorem dX3_slips_143 : decode cX3_slips 143 = .ok (.imul, 1) := by decide +kernel
theorem dX3_slips_144 : decode cX3_slips 144 = .ok (.iload 6, 2) := by decide +kernel
theorem dX3_slips_146 : decode cX3_slips 146 = .ok (.iadd, 1) := by decide +kernel
theorem dX3_slips_147 : decode cX3_slips 147 = .ok (.iaload, 1) := by decide +kernel
theorem dX3_slips_148 : decode cX3_slips 148 = .ok (.goto 4, 3) := by decide +kernel
theorem dX3_slips_151 : decode cX3_slips 151 = .ok (.iconst 0, 1) := by decide +kernel
theorem dX3_slips_152 : decode cX3_slips 152 = .ok (.iadd, 1) := by decide +kernel
theorem dX3_slips_153 : decode cX3_slips 153 = .ok (.istore 5, 2) := by decide +kernel
theorem dX3_slips_155 : decode cX3_slips 155 = .ok (.iinc 6 1, 3) := by decide +kernel
theorem dX3_slips_158 : decode cX3_slips 158 = .ok (.goto (-77), 3) := by decide +kernel
theorem dX3_slips_161 : decode cX3_slips 161 = .ok (.iload 5, 2) := by decide +kernel
theorem dX3_slips_163 : decode cX3_slips 163 = .ok (.ireturn, 1) := by decide +kernel
set_option maxRecDepth 20000 in
theorem ggX3_pair_X3_isStudent : GoodIn wsX3_pair wsX3_isStudent := goodIn_r _ [6, 7, 8, 9, 5, 10, 19, 20, 21, 22, 23, 24, 25, 26, 27, 28, 29, 30, 31, 32, 33, 34, 35] (by decide +kernel) (by decide +kernel)
set_option maxRecDepth 20000 in
theorem gX3_pair_X3_isStudent : GoodIn wsX3_pair (wsV RX3 76 RX3 yX3_isStudent wsX3_isStudent) := goodIn_app (goodIn_of _ (by decide +kernel)) ggX3_pair_X3_isStudent
set_option maxRecDepth 20000 in
theorem ggX3_pair_X3_isKey : GoodIn wsX3_pair wsX3_isKey := goodIn_r _ [13, 8, 9, 5, 10] (by decide +kernel) (by decide +kernel)
set_option maxRecDepth 20000 in
theorem gX3_pair_X3_isKey : GoodIn wsX3_pair (va_wsS RX3 79 yX3_isKey wsX3_isKey) := goodIn_app (goodIn_of _ (by decide +kernel)) ggX3_pair_X3_isKey
set_option maxRecDepth 20000 in
theorem ggX3_pair_X3_refused : GoodIn wsX3_pair wsX3_refused := goodIn_r _ [17, 18, 19, 20, 21, 22, 23, 24, 25, 26, 27, 28, 29, 30, 31, 32, 33, 34, 35] (by decide +kernel) (by decide +kernel)
set_option maxRecDepth 20000 in
theorem gX3_pair_X3_refused : GoodIn wsX3_pair (wsV RX3 72 RX3 yX3_refused wsX3_refused) := goodIn_app (goodIn_of _ (by decide +kernel)) ggX3_pair_X3_refused
theorem dX3_pair_0 : decode cX3_pair 0 = .ok (.aload_n 0, 1) := by decide +kernel
theorem dX3_pair_1 : decode cX3_pair 1 = .ok (.iload_n 1, 1) := by decide +kernel
theorem dX3_pair_2 : decode cX3_pair 2 = .ok (.invokevirtual 76, 3) := by decide +kernel
theorem dX3_pair_5 : decode cX3_pair 5 = .ok (.ifCond .eq 21, 3) := by decide +kernel
theorem dX3_pair_8 : decode cX3_pair 8 = .ok (.iload_n 2, 1) := by decide +kernel
theorem dX3_pair_9 : decode cX3_pair 9 = .ok (.invokestatic 79, 3) := by decide +kernel
theorem dX3_pair_12 : decode cX3_pair 12 = .ok (.ifCond .eq 14, 3) := by decide +kernel
theorem dX3_pair_15 : decode cX3_pair 15 = .ok (.iload_n 3, 1) := by decide +kernel
theorem dX3_pair_16 : decode cX3_pair 16 = .ok (.invokestatic 79, 3) := by decide +kernel
theorem dX3_pair_19 : decode cX3_pair 19 = .ok (.ifCond .eq 7, 3) := by decide +kernel
theorem dX3_pair_22 : decode cX3_pair 22 = .ok (.iconst 1, 1) := by decide +kernel
theorem dX3_pair_23 : decode cX3_pair 23 = .ok (.goto 4, 3) := by decide +kernel
theorem dX3_pair_26 : decode cX3_pair 26 = .ok (.iconst 0, 1) := by decide +kernel
theorem dX3_pair_27 : decode cX3_pair 27 = .ok (.istore 4, 2) := by decide +kernel
theorem dX3_pair_29 : decode cX3_pair 29 = .ok (.aload_n 0, 1) := by decide +kernel
theorem dX3_pair_30 : decode cX3_pair 30 = .ok (.iload 4, 2) := by decide +kernel
theorem dX3_pair_32 : decode cX3_pair 32 = .ok (.ifCond .eq 7, 3) := by decide +kernel
theorem dX3_pair_35 : decode cX3_pair 35 = .ok (.iconst 0, 1) := by decide +kernel
theorem dX3_pair_36 : decode cX3_pair 36 = .ok (.goto 4, 3) := by decide +kernel
theorem dX3_pair_39 : decode cX3_pair 39 = .ok (.iconst 1, 1) := by decide +kernel
theorem dX3_pair_40 : decode cX3_pair 40 = .ok (.invokevirtual 72, 3) := by decide +kernel
theorem dX3_pair_43 : decode cX3_pair 43 = .ok (.ifCond .eq 7, 3) := by decide +kernel
theorem dX3_pair_46 : decode cX3_pair 46 = .ok (.iconst 0, 1) := by decide +kernel
theorem dX3_pair_47 : decode cX3_pair 47 = .ok (.goto 20, 3) := by decide +kernel
theorem dX3_pair_50 : decode cX3_pair 50 = .ok (.aload_n 0, 1) := by decide +kernel
theorem dX3_pair_51 : decode cX3_pair 51 = .ok (.getfield 22, 3) := by decide +kernel
theorem dX3_pair_54 : decode cX3_pair 54 = .ok (.sipush 144, 3) := by decide +kernel
theorem dX3_pair_57 : decode cX3_pair 57 = .ok (.iload_n 1, 1) := by decide +kernel
theorem dX3_pair_58 : decode cX3_pair 58 = .ok (.imul, 1) := by decide +kernel
theorem dX3_pair_59 : decode cX3_pair 59 = .ok (.bipush 12, 2) := by decide +kernel
theorem dX3_pair_61 : decode cX3_pair 61 = .ok (.iload_n 2, 1) := by decide +kernel
theorem dX3_pair_62 : decode cX3_pair 62 = .ok (.imul, 1) := by decide +kernel
theorem dX3_pair_63 : decode cX3_pair 63 = .ok (.iadd, 1) := by decide +kernel
theorem dX3_pair_64 : decode cX3_pair 64 = .ok (.iload_n 3, 1) := by decide +kernel
theorem dX3_pair_65 : decode cX3_pair 65 = .ok (.iadd, 1) := by decide +kernel
theorem dX3_pair_66 : decode cX3_pair 66 = .ok (.iaload, 1) := by decide +kernel
theorem dX3_pair_67 : decode cX3_pair 67 = .ok (.ireturn, 1) := by decide +kernel
set_option maxRecDepth 20000 in
theorem ggX3_pressed_X3_isStudent : GoodIn wsX3_pressed wsX3_isStudent := goodIn_r _ [6, 7, 8, 9, 5, 10, 16, 17, 18, 19, 20, 21, 22, 23, 24, 25, 26, 27, 28, 29, 30, 31, 32] (by decide +kernel) (by decide +kernel)
set_option maxRecDepth 20000 in
theorem gX3_pressed_X3_isStudent : GoodIn wsX3_pressed (wsV RX3 76 RX3 yX3_isStudent wsX3_isStudent) := goodIn_app (goodIn_of _ (by decide +kernel)) ggX3_pressed_X3_isStudent
set_option maxRecDepth 20000 in
theorem ggX3_pressed_X3_refused : GoodIn wsX3_pressed wsX3_refused := goodIn_r _ [14, 15, 16, 17, 18, 19, 20, 21, 22, 23, 24, 25, 26, 27, 28, 29, 30, 31, 32] (by decide +kernel) (by decide +kernel)
set_option maxRecDepth 20000 in
theorem gX3_pressed_X3_refused : GoodIn wsX3_pressed (wsV RX3 72 RX3 yX3_refused wsX3_refused) := goodIn_app (goodIn_of _ (by decide +kernel)) ggX3_pressed_X3_refused
theorem dX3_pressed_0 : decode cX3_pressed 0 = .ok (.aload_n 0, 1) := by decide +kernel
theorem dX3_pressed_1 : decode cX3_pressed 1 = .ok (.aload_n 0, 1) := by decide +kernel
theorem dX3_pressed_2 : decode cX3_pressed 2 = .ok (.iload_n 1, 1) := by decide +kernel
theorem dX3_pressed_3 : decode cX3_pressed 3 = .ok (.invokevirtual 76, 3) := by decide +kernel
theorem dX3_pressed_6 : decode cX3_pressed 6 = .ok (.ifCond .eq 7, 3) := by decide +kernel
theorem dX3_pressed_9 : decode cX3_pressed 9 = .ok (.iconst 0, 1) := by decide +kernel
theorem dX3_pressed_10 : decode cX3_pressed 10 = .ok (.goto 4, 3) := by decide +kernel
theorem dX3_pressed_13 : decode cX3_pressed 13 = .ok (.iconst 1, 1) := by decide +kernel
theorem dX3_pressed_14 : decode cX3_pressed 14 = .ok (.invokevirtual 72, 3) := by decide +kernel
theorem dX3_pressed_17 : decode cX3_pressed 17 = .ok (.ifCond .eq 7, 3) := by decide +kernel
theorem dX3_pressed_20 : decode cX3_pressed 20 = .ok (.iconst 0, 1) := by decide +kernel
theorem dX3_pressed_21 : decode cX3_pressed 21 = .ok (.goto 9, 3) := by decide +kernel
theorem dX3_pressed_24 : decode cX3_pressed 24 = .ok (.aload_n 0, 1) := by decide +kernel
theorem dX3_pressed_25 : decode cX3_pressed 25 = .ok (.getfield 25, 3) := by decide +kernel
theorem dX3_pressed_28 : decode cX3_pressed 28 = .ok (.iload_n 1, 1) := by decide +kernel
theorem dX3_pressed_29 : decode cX3_pressed 29 = .ok (.iaload, 1) := by decide +kernel
theorem dX3_pressed_30 : decode cX3_pressed 30 = .ok (.ireturn, 1) := by decide +kernel
set_option maxRecDepth 20000 in
theorem ggX3_history_X3_isStudent : GoodIn wsX3_history wsX3_isStudent := goodIn_r _ [7, 8, 9, 10, 6, 11, 17, 18, 19, 20, 21, 22, 23, 24, 25, 26, 27, 28, 29, 30, 31, 32, 33] (by decide +kernel) (by decide +kernel)
set_option maxRecDepth 20000 in
theorem gX3_history_X3_isStudent : GoodIn wsX3_history (wsV RX3 76 RX3 yX3_isStudent wsX3_isStudent) := goodIn_app (goodIn_of _ (by decide +kernel)) ggX3_history_X3_isStudent
set_option maxRecDepth 20000 in
theorem ggX3_history_X3_refused : GoodIn wsX3_history wsX3_refused := goodIn_r _ [15, 16, 17, 18, 19, 20, 21, 22, 23, 24, 25, 26, 27, 28, 29, 30, 31, 32, 33] (by decide +kernel) (by decide +kernel)
set_option maxRecDepth 20000 in
theorem gX3_history_X3_refused : GoodIn wsX3_history (wsV RX3 72 RX3 yX3_refused wsX3_refused) := goodIn_app (goodIn_of _ (by decide +kernel)) ggX3_history_X3_refused
theorem dX3_history_0 : decode cX3_history 0 = .ok (.aload_n 0, 1) := by decide +kernel
theorem dX3_history_1 : decode cX3_history 1 = .ok (.aload_n 0, 1) := by decide +kernel
theorem dX3_history_2 : decode cX3_history 2 = .ok (.iload_n 1, 1) := by decide +kernel
theorem dX3_history_3 : decode cX3_history 3 = .ok (.invokevirtual 76, 3) := by decide +kernel
theorem dX3_history_6 : decode cX3_history 6 = .ok (.ifCond .eq 11, 3) := by decide +kernel
theorem dX3_history_9 : decode cX3_history 9 = .ok (.iload_n 2, 1) := by decide +kernel
theorem dX3_history_10 : decode cX3_history 10 = .ok (.ifCond .lt 7, 3) := by decide +kernel
theorem dX3_history_13 : decode cX3_history 13 = .ok (.iconst 0, 1) := by decide +kernel
theorem dX3_history_14 : decode cX3_history 14 = .ok (.goto 4, 3) := by decide +kernel
theorem dX3_history_17 : decode cX3_history 17 = .ok (.iconst 1, 1) := by decide +kernel
theorem dX3_history_18 : decode cX3_history 18 = .ok (.invokevirtual 72, 3) := by decide +kernel
theorem dX3_history_21 : decode cX3_history 21 = .ok (.ifCond .eq 5, 3) := by decide +kernel
theorem dX3_history_24 : decode cX3_history 24 = .ok (.iconst 0, 1) := by decide +kernel
theorem dX3_history_25 : decode cX3_history 25 = .ok (.ireturn, 1) := by decide +kernel
theorem dX3_history_26 : decode cX3_history 26 = .ok (.iload_n 2, 1) := by decide +kernel
theorem dX3_history_27 : decode cX3_history 27 = .ok (.aload_n 0, 1) := by decide +kernel
theorem dX3_history_28 : decode cX3_history 28 = .ok (.getfield 31, 3) := by decide +kernel
theorem dX3_history_31 : decode cX3_history 31 = .ok (.iload_n 1, 1) := by decide +kernel
theorem dX3_history_32 : decode cX3_history 32 = .ok (.iaload, 1) := by decide +kernel
theorem dX3_history_33 : decode cX3_history 33 = .ok (.if_icmp .ge 17, 3) := by decide +kernel
theorem dX3_history_36 : decode cX3_history 36 = .ok (.aload_n 0, 1) := by decide +kernel
theorem dX3_history_37 : decode cX3_history 37 = .ok (.getfield 34, 3) := by decide +kernel
theorem dX3_history_40 : decode cX3_history 40 = .ok (.bipush 30, 2) := by decide +kernel
theorem dX3_history_42 : decode cX3_history 42 = .ok (.iload_n 1, 1) := by decide +kernel
theorem dX3_history_43 : decode cX3_history 43 = .ok (.imul, 1) := by decide +kernel
theorem dX3_history_44 : decode cX3_history 44 = .ok (.iload_n 2, 1) := by decide +kernel
theorem dX3_history_45 : decode cX3_history 45 = .ok (.iadd, 1) := by decide +kernel
theorem dX3_history_46 : decode cX3_history 46 = .ok (.iaload, 1) := by decide +kernel
theorem dX3_history_47 : decode cX3_history 47 = .ok (.goto 4, 3) := by decide +kernel
theorem dX3_history_50 : decode cX3_history 50 = .ok (.iconst (-1), 1) := by decide +kernel
theorem dX3_history_51 : decode cX3_history 51 = .ok (.ireturn, 1) := by decide +kernel
set_option maxRecDepth 20000 in
theorem ggX3_time_X3_isStudent : GoodIn wsX3_time wsX3_isStudent := goodIn_r _ [5, 6, 7, 8, 4, 9, 29, 30, 31, 32, 33, 34, 35, 36, 37, 38, 39, 40, 41, 42, 43, 44, 45] (by decide +kernel) (by decide +kernel)
set_option maxRecDepth 20000 in
theorem gX3_time_X3_isStudent : GoodIn wsX3_time (wsV RX3 76 RX3 yX3_isStudent wsX3_isStudent) := goodIn_app (goodIn_of _ (by decide +kernel)) ggX3_time_X3_isStudent
set_option maxRecDepth 20000 in
theorem ggX3_time_X3_refused : GoodIn wsX3_time wsX3_refused := goodIn_r _ [13, 14, 29, 30, 31, 32, 33, 34, 35, 36, 37, 38, 39, 40, 41, 42, 43, 44, 45] (by decide +kernel) (by decide +kernel)
set_option maxRecDepth 20000 in
theorem gX3_time_X3_refused : GoodIn wsX3_time (wsV RX3 72 RX3 yX3_refused wsX3_refused) := goodIn_app (goodIn_of _ (by decide +kernel)) ggX3_time_X3_refused
set_option maxRecDepth 20000 in
theorem ggX3_time_X3_timeWith : GoodIn wsX3_time wsX3_timeWith := goodIn_r _ [18, 19, 20, 21, 22, 23, 4, 24, 25, 26, 27, 28, 29, 30, 31, 32, 33, 34, 35, 36, 37, 38, 39, 40, 41, 42, 43, 44, 45] (by decide +kernel) (by decide +kernel)
set_option maxRecDepth 20000 in
theorem gX3_time_X3_timeWith : GoodIn wsX3_time (wsV RX3 68 RX3 yX3_timeWith wsX3_timeWith) := goodIn_app (goodIn_of _ (by decide +kernel)) ggX3_time_X3_timeWith
theorem dX3_time_0 : decode cX3_time 0 = .ok (.aload_n 0, 1) := by decide +kernel
theorem dX3_time_1 : decode cX3_time 1 = .ok (.aload_n 0, 1) := by decide +kernel
theorem dX3_time_2 : decode cX3_time 2 = .ok (.iload_n 1, 1) := by decide +kernel
theorem dX3_time_3 : decode cX3_time 3 = .ok (.invokevirtual 76, 3) := by decide +kernel
theorem dX3_time_6 : decode cX3_time 6 = .ok (.ifCond .eq 7, 3) := by decide +kernel
theorem dX3_time_9 : decode cX3_time 9 = .ok (.iconst 0, 1) := by decide +kernel
theorem dX3_time_10 : decode cX3_time 10 = .ok (.goto 4, 3) := by decide +kernel
theorem dX3_time_13 : decode cX3_time 13 = .ok (.iconst 1, 1) := by decide +kernel
theorem dX3_time_14 : decode cX3_time 14 = .ok (.invokevirtual 72, 3) := by decide +kernel
theorem dX3_time_17 : decode cX3_time 17 = .ok (.ifCond .eq 7, 3) := by decide +kernel
theorem dX3_time_20 : decode cX3_time 20 = .ok (.iconst 0, 1) := by decide +kernel
theorem dX3_time_21 : decode cX3_time 21 = .ok (.goto 10, 3) := by decide +kernel
theorem dX3_time_24 : decode cX3_time 24 = .ok (.aload_n 0, 1) := by decide +kernel
theorem dX3_time_25 : decode cX3_time 25 = .ok (.iload_n 1, 1) := by decide +kernel
theorem dX3_time_26 : decode cX3_time 26 = .ok (.iconst 0, 1) := by decide +kernel
theorem dX3_time_27 : decode cX3_time 27 = .ok (.iconst 0, 1) := by decide +kernel
theorem dX3_time_28 : decode cX3_time 28 = .ok (.invokevirtual 68, 3) := by decide +kernel
theorem dX3_time_31 : decode cX3_time 31 = .ok (.ireturn, 1) := by decide +kernel
set_option maxRecDepth 20000 in
theorem ggX3_timeAnew_X3_time : GoodIn wsX3_timeAnew wsX3_time := goodIn_r _ [5, 6, 7, 8, 4, 9, 10, 11, 12, 13, 14, 15, 16, 17, 18, 19, 20, 21, 22, 23, 24, 25, 26, 27, 28, 29, 30, 31, 32, 33, 34, 35, 36, 37, 38, 39, 40, 41, 42, 43, 44, 45, 46, 47, 48, 49] (by decide +kernel) (by decide +kernel)
set_option maxRecDepth 20000 in
theorem gX3_timeAnew_X3_time : GoodIn wsX3_timeAnew (wsV RX3 88 RX3 yX3_time wsX3_time) := goodIn_app (goodIn_of _ (by decide +kernel)) ggX3_timeAnew_X3_time
theorem dX3_timeAnew_0 : decode cX3_timeAnew 0 = .ok (.aload_n 0, 1) := by decide +kernel
theorem dX3_timeAnew_1 : decode cX3_timeAnew 1 = .ok (.iload_n 1, 1) := by decide +kernel
theorem dX3_timeAnew_2 : decode cX3_timeAnew 2 = .ok (.invokevirtual 88, 3) := by decide +kernel
theorem dX3_timeAnew_5 : decode cX3_timeAnew 5 = .ok (.ireturn, 1) := by decide +kernel
set_option maxRecDepth 20000 in
theorem ggX3_lesson_X3_isStudent : GoodIn wsX3_lesson wsX3_isStudent := goodIn_r _ [7, 8, 9, 10, 6, 11, 17, 18, 19, 20, 21, 22, 23, 24, 25, 26, 27, 28, 29, 30, 31, 32, 33] (by decide +kernel) (by decide +kernel)
set_option maxRecDepth 20000 in
theorem gX3_lesson_X3_isStudent : GoodIn wsX3_lesson (wsV RX3 76 RX3 yX3_isStudent wsX3_isStudent) := goodIn_app (goodIn_of _ (by decide +kernel)) ggX3_lesson_X3_isStudent
set_option maxRecDepth 20000 in
theorem ggX3_lesson_X3_is : GoodIn wsX3_lesson wsX3_is := goodIn_r _ [11] (by decide +kernel) (by decide +kernel)
set_option maxRecDepth 20000 in
theorem gX3_lesson_X3_is : GoodIn wsX3_lesson (va_wsS RX3 56 yX3_is wsX3_is) := goodIn_app (goodIn_of _ (by decide +kernel)) ggX3_lesson_X3_is
set_option maxRecDepth 20000 in
theorem ggX3_lesson_X3_refused : GoodIn wsX3_lesson wsX3_refused := goodIn_r _ [15, 16, 17, 18, 19, 20, 21, 22, 23, 24, 25, 26, 27, 28, 29, 30, 31, 32, 33] (by decide +kernel) (by decide +kernel)
set_option maxRecDepth 20000 in
theorem gX3_lesson_X3_refused : GoodIn wsX3_lesson (wsV RX3 72 RX3 yX3_refused wsX3_refused) := goodIn_app (goodIn_of _ (by decide +kernel)) ggX3_lesson_X3_refused
theorem dX3_lesson_0 : decode cX3_lesson 0 = .ok (.aload_n 0, 1) := by decide +kernel
theorem dX3_lesson_1 : decode cX3_lesson 1 = .ok (.aload_n 0, 1) := by decide +kernel
theorem dX3_lesson_2 : decode cX3_lesson 2 = .ok (.iload_n 1, 1) := by decide +kernel
theorem dX3_lesson_3 : decode cX3_lesson 3 = .ok (.invokevirtual 76, 3) := by decide +kernel
theorem dX3_lesson_6 : decode cX3_lesson 6 = .ok (.ifCond .eq 17, 3) := by decide +kernel
theorem dX3_lesson_9 : decode cX3_lesson 9 = .ok (.iload_n 2, 1) := by decide +kernel
theorem dX3_lesson_10 : decode cX3_lesson 10 = .ok (.iconst 0, 1) := by decide +kernel
theorem dX3_lesson_11 : decode cX3_lesson 11 = .ok (.bipush 99, 2) := by decide +kernel
theorem dX3_lesson_13 : decode cX3_lesson 13 = .ok (.invokestatic 56, 3) := by decide +kernel
theorem dX3_lesson_16 : decode cX3_lesson 16 = .ok (.ifCond .eq 7, 3) := by decide +kernel
theorem dX3_lesson_19 : decode cX3_lesson 19 = .ok (.iconst 0, 1) := by decide +kernel
theorem dX3_lesson_20 : decode cX3_lesson 20 = .ok (.goto 4, 3) := by decide +kernel
theorem dX3_lesson_23 : decode cX3_lesson 23 = .ok (.iconst 1, 1) := by decide +kernel
theorem dX3_lesson_24 : decode cX3_lesson 24 = .ok (.invokevirtual 72, 3) := by decide +kernel
theorem dX3_lesson_27 : decode cX3_lesson 27 = .ok (.ifCond .eq 5, 3) := by decide +kernel
theorem dX3_lesson_30 : decode cX3_lesson 30 = .ok (.iconst 0, 1) := by decide +kernel
theorem dX3_lesson_31 : decode cX3_lesson 31 = .ok (.ireturn, 1) := by decide +kernel
theorem dX3_lesson_32 : decode cX3_lesson 32 = .ok (.iconst (-1), 1) := by decide +kernel
theorem dX3_lesson_33 : decode cX3_lesson 33 = .ok (.istore_n 3, 1) := by decide +kernel
theorem dX3_lesson_34 : decode cX3_lesson 34 = .ok (.iconst 0, 1) := by decide +kernel
theorem dX3_lesson_35 : decode cX3_lesson 35 = .ok (.istore 4, 2) := by decide +kernel
theorem dX3_lesson_37 : decode cX3_lesson 37 = .ok (.iload 4, 2) := by decide +kernel
theorem dX3_lesson_39 : decode cX3_lesson 39 = .ok (.bipush 12, 2) := by decide +kernel
theorem dX3_lesson_41 : decode cX3_lesson 41 = .ok (.if_icmp .ge 122, 3) := by decide +kernel
theorem dX3_lesson_44 : decode cX3_lesson 44 = .ok (.aload_n 0, 1) := by decide +kernel
theorem dX3_lesson_45 : decode cX3_lesson 45 = .ok (.getfield 19, 3) := by decide +kernel
theorem dX3_lesson_48 : decode cX3_lesson 48 = .ok (.bipush 12, 2) := by decide +kernel
theorem dX3_lesson_50 : decode cX3_lesson 50 = .ok (.iload_n 1, 1) := by decide +kernel
theorem dX3_lesson_51 : decode cX3_lesson 51 = .ok (.imul, 1) := by decide +kernel
theorem dX3_lesson_52 : decode cX3_lesson 52 = .ok (.aload_n 0, 1) := by decide +kernel
theorem dX3_lesson_53 : decode cX3_lesson 53 = .ok (.getfield 7, 3) := by decide +kernel
theorem dX3_lesson_56 : decode cX3_lesson 56 = .ok (.bipush 12, 2) := by decide +kernel
theorem dX3_lesson_58 : decode cX3_lesson 58 = .ok (.iload_n 1, 1) := by decide +kernel
theorem dX3_lesson_59 : decode cX3_lesson 59 = .ok (.imul, 1) := by decide +kernel
theorem dX3_lesson_60 : decode cX3_lesson 60 = .ok (.iload 4, 2) := by decide +kernel
theorem dX3_lesson_62 : decode cX3_lesson 62 = .ok (.iadd, 1) := by decide +kernel
theorem dX3_lesson_63 : decode cX3_lesson 63 = .ok (.iaload, 1) := by decide +kernel
theorem dX3_lesson_64 : decode cX3_lesson 64 = .ok (.iadd, 1) := by decide +kernel
theorem dX3_lesson_65 : decode cX3_lesson 65 = .ok (.iaload, 1) := by decide +kernel
theorem dX3_lesson_66 : decode cX3_lesson 66 = .ok (.istore 5, 2) := by decide +kernel
theorem dX3_lesson_68 : decode cX3_lesson 68 = .ok (.iconst 0, 1) := by decide +kernel
theorem dX3_lesson_69 : decode cX3_lesson 69 = .ok (.istore 6, 2) := by decide +kernel
theorem dX3_lesson_71 : decode cX3_lesson 71 = .ok (.iconst 0, 1) := by decide +kernel
theorem dX3_lesson_72 : decode cX3_lesson 72 = .ok (.istore 7, 2) := by decide +kernel
theorem dX3_lesson_74 : decode cX3_lesson 74 = .ok (.iload 7, 2) := by decide +kernel
theorem dX3_lesson_76 : decode cX3_lesson 76 = .ok (.bipush 12, 2) := by decide +kernel
theorem dX3_lesson_78 : decode cX3_lesson 78 = .ok (.if_icmp .ge 64, 3) := by decide +kernel
theorem dX3_lesson_81 : decode cX3_lesson 81 = .ok (.aload_n 0, 1) := by decide +kernel
theorem dX3_lesson_82 : decode cX3_lesson 82 = .ok (.getfield 19, 3) := by decide +kernel
theorem dX3_lesson_85 : decode cX3_lesson 85 = .ok (.bipush 12, 2) := by decide +kernel
theorem dX3_lesson_87 : decode cX3_lesson 87 = .ok (.iload_n 1, 1) := by decide +kernel
theorem dX3_lesson_88 : decode cX3_lesson 88 = .ok (.imul, 1) := by decide +kernel
theorem dX3_lesson_89 : decode cX3_lesson 89 = .ok (.aload_n 0, 1) := by decide +kernel
theorem dX3_lesson_90 : decode cX3_lesson 90 = .ok (.getfield 7, 3) := by decide +kernel
theorem dX3_lesson_93 : decode cX3_lesson 93 = .ok (.bipush 12, 2) := by decide +kernel
theorem dX3_lesson_95 : decode cX3_lesson 95 = .ok (.iload_n 1, 1) := by decide +kernel
theorem dX3_lesson_96 : decode cX3_lesson 96 = .ok (.imul, 1) := by decide +kernel
theorem dX3_lesson_97 : decode cX3_lesson 97 = .ok (.iload 7, 2) := by decide +kernel
theorem dX3_lesson_99 : decode cX3_lesson 99 = .ok (.iadd, 1) := by decide +kernel
theorem dX3_lesson_100 : decode cX3_lesson 100 = .ok (.iaload, 1) := by decide +kernel
theorem dX3_lesson_101 : decode cX3_lesson 101 = .ok (.iadd, 1) := by decide +kernel
theorem dX3_lesson_102 : decode cX3_lesson 102 = .ok (.iaload, 1) := by decide +kernel
theorem dX3_lesson_103 : decode cX3_lesson 103 = .ok (.istore 8, 2) := by decide +kernel
theorem dX3_lesson_105 : decode cX3_lesson 105 = .ok (.iload 6, 2) := by decide +kernel
theorem dX3_lesson_107 : decode cX3_lesson 107 = .ok (.iload 8, 2) := by decide +kernel
theorem dX3_lesson_109 : decode cX3_lesson 109 = .ok (.iload 5, 2) := by decide +kernel
theorem dX3_lesson_111 : decode cX3_lesson 111 = .ok (.if_icmp .gt 17, 3) := by decide +kernel
theorem dX3_lesson_114 : decode cX3_lesson 114 = .ok (.iload 8, 2) := by decide +kernel
theorem dX3_lesson_116 : decode cX3_lesson 116 = .ok (.iload 5, 2) := by decide +kernel
theorem dX3_lesson_118 : decode cX3_lesson 118 = .ok (.if_icmp .ne 14, 3) := by decide +kernel
theorem dX3_lesson_121 : decode cX3_lesson 121 = .ok (.iload 7, 2) := by decide +kernel
theorem dX3_lesson_123 : decode cX3_lesson 123 = .ok (.iload 4, 2) := by decide +kernel
theorem dX3_lesson_125 : decode cX3_lesson 125 = .ok (.if_icmp .ge 7, 3) := by decide +kernel
theorem dX3_lesson_128 : decode cX3_lesson 128 = .ok (.iconst 1, 1) := by decide +kernel
theorem dX3_lesson_129 : decode cX3_lesson 129 = .ok (.goto 4, 3) := by decide +kernel
theorem dX3_lesson_132 : decode cX3_lesson 132 = .ok (.iconst 0, 1) := by decide +kernel
theorem dX3_lesson_133 : decode cX3_lesson 133 = .ok (.iadd, 1) := by decide +kernel
theorem dX3_lesson_134 : decode cX3_lesson 134 = .ok (.istore 6, 2) := by decide +kernel
theorem dX3_lesson_136 : decode cX3_lesson 136 = .ok (.iinc 7 1, 3) := by decide +kernel
theorem dX3_lesson_139 : decode cX3_lesson 139 = .ok (.goto (-65), 3) := by decide +kernel
theorem dX3_lesson_142 : decode cX3_lesson 142 = .ok (.iload 6, 2) := by decide +kernel
theorem dX3_lesson_144 : decode cX3_lesson 144 = .ok (.iload_n 2, 1) := by decide +kernel
theorem dX3_lesson_145 : decode cX3_lesson 145 = .ok (.iconst 3, 1) := by decide +kernel
theorem dX3_lesson_146 : decode cX3_lesson 146 = .ok (.irem, 1) := by decide +kernel
theorem dX3_lesson_147 : decode cX3_lesson 147 = .ok (.if_icmp .ne 8, 3) := by decide +kernel
theorem dX3_lesson_150 : decode cX3_lesson 150 = .ok (.iload 4, 2) := by decide +kernel
theorem dX3_lesson_152 : decode cX3_lesson 152 = .ok (.goto 4, 3) := by decide +kernel
theorem dX3_lesson_155 : decode cX3_lesson 155 = .ok (.iload_n 3, 1) := by decide +kernel
theorem dX3_lesson_156 : decode cX3_lesson 156 = .ok (.istore_n 3, 1) := by decide +kernel
theorem dX3_lesson_157 : decode cX3_lesson 157 = .ok (.iinc 4 1, 3) := by decide +kernel
theorem dX3_lesson_160 : decode cX3_lesson 160 = .ok (.goto (-123), 3) := by decide +kernel
theorem dX3_lesson_163 : decode cX3_lesson 163 = .ok (.iload_n 3, 1) := by decide +kernel
theorem dX3_lesson_164 : decode cX3_lesson 164 = .ok (.ireturn, 1) := by decide +kernel
set_option maxRecDepth 20000 in
theorem ggX3_saves_X3_why : GoodIn wsX3_saves wsX3_why := goodIn_r _ [5, 6, 7, 8, 4, 9, 10, 11, 12, 13, 14, 15, 16, 40, 41, 42, 43, 44, 45, 46, 47, 48, 49, 50, 51, 52, 53, 54, 55, 56] (by decide +kernel) (by decide +kernel)
set_option maxRecDepth 20000 in
theorem gX3_saves_X3_why : GoodIn wsX3_saves (wsV RX3 82 RX3 yX3_why wsX3_why) := goodIn_app (goodIn_of _ (by decide +kernel)) ggX3_saves_X3_why
set_option maxRecDepth 20000 in
theorem ggX3_saves_X3_refused : GoodIn wsX3_saves wsX3_refused := goodIn_r _ [20, 21, 40, 41, 42, 43, 44, 45, 46, 47, 48, 49, 50, 51, 52, 53, 54, 55, 56] (by decide +kernel) (by decide +kernel)
set_option maxRecDepth 20000 in
theorem gX3_saves_X3_refused : GoodIn wsX3_saves (wsV RX3 72 RX3 yX3_refused wsX3_refused) := goodIn_app (goodIn_of _ (by decide +kernel)) ggX3_saves_X3_refused
set_option maxRecDepth 20000 in
theorem ggX3_saves_X3_saved : GoodIn wsX3_saves wsX3_saved := goodIn_r _ [25, 26, 27, 28, 4, 29, 30, 31, 32, 33, 34, 35, 36, 37, 38, 39, 40, 41, 42, 43, 44, 45, 46, 47, 48, 49, 50, 51, 52, 53, 54, 55, 56] (by decide +kernel) (by decide +kernel)
set_option maxRecDepth 20000 in
theorem gX3_saves_X3_saved : GoodIn wsX3_saves (wsV RX3 85 RX3 yX3_saved wsX3_saved) := goodIn_app (goodIn_of _ (by decide +kernel)) ggX3_saves_X3_saved
theorem dX3_saves_0 : decode cX3_saves 0 = .ok (.aload_n 0, 1) := by decide +kernel
theorem dX3_saves_1 : decode cX3_saves 1 = .ok (.aload_n 0, 1) := by decide +kernel
theorem dX3_saves_2 : decode cX3_saves 2 = .ok (.iload_n 1, 1) := by decide +kernel
theorem dX3_saves_3 : decode cX3_saves 3 = .ok (.iload_n 2, 1) := by decide +kernel
theorem dX3_saves_4 : decode cX3_saves 4 = .ok (.iload_n 3, 1) := by decide +kernel
theorem dX3_saves_5 : decode cX3_saves 5 = .ok (.invokevirtual 82, 3) := by decide +kernel
theorem dX3_saves_8 : decode cX3_saves 8 = .ok (.invokevirtual 72, 3) := by decide +kernel
theorem dX3_saves_11 : decode cX3_saves 11 = .ok (.ifCond .eq 7, 3) := by decide +kernel
theorem dX3_saves_14 : decode cX3_saves 14 = .ok (.iconst 0, 1) := by decide +kernel
theorem dX3_saves_15 : decode cX3_saves 15 = .ok (.goto 10, 3) := by decide +kernel
theorem dX3_saves_18 : decode cX3_saves 18 = .ok (.aload_n 0, 1) := by decide +kernel
theorem dX3_saves_19 : decode cX3_saves 19 = .ok (.iload_n 1, 1) := by decide +kernel
theorem dX3_saves_20 : decode cX3_saves 20 = .ok (.iload_n 2, 1) := by decide +kernel
theorem dX3_saves_21 : decode cX3_saves 21 = .ok (.iload_n 3, 1) := by decide +kernel
theorem dX3_saves_22 : decode cX3_saves 22 = .ok (.invokevirtual 85, 3) := by decide +kernel
theorem dX3_saves_25 : decode cX3_saves 25 = .ok (.ireturn, 1) := by decide +kernel
set_option maxRecDepth 20000 in
theorem ggX3_best_X3_isStudent : GoodIn wsX3_best wsX3_isStudent := goodIn_r _ [5, 6, 7, 8, 4, 9, 33, 34, 35, 36, 37, 38, 39, 40, 41, 42, 43, 44, 45, 46, 47, 48, 49] (by decide +kernel) (by decide +kernel)
set_option maxRecDepth 20000 in
theorem gX3_best_X3_isStudent : GoodIn wsX3_best (wsV RX3 76 RX3 yX3_isStudent wsX3_isStudent) := goodIn_app (goodIn_of _ (by decide +kernel)) ggX3_best_X3_isStudent
set_option maxRecDepth 20000 in
theorem ggX3_best_X3_refused : GoodIn wsX3_best wsX3_refused := goodIn_r _ [13, 14, 33, 34, 35, 36, 37, 38, 39, 40, 41, 42, 43, 44, 45, 46, 47, 48, 49] (by decide +kernel) (by decide +kernel)
set_option maxRecDepth 20000 in
theorem gX3_best_X3_refused : GoodIn wsX3_best (wsV RX3 72 RX3 yX3_refused wsX3_refused) := goodIn_app (goodIn_of _ (by decide +kernel)) ggX3_best_X3_refused
set_option maxRecDepth 20000 in
theorem ggX3_best_X3_saved : GoodIn wsX3_best wsX3_saved := goodIn_r _ [18, 19, 20, 21, 4, 22, 23, 24, 25, 26, 27, 28, 29, 30, 31, 32, 33, 34, 35, 36, 37, 38, 39, 40, 41, 42, 43, 44, 45, 46, 47, 48, 49] (by decide +kernel) (by decide +kernel)
set_option maxRecDepth 20000 in
theorem gX3_best_X3_saved : GoodIn wsX3_best (wsV RX3 85 RX3 yX3_saved wsX3_saved) := goodIn_app (goodIn_of _ (by decide +kernel)) ggX3_best_X3_saved
theorem dX3_best_0 : decode cX3_best 0 = .ok (.aload_n 0, 1) := by decide +kernel
theorem dX3_best_1 : decode cX3_best 1 = .ok (.aload_n 0, 1) := by decide +kernel
theorem dX3_best_2 : decode cX3_best 2 = .ok (.iload_n 1, 1) := by decide +kernel
theorem dX3_best_3 : decode cX3_best 3 = .ok (.invokevirtual 76, 3) := by decide +kernel
theorem dX3_best_6 : decode cX3_best 6 = .ok (.ifCond .eq 7, 3) := by decide +kernel
theorem dX3_best_9 : decode cX3_best 9 = .ok (.iconst 0, 1) := by decide +kernel
theorem dX3_best_10 : decode cX3_best 10 = .ok (.goto 4, 3) := by decide +kernel
theorem dX3_best_13 : decode cX3_best 13 = .ok (.iconst 1, 1) := by decide +kernel
theorem dX3_best_14 : decode cX3_best 14 = .ok (.invokevirtual 72, 3) := by decide +kernel
theorem dX3_best_17 : decode cX3_best 17 = .ok (.ifCond .eq 5, 3) := by decide +kernel
theorem dX3_best_20 : decode cX3_best 20 = .ok (.iconst 0, 1) := by decide +kernel
theorem dX3_best_21 : decode cX3_best 21 = .ok (.ireturn, 1) := by decide +kernel
theorem dX3_best_22 : decode cX3_best 22 = .ok (.iconst (-1), 1) := by decide +kernel
theorem dX3_best_23 : decode cX3_best 23 = .ok (.istore_n 2, 1) := by decide +kernel
theorem dX3_best_24 : decode cX3_best 24 = .ok (.iconst 0, 1) := by decide +kernel
theorem dX3_best_25 : decode cX3_best 25 = .ok (.istore_n 3, 1) := by decide +kernel
theorem dX3_best_26 : decode cX3_best 26 = .ok (.iconst 0, 1) := by decide +kernel
theorem dX3_best_27 : decode cX3_best 27 = .ok (.istore 4, 2) := by decide +kernel
theorem dX3_best_29 : decode cX3_best 29 = .ok (.iload 4, 2) := by decide +kernel
theorem dX3_best_31 : decode cX3_best 31 = .ok (.sipush 144, 3) := by decide +kernel
theorem dX3_best_34 : decode cX3_best 34 = .ok (.if_icmp .ge 69, 3) := by decide +kernel
theorem dX3_best_37 : decode cX3_best 37 = .ok (.iload 4, 2) := by decide +kernel
theorem dX3_best_39 : decode cX3_best 39 = .ok (.bipush 12, 2) := by decide +kernel
theorem dX3_best_41 : decode cX3_best 41 = .ok (.idiv, 1) := by decide +kernel
theorem dX3_best_42 : decode cX3_best 42 = .ok (.iload 4, 2) := by decide +kernel
theorem dX3_best_44 : decode cX3_best 44 = .ok (.bipush 12, 2) := by decide +kernel
theorem dX3_best_46 : decode cX3_best 46 = .ok (.irem, 1) := by decide +kernel
theorem dX3_best_47 : decode cX3_best 47 = .ok (.if_icmp .ge 21, 3) := by decide +kernel
theorem dX3_best_50 : decode cX3_best 50 = .ok (.aload_n 0, 1) := by decide +kernel
theorem dX3_best_51 : decode cX3_best 51 = .ok (.iload_n 1, 1) := by decide +kernel
theorem dX3_best_52 : decode cX3_best 52 = .ok (.iload 4, 2) := by decide +kernel
theorem dX3_best_54 : decode cX3_best 54 = .ok (.bipush 12, 2) := by decide +kernel
theorem dX3_best_56 : decode cX3_best 56 = .ok (.idiv, 1) := by decide +kernel
theorem dX3_best_57 : decode cX3_best 57 = .ok (.iload 4, 2) := by decide +kernel
theorem dX3_best_59 : decode cX3_best 59 = .ok (.bipush 12, 2) := by decide +kernel
theorem dX3_best_61 : decode cX3_best 61 = .ok (.irem, 1) := by decide +kernel
theorem dX3_best_62 : decode cX3_best 62 = .ok (.invokevirtual 85, 3) := by decide +kernel
theorem dX3_best_65 : decode cX3_best 65 = .ok (.goto 4, 3) := by decide +kernel
theorem dX3_best_68 : decode cX3_best 68 = .ok (.iconst 0, 1) := by decide +kernel
theorem dX3_best_69 : decode cX3_best 69 = .ok (.istore 5, 2) := by decide +kernel
theorem dX3_best_71 : decode cX3_best 71 = .ok (.iload 5, 2) := by decide +kernel
theorem dX3_best_73 : decode cX3_best 73 = .ok (.iload_n 3, 1) := by decide +kernel
theorem dX3_best_74 : decode cX3_best 74 = .ok (.if_icmp .le 8, 3) := by decide +kernel
theorem dX3_best_77 : decode cX3_best 77 = .ok (.iload 4, 2) := by decide +kernel
theorem dX3_best_79 : decode cX3_best 79 = .ok (.goto 4, 3) := by decide +kernel
theorem dX3_best_82 : decode cX3_best 82 = .ok (.iload_n 2, 1) := by decide +kernel
theorem dX3_best_83 : decode cX3_best 83 = .ok (.istore_n 2, 1) := by decide +kernel
theorem dX3_best_84 : decode cX3_best 84 = .ok (.iload 5, 2) := by decide +kernel
theorem dX3_best_86 : decode cX3_best 86 = .ok (.iload_n 3, 1) := by decide +kernel
theorem dX3_best_87 : decode cX3_best 87 = .ok (.if_icmp .le 8, 3) := by decide +kernel
theorem dX3_best_90 : decode cX3_best 90 = .ok (.iload 5, 2) := by decide +kernel
theorem dX3_best_92 : decode cX3_best 92 = .ok (.goto 4, 3) := by decide +kernel
theorem dX3_best_95 : decode cX3_best 95 = .ok (.iload_n 3, 1) := by decide +kernel
theorem dX3_best_96 : decode cX3_best 96 = .ok (.istore_n 3, 1) := by decide +kernel
theorem dX3_best_97 : decode cX3_best 97 = .ok (.iinc 4 1, 3) := by decide +kernel
theorem dX3_best_100 : decode cX3_best 100 = .ok (.goto (-71), 3) := by decide +kernel
theorem dX3_best_103 : decode cX3_best 103 = .ok (.iload_n 2, 1) := by decide +kernel
theorem dX3_best_104 : decode cX3_best 104 = .ok (.ireturn, 1) := by decide +kernel
set_option maxRecDepth 20000 in
theorem ggX3_draft_X3_isKey : GoodIn wsX3_draft wsX3_isKey := goodIn_r _ [6, 7, 8, 5, 9] (by decide +kernel) (by decide +kernel)
set_option maxRecDepth 20000 in
theorem gX3_draft_X3_isKey : GoodIn wsX3_draft (va_wsS RX3 79 yX3_isKey wsX3_isKey) := goodIn_app (goodIn_of _ (by decide +kernel)) ggX3_draft_X3_isKey
set_option maxRecDepth 20000 in
theorem ggX3_draft_X3_refused : GoodIn wsX3_draft wsX3_refused := goodIn_r _ [13, 14, 15, 16, 17, 18, 19, 20, 21, 22, 23, 24, 25, 26, 27, 28, 29, 30, 31] (by decide +kernel) (by decide +kernel)
set_option maxRecDepth 20000 in
theorem gX3_draft_X3_refused : GoodIn wsX3_draft (wsV RX3 72 RX3 yX3_refused wsX3_refused) := goodIn_app (goodIn_of _ (by decide +kernel)) ggX3_draft_X3_refused
theorem dX3_draft_0 : decode cX3_draft 0 = .ok (.aload_n 0, 1) := by decide +kernel
theorem dX3_draft_1 : decode cX3_draft 1 = .ok (.iload_n 1, 1) := by decide +kernel
theorem dX3_draft_2 : decode cX3_draft 2 = .ok (.invokestatic 79, 3) := by decide +kernel
theorem dX3_draft_5 : decode cX3_draft 5 = .ok (.ifCond .ne 7, 3) := by decide +kernel
theorem dX3_draft_8 : decode cX3_draft 8 = .ok (.iconst 1, 1) := by decide +kernel
theorem dX3_draft_9 : decode cX3_draft 9 = .ok (.goto 17, 3) := by decide +kernel
theorem dX3_draft_12 : decode cX3_draft 12 = .ok (.aload_n 0, 1) := by decide +kernel
theorem dX3_draft_13 : decode cX3_draft 13 = .ok (.getfield 92, 3) := by decide +kernel
theorem dX3_draft_16 : decode cX3_draft 16 = .ok (.bipush 24, 2) := by decide +kernel
theorem dX3_draft_18 : decode cX3_draft 18 = .ok (.if_icmp .ne 7, 3) := by decide +kernel
theorem dX3_draft_21 : decode cX3_draft 21 = .ok (.iconst 2, 1) := by decide +kernel
theorem dX3_draft_22 : decode cX3_draft 22 = .ok (.goto 4, 3) := by decide +kernel
theorem dX3_draft_25 : decode cX3_draft 25 = .ok (.iconst 0, 1) := by decide +kernel
theorem dX3_draft_26 : decode cX3_draft 26 = .ok (.invokevirtual 72, 3) := by decide +kernel
theorem dX3_draft_29 : decode cX3_draft 29 = .ok (.ifCond .eq 5, 3) := by decide +kernel
theorem dX3_draft_32 : decode cX3_draft 32 = .ok (.iconst 0, 1) := by decide +kernel
theorem dX3_draft_33 : decode cX3_draft 33 = .ok (.ireturn, 1) := by decide +kernel
theorem dX3_draft_34 : decode cX3_draft 34 = .ok (.aload_n 0, 1) := by decide +kernel
theorem dX3_draft_35 : decode cX3_draft 35 = .ok (.getfield 37, 3) := by decide +kernel
theorem dX3_draft_38 : decode cX3_draft 38 = .ok (.aload_n 0, 1) := by decide +kernel
theorem dX3_draft_39 : decode cX3_draft 39 = .ok (.getfield 92, 3) := by decide +kernel
theorem dX3_draft_42 : decode cX3_draft 42 = .ok (.iload_n 1, 1) := by decide +kernel
theorem dX3_draft_43 : decode cX3_draft 43 = .ok (.iastore, 1) := by decide +kernel
theorem dX3_draft_44 : decode cX3_draft 44 = .ok (.aload_n 0, 1) := by decide +kernel
theorem dX3_draft_45 : decode cX3_draft 45 = .ok (.dup, 1) := by decide +kernel
theorem dX3_draft_46 : decode cX3_draft 46 = .ok (.getfield 92, 3) := by decide +kernel
theorem dX3_draft_49 : decode cX3_draft 49 = .ok (.iconst 1, 1) := by decide +kernel
theorem dX3_draft_50 : decode cX3_draft 50 = .ok (.iadd, 1) := by decide +kernel
theorem dX3_draft_51 : decode cX3_draft 51 = .ok (.putfield 92, 3) := by decide +kernel
theorem dX3_draft_54 : decode cX3_draft 54 = .ok (.aload_n 0, 1) := by decide +kernel
theorem dX3_draft_55 : decode cX3_draft 55 = .ok (.getfield 92, 3) := by decide +kernel
theorem dX3_draft_58 : decode cX3_draft 58 = .ok (.ireturn, 1) := by decide +kernel
theorem dX3_clear_0 : decode cX3_clear 0 = .ok (.aload_n 0, 1) := by decide +kernel
theorem dX3_clear_1 : decode cX3_clear 1 = .ok (.iconst 0, 1) := by decide +kernel
theorem dX3_clear_2 : decode cX3_clear 2 = .ok (.putfield 49, 3) := by decide +kernel
theorem dX3_clear_5 : decode cX3_clear 5 = .ok (.aload_n 0, 1) := by decide +kernel
theorem dX3_clear_6 : decode cX3_clear 6 = .ok (.getfield 92, 3) := by decide +kernel
theorem dX3_clear_9 : decode cX3_clear 9 = .ok (.istore_n 1, 1) := by decide +kernel
theorem dX3_clear_10 : decode cX3_clear 10 = .ok (.aload_n 0, 1) := by decide +kernel
theorem dX3_clear_11 : decode cX3_clear 11 = .ok (.iconst 0, 1) := by decide +kernel
theorem dX3_clear_12 : decode cX3_clear 12 = .ok (.putfield 92, 3) := by decide +kernel
theorem dX3_clear_15 : decode cX3_clear 15 = .ok (.iload_n 1, 1) := by decide +kernel
theorem dX3_clear_16 : decode cX3_clear 16 = .ok (.ireturn, 1) := by decide +kernel
set_option maxRecDepth 20000 in
theorem ggX3_contest_X3_refused : GoodIn wsX3_contest wsX3_refused := goodIn_r _ [12, 13, 17, 18, 19, 20, 21, 22, 23, 24, 25, 26, 27, 28, 29, 30, 31, 32, 33] (by decide +kernel) (by decide +kernel)
set_option maxRecDepth 20000 in
theorem gX3_contest_X3_refused : GoodIn wsX3_contest (wsV RX3 72 RX3 yX3_refused wsX3_refused) := goodIn_app (goodIn_of _ (by decide +kernel)) ggX3_contest_X3_refused
set_option maxRecDepth 20000 in
theorem ggX3_contest_X3_step : GoodIn wsX3_contest wsX3_step := goodIn_r _ [16] (by decide +kernel) (by decide +kernel)
set_option maxRecDepth 20000 in
theorem gX3_contest_X3_step : GoodIn wsX3_contest (va_wsS RX3 64 yX3_step wsX3_step) := goodIn_app (goodIn_of _ (by decide +kernel)) ggX3_contest_X3_step
theorem dX3_contest_0 : decode cX3_contest 0 = .ok (.aload_n 0, 1) := by decide +kernel
theorem dX3_contest_1 : decode cX3_contest 1 = .ok (.aload_n 0, 1) := by decide +kernel
theorem dX3_contest_2 : decode cX3_contest 2 = .ok (.getfield 92, 3) := by decide +kernel
theorem dX3_contest_5 : decode cX3_contest 5 = .ok (.ifCond .eq 19, 3) := by decide +kernel
theorem dX3_contest_8 : decode cX3_contest 8 = .ok (.aload_n 0, 1) := by decide +kernel
theorem dX3_contest_9 : decode cX3_contest 9 = .ok (.getfield 53, 3) := by decide +kernel
theorem dX3_contest_12 : decode cX3_contest 12 = .ok (.ifCond .eq 12, 3) := by decide +kernel
theorem dX3_contest_15 : decode cX3_contest 15 = .ok (.aload_n 0, 1) := by decide +kernel
theorem dX3_contest_16 : decode cX3_contest 16 = .ok (.getfield 95, 3) := by decide +kernel
theorem dX3_contest_19 : decode cX3_contest 19 = .ok (.bipush 6, 2) := by decide +kernel
theorem dX3_contest_21 : decode cX3_contest 21 = .ok (.if_icmp .ne 7, 3) := by decide +kernel
theorem dX3_contest_24 : decode cX3_contest 24 = .ok (.iconst 1, 1) := by decide +kernel
theorem dX3_contest_25 : decode cX3_contest 25 = .ok (.goto 4, 3) := by decide +kernel
theorem dX3_contest_28 : decode cX3_contest 28 = .ok (.iconst 0, 1) := by decide +kernel
theorem dX3_contest_29 : decode cX3_contest 29 = .ok (.invokevirtual 72, 3) := by decide +kernel
theorem dX3_contest_32 : decode cX3_contest 32 = .ok (.ifCond .eq 5, 3) := by decide +kernel
theorem dX3_contest_35 : decode cX3_contest 35 = .ok (.iconst 0, 1) := by decide +kernel
theorem dX3_contest_36 : decode cX3_contest 36 = .ok (.ireturn, 1) := by decide +kernel
theorem dX3_contest_37 : decode cX3_contest 37 = .ok (.aload_n 0, 1) := by decide +kernel
theorem dX3_contest_38 : decode cX3_contest 38 = .ok (.getfield 95, 3) := by decide +kernel
theorem dX3_contest_41 : decode cX3_contest 41 = .ok (.istore_n 1, 1) := by decide +kernel
theorem dX3_contest_42 : decode cX3_contest 42 = .ok (.aload_n 0, 1) := by decide +kernel
theorem dX3_contest_43 : decode cX3_contest 43 = .ok (.dup, 1) := by decide +kernel
theorem dX3_contest_44 : decode cX3_contest 44 = .ok (.getfield 95, 3) := by decide +kernel
theorem dX3_contest_47 : decode cX3_contest 47 = .ok (.iconst 1, 1) := by decide +kernel
theorem dX3_contest_48 : decode cX3_contest 48 = .ok (.iadd, 1) := by decide +kernel
theorem dX3_contest_49 : decode cX3_contest 49 = .ok (.putfield 95, 3) := by decide +kernel
theorem dX3_contest_52 : decode cX3_contest 52 = .ok (.aload_n 0, 1) := by decide +kernel
theorem dX3_contest_53 : decode cX3_contest 53 = .ok (.getfield 40, 3) := by decide +kernel
theorem dX3_contest_56 : decode cX3_contest 56 = .ok (.iload_n 1, 1) := by decide +kernel
theorem dX3_contest_57 : decode cX3_contest 57 = .ok (.aload_n 0, 1) := by decide +kernel
theorem dX3_contest_58 : decode cX3_contest 58 = .ok (.getfield 53, 3) := by decide +kernel
theorem dX3_contest_61 : decode cX3_contest 61 = .ok (.iastore, 1) := by decide +kernel
theorem dX3_contest_62 : decode cX3_contest 62 = .ok (.iconst 0, 1) := by decide +kernel
theorem dX3_contest_63 : decode cX3_contest 63 = .ok (.istore_n 2, 1) := by decide +kernel
theorem dX3_contest_64 : decode cX3_contest 64 = .ok (.iload_n 2, 1) := by decide +kernel
theorem dX3_contest_65 : decode cX3_contest 65 = .ok (.aload_n 0, 1) := by decide +kernel
theorem dX3_contest_66 : decode cX3_contest 66 = .ok (.getfield 53, 3) := by decide +kernel
theorem dX3_contest_69 : decode cX3_contest 69 = .ok (.if_icmp .ge 82, 3) := by decide +kernel
theorem dX3_contest_72 : decode cX3_contest 72 = .ok (.iconst 2, 1) := by decide +kernel
theorem dX3_contest_73 : decode cX3_contest 73 = .ok (.istore_n 3, 1) := by decide +kernel
theorem dX3_contest_74 : decode cX3_contest 74 = .ok (.iconst 1, 1) := by decide +kernel
theorem dX3_contest_75 : decode cX3_contest 75 = .ok (.istore 4, 2) := by decide +kernel
theorem dX3_contest_77 : decode cX3_contest 77 = .ok (.iload 4, 2) := by decide +kernel
theorem dX3_contest_79 : decode cX3_contest 79 = .ok (.aload_n 0, 1) := by decide +kernel
theorem dX3_contest_80 : decode cX3_contest 80 = .ok (.getfield 92, 3) := by decide +kernel
theorem dX3_contest_83 : decode cX3_contest 83 = .ok (.if_icmp .ge 51, 3) := by decide +kernel
theorem dX3_contest_86 : decode cX3_contest 86 = .ok (.iload_n 3, 1) := by decide +kernel
theorem dX3_contest_87 : decode cX3_contest 87 = .ok (.aload_n 0, 1) := by decide +kernel
theorem dX3_contest_88 : decode cX3_contest 88 = .ok (.getfield 7, 3) := by decide +kernel
theorem dX3_contest_91 : decode cX3_contest 91 = .ok (.bipush 12, 2) := by decide +kernel
theorem dX3_contest_93 : decode cX3_contest 93 = .ok (.iload_n 2, 1) := by decide +kernel
theorem dX3_contest_94 : decode cX3_contest 94 = .ok (.imul, 1) := by decide +kernel
theorem dX3_contest_95 : decode cX3_contest 95 = .ok (.aload_n 0, 1) := by decide +kernel
theorem dX3_contest_96 : decode cX3_contest 96 = .ok (.getfield 37, 3) := by decide +kernel
theorem dX3_contest_99 : decode cX3_contest 99 = .ok (.iload 4, 2) := by decide +kernel
theorem dX3_contest_101 : decode cX3_contest 101 = .ok (.iconst 1, 1) := by decide +kernel
theorem dX3_contest_102 : decode cX3_contest 102 = .ok (.isub, 1) := by decide +kernel
theorem dX3_contest_103 : decode cX3_contest 103 = .ok (.iaload, 1) := by decide +kernel
theorem dX3_contest_104 : decode cX3_contest 104 = .ok (.iadd, 1) := by decide +kernel
theorem dX3_contest_105 : decode cX3_contest 105 = .ok (.iaload, 1) := by decide +kernel
theorem dX3_contest_106 : decode cX3_contest 106 = .ok (.aload_n 0, 1) := by decide +kernel
theorem dX3_contest_107 : decode cX3_contest 107 = .ok (.getfield 7, 3) := by decide +kernel
theorem dX3_contest_110 : decode cX3_contest 110 = .ok (.bipush 12, 2) := by decide +kernel
theorem dX3_contest_112 : decode cX3_contest 112 = .ok (.iload_n 2, 1) := by decide +kernel
theorem dX3_contest_113 : decode cX3_contest 113 = .ok (.imul, 1) := by decide +kernel
theorem dX3_contest_114 : decode cX3_contest 114 = .ok (.aload_n 0, 1) := by decide +kernel
theorem dX3_contest_115 : decode cX3_contest 115 = .ok (.getfield 37, 3) := by decide +kernel
theorem dX3_contest_118 : decode cX3_contest 118 = .ok (.iload 4, 2) := by decide +kernel
theorem dX3_contest_120 : decode cX3_contest 120 = .ok (.iaload, 1) := by decide +kernel
theorem dX3_contest_121 : decode cX3_contest 121 = .ok (.iadd, 1) := by decide +kernel
theorem dX3_contest_122 : decode cX3_contest 122 = .ok (.iaload, 1) := by decide +kernel
theorem dX3_contest_123 : decode cX3_contest 123 = .ok (.invokestatic 64, 3) := by decide +kernel
theorem dX3_contest_126 : decode cX3_contest 126 = .ok (.iadd, 1) := by decide +kernel
theorem dX3_contest_127 : decode cX3_contest 127 = .ok (.istore_n 3, 1) := by decide +kernel
theorem dX3_contest_128 : decode cX3_contest 128 = .ok (.iinc 4 1, 3) := by decide +kernel
theorem dX3_contest_131 : decode cX3_contest 131 = .ok (.goto (-54), 3) := by decide +kernel
theorem dX3_contest_134 : decode cX3_contest 134 = .ok (.aload_n 0, 1) := by decide +kernel
theorem dX3_contest_135 : decode cX3_contest 135 = .ok (.getfield 43, 3) := by decide +kernel
theorem dX3_contest_138 : decode cX3_contest 138 = .ok (.iconst 5, 1) := by decide +kernel
theorem dX3_contest_139 : decode cX3_contest 139 = .ok (.iload_n 1, 1) := by decide +kernel
theorem dX3_contest_140 : decode cX3_contest 140 = .ok (.imul, 1) := by decide +kernel
theorem dX3_contest_141 : decode cX3_contest 141 = .ok (.iload_n 2, 1) := by decide +kernel
theorem dX3_contest_142 : decode cX3_contest 142 = .ok (.iadd, 1) := by decide +kernel
theorem dX3_contest_143 : decode cX3_contest 143 = .ok (.iload_n 3, 1) := by decide +kernel
theorem dX3_contest_144 : decode cX3_contest 144 = .ok (.iastore, 1) := by decide +kernel
theorem dX3_contest_145 : decode cX3_contest 145 = .ok (.iinc 2 1, 3) := by decide +kernel
theorem dX3_contest_148 : decode cX3_contest 148 = .ok (.goto (-84), 3) := by decide +kernel
theorem dX3_contest_151 : decode cX3_contest 151 = .ok (.aload_n 0, 1) := by decide +kernel
theorem dX3_contest_152 : decode cX3_contest 152 = .ok (.iconst 0, 1) := by decide +kernel
theorem dX3_contest_153 : decode cX3_contest 153 = .ok (.putfield 92, 3) := by decide +kernel
theorem dX3_contest_156 : decode cX3_contest 156 = .ok (.iload_n 1, 1) := by decide +kernel
theorem dX3_contest_157 : decode cX3_contest 157 = .ok (.ireturn, 1) := by decide +kernel
set_option maxRecDepth 20000 in
theorem ggX3_isIn_X3_is : GoodIn wsX3_isIn wsX3_is := goodIn_r _ [6] (by decide +kernel) (by decide +kernel)
set_option maxRecDepth 20000 in
theorem gX3_isIn_X3_is : GoodIn wsX3_isIn (va_wsS RX3 56 yX3_is wsX3_is) := goodIn_app (goodIn_of _ (by decide +kernel)) ggX3_isIn_X3_is
theorem dX3_isIn_0 : decode cX3_isIn 0 = .ok (.iload_n 1, 1) := by decide +kernel
theorem dX3_isIn_1 : decode cX3_isIn 1 = .ok (.iconst 0, 1) := by decide +kernel
theorem dX3_isIn_2 : decode cX3_isIn 2 = .ok (.aload_n 0, 1) := by decide +kernel
theorem dX3_isIn_3 : decode cX3_isIn 3 = .ok (.getfield 95, 3) := by decide +kernel
theorem dX3_isIn_6 : decode cX3_isIn 6 = .ok (.iconst 1, 1) := by decide +kernel
theorem dX3_isIn_7 : decode cX3_isIn 7 = .ok (.isub, 1) := by decide +kernel
theorem dX3_isIn_8 : decode cX3_isIn 8 = .ok (.invokestatic 56, 3) := by decide +kernel
theorem dX3_isIn_11 : decode cX3_isIn 11 = .ok (.ifCond .eq 23, 3) := by decide +kernel
theorem dX3_isIn_14 : decode cX3_isIn 14 = .ok (.iload_n 2, 1) := by decide +kernel
theorem dX3_isIn_15 : decode cX3_isIn 15 = .ok (.iconst 0, 1) := by decide +kernel
theorem dX3_isIn_16 : decode cX3_isIn 16 = .ok (.aload_n 0, 1) := by decide +kernel
theorem dX3_isIn_17 : decode cX3_isIn 17 = .ok (.getfield 40, 3) := by decide +kernel
theorem dX3_isIn_20 : decode cX3_isIn 20 = .ok (.iload_n 1, 1) := by decide +kernel
theorem dX3_isIn_21 : decode cX3_isIn 21 = .ok (.iaload, 1) := by decide +kernel
theorem dX3_isIn_22 : decode cX3_isIn 22 = .ok (.iconst 1, 1) := by decide +kernel
theorem dX3_isIn_23 : decode cX3_isIn 23 = .ok (.isub, 1) := by decide +kernel
theorem dX3_isIn_24 : decode cX3_isIn 24 = .ok (.invokestatic 56, 3) := by decide +kernel
theorem dX3_isIn_27 : decode cX3_isIn 27 = .ok (.ifCond .eq 7, 3) := by decide +kernel
theorem dX3_isIn_30 : decode cX3_isIn 30 = .ok (.iconst 1, 1) := by decide +kernel
theorem dX3_isIn_31 : decode cX3_isIn 31 = .ok (.goto 4, 3) := by decide +kernel
theorem dX3_isIn_34 : decode cX3_isIn 34 = .ok (.iconst 0, 1) := by decide +kernel
theorem dX3_isIn_35 : decode cX3_isIn 35 = .ok (.ireturn, 1) := by decide +kernel
theorem dX3_score_0 : decode cX3_score 0 = .ok (.sipush 1000, 3) := by decide +kernel
theorem dX3_score_3 : decode cX3_score 3 = .ok (.aload_n 0, 1) := by decide +kernel
theorem dX3_score_4 : decode cX3_score 4 = .ok (.getfield 46, 3) := by decide +kernel
theorem dX3_score_7 : decode cX3_score 7 = .ok (.iload_n 1, 1) := by decide +kernel
theorem dX3_score_8 : decode cX3_score 8 = .ok (.iaload, 1) := by decide +kernel
theorem dX3_score_9 : decode cX3_score 9 = .ok (.imul, 1) := by decide +kernel
theorem dX3_score_10 : decode cX3_score 10 = .ok (.aload_n 0, 1) := by decide +kernel
theorem dX3_score_11 : decode cX3_score 11 = .ok (.getfield 43, 3) := by decide +kernel
theorem dX3_score_14 : decode cX3_score 14 = .ok (.iload_n 1, 1) := by decide +kernel
theorem dX3_score_15 : decode cX3_score 15 = .ok (.iaload, 1) := by decide +kernel
theorem dX3_score_16 : decode cX3_score 16 = .ok (.idiv, 1) := by decide +kernel
theorem dX3_score_17 : decode cX3_score 17 = .ok (.ireturn, 1) := by decide +kernel
set_option maxRecDepth 20000 in
theorem ggX3_result_X3_isIn : GoodIn wsX3_result wsX3_isIn := goodIn_r _ [7, 8, 9, 10, 11, 6, 12, 23, 24, 25, 26, 27, 28, 29, 30, 31, 32, 33, 34, 35, 36, 37, 38, 39] (by decide +kernel) (by decide +kernel)
set_option maxRecDepth 20000 in
theorem gX3_result_X3_isIn : GoodIn wsX3_result (wsV RX3 98 RX3 yX3_isIn wsX3_isIn) := goodIn_app (goodIn_of _ (by decide +kernel)) ggX3_result_X3_isIn
set_option maxRecDepth 20000 in
theorem ggX3_result_X3_is : GoodIn wsX3_result wsX3_is := goodIn_r _ [12] (by decide +kernel) (by decide +kernel)
set_option maxRecDepth 20000 in
theorem gX3_result_X3_is : GoodIn wsX3_result (va_wsS RX3 56 yX3_is wsX3_is) := goodIn_app (goodIn_of _ (by decide +kernel)) ggX3_result_X3_is
set_option maxRecDepth 20000 in
theorem ggX3_result_X3_refused : GoodIn wsX3_result wsX3_refused := goodIn_r _ [16, 17, 23, 24, 25, 26, 27, 28, 29, 30, 31, 32, 33, 34, 35, 36, 37, 38, 39] (by decide +kernel) (by decide +kernel)
set_option maxRecDepth 20000 in
theorem gX3_result_X3_refused : GoodIn wsX3_result (wsV RX3 72 RX3 yX3_refused wsX3_refused) := goodIn_app (goodIn_of _ (by decide +kernel)) ggX3_result_X3_refused
set_option maxRecDepth 20000 in
theorem ggX3_result_X3_score : GoodIn wsX3_result wsX3_score := goodIn_r _ [21, 2, 22, 23, 24, 25, 26, 27, 28, 29, 30, 31, 32, 33, 34, 35, 36, 37, 38, 39] (by decide +kernel) (by decide +kernel)
set_option maxRecDepth 20000 in
theorem gX3_result_X3_score : GoodIn wsX3_result (wsV RX3 103 RX3 yX3_score wsX3_score) := goodIn_app (goodIn_of _ (by decide +kernel)) ggX3_result_X3_score
theorem dX3_result_0 : decode cX3_result 0 = .ok (.aload_n 0, 1) := by decide +kernel
theorem dX3_result_1 : decode cX3_result 1 = .ok (.iload_n 1, 1) := by decide +kernel
theorem dX3_result_2 : decode cX3_result 2 = .ok (.iload_n 2, 1) := by decide +kernel
theorem dX3_result_3 : decode cX3_result 3 = .ok (.invokevirtual 98, 3) := by decide +kernel
theorem dX3_result_6 : decode cX3_result 6 = .ok (.istore 4, 2) := by decide +kernel
theorem dX3_result_8 : decode cX3_result 8 = .ok (.iload 4, 2) := by decide +kernel
theorem dX3_result_10 : decode cX3_result 10 = .ok (.ifCond .eq 11, 3) := by decide +kernel
theorem dX3_result_13 : decode cX3_result 13 = .ok (.iconst 5, 1) := by decide +kernel
theorem dX3_result_14 : decode cX3_result 14 = .ok (.iload_n 1, 1) := by decide +kernel
theorem dX3_result_15 : decode cX3_result 15 = .ok (.imul, 1) := by decide +kernel
theorem dX3_result_16 : decode cX3_result 16 = .ok (.iload_n 2, 1) := by decide +kernel
theorem dX3_result_17 : decode cX3_result 17 = .ok (.iadd, 1) := by decide +kernel
theorem dX3_result_18 : decode cX3_result 18 = .ok (.goto 4, 3) := by decide +kernel
theorem dX3_result_21 : decode cX3_result 21 = .ok (.iconst 0, 1) := by decide +kernel
theorem dX3_result_22 : decode cX3_result 22 = .ok (.istore 5, 2) := by decide +kernel
theorem dX3_result_24 : decode cX3_result 24 = .ok (.aload_n 0, 1) := by decide +kernel
theorem dX3_result_25 : decode cX3_result 25 = .ok (.iload 4, 2) := by decide +kernel
theorem dX3_result_27 : decode cX3_result 27 = .ok (.ifCond .ne 7, 3) := by decide +kernel
theorem dX3_result_30 : decode cX3_result 30 = .ok (.iconst 1, 1) := by decide +kernel
theorem dX3_result_31 : decode cX3_result 31 = .ok (.goto 32, 3) := by decide +kernel
theorem dX3_result_34 : decode cX3_result 34 = .ok (.iload_n 3, 1) := by decide +kernel
theorem dX3_result_35 : decode cX3_result 35 = .ok (.iconst 1, 1) := by decide +kernel
theorem dX3_result_36 : decode cX3_result 36 = .ok (.ldc 102, 2) := by decide +kernel
theorem dX3_result_38 : decode cX3_result 38 = .ok (.invokestatic 56, 3) := by decide +kernel
theorem dX3_result_41 : decode cX3_result 41 = .ok (.ifCond .ne 7, 3) := by decide +kernel
theorem dX3_result_44 : decode cX3_result 44 = .ok (.iconst 2, 1) := by decide +kernel
theorem dX3_result_45 : decode cX3_result 45 = .ok (.goto 18, 3) := by decide +kernel
theorem dX3_result_48 : decode cX3_result 48 = .ok (.aload_n 0, 1) := by decide +kernel
theorem dX3_result_49 : decode cX3_result 49 = .ok (.getfield 46, 3) := by decide +kernel
theorem dX3_result_52 : decode cX3_result 52 = .ok (.iload 5, 2) := by decide +kernel
theorem dX3_result_54 : decode cX3_result 54 = .ok (.iaload, 1) := by decide +kernel
theorem dX3_result_55 : decode cX3_result 55 = .ok (.ifCond .le 7, 3) := by decide +kernel
theorem dX3_result_58 : decode cX3_result 58 = .ok (.iconst 3, 1) := by decide +kernel
theorem dX3_result_59 : decode cX3_result 59 = .ok (.goto 4, 3) := by decide +kernel
theorem dX3_result_62 : decode cX3_result 62 = .ok (.iconst 0, 1) := by decide +kernel
theorem dX3_result_63 : decode cX3_result 63 = .ok (.invokevirtual 72, 3) := by decide +kernel
theorem dX3_result_66 : decode cX3_result 66 = .ok (.ifCond .eq 5, 3) := by decide +kernel
theorem dX3_result_69 : decode cX3_result 69 = .ok (.iconst 0, 1) := by decide +kernel
theorem dX3_result_70 : decode cX3_result 70 = .ok (.ireturn, 1) := by decide +kernel
theorem dX3_result_71 : decode cX3_result 71 = .ok (.aload_n 0, 1) := by decide +kernel
theorem dX3_result_72 : decode cX3_result 72 = .ok (.getfield 46, 3) := by decide +kernel
theorem dX3_result_75 : decode cX3_result 75 = .ok (.iload 5, 2) := by decide +kernel
theorem dX3_result_77 : decode cX3_result 77 = .ok (.iload_n 3, 1) := by decide +kernel
theorem dX3_result_78 : decode cX3_result 78 = .ok (.iastore, 1) := by decide +kernel
theorem dX3_result_79 : decode cX3_result 79 = .ok (.aload_n 0, 1) := by decide +kernel
theorem dX3_result_80 : decode cX3_result 80 = .ok (.iload 5, 2) := by decide +kernel
theorem dX3_result_82 : decode cX3_result 82 = .ok (.invokevirtual 103, 3) := by decide +kernel
theorem dX3_result_85 : decode cX3_result 85 = .ok (.ireturn, 1) := by decide +kernel
set_option maxRecDepth 20000 in
theorem ggX3_rank_X3_score : GoodIn wsX3_rank wsX3_score := goodIn_r _ [7, 2, 8, 9, 10, 11, 12, 13, 14, 15, 16, 17, 18, 19, 20, 21, 22, 23, 24, 25] (by decide +kernel) (by decide +kernel)
set_option maxRecDepth 20000 in
theorem gX3_rank_X3_score : GoodIn wsX3_rank (wsV RX3 103 RX3 yX3_score wsX3_score) := goodIn_app (goodIn_of _ (by decide +kernel)) ggX3_rank_X3_score
theorem dX3_rank_0 : decode cX3_rank 0 = .ok (.iconst 0, 1) := by decide +kernel
theorem dX3_rank_1 : decode cX3_rank 1 = .ok (.istore_n 3, 1) := by decide +kernel
theorem dX3_rank_2 : decode cX3_rank 2 = .ok (.aload_n 0, 1) := by decide +kernel
theorem dX3_rank_3 : decode cX3_rank 3 = .ok (.iconst 5, 1) := by decide +kernel
theorem dX3_rank_4 : decode cX3_rank 4 = .ok (.iload_n 1, 1) := by decide +kernel
theorem dX3_rank_5 : decode cX3_rank 5 = .ok (.imul, 1) := by decide +kernel
theorem dX3_rank_6 : decode cX3_rank 6 = .ok (.iload_n 2, 1) := by decide +kernel
theorem dX3_rank_7 : decode cX3_rank 7 = .ok (.iadd, 1) := by decide +kernel
theorem dX3_rank_8 : decode cX3_rank 8 = .ok (.invokevirtual 103, 3) := by decide +kernel
theorem dX3_rank_11 : decode cX3_rank 11 = .ok (.istore 4, 2) := by decide +kernel
theorem dX3_rank_13 : decode cX3_rank 13 = .ok (.iconst 0, 1) := by decide +kernel
theorem dX3_rank_14 : decode cX3_rank 14 = .ok (.istore 5, 2) := by decide +kernel
theorem dX3_rank_16 : decode cX3_rank 16 = .ok (.iload 5, 2) := by decide +kernel
theorem dX3_rank_18 : decode cX3_rank 18 = .ok (.aload_n 0, 1) := by decide +kernel
theorem dX3_rank_19 : decode cX3_rank 19 = .ok (.getfield 40, 3) := by decide +kernel
theorem dX3_rank_22 : decode cX3_rank 22 = .ok (.iload_n 1, 1) := by decide +kernel
theorem dX3_rank_23 : decode cX3_rank 23 = .ok (.iaload, 1) := by decide +kernel
theorem dX3_rank_24 : decode cX3_rank 24 = .ok (.if_icmp .ge 63, 3) := by decide +kernel
theorem dX3_rank_27 : decode cX3_rank 27 = .ok (.iconst 5, 1) := by decide +kernel
theorem dX3_rank_28 : decode cX3_rank 28 = .ok (.iload_n 1, 1) := by decide +kernel
theorem dX3_rank_29 : decode cX3_rank 29 = .ok (.imul, 1) := by decide +kernel
theorem dX3_rank_30 : decode cX3_rank 30 = .ok (.iload 5, 2) := by decide +kernel
theorem dX3_rank_32 : decode cX3_rank 32 = .ok (.iadd, 1) := by decide +kernel
theorem dX3_rank_33 : decode cX3_rank 33 = .ok (.istore 6, 2) := by decide +kernel
theorem dX3_rank_35 : decode cX3_rank 35 = .ok (.iload_n 3, 1) := by decide +kernel
theorem dX3_rank_36 : decode cX3_rank 36 = .ok (.aload_n 0, 1) := by decide +kernel
theorem dX3_rank_37 : decode cX3_rank 37 = .ok (.getfield 46, 3) := by decide +kernel
theorem dX3_rank_40 : decode cX3_rank 40 = .ok (.iload 6, 2) := by decide +kernel
theorem dX3_rank_42 : decode cX3_rank 42 = .ok (.iaload, 1) := by decide +kernel
theorem dX3_rank_43 : decode cX3_rank 43 = .ok (.ifCond .le 35, 3) := by decide +kernel
theorem dX3_rank_46 : decode cX3_rank 46 = .ok (.aload_n 0, 1) := by decide +kernel
theorem dX3_rank_47 : decode cX3_rank 47 = .ok (.iload 6, 2) := by decide +kernel
theorem dX3_rank_49 : decode cX3_rank 49 = .ok (.invokevirtual 103, 3) := by decide +kernel
theorem dX3_rank_52 : decode cX3_rank 52 = .ok (.iload 4, 2) := by decide +kernel
theorem dX3_rank_54 : decode cX3_rank 54 = .ok (.if_icmp .lt 20, 3) := by decide +kernel
