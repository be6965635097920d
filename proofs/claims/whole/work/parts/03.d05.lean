theorem dX2_moves_72 : decode cX2_moves 72 = .ok (.imul, 1) := by decide +kernel
theorem dX2_moves_73 : decode cX2_moves 73 = .ok (.iconst 1, 1) := by decide +kernel
theorem dX2_moves_74 : decode cX2_moves 74 = .ok (.iadd, 1) := by decide +kernel
theorem dX2_moves_75 : decode cX2_moves 75 = .ok (.dup2, 1) := by decide +kernel
theorem dX2_moves_76 : decode cX2_moves 76 = .ok (.iaload, 1) := by decide +kernel
theorem dX2_moves_77 : decode cX2_moves 77 = .ok (.aload_n 0, 1) := by decide +kernel
theorem dX2_moves_78 : decode cX2_moves 78 = .ok (.iload_n 3, 1) := by decide +kernel
theorem dX2_moves_79 : decode cX2_moves 79 = .ok (.iload_n 1, 1) := by decide +kernel
theorem dX2_moves_80 : decode cX2_moves 80 = .ok (.invokevirtual 95, 3) := by decide +kernel
theorem dX2_moves_83 : decode cX2_moves 83 = .ok (.iadd, 1) := by decide +kernel
theorem dX2_moves_84 : decode cX2_moves 84 = .ok (.iastore, 1) := by decide +kernel
theorem dX2_moves_85 : decode cX2_moves 85 = .ok (.iinc 3 1, 3) := by decide +kernel
theorem dX2_moves_88 : decode cX2_moves 88 = .ok (.goto (-65), 3) := by decide +kernel
theorem dX2_moves_91 : decode cX2_moves 91 = .ok (.return_, 1) := by decide +kernel
set_option maxRecDepth 20000 in
theorem ggX2_close_X2_greater : GoodIn wsX2_close wsX2_greater := goodIn_r _ [4] (by decide +kernel) (by decide +kernel)
set_option maxRecDepth 20000 in
theorem gX2_close_X2_greater : GoodIn wsX2_close (va_wsS RX2 82 yX2_greater wsX2_greater) := goodIn_app (goodIn_of _ (by decide +kernel)) ggX2_close_X2_greater
set_option maxRecDepth 20000 in
theorem ggX2_close_X2_lesser : GoodIn wsX2_close wsX2_lesser := goodIn_r _ [7] (by decide +kernel) (by decide +kernel)
set_option maxRecDepth 20000 in
theorem gX2_close_X2_lesser : GoodIn wsX2_close (va_wsS RX2 98 yX2_lesser wsX2_lesser) := goodIn_app (goodIn_of _ (by decide +kernel)) ggX2_close_X2_lesser
theorem dX2_close_0 : decode cX2_close 0 = .ok (.iconst 0, 1) := by decide +kernel
theorem dX2_close_1 : decode cX2_close 1 = .ok (.istore_n 3, 1) := by decide +kernel
theorem dX2_close_2 : decode cX2_close 2 = .ok (.iload_n 3, 1) := by decide +kernel
theorem dX2_close_3 : decode cX2_close 3 = .ok (.iconst 4, 1) := by decide +kernel
theorem dX2_close_4 : decode cX2_close 4 = .ok (.if_icmp .ge 145, 3) := by decide +kernel
theorem dX2_close_7 : decode cX2_close 7 = .ok (.aload_n 1, 1) := by decide +kernel
theorem dX2_close_8 : decode cX2_close 8 = .ok (.iload_n 2, 1) := by decide +kernel
theorem dX2_close_9 : decode cX2_close 9 = .ok (.aload_n 1, 1) := by decide +kernel
theorem dX2_close_10 : decode cX2_close 10 = .ok (.iload_n 2, 1) := by decide +kernel
theorem dX2_close_11 : decode cX2_close 11 = .ok (.iaload, 1) := by decide +kernel
theorem dX2_close_12 : decode cX2_close 12 = .ok (.aload_n 1, 1) := by decide +kernel
theorem dX2_close_13 : decode cX2_close 13 = .ok (.iload_n 2, 1) := by decide +kernel
theorem dX2_close_14 : decode cX2_close 14 = .ok (.iconst 4, 1) := by decide +kernel
theorem dX2_close_15 : decode cX2_close 15 = .ok (.iadd, 1) := by decide +kernel
theorem dX2_close_16 : decode cX2_close 16 = .ok (.iaload, 1) := by decide +kernel
theorem dX2_close_17 : decode cX2_close 17 = .ok (.aload_n 1, 1) := by decide +kernel
theorem dX2_close_18 : decode cX2_close 18 = .ok (.iload_n 2, 1) := by decide +kernel
theorem dX2_close_19 : decode cX2_close 19 = .ok (.iconst 3, 1) := by decide +kernel
theorem dX2_close_20 : decode cX2_close 20 = .ok (.iadd, 1) := by decide +kernel
theorem dX2_close_21 : decode cX2_close 21 = .ok (.iaload, 1) := by decide +kernel
theorem dX2_close_22 : decode cX2_close 22 = .ok (.isub, 1) := by decide +kernel
theorem dX2_close_23 : decode cX2_close 23 = .ok (.invokestatic 82, 3) := by decide +kernel
theorem dX2_close_26 : decode cX2_close 26 = .ok (.iastore, 1) := by decide +kernel
theorem dX2_close_27 : decode cX2_close 27 = .ok (.aload_n 1, 1) := by decide +kernel
theorem dX2_close_28 : decode cX2_close 28 = .ok (.iload_n 2, 1) := by decide +kernel
theorem dX2_close_29 : decode cX2_close 29 = .ok (.iconst 1, 1) := by decide +kernel
theorem dX2_close_30 : decode cX2_close 30 = .ok (.iadd, 1) := by decide +kernel
theorem dX2_close_31 : decode cX2_close 31 = .ok (.aload_n 1, 1) := by decide +kernel
theorem dX2_close_32 : decode cX2_close 32 = .ok (.iload_n 2, 1) := by decide +kernel
theorem dX2_close_33 : decode cX2_close 33 = .ok (.iconst 1, 1) := by decide +kernel
theorem dX2_close_34 : decode cX2_close 34 = .ok (.iadd, 1) := by decide +kernel
theorem dX2_close_35 : decode cX2_close 35 = .ok (.iaload, 1) := by decide +kernel
theorem dX2_close_36 : decode cX2_close 36 = .ok (.aload_n 1, 1) := by decide +kernel
theorem dX2_close_37 : decode cX2_close 37 = .ok (.iload_n 2, 1) := by decide +kernel
theorem dX2_close_38 : decode cX2_close 38 = .ok (.iconst 5, 1) := by decide +kernel
theorem dX2_close_39 : decode cX2_close 39 = .ok (.iadd, 1) := by decide +kernel
theorem dX2_close_40 : decode cX2_close 40 = .ok (.iaload, 1) := by decide +kernel
theorem dX2_close_41 : decode cX2_close 41 = .ok (.aload_n 1, 1) := by decide +kernel
theorem dX2_close_42 : decode cX2_close 42 = .ok (.iload_n 2, 1) := by decide +kernel
theorem dX2_close_43 : decode cX2_close 43 = .ok (.iconst 2, 1) := by decide +kernel
theorem dX2_close_44 : decode cX2_close 44 = .ok (.iadd, 1) := by decide +kernel
theorem dX2_close_45 : decode cX2_close 45 = .ok (.iaload, 1) := by decide +kernel
theorem dX2_close_46 : decode cX2_close 46 = .ok (.isub, 1) := by decide +kernel
theorem dX2_close_47 : decode cX2_close 47 = .ok (.invokestatic 98, 3) := by decide +kernel
theorem dX2_close_50 : decode cX2_close 50 = .ok (.iastore, 1) := by decide +kernel
theorem dX2_close_51 : decode cX2_close 51 = .ok (.aload_n 1, 1) := by decide +kernel
theorem dX2_close_52 : decode cX2_close 52 = .ok (.iload_n 2, 1) := by decide +kernel
theorem dX2_close_53 : decode cX2_close 53 = .ok (.iconst 2, 1) := by decide +kernel
theorem dX2_close_54 : decode cX2_close 54 = .ok (.iadd, 1) := by decide +kernel
theorem dX2_close_55 : decode cX2_close 55 = .ok (.aload_n 1, 1) := by decide +kernel
theorem dX2_close_56 : decode cX2_close 56 = .ok (.iload_n 2, 1) := by decide +kernel
theorem dX2_close_57 : decode cX2_close 57 = .ok (.iconst 2, 1) := by decide +kernel
theorem dX2_close_58 : decode cX2_close 58 = .ok (.iadd, 1) := by decide +kernel
theorem dX2_close_59 : decode cX2_close 59 = .ok (.iaload, 1) := by decide +kernel
theorem dX2_close_60 : decode cX2_close 60 = .ok (.aload_n 1, 1) := by decide +kernel
theorem dX2_close_61 : decode cX2_close 61 = .ok (.iload_n 2, 1) := by decide +kernel
theorem dX2_close_62 : decode cX2_close 62 = .ok (.iconst 4, 1) := by decide +kernel
theorem dX2_close_63 : decode cX2_close 63 = .ok (.iadd, 1) := by decide +kernel
theorem dX2_close_64 : decode cX2_close 64 = .ok (.iaload, 1) := by decide +kernel
theorem dX2_close_65 : decode cX2_close 65 = .ok (.aload_n 1, 1) := by decide +kernel
theorem dX2_close_66 : decode cX2_close 66 = .ok (.iload_n 2, 1) := by decide +kernel
theorem dX2_close_67 : decode cX2_close 67 = .ok (.iconst 1, 1) := by decide +kernel
theorem dX2_close_68 : decode cX2_close 68 = .ok (.iadd, 1) := by decide +kernel
theorem dX2_close_69 : decode cX2_close 69 = .ok (.iaload, 1) := by decide +kernel
theorem dX2_close_70 : decode cX2_close 70 = .ok (.isub, 1) := by decide +kernel
theorem dX2_close_71 : decode cX2_close 71 = .ok (.invokestatic 82, 3) := by decide +kernel
theorem dX2_close_74 : decode cX2_close 74 = .ok (.iastore, 1) := by decide +kernel
theorem dX2_close_75 : decode cX2_close 75 = .ok (.aload_n 1, 1) := by decide +kernel
theorem dX2_close_76 : decode cX2_close 76 = .ok (.iload_n 2, 1) := by decide +kernel
theorem dX2_close_77 : decode cX2_close 77 = .ok (.iconst 3, 1) := by decide +kernel
theorem dX2_close_78 : decode cX2_close 78 = .ok (.iadd, 1) := by decide +kernel
theorem dX2_close_79 : decode cX2_close 79 = .ok (.aload_n 1, 1) := by decide +kernel
theorem dX2_close_80 : decode cX2_close 80 = .ok (.iload_n 2, 1) := by decide +kernel
theorem dX2_close_81 : decode cX2_close 81 = .ok (.iconst 3, 1) := by decide +kernel
theorem dX2_close_82 : decode cX2_close 82 = .ok (.iadd, 1) := by decide +kernel
theorem dX2_close_83 : decode cX2_close 83 = .ok (.iaload, 1) := by decide +kernel
theorem dX2_close_84 : decode cX2_close 84 = .ok (.aload_n 1, 1) := by decide +kernel
theorem dX2_close_85 : decode cX2_close 85 = .ok (.iload_n 2, 1) := by decide +kernel
theorem dX2_close_86 : decode cX2_close 86 = .ok (.iconst 5, 1) := by decide +kernel
theorem dX2_close_87 : decode cX2_close 87 = .ok (.iadd, 1) := by decide +kernel
theorem dX2_close_88 : decode cX2_close 88 = .ok (.iaload, 1) := by decide +kernel
theorem dX2_close_89 : decode cX2_close 89 = .ok (.aload_n 1, 1) := by decide +kernel
theorem dX2_close_90 : decode cX2_close 90 = .ok (.iload_n 2, 1) := by decide +kernel
theorem dX2_close_91 : decode cX2_close 91 = .ok (.iaload, 1) := by decide +kernel
theorem dX2_close_92 : decode cX2_close 92 = .ok (.isub, 1) := by decide +kernel
theorem dX2_close_93 : decode cX2_close 93 = .ok (.invokestatic 98, 3) := by decide +kernel
theorem dX2_close_96 : decode cX2_close 96 = .ok (.iastore, 1) := by decide +kernel
theorem dX2_close_97 : decode cX2_close 97 = .ok (.aload_n 1, 1) := by decide +kernel
theorem dX2_close_98 : decode cX2_close 98 = .ok (.iload_n 2, 1) := by decide +kernel
theorem dX2_close_99 : decode cX2_close 99 = .ok (.iconst 4, 1) := by decide +kernel
theorem dX2_close_100 : decode cX2_close 100 = .ok (.iadd, 1) := by decide +kernel
theorem dX2_close_101 : decode cX2_close 101 = .ok (.aload_n 1, 1) := by decide +kernel
theorem dX2_close_102 : decode cX2_close 102 = .ok (.iload_n 2, 1) := by decide +kernel
theorem dX2_close_103 : decode cX2_close 103 = .ok (.iconst 4, 1) := by decide +kernel
theorem dX2_close_104 : decode cX2_close 104 = .ok (.iadd, 1) := by decide +kernel
theorem dX2_close_105 : decode cX2_close 105 = .ok (.iaload, 1) := by decide +kernel
theorem dX2_close_106 : decode cX2_close 106 = .ok (.aload_n 1, 1) := by decide +kernel
theorem dX2_close_107 : decode cX2_close 107 = .ok (.iload_n 2, 1) := by decide +kernel
theorem dX2_close_108 : decode cX2_close 108 = .ok (.iaload, 1) := by decide +kernel
theorem dX2_close_109 : decode cX2_close 109 = .ok (.aload_n 1, 1) := by decide +kernel
theorem dX2_close_110 : decode cX2_close 110 = .ok (.iload_n 2, 1) := by decide +kernel
theorem dX2_close_111 : decode cX2_close 111 = .ok (.iconst 2, 1) := by decide +kernel
theorem dX2_close_112 : decode cX2_close 112 = .ok (.iadd, 1) := by decide +kernel
theorem dX2_close_113 : decode cX2_close 113 = .ok (.iaload, 1) := by decide +kernel
theorem dX2_close_114 : decode cX2_close 114 = .ok (.iadd, 1) := by decide +kernel
theorem dX2_close_115 : decode cX2_close 115 = .ok (.invokestatic 82, 3) := by decide +kernel
theorem dX2_close_118 : decode cX2_close 118 = .ok (.iastore, 1) := by decide +kernel
theorem dX2_close_119 : decode cX2_close 119 = .ok (.aload_n 1, 1) := by decide +kernel
theorem dX2_close_120 : decode cX2_close 120 = .ok (.iload_n 2, 1) := by decide +kernel
theorem dX2_close_121 : decode cX2_close 121 = .ok (.iconst 5, 1) := by decide +kernel
theorem dX2_close_122 : decode cX2_close 122 = .ok (.iadd, 1) := by decide +kernel
theorem dX2_close_123 : decode cX2_close 123 = .ok (.aload_n 1, 1) := by decide +kernel
theorem dX2_close_124 : decode cX2_close 124 = .ok (.iload_n 2, 1) := by decide +kernel
theorem dX2_close_125 : decode cX2_close 125 = .ok (.iconst 5, 1) := by decide +kernel
theorem dX2_close_126 : decode cX2_close 126 = .ok (.iadd, 1) := by decide +kernel
theorem dX2_close_127 : decode cX2_close 127 = .ok (.iaload, 1) := by decide +kernel
theorem dX2_close_128 : decode cX2_close 128 = .ok (.aload_n 1, 1) := by decide +kernel
theorem dX2_close_129 : decode cX2_close 129 = .ok (.iload_n 2, 1) := by decide +kernel
theorem dX2_close_130 : decode cX2_close 130 = .ok (.iconst 1, 1) := by decide +kernel
theorem dX2_close_131 : decode cX2_close 131 = .ok (.iadd, 1) := by decide +kernel
theorem dX2_close_132 : decode cX2_close 132 = .ok (.iaload, 1) := by decide +kernel
theorem dX2_close_133 : decode cX2_close 133 = .ok (.aload_n 1, 1) := by decide +kernel
theorem dX2_close_134 : decode cX2_close 134 = .ok (.iload_n 2, 1) := by decide +kernel
theorem dX2_close_135 : decode cX2_close 135 = .ok (.iconst 3, 1) := by decide +kernel
theorem dX2_close_136 : decode cX2_close 136 = .ok (.iadd, 1) := by decide +kernel
theorem dX2_close_137 : decode cX2_close 137 = .ok (.iaload, 1) := by decide +kernel
theorem dX2_close_138 : decode cX2_close 138 = .ok (.iadd, 1) := by decide +kernel
theorem dX2_close_139 : decode cX2_close 139 = .ok (.invokestatic 98, 3) := by decide +kernel
theorem dX2_close_142 : decode cX2_close 142 = .ok (.iastore, 1) := by decide +kernel
theorem dX2_close_143 : decode cX2_close 143 = .ok (.iinc 3 1, 3) := by decide +kernel
theorem dX2_close_146 : decode cX2_close 146 = .ok (.goto (-144), 3) := by decide +kernel
theorem dX2_close_149 : decode cX2_close 149 = .ok (.aload_n 1, 1) := by decide +kernel
theorem dX2_close_150 : decode cX2_close 150 = .ok (.iload_n 2, 1) := by decide +kernel
theorem dX2_close_151 : decode cX2_close 151 = .ok (.iaload, 1) := by decide +kernel
theorem dX2_close_152 : decode cX2_close 152 = .ok (.aload_n 1, 1) := by decide +kernel
theorem dX2_close_153 : decode cX2_close 153 = .ok (.iload_n 2, 1) := by decide +kernel
theorem dX2_close_154 : decode cX2_close 154 = .ok (.iconst 1, 1) := by decide +kernel
theorem dX2_close_155 : decode cX2_close 155 = .ok (.iadd, 1) := by decide +kernel
theorem dX2_close_156 : decode cX2_close 156 = .ok (.iaload, 1) := by decide +kernel
theorem dX2_close_157 : decode cX2_close 157 = .ok (.if_icmp .gt 33, 3) := by decide +kernel
theorem dX2_close_160 : decode cX2_close 160 = .ok (.aload_n 1, 1) := by decide +kernel
theorem dX2_close_161 : decode cX2_close 161 = .ok (.iload_n 2, 1) := by decide +kernel
theorem dX2_close_162 : decode cX2_close 162 = .ok (.iconst 2, 1) := by decide +kernel
theorem dX2_close_163 : decode cX2_close 163 = .ok (.iadd, 1) := by decide +kernel
theorem dX2_close_164 : decode cX2_close 164 = .ok (.iaload, 1) := by decide +kernel
theorem dX2_close_165 : decode cX2_close 165 = .ok (.aload_n 1, 1) := by decide +kernel
theorem dX2_close_166 : decode cX2_close 166 = .ok (.iload_n 2, 1) := by decide +kernel
theorem dX2_close_167 : decode cX2_close 167 = .ok (.iconst 3, 1) := by decide +kernel
theorem dX2_close_168 : decode cX2_close 168 = .ok (.iadd, 1) := by decide +kernel
theorem dX2_close_169 : decode cX2_close 169 = .ok (.iaload, 1) := by decide +kernel
theorem dX2_close_170 : decode cX2_close 170 = .ok (.if_icmp .gt 20, 3) := by decide +kernel
theorem dX2_close_173 : decode cX2_close 173 = .ok (.aload_n 1, 1) := by decide +kernel
theorem dX2_close_174 : decode cX2_close 174 = .ok (.iload_n 2, 1) := by decide +kernel
theorem dX2_close_175 : decode cX2_close 175 = .ok (.iconst 4, 1) := by decide +kernel
theorem dX2_close_176 : decode cX2_close 176 = .ok (.iadd, 1) := by decide +kernel
theorem dX2_close_177 : decode cX2_close 177 = .ok (.iaload, 1) := by decide +kernel
theorem dX2_close_178 : decode cX2_close 178 = .ok (.aload_n 1, 1) := by decide +kernel
theorem dX2_close_179 : decode cX2_close 179 = .ok (.iload_n 2, 1) := by decide +kernel
theorem dX2_close_180 : decode cX2_close 180 = .ok (.iconst 5, 1) := by decide +kernel
theorem dX2_close_181 : decode cX2_close 181 = .ok (.iadd, 1) := by decide +kernel
theorem dX2_close_182 : decode cX2_close 182 = .ok (.iaload, 1) := by decide +kernel
theorem dX2_close_183 : decode cX2_close 183 = .ok (.if_icmp .gt 7, 3) := by decide +kernel
theorem dX2_close_186 : decode cX2_close 186 = .ok (.iconst 1, 1) := by decide +kernel
theorem dX2_close_187 : decode cX2_close 187 = .ok (.goto 4, 3) := by decide +kernel
theorem dX2_close_190 : decode cX2_close 190 = .ok (.iconst 0, 1) := by decide +kernel
theorem dX2_close_191 : decode cX2_close 191 = .ok (.ireturn, 1) := by decide +kernel
set_option maxRecDepth 20000 in
theorem ggX2_holds_X2_greater : GoodIn wsX2_holds wsX2_greater := goodIn_r _ [9] (by decide +kernel) (by decide +kernel)
set_option maxRecDepth 20000 in
theorem gX2_holds_X2_greater : GoodIn wsX2_holds (va_wsS RX2 82 yX2_greater wsX2_greater) := goodIn_app (goodIn_of _ (by decide +kernel)) ggX2_holds_X2_greater
set_option maxRecDepth 20000 in
theorem ggX2_holds_X2_lesser : GoodIn wsX2_holds wsX2_lesser := goodIn_r _ [12] (by decide +kernel) (by decide +kernel)
set_option maxRecDepth 20000 in
theorem gX2_holds_X2_lesser : GoodIn wsX2_holds (va_wsS RX2 98 yX2_lesser wsX2_lesser) := goodIn_app (goodIn_of _ (by decide +kernel)) ggX2_holds_X2_lesser
set_option maxRecDepth 20000 in
theorem ggX2_holds_X2_close : GoodIn wsX2_holds wsX2_close := goodIn_r _ [16, 6, 7, 8, 9, 10, 11, 12] (by decide +kernel) (by decide +kernel)
set_option maxRecDepth 20000 in
theorem gX2_holds_X2_close : GoodIn wsX2_holds (wsV RX2 101 RX2 yX2_close wsX2_close) := goodIn_app (goodIn_of _ (by decide +kernel)) ggX2_holds_X2_close
theorem dX2_holds_0 : decode cX2_holds 0 = .ok (.bipush 6, 2) := by decide +kernel
theorem dX2_holds_2 : decode cX2_holds 2 = .ok (.iload_n 2, 1) := by decide +kernel
theorem dX2_holds_3 : decode cX2_holds 3 = .ok (.imul, 1) := by decide +kernel
theorem dX2_holds_4 : decode cX2_holds 4 = .ok (.istore_n 3, 1) := by decide +kernel
theorem dX2_holds_5 : decode cX2_holds 5 = .ok (.aload_n 1, 1) := by decide +kernel
theorem dX2_holds_6 : decode cX2_holds 6 = .ok (.iload_n 3, 1) := by decide +kernel
theorem dX2_holds_7 : decode cX2_holds 7 = .ok (.aload_n 1, 1) := by decide +kernel
theorem dX2_holds_8 : decode cX2_holds 8 = .ok (.iload_n 3, 1) := by decide +kernel
theorem dX2_holds_9 : decode cX2_holds 9 = .ok (.iaload, 1) := by decide +kernel
theorem dX2_holds_10 : decode cX2_holds 10 = .ok (.iconst 0, 1) := by decide +kernel
theorem dX2_holds_11 : decode cX2_holds 11 = .ok (.invokestatic 82, 3) := by decide +kernel
theorem dX2_holds_14 : decode cX2_holds 14 = .ok (.iastore, 1) := by decide +kernel
theorem dX2_holds_15 : decode cX2_holds 15 = .ok (.aload_n 1, 1) := by decide +kernel
theorem dX2_holds_16 : decode cX2_holds 16 = .ok (.iload_n 3, 1) := by decide +kernel
theorem dX2_holds_17 : decode cX2_holds 17 = .ok (.iconst 2, 1) := by decide +kernel
theorem dX2_holds_18 : decode cX2_holds 18 = .ok (.iadd, 1) := by decide +kernel
theorem dX2_holds_19 : decode cX2_holds 19 = .ok (.aload_n 1, 1) := by decide +kernel
theorem dX2_holds_20 : decode cX2_holds 20 = .ok (.iload_n 3, 1) := by decide +kernel
theorem dX2_holds_21 : decode cX2_holds 21 = .ok (.iconst 2, 1) := by decide +kernel
theorem dX2_holds_22 : decode cX2_holds 22 = .ok (.iadd, 1) := by decide +kernel
theorem dX2_holds_23 : decode cX2_holds 23 = .ok (.iaload, 1) := by decide +kernel
theorem dX2_holds_24 : decode cX2_holds 24 = .ok (.iconst 0, 1) := by decide +kernel
theorem dX2_holds_25 : decode cX2_holds 25 = .ok (.invokestatic 82, 3) := by decide +kernel
theorem dX2_holds_28 : decode cX2_holds 28 = .ok (.iastore, 1) := by decide +kernel
theorem dX2_holds_29 : decode cX2_holds 29 = .ok (.iconst 0, 1) := by decide +kernel
theorem dX2_holds_30 : decode cX2_holds 30 = .ok (.istore 4, 2) := by decide +kernel
theorem dX2_holds_32 : decode cX2_holds 32 = .ok (.iload 4, 2) := by decide +kernel
theorem dX2_holds_34 : decode cX2_holds 34 = .ok (.aload_n 0, 1) := by decide +kernel
theorem dX2_holds_35 : decode cX2_holds 35 = .ok (.getfield 72, 3) := by decide +kernel
theorem dX2_holds_38 : decode cX2_holds 38 = .ok (.if_icmp .ge 99, 3) := by decide +kernel
theorem dX2_holds_41 : decode cX2_holds 41 = .ok (.aload_n 0, 1) := by decide +kernel
theorem dX2_holds_42 : decode cX2_holds 42 = .ok (.getfield 38, 3) := by decide +kernel
theorem dX2_holds_45 : decode cX2_holds 45 = .ok (.iload 4, 2) := by decide +kernel
theorem dX2_holds_47 : decode cX2_holds 47 = .ok (.iaload, 1) := by decide +kernel
theorem dX2_holds_48 : decode cX2_holds 48 = .ok (.iload_n 2, 1) := by decide +kernel
theorem dX2_holds_49 : decode cX2_holds 49 = .ok (.if_icmp .eq 6, 3) := by decide +kernel
theorem dX2_holds_52 : decode cX2_holds 52 = .ok (.goto 79, 3) := by decide +kernel
theorem dX2_holds_55 : decode cX2_holds 55 = .ok (.aload_n 1, 1) := by decide +kernel
theorem dX2_holds_56 : decode cX2_holds 56 = .ok (.iload_n 3, 1) := by decide +kernel
theorem dX2_holds_57 : decode cX2_holds 57 = .ok (.iconst 2, 1) := by decide +kernel
theorem dX2_holds_58 : decode cX2_holds 58 = .ok (.aload_n 0, 1) := by decide +kernel
theorem dX2_holds_59 : decode cX2_holds 59 = .ok (.getfield 41, 3) := by decide +kernel
theorem dX2_holds_62 : decode cX2_holds 62 = .ok (.iload 4, 2) := by decide +kernel
theorem dX2_holds_64 : decode cX2_holds 64 = .ok (.iaload, 1) := by decide +kernel
theorem dX2_holds_65 : decode cX2_holds 65 = .ok (.imul, 1) := by decide +kernel
theorem dX2_holds_66 : decode cX2_holds 66 = .ok (.iadd, 1) := by decide +kernel
theorem dX2_holds_67 : decode cX2_holds 67 = .ok (.aload_n 1, 1) := by decide +kernel
theorem dX2_holds_68 : decode cX2_holds 68 = .ok (.iload_n 3, 1) := by decide +kernel
theorem dX2_holds_69 : decode cX2_holds 69 = .ok (.iconst 2, 1) := by decide +kernel
theorem dX2_holds_70 : decode cX2_holds 70 = .ok (.aload_n 0, 1) := by decide +kernel
theorem dX2_holds_71 : decode cX2_holds 71 = .ok (.getfield 41, 3) := by decide +kernel
theorem dX2_holds_74 : decode cX2_holds 74 = .ok (.iload 4, 2) := by decide +kernel
theorem dX2_holds_76 : decode cX2_holds 76 = .ok (.iaload, 1) := by decide +kernel
theorem dX2_holds_77 : decode cX2_holds 77 = .ok (.imul, 1) := by decide +kernel
theorem dX2_holds_78 : decode cX2_holds 78 = .ok (.iadd, 1) := by decide +kernel
theorem dX2_holds_79 : decode cX2_holds 79 = .ok (.iaload, 1) := by decide +kernel
theorem dX2_holds_80 : decode cX2_holds 80 = .ok (.aload_n 0, 1) := by decide +kernel
theorem dX2_holds_81 : decode cX2_holds 81 = .ok (.getfield 44, 3) := by decide +kernel
theorem dX2_holds_84 : decode cX2_holds 84 = .ok (.iload 4, 2) := by decide +kernel
theorem dX2_holds_86 : decode cX2_holds 86 = .ok (.iaload, 1) := by decide +kernel
theorem dX2_holds_87 : decode cX2_holds 87 = .ok (.invokestatic 82, 3) := by decide +kernel
theorem dX2_holds_90 : decode cX2_holds 90 = .ok (.iastore, 1) := by decide +kernel
theorem dX2_holds_91 : decode cX2_holds 91 = .ok (.aload_n 1, 1) := by decide +kernel
theorem dX2_holds_92 : decode cX2_holds 92 = .ok (.iload_n 3, 1) := by decide +kernel
theorem dX2_holds_93 : decode cX2_holds 93 = .ok (.iconst 2, 1) := by decide +kernel
theorem dX2_holds_94 : decode cX2_holds 94 = .ok (.aload_n 0, 1) := by decide +kernel
theorem dX2_holds_95 : decode cX2_holds 95 = .ok (.getfield 41, 3) := by decide +kernel
theorem dX2_holds_98 : decode cX2_holds 98 = .ok (.iload 4, 2) := by decide +kernel
theorem dX2_holds_100 : decode cX2_holds 100 = .ok (.iaload, 1) := by decide +kernel
theorem dX2_holds_101 : decode cX2_holds 101 = .ok (.imul, 1) := by decide +kernel
theorem dX2_holds_102 : decode cX2_holds 102 = .ok (.iadd, 1) := by decide +kernel
theorem dX2_holds_103 : decode cX2_holds 103 = .ok (.iconst 1, 1) := by decide +kernel
theorem dX2_holds_104 : decode cX2_holds 104 = .ok (.iadd, 1) := by decide +kernel
theorem dX2_holds_105 : decode cX2_holds 105 = .ok (.aload_n 1, 1) := by decide +kernel
theorem dX2_holds_106 : decode cX2_holds 106 = .ok (.iload_n 3, 1) := by decide +kernel
theorem dX2_holds_107 : decode cX2_holds 107 = .ok (.iconst 2, 1) := by decide +kernel
theorem dX2_holds_108 : decode cX2_holds 108 = .ok (.aload_n 0, 1) := by decide +kernel
theorem dX2_holds_109 : decode cX2_holds 109 = .ok (.getfield 41, 3) := by decide +kernel
theorem dX2_holds_112 : decode cX2_holds 112 = .ok (.iload 4, 2) := by decide +kernel
theorem dX2_holds_114 : decode cX2_holds 114 = .ok (.iaload, 1) := by decide +kernel
theorem dX2_holds_115 : decode cX2_holds 115 = .ok (.imul, 1) := by decide +kernel
theorem dX2_holds_116 : decode cX2_holds 116 = .ok (.iadd, 1) := by decide +kernel
theorem dX2_holds_117 : decode cX2_holds 117 = .ok (.iconst 1, 1) := by decide +kernel
theorem dX2_holds_118 : decode cX2_holds 118 = .ok (.iadd, 1) := by decide +kernel
theorem dX2_holds_119 : decode cX2_holds 119 = .ok (.iaload, 1) := by decide +kernel
theorem dX2_holds_120 : decode cX2_holds 120 = .ok (.aload_n 0, 1) := by decide +kernel
theorem dX2_holds_121 : decode cX2_holds 121 = .ok (.getfield 47, 3) := by decide +kernel
theorem dX2_holds_124 : decode cX2_holds 124 = .ok (.iload 4, 2) := by decide +kernel
theorem dX2_holds_126 : decode cX2_holds 126 = .ok (.iaload, 1) := by decide +kernel
theorem dX2_holds_127 : decode cX2_holds 127 = .ok (.invokestatic 98, 3) := by decide +kernel
theorem dX2_holds_130 : decode cX2_holds 130 = .ok (.iastore, 1) := by decide +kernel
theorem dX2_holds_131 : decode cX2_holds 131 = .ok (.iinc 4 1, 3) := by decide +kernel
theorem dX2_holds_134 : decode cX2_holds 134 = .ok (.goto (-102), 3) := by decide +kernel
theorem dX2_holds_137 : decode cX2_holds 137 = .ok (.aload_n 0, 1) := by decide +kernel
theorem dX2_holds_138 : decode cX2_holds 138 = .ok (.aload_n 1, 1) := by decide +kernel
theorem dX2_holds_139 : decode cX2_holds 139 = .ok (.iload_n 3, 1) := by decide +kernel
theorem dX2_holds_140 : decode cX2_holds 140 = .ok (.invokevirtual 101, 3) := by decide +kernel
theorem dX2_holds_143 : decode cX2_holds 143 = .ok (.ireturn, 1) := by decide +kernel
set_option maxRecDepth 20000 in
theorem ggX2_forward_X2_holds : GoodIn wsX2_forward wsX2_holds := goodIn_r _ [10, 11, 12, 13, 14, 15, 16, 17, 9, 18, 19, 20, 21, 22, 23, 24, 25, 54, 55, 56, 57, 58, 59, 60, 61, 62, 63, 64, 65, 66, 67, 68, 69, 70, 71, 72, 73, 74] (by decide +kernel) (by decide +kernel)
set_option maxRecDepth 20000 in
theorem gX2_forward_X2_holds : GoodIn wsX2_forward (wsV RX2 105 RX2 yX2_holds wsX2_holds) := goodIn_app (goodIn_of _ (by decide +kernel)) ggX2_forward_X2_holds
set_option maxRecDepth 20000 in
theorem ggX2_forward_X2_moves : GoodIn wsX2_forward wsX2_moves := goodIn_r _ [29, 5, 30, 31, 32, 33, 34, 9, 35, 36, 37, 38, 39, 40, 41, 42, 43, 16, 17, 18, 44, 45, 46, 47, 48, 49, 50, 51, 52, 53, 54, 55, 56, 57, 58, 59, 60, 61, 62, 63, 64, 65, 66, 67, 68, 69, 70, 71, 72, 73, 74] (by decide +kernel) (by decide +kernel)
set_option maxRecDepth 20000 in
theorem gX2_forward_X2_moves : GoodIn wsX2_forward (wsV RX2 108 RX2 yX2_moves wsX2_moves) := goodIn_app (goodIn_of _ (by decide +kernel)) ggX2_forward_X2_moves
theorem dX2_forward_0 : decode cX2_forward 0 = .ok (.aload_n 0, 1) := by decide +kernel
theorem dX2_forward_1 : decode cX2_forward 1 = .ok (.getfield 50, 3) := by decide +kernel
theorem dX2_forward_4 : decode cX2_forward 4 = .ok (.iconst 0, 1) := by decide +kernel
theorem dX2_forward_5 : decode cX2_forward 5 = .ok (.aload_n 0, 1) := by decide +kernel
theorem dX2_forward_6 : decode cX2_forward 6 = .ok (.getfield 32, 3) := by decide +kernel
theorem dX2_forward_9 : decode cX2_forward 9 = .ok (.iconst 0, 1) := by decide +kernel
theorem dX2_forward_10 : decode cX2_forward 10 = .ok (.iaload, 1) := by decide +kernel
theorem dX2_forward_11 : decode cX2_forward 11 = .ok (.iastore, 1) := by decide +kernel
theorem dX2_forward_12 : decode cX2_forward 12 = .ok (.aload_n 0, 1) := by decide +kernel
theorem dX2_forward_13 : decode cX2_forward 13 = .ok (.getfield 50, 3) := by decide +kernel
theorem dX2_forward_16 : decode cX2_forward 16 = .ok (.iconst 1, 1) := by decide +kernel
theorem dX2_forward_17 : decode cX2_forward 17 = .ok (.aload_n 0, 1) := by decide +kernel
theorem dX2_forward_18 : decode cX2_forward 18 = .ok (.getfield 35, 3) := by decide +kernel
theorem dX2_forward_21 : decode cX2_forward 21 = .ok (.iconst 0, 1) := by decide +kernel
theorem dX2_forward_22 : decode cX2_forward 22 = .ok (.iaload, 1) := by decide +kernel
theorem dX2_forward_23 : decode cX2_forward 23 = .ok (.iastore, 1) := by decide +kernel
theorem dX2_forward_24 : decode cX2_forward 24 = .ok (.aload_n 0, 1) := by decide +kernel
theorem dX2_forward_25 : decode cX2_forward 25 = .ok (.getfield 50, 3) := by decide +kernel
theorem dX2_forward_28 : decode cX2_forward 28 = .ok (.iconst 2, 1) := by decide +kernel
theorem dX2_forward_29 : decode cX2_forward 29 = .ok (.aload_n 0, 1) := by decide +kernel
theorem dX2_forward_30 : decode cX2_forward 30 = .ok (.getfield 32, 3) := by decide +kernel
theorem dX2_forward_33 : decode cX2_forward 33 = .ok (.iconst 1, 1) := by decide +kernel
theorem dX2_forward_34 : decode cX2_forward 34 = .ok (.iaload, 1) := by decide +kernel
theorem dX2_forward_35 : decode cX2_forward 35 = .ok (.iastore, 1) := by decide +kernel
theorem dX2_forward_36 : decode cX2_forward 36 = .ok (.aload_n 0, 1) := by decide +kernel
theorem dX2_forward_37 : decode cX2_forward 37 = .ok (.getfield 50, 3) := by decide +kernel
theorem dX2_forward_40 : decode cX2_forward 40 = .ok (.iconst 3, 1) := by decide +kernel
theorem dX2_forward_41 : decode cX2_forward 41 = .ok (.aload_n 0, 1) := by decide +kernel
theorem dX2_forward_42 : decode cX2_forward 42 = .ok (.getfield 35, 3) := by decide +kernel
theorem dX2_forward_45 : decode cX2_forward 45 = .ok (.iconst 1, 1) := by decide +kernel
theorem dX2_forward_46 : decode cX2_forward 46 = .ok (.iaload, 1) := by decide +kernel
theorem dX2_forward_47 : decode cX2_forward 47 = .ok (.iastore, 1) := by decide +kernel
theorem dX2_forward_48 : decode cX2_forward 48 = .ok (.aload_n 0, 1) := by decide +kernel
theorem dX2_forward_49 : decode cX2_forward 49 = .ok (.getfield 50, 3) := by decide +kernel
theorem dX2_forward_52 : decode cX2_forward 52 = .ok (.iconst 4, 1) := by decide +kernel
theorem dX2_forward_53 : decode cX2_forward 53 = .ok (.aload_n 0, 1) := by decide +kernel
theorem dX2_forward_54 : decode cX2_forward 54 = .ok (.getfield 32, 3) := by decide +kernel
theorem dX2_forward_57 : decode cX2_forward 57 = .ok (.iconst 0, 1) := by decide +kernel
theorem dX2_forward_58 : decode cX2_forward 58 = .ok (.iaload, 1) := by decide +kernel
theorem dX2_forward_59 : decode cX2_forward 59 = .ok (.aload_n 0, 1) := by decide +kernel
theorem dX2_forward_60 : decode cX2_forward 60 = .ok (.getfield 32, 3) := by decide +kernel
theorem dX2_forward_63 : decode cX2_forward 63 = .ok (.iconst 1, 1) := by decide +kernel
theorem dX2_forward_64 : decode cX2_forward 64 = .ok (.iaload, 1) := by decide +kernel
theorem dX2_forward_65 : decode cX2_forward 65 = .ok (.iadd, 1) := by decide +kernel
theorem dX2_forward_66 : decode cX2_forward 66 = .ok (.iastore, 1) := by decide +kernel
theorem dX2_forward_67 : decode cX2_forward 67 = .ok (.aload_n 0, 1) := by decide +kernel
theorem dX2_forward_68 : decode cX2_forward 68 = .ok (.getfield 50, 3) := by decide +kernel
theorem dX2_forward_71 : decode cX2_forward 71 = .ok (.iconst 5, 1) := by decide +kernel
theorem dX2_forward_72 : decode cX2_forward 72 = .ok (.aload_n 0, 1) := by decide +kernel
theorem dX2_forward_73 : decode cX2_forward 73 = .ok (.getfield 35, 3) := by decide +kernel
theorem dX2_forward_76 : decode cX2_forward 76 = .ok (.iconst 0, 1) := by decide +kernel
theorem dX2_forward_77 : decode cX2_forward 77 = .ok (.iaload, 1) := by decide +kernel
theorem dX2_forward_78 : decode cX2_forward 78 = .ok (.aload_n 0, 1) := by decide +kernel
theorem dX2_forward_79 : decode cX2_forward 79 = .ok (.getfield 35, 3) := by decide +kernel
theorem dX2_forward_82 : decode cX2_forward 82 = .ok (.iconst 1, 1) := by decide +kernel
theorem dX2_forward_83 : decode cX2_forward 83 = .ok (.iaload, 1) := by decide +kernel
theorem dX2_forward_84 : decode cX2_forward 84 = .ok (.iadd, 1) := by decide +kernel
theorem dX2_forward_85 : decode cX2_forward 85 = .ok (.iastore, 1) := by decide +kernel
theorem dX2_forward_86 : decode cX2_forward 86 = .ok (.aload_n 0, 1) := by decide +kernel
theorem dX2_forward_87 : decode cX2_forward 87 = .ok (.aload_n 0, 1) := by decide +kernel
theorem dX2_forward_88 : decode cX2_forward 88 = .ok (.getfield 50, 3) := by decide +kernel
theorem dX2_forward_91 : decode cX2_forward 91 = .ok (.iconst 0, 1) := by decide +kernel
theorem dX2_forward_92 : decode cX2_forward 92 = .ok (.invokevirtual 105, 3) := by decide +kernel
theorem dX2_forward_95 : decode cX2_forward 95 = .ok (.ifCond .ne 5, 3) := by decide +kernel
theorem dX2_forward_98 : decode cX2_forward 98 = .ok (.iconst 0, 1) := by decide +kernel
theorem dX2_forward_99 : decode cX2_forward 99 = .ok (.ireturn, 1) := by decide +kernel
theorem dX2_forward_100 : decode cX2_forward 100 = .ok (.iconst 0, 1) := by decide +kernel
theorem dX2_forward_101 : decode cX2_forward 101 = .ok (.istore_n 1, 1) := by decide +kernel
theorem dX2_forward_102 : decode cX2_forward 102 = .ok (.iload_n 1, 1) := by decide +kernel
theorem dX2_forward_103 : decode cX2_forward 103 = .ok (.aload_n 0, 1) := by decide +kernel
theorem dX2_forward_104 : decode cX2_forward 104 = .ok (.getfield 7, 3) := by decide +kernel
theorem dX2_forward_107 : decode cX2_forward 107 = .ok (.if_icmp .ge 222, 3) := by decide +kernel
theorem dX2_forward_110 : decode cX2_forward 110 = .ok (.aload_n 0, 1) := by decide +kernel
theorem dX2_forward_111 : decode cX2_forward 111 = .ok (.iload_n 1, 1) := by decide +kernel
theorem dX2_forward_112 : decode cX2_forward 112 = .ok (.iconst (-1), 1) := by decide +kernel
theorem dX2_forward_113 : decode cX2_forward 113 = .ok (.invokevirtual 108, 3) := by decide +kernel
theorem dX2_forward_116 : decode cX2_forward 116 = .ok (.bipush 6, 2) := by decide +kernel
theorem dX2_forward_118 : decode cX2_forward 118 = .ok (.iload_n 1, 1) := by decide +kernel
theorem dX2_forward_119 : decode cX2_forward 119 = .ok (.imul, 1) := by decide +kernel
theorem dX2_forward_120 : decode cX2_forward 120 = .ok (.istore_n 2, 1) := by decide +kernel
theorem dX2_forward_121 : decode cX2_forward 121 = .ok (.aload_n 0, 1) := by decide +kernel
theorem dX2_forward_122 : decode cX2_forward 122 = .ok (.getfield 50, 3) := by decide +kernel
theorem dX2_forward_125 : decode cX2_forward 125 = .ok (.iload_n 2, 1) := by decide +kernel
theorem dX2_forward_126 : decode cX2_forward 126 = .ok (.bipush 6, 2) := by decide +kernel
theorem dX2_forward_128 : decode cX2_forward 128 = .ok (.iadd, 1) := by decide +kernel
theorem dX2_forward_129 : decode cX2_forward 129 = .ok (.aload_n 0, 1) := by decide +kernel
theorem dX2_forward_130 : decode cX2_forward 130 = .ok (.getfield 50, 3) := by decide +kernel
theorem dX2_forward_133 : decode cX2_forward 133 = .ok (.iload_n 2, 1) := by decide +kernel
theorem dX2_forward_134 : decode cX2_forward 134 = .ok (.iaload, 1) := by decide +kernel
theorem dX2_forward_135 : decode cX2_forward 135 = .ok (.aload_n 0, 1) := by decide +kernel
theorem dX2_forward_136 : decode cX2_forward 136 = .ok (.getfield 59, 3) := by decide +kernel
theorem dX2_forward_139 : decode cX2_forward 139 = .ok (.iconst 0, 1) := by decide +kernel
theorem dX2_forward_140 : decode cX2_forward 140 = .ok (.iaload, 1) := by decide +kernel
theorem dX2_forward_141 : decode cX2_forward 141 = .ok (.iadd, 1) := by decide +kernel
theorem dX2_forward_142 : decode cX2_forward 142 = .ok (.aload_n 0, 1) := by decide +kernel
theorem dX2_forward_143 : decode cX2_forward 143 = .ok (.getfield 59, 3) := by decide +kernel
theorem dX2_forward_146 : decode cX2_forward 146 = .ok (.iconst 5, 1) := by decide +kernel
theorem dX2_forward_147 : decode cX2_forward 147 = .ok (.iaload, 1) := by decide +kernel
theorem dX2_forward_148 : decode cX2_forward 148 = .ok (.isub, 1) := by decide +kernel
theorem dX2_forward_149 : decode cX2_forward 149 = .ok (.iastore, 1) := by decide +kernel
theorem dX2_forward_150 : decode cX2_forward 150 = .ok (.aload_n 0, 1) := by decide +kernel
theorem dX2_forward_151 : decode cX2_forward 151 = .ok (.getfield 50, 3) := by decide +kernel
theorem dX2_forward_154 : decode cX2_forward 154 = .ok (.iload_n 2, 1) := by decide +kernel
theorem dX2_forward_155 : decode cX2_forward 155 = .ok (.bipush 7, 2) := by decide +kernel
theorem dX2_forward_157 : decode cX2_forward 157 = .ok (.iadd, 1) := by decide +kernel
theorem dX2_forward_158 : decode cX2_forward 158 = .ok (.aload_n 0, 1) := by decide +kernel
theorem dX2_forward_159 : decode cX2_forward 159 = .ok (.getfield 50, 3) := by decide +kernel
theorem dX2_forward_162 : decode cX2_forward 162 = .ok (.iload_n 2, 1) := by decide +kernel
theorem dX2_forward_163 : decode cX2_forward 163 = .ok (.iconst 1, 1) := by decide +kernel
theorem dX2_forward_164 : decode cX2_forward 164 = .ok (.iadd, 1) := by decide +kernel
theorem dX2_forward_165 : decode cX2_forward 165 = .ok (.iaload, 1) := by decide +kernel
theorem dX2_forward_166 : decode cX2_forward 166 = .ok (.aload_n 0, 1) := by decide +kernel
theorem dX2_forward_167 : decode cX2_forward 167 = .ok (.getfield 59, 3) := by decide +kernel
theorem dX2_forward_170 : decode cX2_forward 170 = .ok (.iconst 1, 1) := by decide +kernel
theorem dX2_forward_171 : decode cX2_forward 171 = .ok (.iaload, 1) := by decide +kernel
theorem dX2_forward_172 : decode cX2_forward 172 = .ok (.iadd, 1) := by decide +kernel
theorem dX2_forward_173 : decode cX2_forward 173 = .ok (.aload_n 0, 1) := by decide +kernel
theorem dX2_forward_174 : decode cX2_forward 174 = .ok (.getfield 59, 3) := by decide +kernel
theorem dX2_forward_177 : decode cX2_forward 177 = .ok (.iconst 4, 1) := by decide +kernel
theorem dX2_forward_178 : decode cX2_forward 178 = .ok (.iaload, 1) := by decide +kernel
theorem dX2_forward_179 : decode cX2_forward 179 = .ok (.isub, 1) := by decide +kernel
theorem dX2_forward_180 : decode cX2_forward 180 = .ok (.iastore, 1) := by decide +kernel
theorem dX2_forward_181 : decode cX2_forward 181 = .ok (.aload_n 0, 1) := by decide +kernel
theorem dX2_forward_182 : decode cX2_forward 182 = .ok (.getfield 50, 3) := by decide +kernel
theorem dX2_forward_185 : decode cX2_forward 185 = .ok (.iload_n 2, 1) := by decide +kernel
theorem dX2_forward_186 : decode cX2_forward 186 = .ok (.bipush 8, 2) := by decide +kernel
theorem dX2_forward_188 : decode cX2_forward 188 = .ok (.iadd, 1) := by decide +kernel
theorem dX2_forward_189 : decode cX2_forward 189 = .ok (.aload_n 0, 1) := by decide +kernel
theorem dX2_forward_190 : decode cX2_forward 190 = .ok (.getfield 50, 3) := by decide +kernel
theorem dX2_forward_193 : decode cX2_forward 193 = .ok (.iload_n 2, 1) := by decide +kernel
theorem dX2_forward_194 : decode cX2_forward 194 = .ok (.iconst 2, 1) := by decide +kernel
theorem dX2_forward_195 : decode cX2_forward 195 = .ok (.iadd, 1) := by decide +kernel
theorem dX2_forward_196 : decode cX2_forward 196 = .ok (.iaload, 1) := by decide +kernel
theorem dX2_forward_197 : decode cX2_forward 197 = .ok (.aload_n 0, 1) := by decide +kernel
theorem dX2_forward_198 : decode cX2_forward 198 = .ok (.getfield 59, 3) := by decide +kernel
theorem dX2_forward_201 : decode cX2_forward 201 = .ok (.iconst 2, 1) := by decide +kernel
theorem dX2_forward_202 : decode cX2_forward 202 = .ok (.iaload, 1) := by decide +kernel
theorem dX2_forward_203 : decode cX2_forward 203 = .ok (.iadd, 1) := by decide +kernel
theorem dX2_forward_204 : decode cX2_forward 204 = .ok (.aload_n 0, 1) := by decide +kernel
theorem dX2_forward_205 : decode cX2_forward 205 = .ok (.getfield 59, 3) := by decide +kernel
theorem dX2_forward_208 : decode cX2_forward 208 = .ok (.iconst 4, 1) := by decide +kernel
theorem dX2_forward_209 : decode cX2_forward 209 = .ok (.iaload, 1) := by decide +kernel
theorem dX2_forward_210 : decode cX2_forward 210 = .ok (.iadd, 1) := by decide +kernel
theorem dX2_forward_211 : decode cX2_forward 211 = .ok (.iastore, 1) := by decide +kernel
theorem dX2_forward_212 : decode cX2_forward 212 = .ok (.aload_n 0, 1) := by decide +kernel
theorem dX2_forward_213 : decode cX2_forward 213 = .ok (.getfield 50, 3) := by decide +kernel
theorem dX2_forward_216 : decode cX2_forward 216 = .ok (.iload_n 2, 1) := by decide +kernel
theorem dX2_forward_217 : decode cX2_forward 217 = .ok (.bipush 9, 2) := by decide +kernel
theorem dX2_forward_219 : decode cX2_forward 219 = .ok (.iadd, 1) := by decide +kernel
theorem dX2_forward_220 : decode cX2_forward 220 = .ok (.aload_n 0, 1) := by decide +kernel
theorem dX2_forward_221 : decode cX2_forward 221 = .ok (.getfield 50, 3) := by decide +kernel
theorem dX2_forward_224 : decode cX2_forward 224 = .ok (.iload_n 2, 1) := by decide +kernel
theorem dX2_forward_225 : decode cX2_forward 225 = .ok (.iconst 3, 1) := by decide +kernel
theorem dX2_forward_226 : decode cX2_forward 226 = .ok (.iadd, 1) := by decide +kernel
theorem dX2_forward_227 : decode cX2_forward 227 = .ok (.iaload, 1) := by decide +kernel
theorem dX2_forward_228 : decode cX2_forward 228 = .ok (.aload_n 0, 1) := by decide +kernel
theorem dX2_forward_229 : decode cX2_forward 229 = .ok (.getfield 59, 3) := by decide +kernel
theorem dX2_forward_232 : decode cX2_forward 232 = .ok (.iconst 3, 1) := by decide +kernel
theorem dX2_forward_233 : decode cX2_forward 233 = .ok (.iaload, 1) := by decide +kernel
theorem dX2_forward_234 : decode cX2_forward 234 = .ok (.iadd, 1) := by decide +kernel
theorem dX2_forward_235 : decode cX2_forward 235 = .ok (.aload_n 0, 1) := by decide +kernel
theorem dX2_forward_236 : decode cX2_forward 236 = .ok (.getfield 59, 3) := by decide +kernel
theorem dX2_forward_239 : decode cX2_forward 239 = .ok (.iconst 5, 1) := by decide +kernel
theorem dX2_forward_240 : decode cX2_forward 240 = .ok (.iaload, 1) := by decide +kernel
theorem dX2_forward_241 : decode cX2_forward 241 = .ok (.iadd, 1) := by decide +kernel
theorem dX2_forward_242 : decode cX2_forward 242 = .ok (.iastore, 1) := by decide +kernel
theorem dX2_forward_243 : decode cX2_forward 243 = .ok (.aload_n 0, 1) := by decide +kernel
theorem dX2_forward_244 : decode cX2_forward 244 = .ok (.getfield 50, 3) := by decide +kernel
theorem dX2_forward_247 : decode cX2_forward 247 = .ok (.iload_n 2, 1) := by decide +kernel
theorem dX2_forward_248 : decode cX2_forward 248 = .ok (.bipush 10, 2) := by decide +kernel
theorem dX2_forward_250 : decode cX2_forward 250 = .ok (.iadd, 1) := by decide +kernel
theorem dX2_forward_251 : decode cX2_forward 251 = .ok (.aload_n 0, 1) := by decide +kernel
theorem dX2_forward_252 : decode cX2_forward 252 = .ok (.getfield 50, 3) := by decide +kernel
theorem dX2_forward_255 : decode cX2_forward 255 = .ok (.iload_n 2, 1) := by decide +kernel
