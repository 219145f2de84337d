theorem dX6_init_0 : decode cX6_init 0 = .ok (.aload_n 0, 1) := by decide +kernel
theorem dX6_init_1 : decode cX6_init 1 = .ok (.invokespecial 1, 3) := by decide +kernel
theorem dX6_init_4 : decode cX6_init 4 = .ok (.aload_n 0, 1) := by decide +kernel
theorem dX6_init_5 : decode cX6_init 5 = .ok (.bipush 30, 2) := by decide +kernel
theorem dX6_init_7 : decode cX6_init 7 = .ok (.putfield 7, 3) := by decide +kernel
theorem dX6_init_10 : decode cX6_init 10 = .ok (.aload_n 0, 1) := by decide +kernel
theorem dX6_init_11 : decode cX6_init 11 = .ok (.iconst 1, 1) := by decide +kernel
theorem dX6_init_12 : decode cX6_init 12 = .ok (.putfield 13, 3) := by decide +kernel
theorem dX6_init_15 : decode cX6_init 15 = .ok (.aload_n 0, 1) := by decide +kernel
theorem dX6_init_16 : decode cX6_init 16 = .ok (.iconst 1, 1) := by decide +kernel
theorem dX6_init_17 : decode cX6_init 17 = .ok (.putfield 16, 3) := by decide +kernel
theorem dX6_init_20 : decode cX6_init 20 = .ok (.aload_n 0, 1) := by decide +kernel
theorem dX6_init_21 : decode cX6_init 21 = .ok (.bipush 8, 2) := by decide +kernel
theorem dX6_init_23 : decode cX6_init 23 = .ok (.newarray .int, 2) := by decide +kernel
theorem dX6_init_25 : decode cX6_init 25 = .ok (.putfield 19, 3) := by decide +kernel
theorem dX6_init_28 : decode cX6_init 28 = .ok (.aload_n 0, 1) := by decide +kernel
theorem dX6_init_29 : decode cX6_init 29 = .ok (.bipush 8, 2) := by decide +kernel
theorem dX6_init_31 : decode cX6_init 31 = .ok (.newarray .boolean, 2) := by decide +kernel
theorem dX6_init_33 : decode cX6_init 33 = .ok (.putfield 23, 3) := by decide +kernel
theorem dX6_init_36 : decode cX6_init 36 = .ok (.aload_n 0, 1) := by decide +kernel
theorem dX6_init_37 : decode cX6_init 37 = .ok (.bipush 8, 2) := by decide +kernel
theorem dX6_init_39 : decode cX6_init 39 = .ok (.newarray .int, 2) := by decide +kernel
theorem dX6_init_41 : decode cX6_init 41 = .ok (.putfield 27, 3) := by decide +kernel
theorem dX6_init_44 : decode cX6_init 44 = .ok (.aload_n 0, 1) := by decide +kernel
theorem dX6_init_45 : decode cX6_init 45 = .ok (.bipush 8, 2) := by decide +kernel
theorem dX6_init_47 : decode cX6_init 47 = .ok (.newarray .int, 2) := by decide +kernel
theorem dX6_init_49 : decode cX6_init 49 = .ok (.putfield 30, 3) := by decide +kernel
theorem dX6_init_52 : decode cX6_init 52 = .ok (.aload_n 0, 1) := by decide +kernel
theorem dX6_init_53 : decode cX6_init 53 = .ok (.bipush 8, 2) := by decide +kernel
theorem dX6_init_55 : decode cX6_init 55 = .ok (.newarray .int, 2) := by decide +kernel
theorem dX6_init_57 : decode cX6_init 57 = .ok (.putfield 33, 3) := by decide +kernel
theorem dX6_init_60 : decode cX6_init 60 = .ok (.aload_n 0, 1) := by decide +kernel
theorem dX6_init_61 : decode cX6_init 61 = .ok (.bipush 8, 2) := by decide +kernel
theorem dX6_init_63 : decode cX6_init 63 = .ok (.newarray .int, 2) := by decide +kernel
theorem dX6_init_65 : decode cX6_init 65 = .ok (.putfield 36, 3) := by decide +kernel
theorem dX6_init_68 : decode cX6_init 68 = .ok (.aload_n 0, 1) := by decide +kernel
theorem dX6_init_69 : decode cX6_init 69 = .ok (.bipush 8, 2) := by decide +kernel
theorem dX6_init_71 : decode cX6_init 71 = .ok (.newarray .int, 2) := by decide +kernel
theorem dX6_init_73 : decode cX6_init 73 = .ok (.putfield 39, 3) := by decide +kernel
theorem dX6_init_76 : decode cX6_init 76 = .ok (.aload_n 0, 1) := by decide +kernel
theorem dX6_init_77 : decode cX6_init 77 = .ok (.sipush 20808, 3) := by decide +kernel
theorem dX6_init_80 : decode cX6_init 80 = .ok (.newarray .int, 2) := by decide +kernel
theorem dX6_init_82 : decode cX6_init 82 = .ok (.putfield 42, 3) := by decide +kernel
theorem dX6_init_85 : decode cX6_init 85 = .ok (.aload_n 0, 1) := by decide +kernel
theorem dX6_init_86 : decode cX6_init 86 = .ok (.sipush 20808, 3) := by decide +kernel
theorem dX6_init_89 : decode cX6_init 89 = .ok (.newarray .int, 2) := by decide +kernel
theorem dX6_init_91 : decode cX6_init 91 = .ok (.putfield 45, 3) := by decide +kernel
theorem dX6_init_94 : decode cX6_init 94 = .ok (.aload_n 0, 1) := by decide +kernel
theorem dX6_init_95 : decode cX6_init 95 = .ok (.sipush 408, 3) := by decide +kernel
theorem dX6_init_98 : decode cX6_init 98 = .ok (.newarray .boolean, 2) := by decide +kernel
theorem dX6_init_100 : decode cX6_init 100 = .ok (.putfield 48, 3) := by decide +kernel
theorem dX6_init_103 : decode cX6_init 103 = .ok (.aload_n 0, 1) := by decide +kernel
theorem dX6_init_104 : decode cX6_init 104 = .ok (.bipush 8, 2) := by decide +kernel
theorem dX6_init_106 : decode cX6_init 106 = .ok (.newarray .int, 2) := by decide +kernel
theorem dX6_init_108 : decode cX6_init 108 = .ok (.putfield 51, 3) := by decide +kernel
theorem dX6_init_111 : decode cX6_init 111 = .ok (.aload_n 0, 1) := by decide +kernel
theorem dX6_init_112 : decode cX6_init 112 = .ok (.bipush 6, 2) := by decide +kernel
theorem dX6_init_114 : decode cX6_init 114 = .ok (.newarray .int, 2) := by decide +kernel
theorem dX6_init_116 : decode cX6_init 116 = .ok (.putfield 54, 3) := by decide +kernel
theorem dX6_init_119 : decode cX6_init 119 = .ok (.aload_n 0, 1) := by decide +kernel
theorem dX6_init_120 : decode cX6_init 120 = .ok (.bipush 6, 2) := by decide +kernel
theorem dX6_init_122 : decode cX6_init 122 = .ok (.newarray .int, 2) := by decide +kernel
theorem dX6_init_124 : decode cX6_init 124 = .ok (.putfield 57, 3) := by decide +kernel
theorem dX6_init_127 : decode cX6_init 127 = .ok (.aload_n 0, 1) := by decide +kernel
theorem dX6_init_128 : decode cX6_init 128 = .ok (.bipush 6, 2) := by decide +kernel
theorem dX6_init_130 : decode cX6_init 130 = .ok (.newarray .int, 2) := by decide +kernel
theorem dX6_init_132 : decode cX6_init 132 = .ok (.putfield 60, 3) := by decide +kernel
theorem dX6_init_135 : decode cX6_init 135 = .ok (.aload_n 0, 1) := by decide +kernel
theorem dX6_init_136 : decode cX6_init 136 = .ok (.bipush 6, 2) := by decide +kernel
theorem dX6_init_138 : decode cX6_init 138 = .ok (.newarray .int, 2) := by decide +kernel
theorem dX6_init_140 : decode cX6_init 140 = .ok (.dup, 1) := by decide +kernel
theorem dX6_init_141 : decode cX6_init 141 = .ok (.iconst 0, 1) := by decide +kernel
theorem dX6_init_142 : decode cX6_init 142 = .ok (.iconst (-1), 1) := by decide +kernel
theorem dX6_init_143 : decode cX6_init 143 = .ok (.iastore, 1) := by decide +kernel
theorem dX6_init_144 : decode cX6_init 144 = .ok (.dup, 1) := by decide +kernel
theorem dX6_init_145 : decode cX6_init 145 = .ok (.iconst 1, 1) := by decide +kernel
theorem dX6_init_146 : decode cX6_init 146 = .ok (.iconst (-1), 1) := by decide +kernel
theorem dX6_init_147 : decode cX6_init 147 = .ok (.iastore, 1) := by decide +kernel
theorem dX6_init_148 : decode cX6_init 148 = .ok (.dup, 1) := by decide +kernel
theorem dX6_init_149 : decode cX6_init 149 = .ok (.iconst 2, 1) := by decide +kernel
theorem dX6_init_150 : decode cX6_init 150 = .ok (.iconst (-1), 1) := by decide +kernel
theorem dX6_init_151 : decode cX6_init 151 = .ok (.iastore, 1) := by decide +kernel
theorem dX6_init_152 : decode cX6_init 152 = .ok (.dup, 1) := by decide +kernel
theorem dX6_init_153 : decode cX6_init 153 = .ok (.iconst 3, 1) := by decide +kernel
theorem dX6_init_154 : decode cX6_init 154 = .ok (.iconst (-1), 1) := by decide +kernel
theorem dX6_init_155 : decode cX6_init 155 = .ok (.iastore, 1) := by decide +kernel
theorem dX6_init_156 : decode cX6_init 156 = .ok (.dup, 1) := by decide +kernel
theorem dX6_init_157 : decode cX6_init 157 = .ok (.iconst 4, 1) := by decide +kernel
theorem dX6_init_158 : decode cX6_init 158 = .ok (.iconst (-1), 1) := by decide +kernel
theorem dX6_init_159 : decode cX6_init 159 = .ok (.iastore, 1) := by decide +kernel
theorem dX6_init_160 : decode cX6_init 160 = .ok (.dup, 1) := by decide +kernel
theorem dX6_init_161 : decode cX6_init 161 = .ok (.iconst 5, 1) := by decide +kernel
theorem dX6_init_162 : decode cX6_init 162 = .ok (.iconst (-1), 1) := by decide +kernel
theorem dX6_init_163 : decode cX6_init 163 = .ok (.iastore, 1) := by decide +kernel
theorem dX6_init_164 : decode cX6_init 164 = .ok (.putfield 63, 3) := by decide +kernel
theorem dX6_init_167 : decode cX6_init 167 = .ok (.aload_n 0, 1) := by decide +kernel
theorem dX6_init_168 : decode cX6_init 168 = .ok (.bipush 6, 2) := by decide +kernel
theorem dX6_init_170 : decode cX6_init 170 = .ok (.newarray .int, 2) := by decide +kernel
theorem dX6_init_172 : decode cX6_init 172 = .ok (.putfield 66, 3) := by decide +kernel
theorem dX6_init_175 : decode cX6_init 175 = .ok (.aload_n 0, 1) := by decide +kernel
theorem dX6_init_176 : decode cX6_init 176 = .ok (.sipush 384, 3) := by decide +kernel
theorem dX6_init_179 : decode cX6_init 179 = .ok (.newarray .int, 2) := by decide +kernel
theorem dX6_init_181 : decode cX6_init 181 = .ok (.putfield 69, 3) := by decide +kernel
theorem dX6_init_184 : decode cX6_init 184 = .ok (.aload_n 0, 1) := by decide +kernel
theorem dX6_init_185 : decode cX6_init 185 = .ok (.bipush 64, 2) := by decide +kernel
theorem dX6_init_187 : decode cX6_init 187 = .ok (.newarray .int, 2) := by decide +kernel
theorem dX6_init_189 : decode cX6_init 189 = .ok (.putfield 72, 3) := by decide +kernel
theorem dX6_init_192 : decode cX6_init 192 = .ok (.return_, 1) := by decide +kernel
theorem dX6_in_0 : decode cX6_in 0 = .ok (.lload_n 0, 1) := by decide +kernel
theorem dX6_in_1 : decode cX6_in 1 = .ok (.lload_n 2, 1) := by decide +kernel
theorem dX6_in_2 : decode cX6_in 2 = .ok (.lcmp, 1) := by decide +kernel
theorem dX6_in_3 : decode cX6_in 3 = .ok (.ifCond .lt 14, 3) := by decide +kernel
theorem dX6_in_6 : decode cX6_in 6 = .ok (.lload_n 0, 1) := by decide +kernel
theorem dX6_in_7 : decode cX6_in 7 = .ok (.lload 4, 2) := by decide +kernel
theorem dX6_in_9 : decode cX6_in 9 = .ok (.lcmp, 1) := by decide +kernel
theorem dX6_in_10 : decode cX6_in 10 = .ok (.ifCond .gt 7, 3) := by decide +kernel
theorem dX6_in_13 : decode cX6_in 13 = .ok (.iconst 1, 1) := by decide +kernel
theorem dX6_in_14 : decode cX6_in 14 = .ok (.goto 4, 3) := by decide +kernel
theorem dX6_in_17 : decode cX6_in 17 = .ok (.iconst 0, 1) := by decide +kernel
theorem dX6_in_18 : decode cX6_in 18 = .ok (.ireturn, 1) := by decide +kernel
theorem dX6_finds_0 : decode cX6_finds 0 = .ok (.aload_n 0, 1) := by decide +kernel
theorem dX6_finds_1 : decode cX6_finds 1 = .ok (.dup, 1) := by decide +kernel
theorem dX6_finds_2 : decode cX6_finds 2 = .ok (.getfield 78, 3) := by decide +kernel
theorem dX6_finds_5 : decode cX6_finds 5 = .ok (.iconst 1, 1) := by decide +kernel
theorem dX6_finds_6 : decode cX6_finds 6 = .ok (.iadd, 1) := by decide +kernel
theorem dX6_finds_7 : decode cX6_finds 7 = .ok (.putfield 78, 3) := by decide +kernel
theorem dX6_finds_10 : decode cX6_finds 10 = .ok (.iload_n 1, 1) := by decide +kernel
theorem dX6_finds_11 : decode cX6_finds 11 = .ok (.ireturn, 1) := by decide +kernel
theorem dX6_floor_0 : decode cX6_floor 0 = .ok (.aload_n 0, 1) := by decide +kernel
theorem dX6_floor_1 : decode cX6_floor 1 = .ok (.getfield 81, 3) := by decide +kernel
theorem dX6_floor_4 : decode cX6_floor 4 = .ok (.aload_n 0, 1) := by decide +kernel
theorem dX6_floor_5 : decode cX6_floor 5 = .ok (.getfield 7, 3) := by decide +kernel
theorem dX6_floor_8 : decode cX6_floor 8 = .ok (.iadd, 1) := by decide +kernel
theorem dX6_floor_9 : decode cX6_floor 9 = .ok (.ireturn, 1) := by decide +kernel
set_option maxRecDepth 20000 in
theorem ggX6_isPlace_X6_in : GoodIn wsX6_isPlace wsX6_in := goodIn_r _ [6] (by decide +kernel) (by decide +kernel)
set_option maxRecDepth 20000 in
theorem gX6_isPlace_X6_in : GoodIn wsX6_isPlace (va_wsS RX6 86 yX6_in wsX6_in) := goodIn_app (goodIn_of _ (by decide +kernel)) ggX6_isPlace_X6_in
set_option maxRecDepth 20000 in
theorem ggX6_isPlace_X6_floor : GoodIn wsX6_isPlace wsX6_floor := goodIn_r _ [10, 2, 11, 12, 13, 14, 15, 16, 17, 18, 19, 20, 21, 22, 23, 24, 25, 26, 27, 28, 29, 30, 31, 32, 33, 34, 35, 36, 37, 38, 39] (by decide +kernel) (by decide +kernel)
set_option maxRecDepth 20000 in
theorem gX6_isPlace_X6_floor : GoodIn wsX6_isPlace (wsV RX6 90 RX6 yX6_floor wsX6_floor) := goodIn_app (goodIn_of _ (by decide +kernel)) ggX6_isPlace_X6_floor
theorem dX6_isPlace_0 : decode cX6_isPlace 0 = .ok (.iload_n 1, 1) := by decide +kernel
theorem dX6_isPlace_1 : decode cX6_isPlace 1 = .ok (.i2l, 1) := by decide +kernel
theorem dX6_isPlace_2 : decode cX6_isPlace 2 = .ok (.lconst 0, 1) := by decide +kernel
theorem dX6_isPlace_3 : decode cX6_isPlace 3 = .ok (.ldc2_w 84, 3) := by decide +kernel
theorem dX6_isPlace_6 : decode cX6_isPlace 6 = .ok (.invokestatic 86, 3) := by decide +kernel
theorem dX6_isPlace_9 : decode cX6_isPlace 9 = .ok (.ifCond .eq 25, 3) := by decide +kernel
theorem dX6_isPlace_12 : decode cX6_isPlace 12 = .ok (.iload_n 2, 1) := by decide +kernel
theorem dX6_isPlace_13 : decode cX6_isPlace 13 = .ok (.i2l, 1) := by decide +kernel
theorem dX6_isPlace_14 : decode cX6_isPlace 14 = .ok (.aload_n 0, 1) := by decide +kernel
theorem dX6_isPlace_15 : decode cX6_isPlace 15 = .ok (.getfield 81, 3) := by decide +kernel
theorem dX6_isPlace_18 : decode cX6_isPlace 18 = .ok (.i2l, 1) := by decide +kernel
theorem dX6_isPlace_19 : decode cX6_isPlace 19 = .ok (.aload_n 0, 1) := by decide +kernel
theorem dX6_isPlace_20 : decode cX6_isPlace 20 = .ok (.invokevirtual 90, 3) := by decide +kernel
theorem dX6_isPlace_23 : decode cX6_isPlace 23 = .ok (.i2l, 1) := by decide +kernel
theorem dX6_isPlace_24 : decode cX6_isPlace 24 = .ok (.invokestatic 86, 3) := by decide +kernel
theorem dX6_isPlace_27 : decode cX6_isPlace 27 = .ok (.ifCond .eq 7, 3) := by decide +kernel
theorem dX6_isPlace_30 : decode cX6_isPlace 30 = .ok (.iconst 1, 1) := by decide +kernel
theorem dX6_isPlace_31 : decode cX6_isPlace 31 = .ok (.goto 4, 3) := by decide +kernel
theorem dX6_isPlace_34 : decode cX6_isPlace 34 = .ok (.iconst 0, 1) := by decide +kernel
theorem dX6_isPlace_35 : decode cX6_isPlace 35 = .ok (.ireturn, 1) := by decide +kernel
set_option maxRecDepth 20000 in
theorem ggX6_noElement_X6_in : GoodIn wsX6_noElement wsX6_in := goodIn_r _ [5] (by decide +kernel) (by decide +kernel)
set_option maxRecDepth 20000 in
theorem gX6_noElement_X6_in : GoodIn wsX6_noElement (va_wsS RX6 86 yX6_in wsX6_in) := goodIn_app (goodIn_of _ (by decide +kernel)) ggX6_noElement_X6_in
theorem dX6_noElement_0 : decode cX6_noElement 0 = .ok (.iload_n 1, 1) := by decide +kernel
theorem dX6_noElement_1 : decode cX6_noElement 1 = .ok (.i2l, 1) := by decide +kernel
theorem dX6_noElement_2 : decode cX6_noElement 2 = .ok (.lconst 0, 1) := by decide +kernel
theorem dX6_noElement_3 : decode cX6_noElement 3 = .ok (.aload_n 0, 1) := by decide +kernel
theorem dX6_noElement_4 : decode cX6_noElement 4 = .ok (.getfield 94, 3) := by decide +kernel
theorem dX6_noElement_7 : decode cX6_noElement 7 = .ok (.iconst 1, 1) := by decide +kernel
theorem dX6_noElement_8 : decode cX6_noElement 8 = .ok (.isub, 1) := by decide +kernel
theorem dX6_noElement_9 : decode cX6_noElement 9 = .ok (.i2l, 1) := by decide +kernel
theorem dX6_noElement_10 : decode cX6_noElement 10 = .ok (.invokestatic 86, 3) := by decide +kernel
theorem dX6_noElement_13 : decode cX6_noElement 13 = .ok (.ifCond .ne 7, 3) := by decide +kernel
theorem dX6_noElement_16 : decode cX6_noElement 16 = .ok (.iconst 1, 1) := by decide +kernel
theorem dX6_noElement_17 : decode cX6_noElement 17 = .ok (.goto 4, 3) := by decide +kernel
theorem dX6_noElement_20 : decode cX6_noElement 20 = .ok (.iconst 0, 1) := by decide +kernel
theorem dX6_noElement_21 : decode cX6_noElement 21 = .ok (.ireturn, 1) := by decide +kernel
theorem dX6_working_0 : decode cX6_working 0 = .ok (.iconst 0, 1) := by decide +kernel
theorem dX6_working_1 : decode cX6_working 1 = .ok (.istore_n 1, 1) := by decide +kernel
theorem dX6_working_2 : decode cX6_working 2 = .ok (.iconst 0, 1) := by decide +kernel
theorem dX6_working_3 : decode cX6_working 3 = .ok (.istore_n 2, 1) := by decide +kernel
theorem dX6_working_4 : decode cX6_working 4 = .ok (.iload_n 2, 1) := by decide +kernel
theorem dX6_working_5 : decode cX6_working 5 = .ok (.aload_n 0, 1) := by decide +kernel
theorem dX6_working_6 : decode cX6_working 6 = .ok (.getfield 94, 3) := by decide +kernel
theorem dX6_working_9 : decode cX6_working 9 = .ok (.if_icmp .ge 26, 3) := by decide +kernel
theorem dX6_working_12 : decode cX6_working 12 = .ok (.iload_n 1, 1) := by decide +kernel
theorem dX6_working_13 : decode cX6_working 13 = .ok (.aload_n 0, 1) := by decide +kernel
theorem dX6_working_14 : decode cX6_working 14 = .ok (.getfield 23, 3) := by decide +kernel
theorem dX6_working_17 : decode cX6_working 17 = .ok (.iload_n 2, 1) := by decide +kernel
theorem dX6_working_18 : decode cX6_working 18 = .ok (.baload, 1) := by decide +kernel
theorem dX6_working_19 : decode cX6_working 19 = .ok (.ifCond .eq 7, 3) := by decide +kernel
theorem dX6_working_22 : decode cX6_working 22 = .ok (.iconst 0, 1) := by decide +kernel
theorem dX6_working_23 : decode cX6_working 23 = .ok (.goto 4, 3) := by decide +kernel
theorem dX6_working_26 : decode cX6_working 26 = .ok (.iconst 1, 1) := by decide +kernel
theorem dX6_working_27 : decode cX6_working 27 = .ok (.iadd, 1) := by decide +kernel
theorem dX6_working_28 : decode cX6_working 28 = .ok (.istore_n 1, 1) := by decide +kernel
theorem dX6_working_29 : decode cX6_working 29 = .ok (.iinc 2 1, 3) := by decide +kernel
theorem dX6_working_32 : decode cX6_working 32 = .ok (.goto (-28), 3) := by decide +kernel
theorem dX6_working_35 : decode cX6_working 35 = .ok (.iload_n 1, 1) := by decide +kernel
theorem dX6_working_36 : decode cX6_working 36 = .ok (.ireturn, 1) := by decide +kernel
theorem dX6_ticks_0 : decode cX6_ticks 0 = .ok (.iload_n 0, 1) := by decide +kernel
theorem dX6_ticks_1 : decode cX6_ticks 1 = .ok (.iload_n 0, 1) := by decide +kernel
theorem dX6_ticks_2 : decode cX6_ticks 2 = .ok (.imul, 1) := by decide +kernel
theorem dX6_ticks_3 : decode cX6_ticks 3 = .ok (.iload_n 1, 1) := by decide +kernel
theorem dX6_ticks_4 : decode cX6_ticks 4 = .ok (.iload_n 1, 1) := by decide +kernel
theorem dX6_ticks_5 : decode cX6_ticks 5 = .ok (.imul, 1) := by decide +kernel
theorem dX6_ticks_6 : decode cX6_ticks 6 = .ok (.iload_n 2, 1) := by decide +kernel
theorem dX6_ticks_7 : decode cX6_ticks 7 = .ok (.iload_n 2, 1) := by decide +kernel
theorem dX6_ticks_8 : decode cX6_ticks 8 = .ok (.imul, 1) := by decide +kernel
theorem dX6_ticks_9 : decode cX6_ticks 9 = .ok (.iadd, 1) := by decide +kernel
theorem dX6_ticks_10 : decode cX6_ticks 10 = .ok (.imul, 1) := by decide +kernel
theorem dX6_ticks_11 : decode cX6_ticks 11 = .ok (.istore_n 3, 1) := by decide +kernel
theorem dX6_ticks_12 : decode cX6_ticks 12 = .ok (.iconst 0, 1) := by decide +kernel
theorem dX6_ticks_13 : decode cX6_ticks 13 = .ok (.istore 4, 2) := by decide +kernel
theorem dX6_ticks_15 : decode cX6_ticks 15 = .ok (.sipush 512, 3) := by decide +kernel
theorem dX6_ticks_18 : decode cX6_ticks 18 = .ok (.istore 5, 2) := by decide +kernel
theorem dX6_ticks_20 : decode cX6_ticks 20 = .ok (.iload 5, 2) := by decide +kernel
theorem dX6_ticks_22 : decode cX6_ticks 22 = .ok (.ifCond .le 38, 3) := by decide +kernel
theorem dX6_ticks_25 : decode cX6_ticks 25 = .ok (.iload 4, 2) := by decide +kernel
theorem dX6_ticks_27 : decode cX6_ticks 27 = .ok (.iload 4, 2) := by decide +kernel
theorem dX6_ticks_29 : decode cX6_ticks 29 = .ok (.iload 5, 2) := by decide +kernel
theorem dX6_ticks_31 : decode cX6_ticks 31 = .ok (.iadd, 1) := by decide +kernel
theorem dX6_ticks_32 : decode cX6_ticks 32 = .ok (.iload 4, 2) := by decide +kernel
theorem dX6_ticks_34 : decode cX6_ticks 34 = .ok (.iload 5, 2) := by decide +kernel
theorem dX6_ticks_36 : decode cX6_ticks 36 = .ok (.iadd, 1) := by decide +kernel
theorem dX6_ticks_37 : decode cX6_ticks 37 = .ok (.imul, 1) := by decide +kernel
theorem dX6_ticks_38 : decode cX6_ticks 38 = .ok (.iload_n 3, 1) := by decide +kernel
theorem dX6_ticks_39 : decode cX6_ticks 39 = .ok (.if_icmp .gt 8, 3) := by decide +kernel
theorem dX6_ticks_42 : decode cX6_ticks 42 = .ok (.iload 5, 2) := by decide +kernel
theorem dX6_ticks_44 : decode cX6_ticks 44 = .ok (.goto 4, 3) := by decide +kernel
theorem dX6_ticks_47 : decode cX6_ticks 47 = .ok (.iconst 0, 1) := by decide +kernel
theorem dX6_ticks_48 : decode cX6_ticks 48 = .ok (.iadd, 1) := by decide +kernel
theorem dX6_ticks_49 : decode cX6_ticks 49 = .ok (.istore 4, 2) := by decide +kernel
theorem dX6_ticks_51 : decode cX6_ticks 51 = .ok (.iload 5, 2) := by decide +kernel
theorem dX6_ticks_53 : decode cX6_ticks 53 = .ok (.iconst 1, 1) := by decide +kernel
theorem dX6_ticks_54 : decode cX6_ticks 54 = .ok (.ishr, 1) := by decide +kernel
theorem dX6_ticks_55 : decode cX6_ticks 55 = .ok (.istore 5, 2) := by decide +kernel
theorem dX6_ticks_57 : decode cX6_ticks 57 = .ok (.goto (-37), 3) := by decide +kernel
theorem dX6_ticks_60 : decode cX6_ticks 60 = .ok (.iload 4, 2) := by decide +kernel
theorem dX6_ticks_62 : decode cX6_ticks 62 = .ok (.ireturn, 1) := by decide +kernel
theorem dX6_unmake_0 : decode cX6_unmake 0 = .ok (.iconst 0, 1) := by decide +kernel
theorem dX6_unmake_1 : decode cX6_unmake 1 = .ok (.istore_n 1, 1) := by decide +kernel
theorem dX6_unmake_2 : decode cX6_unmake 2 = .ok (.iload_n 1, 1) := by decide +kernel
theorem dX6_unmake_3 : decode cX6_unmake 3 = .ok (.sipush 408, 3) := by decide +kernel
theorem dX6_unmake_6 : decode cX6_unmake 6 = .ok (.if_icmp .ge 16, 3) := by decide +kernel
theorem dX6_unmake_9 : decode cX6_unmake 9 = .ok (.aload_n 0, 1) := by decide +kernel
theorem dX6_unmake_10 : decode cX6_unmake 10 = .ok (.getfield 48, 3) := by decide +kernel
theorem dX6_unmake_13 : decode cX6_unmake 13 = .ok (.iload_n 1, 1) := by decide +kernel
theorem dX6_unmake_14 : decode cX6_unmake 14 = .ok (.iconst 0, 1) := by decide +kernel
theorem dX6_unmake_15 : decode cX6_unmake 15 = .ok (.bastore, 1) := by decide +kernel
theorem dX6_unmake_16 : decode cX6_unmake 16 = .ok (.iinc 1 1, 3) := by decide +kernel
theorem dX6_unmake_19 : decode cX6_unmake 19 = .ok (.goto (-17), 3) := by decide +kernel
theorem dX6_unmake_22 : decode cX6_unmake 22 = .ok (.return_, 1) := by decide +kernel
set_option maxRecDepth 20000 in
theorem ggX6_make_X6_ticks : GoodIn wsX6_make wsX6_ticks := goodIn_r _ [11] (by decide +kernel) (by decide +kernel)
set_option maxRecDepth 20000 in
theorem gX6_make_X6_ticks : GoodIn wsX6_make (va_wsS RX6 97 yX6_ticks wsX6_ticks) := goodIn_app (goodIn_of _ (by decide +kernel)) ggX6_make_X6_ticks
theorem dX6_make_0 : decode cX6_make 0 = .ok (.aload_n 0, 1) := by decide +kernel
theorem dX6_make_1 : decode cX6_make 1 = .ok (.getfield 48, 3) := by decide +kernel
theorem dX6_make_4 : decode cX6_make 4 = .ok (.bipush 51, 2) := by decide +kernel
theorem dX6_make_6 : decode cX6_make 6 = .ok (.iload_n 1, 1) := by decide +kernel
theorem dX6_make_7 : decode cX6_make 7 = .ok (.imul, 1) := by decide +kernel
theorem dX6_make_8 : decode cX6_make 8 = .ok (.iload_n 2, 1) := by decide +kernel
theorem dX6_make_9 : decode cX6_make 9 = .ok (.iadd, 1) := by decide +kernel
theorem dX6_make_10 : decode cX6_make 10 = .ok (.baload, 1) := by decide +kernel
theorem dX6_make_11 : decode cX6_make 11 = .ok (.ifCond .eq 4, 3) := by decide +kernel
theorem dX6_make_14 : decode cX6_make 14 = .ok (.return_, 1) := by decide +kernel
theorem dX6_make_15 : decode cX6_make 15 = .ok (.aload_n 0, 1) := by decide +kernel
theorem dX6_make_16 : decode cX6_make 16 = .ok (.getfield 48, 3) := by decide +kernel
theorem dX6_make_19 : decode cX6_make 19 = .ok (.bipush 51, 2) := by decide +kernel
theorem dX6_make_21 : decode cX6_make 21 = .ok (.iload_n 1, 1) := by decide +kernel
theorem dX6_make_22 : decode cX6_make 22 = .ok (.imul, 1) := by decide +kernel
theorem dX6_make_23 : decode cX6_make 23 = .ok (.iload_n 2, 1) := by decide +kernel
theorem dX6_make_24 : decode cX6_make 24 = .ok (.iadd, 1) := by decide +kernel
theorem dX6_make_25 : decode cX6_make 25 = .ok (.iconst 1, 1) := by decide +kernel
theorem dX6_make_26 : decode cX6_make 26 = .ok (.bastore, 1) := by decide +kernel
theorem dX6_make_27 : decode cX6_make 27 = .ok (.iconst 0, 1) := by decide +kernel
theorem dX6_make_28 : decode cX6_make 28 = .ok (.istore_n 3, 1) := by decide +kernel
theorem dX6_make_29 : decode cX6_make 29 = .ok (.iload_n 3, 1) := by decide +kernel
theorem dX6_make_30 : decode cX6_make 30 = .ok (.bipush 51, 2) := by decide +kernel
theorem dX6_make_32 : decode cX6_make 32 = .ok (.if_icmp .ge 113, 3) := by decide +kernel
theorem dX6_make_35 : decode cX6_make 35 = .ok (.bipush 51, 2) := by decide +kernel
theorem dX6_make_37 : decode cX6_make 37 = .ok (.bipush 51, 2) := by decide +kernel
theorem dX6_make_39 : decode cX6_make 39 = .ok (.iload_n 1, 1) := by decide +kernel
theorem dX6_make_40 : decode cX6_make 40 = .ok (.imul, 1) := by decide +kernel
theorem dX6_make_41 : decode cX6_make 41 = .ok (.iload_n 2, 1) := by decide +kernel
theorem dX6_make_42 : decode cX6_make 42 = .ok (.iadd, 1) := by decide +kernel
theorem dX6_make_43 : decode cX6_make 43 = .ok (.imul, 1) := by decide +kernel
theorem dX6_make_44 : decode cX6_make 44 = .ok (.iload_n 3, 1) := by decide +kernel
theorem dX6_make_45 : decode cX6_make 45 = .ok (.iadd, 1) := by decide +kernel
theorem dX6_make_46 : decode cX6_make 46 = .ok (.istore 4, 2) := by decide +kernel
theorem dX6_make_48 : decode cX6_make 48 = .ok (.iconst 0, 1) := by decide +kernel
theorem dX6_make_49 : decode cX6_make 49 = .ok (.istore 5, 2) := by decide +kernel
theorem dX6_make_51 : decode cX6_make 51 = .ok (.iload 5, 2) := by decide +kernel
theorem dX6_make_53 : decode cX6_make 53 = .ok (.bipush 51, 2) := by decide +kernel
theorem dX6_make_55 : decode cX6_make 55 = .ok (.if_icmp .ge 84, 3) := by decide +kernel
theorem dX6_make_58 : decode cX6_make 58 = .ok (.aload_n 0, 1) := by decide +kernel
theorem dX6_make_59 : decode cX6_make 59 = .ok (.getfield 13, 3) := by decide +kernel
theorem dX6_make_62 : decode cX6_make 62 = .ok (.iload 5, 2) := by decide +kernel
theorem dX6_make_64 : decode cX6_make 64 = .ok (.aload_n 0, 1) := by decide +kernel
theorem dX6_make_65 : decode cX6_make 65 = .ok (.getfield 19, 3) := by decide +kernel
theorem dX6_make_68 : decode cX6_make 68 = .ok (.iload_n 1, 1) := by decide +kernel
theorem dX6_make_69 : decode cX6_make 69 = .ok (.iaload, 1) := by decide +kernel
theorem dX6_make_70 : decode cX6_make 70 = .ok (.isub, 1) := by decide +kernel
theorem dX6_make_71 : decode cX6_make 71 = .ok (.aload_n 0, 1) := by decide +kernel
theorem dX6_make_72 : decode cX6_make 72 = .ok (.getfield 81, 3) := by decide +kernel
theorem dX6_make_75 : decode cX6_make 75 = .ok (.invokestatic 97, 3) := by decide +kernel
theorem dX6_make_78 : decode cX6_make 78 = .ok (.aload_n 0, 1) := by decide +kernel
theorem dX6_make_79 : decode cX6_make 79 = .ok (.getfield 16, 3) := by decide +kernel
theorem dX6_make_82 : decode cX6_make 82 = .ok (.iload_n 3, 1) := by decide +kernel
theorem dX6_make_83 : decode cX6_make 83 = .ok (.iload 5, 2) := by decide +kernel
theorem dX6_make_85 : decode cX6_make 85 = .ok (.isub, 1) := by decide +kernel
theorem dX6_make_86 : decode cX6_make 86 = .ok (.iload_n 2, 1) := by decide +kernel
theorem dX6_make_87 : decode cX6_make 87 = .ok (.aload_n 0, 1) := by decide +kernel
theorem dX6_make_88 : decode cX6_make 88 = .ok (.getfield 81, 3) := by decide +kernel
theorem dX6_make_91 : decode cX6_make 91 = .ok (.isub, 1) := by decide +kernel
theorem dX6_make_92 : decode cX6_make 92 = .ok (.invokestatic 97, 3) := by decide +kernel
theorem dX6_make_95 : decode cX6_make 95 = .ok (.iadd, 1) := by decide +kernel
theorem dX6_make_96 : decode cX6_make 96 = .ok (.istore 6, 2) := by decide +kernel
theorem dX6_make_98 : decode cX6_make 98 = .ok (.iload 5, 2) := by decide +kernel
theorem dX6_make_100 : decode cX6_make 100 = .ok (.ifCond .eq 15, 3) := by decide +kernel
theorem dX6_make_103 : decode cX6_make 103 = .ok (.iload 6, 2) := by decide +kernel
theorem dX6_make_105 : decode cX6_make 105 = .ok (.aload_n 0, 1) := by decide +kernel
theorem dX6_make_106 : decode cX6_make 106 = .ok (.getfield 42, 3) := by decide +kernel
theorem dX6_make_109 : decode cX6_make 109 = .ok (.iload 4, 2) := by decide +kernel
theorem dX6_make_111 : decode cX6_make 111 = .ok (.iaload, 1) := by decide +kernel
theorem dX6_make_112 : decode cX6_make 112 = .ok (.if_icmp .ge 21, 3) := by decide +kernel
theorem dX6_make_115 : decode cX6_make 115 = .ok (.aload_n 0, 1) := by decide +kernel
theorem dX6_make_116 : decode cX6_make 116 = .ok (.getfield 42, 3) := by decide +kernel
theorem dX6_make_119 : decode cX6_make 119 = .ok (.iload 4, 2) := by decide +kernel
theorem dX6_make_121 : decode cX6_make 121 = .ok (.iload 6, 2) := by decide +kernel
theorem dX6_make_123 : decode cX6_make 123 = .ok (.iastore, 1) := by decide +kernel
theorem dX6_make_124 : decode cX6_make 124 = .ok (.aload_n 0, 1) := by decide +kernel
theorem dX6_make_125 : decode cX6_make 125 = .ok (.getfield 45, 3) := by decide +kernel
theorem dX6_make_128 : decode cX6_make 128 = .ok (.iload 4, 2) := by decide +kernel
theorem dX6_make_130 : decode cX6_make 130 = .ok (.iload 5, 2) := by decide +kernel
theorem dX6_make_132 : decode cX6_make 132 = .ok (.iastore, 1) := by decide +kernel
theorem dX6_make_133 : decode cX6_make 133 = .ok (.iinc 5 1, 3) := by decide +kernel
theorem dX6_make_136 : decode cX6_make 136 = .ok (.goto (-85), 3) := by decide +kernel
theorem dX6_make_139 : decode cX6_make 139 = .ok (.iinc 3 1, 3) := by decide +kernel
theorem dX6_make_142 : decode cX6_make 142 = .ok (.goto (-113), 3) := by decide +kernel
theorem dX6_make_145 : decode cX6_make 145 = .ok (.return_, 1) := by decide +kernel
set_option maxRecDepth 20000 in
theorem ggX6_timeOf_X6_make : GoodIn wsX6_timeOf wsX6_make := goodIn_r _ [6, 7, 8, 9, 10, 11, 1, 12, 13, 14, 5, 15, 16, 17, 18, 19, 20, 21, 22, 23, 24, 25, 26, 27, 28, 29, 30, 31, 32, 33, 34, 35, 36, 37, 38, 39, 40, 41, 42, 43] (by decide +kernel) (by decide +kernel)
set_option maxRecDepth 20000 in
theorem gX6_timeOf_X6_make : GoodIn wsX6_timeOf (wsV RX6 101 RX6 yX6_make wsX6_make) := goodIn_app (goodIn_of _ (by decide +kernel)) ggX6_timeOf_X6_make
theorem dX6_timeOf_0 : decode cX6_timeOf 0 = .ok (.aload_n 0, 1) := by decide +kernel
theorem dX6_timeOf_1 : decode cX6_timeOf 1 = .ok (.iload_n 1, 1) := by decide +kernel
theorem dX6_timeOf_2 : decode cX6_timeOf 2 = .ok (.iload_n 3, 1) := by decide +kernel
theorem dX6_timeOf_3 : decode cX6_timeOf 3 = .ok (.invokevirtual 101, 3) := by decide +kernel
theorem dX6_timeOf_6 : decode cX6_timeOf 6 = .ok (.aload_n 0, 1) := by decide +kernel
theorem dX6_timeOf_7 : decode cX6_timeOf 7 = .ok (.getfield 42, 3) := by decide +kernel
theorem dX6_timeOf_10 : decode cX6_timeOf 10 = .ok (.bipush 51, 2) := by decide +kernel
theorem dX6_timeOf_12 : decode cX6_timeOf 12 = .ok (.bipush 51, 2) := by decide +kernel
theorem dX6_timeOf_14 : decode cX6_timeOf 14 = .ok (.iload_n 1, 1) := by decide +kernel
theorem dX6_timeOf_15 : decode cX6_timeOf 15 = .ok (.imul, 1) := by decide +kernel
theorem dX6_timeOf_16 : decode cX6_timeOf 16 = .ok (.iload_n 3, 1) := by decide +kernel
theorem dX6_timeOf_17 : decode cX6_timeOf 17 = .ok (.iadd, 1) := by decide +kernel
theorem dX6_timeOf_18 : decode cX6_timeOf 18 = .ok (.imul, 1) := by decide +kernel
theorem dX6_timeOf_19 : decode cX6_timeOf 19 = .ok (.iload_n 2, 1) := by decide +kernel
theorem dX6_timeOf_20 : decode cX6_timeOf 20 = .ok (.iadd, 1) := by decide +kernel
theorem dX6_timeOf_21 : decode cX6_timeOf 21 = .ok (.iaload, 1) := by decide +kernel
theorem dX6_timeOf_22 : decode cX6_timeOf 22 = .ok (.ireturn, 1) := by decide +kernel
set_option maxRecDepth 20000 in
theorem ggX6_least_X6_timeOf : GoodIn wsX6_least wsX6_timeOf := goodIn_r _ [5, 6, 7, 8, 9, 4, 10, 11, 12, 13, 14, 15, 16, 17, 18, 19, 20, 21, 22, 23, 24, 25, 26, 27, 28, 29, 30, 31, 32, 33, 34, 35, 36, 37, 38, 39, 40, 41, 42, 43, 44, 45, 46, 47] (by decide +kernel) (by decide +kernel)
set_option maxRecDepth 20000 in
theorem gX6_least_X6_timeOf : GoodIn wsX6_least (wsV RX6 105 RX6 yX6_timeOf wsX6_timeOf) := goodIn_app (goodIn_of _ (by decide +kernel)) ggX6_least_X6_timeOf
theorem dX6_least_0 : decode cX6_least 0 = .ok (.aload_n 0, 1) := by decide +kernel
theorem dX6_least_1 : decode cX6_least 1 = .ok (.iload_n 1, 1) := by decide +kernel
theorem dX6_least_2 : decode cX6_least 2 = .ok (.iload_n 3, 1) := by decide +kernel
theorem dX6_least_3 : decode cX6_least 3 = .ok (.iload 5, 2) := by decide +kernel
theorem dX6_least_5 : decode cX6_least 5 = .ok (.invokevirtual 105, 3) := by decide +kernel
theorem dX6_least_8 : decode cX6_least 8 = .ok (.aload_n 0, 1) := by decide +kernel
theorem dX6_least_9 : decode cX6_least 9 = .ok (.iload_n 2, 1) := by decide +kernel
theorem dX6_least_10 : decode cX6_least 10 = .ok (.iload_n 3, 1) := by decide +kernel
theorem dX6_least_11 : decode cX6_least 11 = .ok (.iload 5, 2) := by decide +kernel
theorem dX6_least_13 : decode cX6_least 13 = .ok (.invokevirtual 105, 3) := by decide +kernel
theorem dX6_least_16 : decode cX6_least 16 = .ok (.iadd, 1) := by decide +kernel
theorem dX6_least_17 : decode cX6_least 17 = .ok (.istore 6, 2) := by decide +kernel
theorem dX6_least_19 : decode cX6_least 19 = .ok (.iload_n 3, 1) := by decide +kernel
theorem dX6_least_20 : decode cX6_least 20 = .ok (.iconst 1, 1) := by decide +kernel
theorem dX6_least_21 : decode cX6_least 21 = .ok (.iadd, 1) := by decide +kernel
theorem dX6_least_22 : decode cX6_least 22 = .ok (.istore 7, 2) := by decide +kernel
theorem dX6_least_24 : decode cX6_least 24 = .ok (.iload 7, 2) := by decide +kernel
theorem dX6_least_26 : decode cX6_least 26 = .ok (.iload 4, 2) := by decide +kernel
theorem dX6_least_28 : decode cX6_least 28 = .ok (.if_icmp .gt 46, 3) := by decide +kernel
theorem dX6_least_31 : decode cX6_least 31 = .ok (.aload_n 0, 1) := by decide +kernel
theorem dX6_least_32 : decode cX6_least 32 = .ok (.iload_n 1, 1) := by decide +kernel
theorem dX6_least_33 : decode cX6_least 33 = .ok (.iload 7, 2) := by decide +kernel
theorem dX6_least_35 : decode cX6_least 35 = .ok (.iload 5, 2) := by decide +kernel
theorem dX6_least_37 : decode cX6_least 37 = .ok (.invokevirtual 105, 3) := by decide +kernel
theorem dX6_least_40 : decode cX6_least 40 = .ok (.aload_n 0, 1) := by decide +kernel
theorem dX6_least_41 : decode cX6_least 41 = .ok (.iload_n 2, 1) := by decide +kernel
theorem dX6_least_42 : decode cX6_least 42 = .ok (.iload 7, 2) := by decide +kernel
theorem dX6_least_44 : decode cX6_least 44 = .ok (.iload 5, 2) := by decide +kernel
theorem dX6_least_46 : decode cX6_least 46 = .ok (.invokevirtual 105, 3) := by decide +kernel
theorem dX6_least_49 : decode cX6_least 49 = .ok (.iadd, 1) := by decide +kernel
theorem dX6_least_50 : decode cX6_least 50 = .ok (.istore 8, 2) := by decide +kernel
theorem dX6_least_52 : decode cX6_least 52 = .ok (.iload 8, 2) := by decide +kernel
theorem dX6_least_54 : decode cX6_least 54 = .ok (.iload 6, 2) := by decide +kernel
theorem dX6_least_56 : decode cX6_least 56 = .ok (.if_icmp .ge 8, 3) := by decide +kernel
theorem dX6_least_59 : decode cX6_least 59 = .ok (.iload 8, 2) := by decide +kernel
theorem dX6_least_61 : decode cX6_least 61 = .ok (.goto 5, 3) := by decide +kernel
theorem dX6_least_64 : decode cX6_least 64 = .ok (.iload 6, 2) := by decide +kernel
theorem dX6_least_66 : decode cX6_least 66 = .ok (.istore 6, 2) := by decide +kernel
theorem dX6_least_68 : decode cX6_least 68 = .ok (.iinc 7 1, 3) := by decide +kernel
theorem dX6_least_71 : decode cX6_least 71 = .ok (.goto (-47), 3) := by decide +kernel
theorem dX6_least_74 : decode cX6_least 74 = .ok (.iload 6, 2) := by decide +kernel
theorem dX6_least_76 : decode cX6_least 76 = .ok (.ireturn, 1) := by decide +kernel
set_option maxRecDepth 20000 in
theorem ggX6_depthOf_X6_floor : GoodIn wsX6_depthOf wsX6_floor := goodIn_r _ [7, 8, 9, 10, 11, 12, 13, 14, 15, 16, 17, 18, 19, 20, 21, 22, 23, 24, 25, 26, 27, 28, 29, 30, 31, 32, 33, 34, 35, 36, 37] (by decide +kernel) (by decide +kernel)
set_option maxRecDepth 20000 in
theorem gX6_depthOf_X6_floor : GoodIn wsX6_depthOf (wsV RX6 90 RX6 yX6_floor wsX6_floor) := goodIn_app (goodIn_of _ (by decide +kernel)) ggX6_depthOf_X6_floor
theorem dX6_depthOf_0 : decode cX6_depthOf 0 = .ok (.aload_n 0, 1) := by decide +kernel
theorem dX6_depthOf_1 : decode cX6_depthOf 1 = .ok (.getfield 27, 3) := by decide +kernel
theorem dX6_depthOf_4 : decode cX6_depthOf 4 = .ok (.iload_n 1, 1) := by decide +kernel
theorem dX6_depthOf_5 : decode cX6_depthOf 5 = .ok (.iaload, 1) := by decide +kernel
theorem dX6_depthOf_6 : decode cX6_depthOf 6 = .ok (.iconst 2, 1) := by decide +kernel
theorem dX6_depthOf_7 : decode cX6_depthOf 7 = .ok (.if_icmp .ne 10, 3) := by decide +kernel
theorem dX6_depthOf_10 : decode cX6_depthOf 10 = .ok (.aload_n 0, 1) := by decide +kernel
theorem dX6_depthOf_11 : decode cX6_depthOf 11 = .ok (.invokevirtual 90, 3) := by decide +kernel
theorem dX6_depthOf_14 : decode cX6_depthOf 14 = .ok (.goto 9, 3) := by decide +kernel
theorem dX6_depthOf_17 : decode cX6_depthOf 17 = .ok (.aload_n 0, 1) := by decide +kernel
theorem dX6_depthOf_18 : decode cX6_depthOf 18 = .ok (.getfield 36, 3) := by decide +kernel
theorem dX6_depthOf_21 : decode cX6_depthOf 21 = .ok (.iload_n 1, 1) := by decide +kernel
theorem dX6_depthOf_22 : decode cX6_depthOf 22 = .ok (.iaload, 1) := by decide +kernel
theorem dX6_depthOf_23 : decode cX6_depthOf 23 = .ok (.ireturn, 1) := by decide +kernel
set_option maxRecDepth 20000 in
theorem ggX6_echoOf_X6_depthOf : GoodIn wsX6_echoOf wsX6_depthOf := goodIn_r _ [7, 8, 9, 10, 11, 12, 6, 13, 14, 15, 37, 38, 39, 40, 41, 42, 43, 44, 45, 46, 47, 48, 49, 50, 51, 52, 53, 54, 55, 56, 57, 58, 59, 60, 61, 62, 63, 64] (by decide +kernel) (by decide +kernel)
set_option maxRecDepth 20000 in
theorem gX6_echoOf_X6_depthOf : GoodIn wsX6_echoOf (wsV RX6 108 RX6 yX6_depthOf wsX6_depthOf) := goodIn_app (goodIn_of _ (by decide +kernel)) ggX6_echoOf_X6_depthOf
set_option maxRecDepth 20000 in
theorem ggX6_echoOf_X6_least : GoodIn wsX6_echoOf wsX6_least := goodIn_r _ [19, 20, 21, 22, 6, 23, 24, 25, 26, 27, 28, 29, 30, 31, 14, 32, 33, 34, 35, 36, 37, 38, 39, 40, 41, 42, 43, 44, 45, 46, 47, 48, 49, 50, 51, 52, 53, 54, 55, 56, 57, 58, 59, 60, 61, 62, 63, 64] (by decide +kernel) (by decide +kernel)
set_option maxRecDepth 20000 in
theorem gX6_echoOf_X6_least : GoodIn wsX6_echoOf (wsV RX6 112 RX6 yX6_least wsX6_least) := goodIn_app (goodIn_of _ (by decide +kernel)) ggX6_echoOf_X6_least
theorem dX6_echoOf_0 : decode cX6_echoOf 0 = .ok (.aload_n 0, 1) := by decide +kernel
theorem dX6_echoOf_1 : decode cX6_echoOf 1 = .ok (.iload_n 1, 1) := by decide +kernel
theorem dX6_echoOf_2 : decode cX6_echoOf 2 = .ok (.iload_n 2, 1) := by decide +kernel
theorem dX6_echoOf_3 : decode cX6_echoOf 3 = .ok (.aload_n 0, 1) := by decide +kernel
theorem dX6_echoOf_4 : decode cX6_echoOf 4 = .ok (.getfield 30, 3) := by decide +kernel
theorem dX6_echoOf_7 : decode cX6_echoOf 7 = .ok (.iload_n 3, 1) := by decide +kernel
theorem dX6_echoOf_8 : decode cX6_echoOf 8 = .ok (.iaload, 1) := by decide +kernel
theorem dX6_echoOf_9 : decode cX6_echoOf 9 = .ok (.aload_n 0, 1) := by decide +kernel
theorem dX6_echoOf_10 : decode cX6_echoOf 10 = .ok (.getfield 33, 3) := by decide +kernel
theorem dX6_echoOf_13 : decode cX6_echoOf 13 = .ok (.iload_n 3, 1) := by decide +kernel
theorem dX6_echoOf_14 : decode cX6_echoOf 14 = .ok (.iaload, 1) := by decide +kernel
theorem dX6_echoOf_15 : decode cX6_echoOf 15 = .ok (.aload_n 0, 1) := by decide +kernel
theorem dX6_echoOf_16 : decode cX6_echoOf 16 = .ok (.iload_n 3, 1) := by decide +kernel
theorem dX6_echoOf_17 : decode cX6_echoOf 17 = .ok (.invokevirtual 108, 3) := by decide +kernel
theorem dX6_echoOf_20 : decode cX6_echoOf 20 = .ok (.invokevirtual 112, 3) := by decide +kernel
theorem dX6_echoOf_23 : decode cX6_echoOf 23 = .ok (.ireturn, 1) := by decide +kernel
set_option maxRecDepth 20000 in
theorem ggX6_echoAt_X6_echoOf : GoodIn wsX6_echoAt wsX6_echoOf := goodIn_r _ [8, 9, 10, 11, 12, 13, 7, 14, 15, 16, 17, 18, 19, 20, 21, 22, 23, 24, 25, 26, 27, 28, 29, 30, 31, 32, 33, 34, 35, 36, 37, 38, 39, 40, 41, 42, 43, 44, 45, 46, 47, 48, 49, 50, 51, 52, 53, 54, 55, 56, 57, 58, 59, 60, 61, 62, 63, 64, 65, 66, 67, 68, 69, 70, 71] (by decide +kernel) (by decide +kernel)
set_option maxRecDepth 20000 in
theorem gX6_echoAt_X6_echoOf : GoodIn wsX6_echoAt (wsV RX6 119 RX6 yX6_echoOf wsX6_echoOf) := goodIn_app (goodIn_of _ (by decide +kernel)) ggX6_echoAt_X6_echoOf
theorem dX6_echoAt_0 : decode cX6_echoAt 0 = .ok (.iconst 0, 1) := by decide +kernel
theorem dX6_echoAt_1 : decode cX6_echoAt 1 = .ok (.istore 5, 2) := by decide +kernel
theorem dX6_echoAt_3 : decode cX6_echoAt 3 = .ok (.iconst 0, 1) := by decide +kernel
theorem dX6_echoAt_4 : decode cX6_echoAt 4 = .ok (.istore 6, 2) := by decide +kernel
theorem dX6_echoAt_6 : decode cX6_echoAt 6 = .ok (.iload 6, 2) := by decide +kernel
theorem dX6_echoAt_8 : decode cX6_echoAt 8 = .ok (.aload_n 0, 1) := by decide +kernel
theorem dX6_echoAt_9 : decode cX6_echoAt 9 = .ok (.getfield 116, 3) := by decide +kernel
theorem dX6_echoAt_12 : decode cX6_echoAt 12 = .ok (.if_icmp .ge 57, 3) := by decide +kernel
theorem dX6_echoAt_15 : decode cX6_echoAt 15 = .ok (.aload_n 0, 1) := by decide +kernel
theorem dX6_echoAt_16 : decode cX6_echoAt 16 = .ok (.getfield 23, 3) := by decide +kernel
theorem dX6_echoAt_19 : decode cX6_echoAt 19 = .ok (.iload_n 1, 1) := by decide +kernel
theorem dX6_echoAt_20 : decode cX6_echoAt 20 = .ok (.baload, 1) := by decide +kernel
theorem dX6_echoAt_21 : decode cX6_echoAt 21 = .ok (.ifCond .ne 48, 3) := by decide +kernel
theorem dX6_echoAt_24 : decode cX6_echoAt 24 = .ok (.aload_n 0, 1) := by decide +kernel
theorem dX6_echoAt_25 : decode cX6_echoAt 25 = .ok (.getfield 23, 3) := by decide +kernel
theorem dX6_echoAt_28 : decode cX6_echoAt 28 = .ok (.iload_n 2, 1) := by decide +kernel
theorem dX6_echoAt_29 : decode cX6_echoAt 29 = .ok (.baload, 1) := by decide +kernel
theorem dX6_echoAt_30 : decode cX6_echoAt 30 = .ok (.ifCond .ne 39, 3) := by decide +kernel
theorem dX6_echoAt_33 : decode cX6_echoAt 33 = .ok (.iload 5, 2) := by decide +kernel
theorem dX6_echoAt_35 : decode cX6_echoAt 35 = .ok (.aload_n 0, 1) := by decide +kernel
theorem dX6_echoAt_36 : decode cX6_echoAt 36 = .ok (.iload_n 1, 1) := by decide +kernel
theorem dX6_echoAt_37 : decode cX6_echoAt 37 = .ok (.iload_n 2, 1) := by decide +kernel
theorem dX6_echoAt_38 : decode cX6_echoAt 38 = .ok (.iload 6, 2) := by decide +kernel
theorem dX6_echoAt_40 : decode cX6_echoAt 40 = .ok (.invokevirtual 119, 3) := by decide +kernel
theorem dX6_echoAt_43 : decode cX6_echoAt 43 = .ok (.i2l, 1) := by decide +kernel
theorem dX6_echoAt_44 : decode cX6_echoAt 44 = .ok (.lload_n 3, 1) := by decide +kernel
theorem dX6_echoAt_45 : decode cX6_echoAt 45 = .ok (.lcmp, 1) := by decide +kernel
theorem dX6_echoAt_46 : decode cX6_echoAt 46 = .ok (.ifCond .ne 13, 3) := by decide +kernel
theorem dX6_echoAt_49 : decode cX6_echoAt 49 = .ok (.aload_n 0, 1) := by decide +kernel
theorem dX6_echoAt_50 : decode cX6_echoAt 50 = .ok (.getfield 39, 3) := by decide +kernel
theorem dX6_echoAt_53 : decode cX6_echoAt 53 = .ok (.iload 6, 2) := by decide +kernel
theorem dX6_echoAt_55 : decode cX6_echoAt 55 = .ok (.iaload, 1) := by decide +kernel
theorem dX6_echoAt_56 : decode cX6_echoAt 56 = .ok (.goto 4, 3) := by decide +kernel
theorem dX6_echoAt_59 : decode cX6_echoAt 59 = .ok (.iconst 0, 1) := by decide +kernel
theorem dX6_echoAt_60 : decode cX6_echoAt 60 = .ok (.iadd, 1) := by decide +kernel
theorem dX6_echoAt_61 : decode cX6_echoAt 61 = .ok (.istore 5, 2) := by decide +kernel
theorem dX6_echoAt_63 : decode cX6_echoAt 63 = .ok (.iinc 6 1, 3) := by decide +kernel
theorem dX6_echoAt_66 : decode cX6_echoAt 66 = .ok (.goto (-60), 3) := by decide +kernel
theorem dX6_echoAt_69 : decode cX6_echoAt 69 = .ok (.iload 5, 2) := by decide +kernel
theorem dX6_echoAt_71 : decode cX6_echoAt 71 = .ok (.ireturn, 1) := by decide +kernel
set_option maxRecDepth 20000 in
theorem ggX6_body_X6_in : GoodIn wsX6_body wsX6_in := goodIn_r _ [16] (by decide +kernel) (by decide +kernel)
set_option maxRecDepth 20000 in
theorem gX6_body_X6_in : GoodIn wsX6_body (va_wsS RX6 86 yX6_in wsX6_in) := goodIn_app (goodIn_of _ (by decide +kernel)) ggX6_body_X6_in
set_option maxRecDepth 20000 in
theorem ggX6_body_X6_unmake : GoodIn wsX6_body wsX6_unmake := goodIn_r _ [20, 21, 26, 27, 28, 29, 30, 31, 32, 33, 34, 35, 36, 37, 38, 39, 40, 41, 42, 43, 44, 45, 46, 47, 48, 49, 50, 51, 52, 53] (by decide +kernel) (by decide +kernel)
set_option maxRecDepth 20000 in
theorem gX6_body_X6_unmake : GoodIn wsX6_body (wsV RX6 132 RX6 yX6_unmake wsX6_unmake) := goodIn_app (goodIn_of _ (by decide +kernel)) ggX6_body_X6_unmake
set_option maxRecDepth 20000 in
theorem ggX6_body_X6_floor : GoodIn wsX6_body wsX6_floor := goodIn_r _ [25, 8, 9, 26, 27, 28, 29, 30, 31, 32, 33, 34, 35, 36, 37, 38, 39, 40, 41, 42, 43, 44, 45, 46, 47, 48, 49, 50, 51, 52, 53] (by decide +kernel) (by decide +kernel)
set_option maxRecDepth 20000 in
theorem gX6_body_X6_floor : GoodIn wsX6_body (wsV RX6 90 RX6 yX6_floor wsX6_floor) := goodIn_app (goodIn_of _ (by decide +kernel)) ggX6_body_X6_floor
theorem dX6_body_0 : decode cX6_body 0 = .ok (.aload_n 0, 1) := by decide +kernel
theorem dX6_body_1 : decode cX6_body 1 = .ok (.iconst 0, 1) := by decide +kernel
theorem dX6_body_2 : decode cX6_body 2 = .ok (.putfield 75, 3) := by decide +kernel
theorem dX6_body_5 : decode cX6_body 5 = .ok (.iload_n 1, 1) := by decide +kernel
theorem dX6_body_6 : decode cX6_body 6 = .ok (.i2l, 1) := by decide +kernel
theorem dX6_body_7 : decode cX6_body 7 = .ok (.lconst 0, 1) := by decide +kernel
theorem dX6_body_8 : decode cX6_body 8 = .ok (.ldc2_w 122, 3) := by decide +kernel
theorem dX6_body_11 : decode cX6_body 11 = .ok (.invokestatic 86, 3) := by decide +kernel
theorem dX6_body_14 : decode cX6_body 14 = .ok (.ifCond .eq 40, 3) := by decide +kernel
theorem dX6_body_17 : decode cX6_body 17 = .ok (.iload_n 2, 1) := by decide +kernel
theorem dX6_body_18 : decode cX6_body 18 = .ok (.i2l, 1) := by decide +kernel
theorem dX6_body_19 : decode cX6_body 19 = .ok (.lconst 1, 1) := by decide +kernel
theorem dX6_body_20 : decode cX6_body 20 = .ok (.ldc2_w 124, 3) := by decide +kernel
theorem dX6_body_23 : decode cX6_body 23 = .ok (.invokestatic 86, 3) := by decide +kernel
theorem dX6_body_26 : decode cX6_body 26 = .ok (.ifCond .eq 28, 3) := by decide +kernel
theorem dX6_body_29 : decode cX6_body 29 = .ok (.iload_n 3, 1) := by decide +kernel
theorem dX6_body_30 : decode cX6_body 30 = .ok (.i2l, 1) := by decide +kernel
theorem dX6_body_31 : decode cX6_body 31 = .ok (.lconst 1, 1) := by decide +kernel
theorem dX6_body_32 : decode cX6_body 32 = .ok (.ldc2_w 126, 3) := by decide +kernel
theorem dX6_body_35 : decode cX6_body 35 = .ok (.invokestatic 86, 3) := by decide +kernel
theorem dX6_body_38 : decode cX6_body 38 = .ok (.ifCond .eq 16, 3) := by decide +kernel
theorem dX6_body_41 : decode cX6_body 41 = .ok (.iload 4, 2) := by decide +kernel
theorem dX6_body_43 : decode cX6_body 43 = .ok (.i2l, 1) := by decide +kernel
theorem dX6_body_44 : decode cX6_body 44 = .ok (.lconst 1, 1) := by decide +kernel
theorem dX6_body_45 : decode cX6_body 45 = .ok (.ldc2_w 126, 3) := by decide +kernel
theorem dX6_body_48 : decode cX6_body 48 = .ok (.invokestatic 86, 3) := by decide +kernel
theorem dX6_body_51 : decode cX6_body 51 = .ok (.ifCond .ne 6, 3) := by decide +kernel
theorem dX6_body_54 : decode cX6_body 54 = .ok (.bipush (-2), 2) := by decide +kernel
theorem dX6_body_56 : decode cX6_body 56 = .ok (.ireturn, 1) := by decide +kernel
theorem dX6_body_57 : decode cX6_body 57 = .ok (.iconst 0, 1) := by decide +kernel
theorem dX6_body_58 : decode cX6_body 58 = .ok (.istore 5, 2) := by decide +kernel
theorem dX6_body_60 : decode cX6_body 60 = .ok (.iload 5, 2) := by decide +kernel
theorem dX6_body_62 : decode cX6_body 62 = .ok (.aload_n 0, 1) := by decide +kernel
theorem dX6_body_63 : decode cX6_body 63 = .ok (.getfield 116, 3) := by decide +kernel
theorem dX6_body_66 : decode cX6_body 66 = .ok (.if_icmp .ge 43, 3) := by decide +kernel
theorem dX6_body_69 : decode cX6_body 69 = .ok (.aload_n 0, 1) := by decide +kernel
theorem dX6_body_70 : decode cX6_body 70 = .ok (.getfield 27, 3) := by decide +kernel
theorem dX6_body_73 : decode cX6_body 73 = .ok (.iload 5, 2) := by decide +kernel
theorem dX6_body_75 : decode cX6_body 75 = .ok (.iaload, 1) := by decide +kernel
theorem dX6_body_76 : decode cX6_body 76 = .ok (.iconst 2, 1) := by decide +kernel
theorem dX6_body_77 : decode cX6_body 77 = .ok (.if_icmp .eq 26, 3) := by decide +kernel
theorem dX6_body_80 : decode cX6_body 80 = .ok (.aload_n 0, 1) := by decide +kernel
theorem dX6_body_81 : decode cX6_body 81 = .ok (.getfield 36, 3) := by decide +kernel
theorem dX6_body_84 : decode cX6_body 84 = .ok (.iload 5, 2) := by decide +kernel
theorem dX6_body_86 : decode cX6_body 86 = .ok (.iaload, 1) := by decide +kernel
theorem dX6_body_87 : decode cX6_body 87 = .ok (.i2l, 1) := by decide +kernel
theorem dX6_body_88 : decode cX6_body 88 = .ok (.iload_n 1, 1) := by decide +kernel
theorem dX6_body_89 : decode cX6_body 89 = .ok (.i2l, 1) := by decide +kernel
theorem dX6_body_90 : decode cX6_body 90 = .ok (.iload_n 1, 1) := by decide +kernel
theorem dX6_body_91 : decode cX6_body 91 = .ok (.iload_n 2, 1) := by decide +kernel
theorem dX6_body_92 : decode cX6_body 92 = .ok (.iadd, 1) := by decide +kernel
theorem dX6_body_93 : decode cX6_body 93 = .ok (.i2l, 1) := by decide +kernel
theorem dX6_body_94 : decode cX6_body 94 = .ok (.invokestatic 86, 3) := by decide +kernel
theorem dX6_body_97 : decode cX6_body 97 = .ok (.ifCond .ne 6, 3) := by decide +kernel
theorem dX6_body_100 : decode cX6_body 100 = .ok (.bipush (-3), 2) := by decide +kernel
theorem dX6_body_102 : decode cX6_body 102 = .ok (.ireturn, 1) := by decide +kernel
theorem dX6_body_103 : decode cX6_body 103 = .ok (.iinc 5 1, 3) := by decide +kernel
theorem dX6_body_106 : decode cX6_body 106 = .ok (.goto (-46), 3) := by decide +kernel
theorem dX6_body_109 : decode cX6_body 109 = .ok (.aload_n 0, 1) := by decide +kernel
theorem dX6_body_110 : decode cX6_body 110 = .ok (.iload_n 1, 1) := by decide +kernel
theorem dX6_body_111 : decode cX6_body 111 = .ok (.putfield 81, 3) := by decide +kernel
theorem dX6_body_114 : decode cX6_body 114 = .ok (.aload_n 0, 1) := by decide +kernel
theorem dX6_body_115 : decode cX6_body 115 = .ok (.iload_n 2, 1) := by decide +kernel
theorem dX6_body_116 : decode cX6_body 116 = .ok (.putfield 7, 3) := by decide +kernel
theorem dX6_body_119 : decode cX6_body 119 = .ok (.aload_n 0, 1) := by decide +kernel
theorem dX6_body_120 : decode cX6_body 120 = .ok (.iload_n 3, 1) := by decide +kernel
theorem dX6_body_121 : decode cX6_body 121 = .ok (.putfield 13, 3) := by decide +kernel
theorem dX6_body_124 : decode cX6_body 124 = .ok (.aload_n 0, 1) := by decide +kernel
theorem dX6_body_125 : decode cX6_body 125 = .ok (.iload 4, 2) := by decide +kernel
theorem dX6_body_127 : decode cX6_body 127 = .ok (.putfield 16, 3) := by decide +kernel
theorem dX6_body_130 : decode cX6_body 130 = .ok (.aload_n 0, 1) := by decide +kernel
theorem dX6_body_131 : decode cX6_body 131 = .ok (.iconst 0, 1) := by decide +kernel
theorem dX6_body_132 : decode cX6_body 132 = .ok (.putfield 128, 3) := by decide +kernel
theorem dX6_body_135 : decode cX6_body 135 = .ok (.aload_n 0, 1) := by decide +kernel
theorem dX6_body_136 : decode cX6_body 136 = .ok (.invokevirtual 132, 3) := by decide +kernel
theorem dX6_body_139 : decode cX6_body 139 = .ok (.aload_n 0, 1) := by decide +kernel
theorem dX6_body_140 : decode cX6_body 140 = .ok (.invokevirtual 90, 3) := by decide +kernel
theorem dX6_body_143 : decode cX6_body 143 = .ok (.ireturn, 1) := by decide +kernel
set_option maxRecDepth 20000 in
theorem ggX6_element_X6_in : GoodIn wsX6_element wsX6_in := goodIn_r _ [10] (by decide +kernel) (by decide +kernel)
set_option maxRecDepth 20000 in
theorem gX6_element_X6_in : GoodIn wsX6_element (va_wsS RX6 86 yX6_in wsX6_in) := goodIn_app (goodIn_of _ (by decide +kernel)) ggX6_element_X6_in
theorem dX6_element_0 : decode cX6_element 0 = .ok (.aload_n 0, 1) := by decide +kernel
theorem dX6_element_1 : decode cX6_element 1 = .ok (.iconst 0, 1) := by decide +kernel
theorem dX6_element_2 : decode cX6_element 2 = .ok (.putfield 75, 3) := by decide +kernel
theorem dX6_element_5 : decode cX6_element 5 = .ok (.iload_n 1, 1) := by decide +kernel
theorem dX6_element_6 : decode cX6_element 6 = .ok (.i2l, 1) := by decide +kernel
theorem dX6_element_7 : decode cX6_element 7 = .ok (.lconst 0, 1) := by decide +kernel
theorem dX6_element_8 : decode cX6_element 8 = .ok (.ldc2_w 84, 3) := by decide +kernel
theorem dX6_element_11 : decode cX6_element 11 = .ok (.invokestatic 86, 3) := by decide +kernel
theorem dX6_element_14 : decode cX6_element 14 = .ok (.ifCond .ne 6, 3) := by decide +kernel
theorem dX6_element_17 : decode cX6_element 17 = .ok (.bipush (-2), 2) := by decide +kernel
theorem dX6_element_19 : decode cX6_element 19 = .ok (.ireturn, 1) := by decide +kernel
theorem dX6_element_20 : decode cX6_element 20 = .ok (.aload_n 0, 1) := by decide +kernel
theorem dX6_element_21 : decode cX6_element 21 = .ok (.getfield 94, 3) := by decide +kernel
theorem dX6_element_24 : decode cX6_element 24 = .ok (.bipush 8, 2) := by decide +kernel
theorem dX6_element_26 : decode cX6_element 26 = .ok (.if_icmp .ne 6, 3) := by decide +kernel
theorem dX6_element_29 : decode cX6_element 29 = .ok (.bipush (-4), 2) := by decide +kernel
theorem dX6_element_31 : decode cX6_element 31 = .ok (.ireturn, 1) := by decide +kernel
theorem dX6_element_32 : decode cX6_element 32 = .ok (.aload_n 0, 1) := by decide +kernel
theorem dX6_element_33 : decode cX6_element 33 = .ok (.getfield 19, 3) := by decide +kernel
theorem dX6_element_36 : decode cX6_element 36 = .ok (.aload_n 0, 1) := by decide +kernel
theorem dX6_element_37 : decode cX6_element 37 = .ok (.getfield 94, 3) := by decide +kernel
theorem dX6_element_40 : decode cX6_element 40 = .ok (.iload_n 1, 1) := by decide +kernel
theorem dX6_element_41 : decode cX6_element 41 = .ok (.iastore, 1) := by decide +kernel
theorem dX6_element_42 : decode cX6_element 42 = .ok (.aload_n 0, 1) := by decide +kernel
theorem dX6_element_43 : decode cX6_element 43 = .ok (.getfield 23, 3) := by decide +kernel
theorem dX6_element_46 : decode cX6_element 46 = .ok (.aload_n 0, 1) := by decide +kernel
theorem dX6_element_47 : decode cX6_element 47 = .ok (.getfield 94, 3) := by decide +kernel
theorem dX6_element_50 : decode cX6_element 50 = .ok (.iconst 0, 1) := by decide +kernel
theorem dX6_element_51 : decode cX6_element 51 = .ok (.bastore, 1) := by decide +kernel
theorem dX6_element_52 : decode cX6_element 52 = .ok (.aload_n 0, 1) := by decide +kernel
theorem dX6_element_53 : decode cX6_element 53 = .ok (.dup, 1) := by decide +kernel
theorem dX6_element_54 : decode cX6_element 54 = .ok (.getfield 94, 3) := by decide +kernel
theorem dX6_element_57 : decode cX6_element 57 = .ok (.iconst 1, 1) := by decide +kernel
theorem dX6_element_58 : decode cX6_element 58 = .ok (.iadd, 1) := by decide +kernel
theorem dX6_element_59 : decode cX6_element 59 = .ok (.putfield 94, 3) := by decide +kernel
theorem dX6_element_62 : decode cX6_element 62 = .ok (.aload_n 0, 1) := by decide +kernel
theorem dX6_element_63 : decode cX6_element 63 = .ok (.iconst 0, 1) := by decide +kernel
theorem dX6_element_64 : decode cX6_element 64 = .ok (.putfield 128, 3) := by decide +kernel
theorem dX6_element_67 : decode cX6_element 67 = .ok (.aload_n 0, 1) := by decide +kernel
theorem dX6_element_68 : decode cX6_element 68 = .ok (.getfield 94, 3) := by decide +kernel
theorem dX6_element_71 : decode cX6_element 71 = .ok (.iconst 1, 1) := by decide +kernel
theorem dX6_element_72 : decode cX6_element 72 = .ok (.isub, 1) := by decide +kernel
theorem dX6_element_73 : decode cX6_element 73 = .ok (.ireturn, 1) := by decide +kernel
set_option maxRecDepth 20000 in
theorem ggX6_lose_X6_noElement : GoodIn wsX6_lose wsX6_noElement := goodIn_r _ [8, 9, 10, 11, 7, 12, 17, 18, 19, 20, 21, 22, 23, 24, 25, 26, 27, 28, 29, 30, 31, 32, 33, 34, 35, 36, 37, 38, 39, 40, 41, 42, 43, 44] (by decide +kernel) (by decide +kernel)
set_option maxRecDepth 20000 in
theorem gX6_lose_X6_noElement : GoodIn wsX6_lose (wsV RX6 135 RX6 yX6_noElement wsX6_noElement) := goodIn_app (goodIn_of _ (by decide +kernel)) ggX6_lose_X6_noElement
set_option maxRecDepth 20000 in
theorem ggX6_lose_X6_working : GoodIn wsX6_lose wsX6_working := goodIn_r _ [16, 9, 2, 17, 18, 19, 20, 21, 22, 23, 24, 25, 26, 27, 28, 29, 30, 31, 32, 33, 34, 35, 36, 37, 38, 39, 40, 41, 42, 43, 44] (by decide +kernel) (by decide +kernel)
set_option maxRecDepth 20000 in
theorem gX6_lose_X6_working : GoodIn wsX6_lose (wsV RX6 139 RX6 yX6_working wsX6_working) := goodIn_app (goodIn_of _ (by decide +kernel)) ggX6_lose_X6_working
theorem dX6_lose_0 : decode cX6_lose 0 = .ok (.aload_n 0, 1) := by decide +kernel
theorem dX6_lose_1 : decode cX6_lose 1 = .ok (.iconst 0, 1) := by decide +kernel
theorem dX6_lose_2 : decode cX6_lose 2 = .ok (.putfield 75, 3) := by decide +kernel
theorem dX6_lose_5 : decode cX6_lose 5 = .ok (.aload_n 0, 1) := by decide +kernel
theorem dX6_lose_6 : decode cX6_lose 6 = .ok (.iload_n 1, 1) := by decide +kernel
theorem dX6_lose_7 : decode cX6_lose 7 = .ok (.invokevirtual 135, 3) := by decide +kernel
theorem dX6_lose_10 : decode cX6_lose 10 = .ok (.ifCond .eq 5, 3) := by decide +kernel
theorem dX6_lose_13 : decode cX6_lose 13 = .ok (.iconst (-1), 1) := by decide +kernel
theorem dX6_lose_14 : decode cX6_lose 14 = .ok (.ireturn, 1) := by decide +kernel
theorem dX6_lose_15 : decode cX6_lose 15 = .ok (.aload_n 0, 1) := by decide +kernel
theorem dX6_lose_16 : decode cX6_lose 16 = .ok (.getfield 23, 3) := by decide +kernel
theorem dX6_lose_19 : decode cX6_lose 19 = .ok (.iload_n 1, 1) := by decide +kernel
theorem dX6_lose_20 : decode cX6_lose 20 = .ok (.iload_n 2, 1) := by decide +kernel
theorem dX6_lose_21 : decode cX6_lose 21 = .ok (.bastore, 1) := by decide +kernel
theorem dX6_lose_22 : decode cX6_lose 22 = .ok (.aload_n 0, 1) := by decide +kernel
theorem dX6_lose_23 : decode cX6_lose 23 = .ok (.iconst 0, 1) := by decide +kernel
theorem dX6_lose_24 : decode cX6_lose 24 = .ok (.putfield 128, 3) := by decide +kernel
theorem dX6_lose_27 : decode cX6_lose 27 = .ok (.aload_n 0, 1) := by decide +kernel
theorem dX6_lose_28 : decode cX6_lose 28 = .ok (.invokevirtual 139, 3) := by decide +kernel
theorem dX6_lose_31 : decode cX6_lose 31 = .ok (.ireturn, 1) := by decide +kernel
set_option maxRecDepth 20000 in
theorem ggX6_target_X6_in : GoodIn wsX6_target wsX6_in := goodIn_r _ [15] (by decide +kernel) (by decide +kernel)
set_option maxRecDepth 20000 in
theorem gX6_target_X6_in : GoodIn wsX6_target (va_wsS RX6 86 yX6_in wsX6_in) := goodIn_app (goodIn_of _ (by decide +kernel)) ggX6_target_X6_in
set_option maxRecDepth 20000 in
theorem ggX6_target_X6_isPlace : GoodIn wsX6_target wsX6_isPlace := goodIn_r _ [19, 3, 20, 12, 13, 14, 15, 21, 22, 23, 24, 25, 26, 27, 28, 29, 30, 31, 32, 33, 34, 35, 36, 37, 38, 39, 40, 41, 42, 43, 44, 45, 46, 47, 48, 49, 50, 51, 52, 53] (by decide +kernel) (by decide +kernel)
set_option maxRecDepth 20000 in
theorem gX6_target_X6_isPlace : GoodIn wsX6_target (wsV RX6 144 RX6 yX6_isPlace wsX6_isPlace) := goodIn_app (goodIn_of _ (by decide +kernel)) ggX6_target_X6_isPlace
theorem dX6_target_0 : decode cX6_target 0 = .ok (.aload_n 0, 1) := by decide +kernel
theorem dX6_target_1 : decode cX6_target 1 = .ok (.iconst 0, 1) := by decide +kernel
theorem dX6_target_2 : decode cX6_target 2 = .ok (.putfield 75, 3) := by decide +kernel
theorem dX6_target_5 : decode cX6_target 5 = .ok (.iload_n 1, 1) := by decide +kernel
theorem dX6_target_6 : decode cX6_target 6 = .ok (.i2l, 1) := by decide +kernel
theorem dX6_target_7 : decode cX6_target 7 = .ok (.lconst 0, 1) := by decide +kernel
theorem dX6_target_8 : decode cX6_target 8 = .ok (.ldc2_w 142, 3) := by decide +kernel
theorem dX6_target_11 : decode cX6_target 11 = .ok (.invokestatic 86, 3) := by decide +kernel
theorem dX6_target_14 : decode cX6_target 14 = .ok (.ifCond .eq 51, 3) := by decide +kernel
theorem dX6_target_17 : decode cX6_target 17 = .ok (.iload_n 1, 1) := by decide +kernel
theorem dX6_target_18 : decode cX6_target 18 = .ok (.iconst 2, 1) := by decide +kernel
theorem dX6_target_19 : decode cX6_target 19 = .ok (.if_icmp .ge 13, 3) := by decide +kernel
theorem dX6_target_22 : decode cX6_target 22 = .ok (.aload_n 0, 1) := by decide +kernel
theorem dX6_target_23 : decode cX6_target 23 = .ok (.iload_n 2, 1) := by decide +kernel
theorem dX6_target_24 : decode cX6_target 24 = .ok (.iload 4, 2) := by decide +kernel
theorem dX6_target_26 : decode cX6_target 26 = .ok (.invokevirtual 144, 3) := by decide +kernel
theorem dX6_target_29 : decode cX6_target 29 = .ok (.ifCond .eq 36, 3) := by decide +kernel
theorem dX6_target_32 : decode cX6_target 32 = .ok (.iload_n 1, 1) := by decide +kernel
theorem dX6_target_33 : decode cX6_target 33 = .ok (.iconst 1, 1) := by decide +kernel
theorem dX6_target_34 : decode cX6_target 34 = .ok (.if_icmp .ne 16, 3) := by decide +kernel
theorem dX6_target_37 : decode cX6_target 37 = .ok (.iload_n 3, 1) := by decide +kernel
theorem dX6_target_38 : decode cX6_target 38 = .ok (.i2l, 1) := by decide +kernel
theorem dX6_target_39 : decode cX6_target 39 = .ok (.iload_n 2, 1) := by decide +kernel
theorem dX6_target_40 : decode cX6_target 40 = .ok (.i2l, 1) := by decide +kernel
theorem dX6_target_41 : decode cX6_target 41 = .ok (.ldc2_w 84, 3) := by decide +kernel
theorem dX6_target_44 : decode cX6_target 44 = .ok (.invokestatic 86, 3) := by decide +kernel
theorem dX6_target_47 : decode cX6_target 47 = .ok (.ifCond .eq 18, 3) := by decide +kernel
theorem dX6_target_50 : decode cX6_target 50 = .ok (.iload 5, 2) := by decide +kernel
theorem dX6_target_52 : decode cX6_target 52 = .ok (.i2l, 1) := by decide +kernel
theorem dX6_target_53 : decode cX6_target 53 = .ok (.ldc2_w 148, 3) := by decide +kernel
theorem dX6_target_56 : decode cX6_target 56 = .ok (.ldc2_w 150, 3) := by decide +kernel
theorem dX6_target_59 : decode cX6_target 59 = .ok (.invokestatic 86, 3) := by decide +kernel
theorem dX6_target_62 : decode cX6_target 62 = .ok (.ifCond .ne 6, 3) := by decide +kernel
theorem dX6_target_65 : decode cX6_target 65 = .ok (.bipush (-2), 2) := by decide +kernel
theorem dX6_target_67 : decode cX6_target 67 = .ok (.ireturn, 1) := by decide +kernel
theorem dX6_target_68 : decode cX6_target 68 = .ok (.aload_n 0, 1) := by decide +kernel
theorem dX6_target_69 : decode cX6_target 69 = .ok (.getfield 116, 3) := by decide +kernel
theorem dX6_target_72 : decode cX6_target 72 = .ok (.bipush 8, 2) := by decide +kernel
theorem dX6_target_74 : decode cX6_target 74 = .ok (.if_icmp .ne 6, 3) := by decide +kernel
theorem dX6_target_77 : decode cX6_target 77 = .ok (.bipush (-4), 2) := by decide +kernel
theorem dX6_target_79 : decode cX6_target 79 = .ok (.ireturn, 1) := by decide +kernel
theorem dX6_target_80 : decode cX6_target 80 = .ok (.aload_n 0, 1) := by decide +kernel
theorem dX6_target_81 : decode cX6_target 81 = .ok (.getfield 27, 3) := by decide +kernel
theorem dX6_target_84 : decode cX6_target 84 = .ok (.aload_n 0, 1) := by decide +kernel
theorem dX6_target_85 : decode cX6_target 85 = .ok (.getfield 116, 3) := by decide +kernel
theorem dX6_target_88 : decode cX6_target 88 = .ok (.iload_n 1, 1) := by decide +kernel
theorem dX6_target_89 : decode cX6_target 89 = .ok (.iastore, 1) := by decide +kernel
theorem dX6_target_90 : decode cX6_target 90 = .ok (.aload_n 0, 1) := by decide +kernel
theorem dX6_target_91 : decode cX6_target 91 = .ok (.getfield 30, 3) := by decide +kernel
theorem dX6_target_94 : decode cX6_target 94 = .ok (.aload_n 0, 1) := by decide +kernel
theorem dX6_target_95 : decode cX6_target 95 = .ok (.getfield 116, 3) := by decide +kernel
theorem dX6_target_98 : decode cX6_target 98 = .ok (.iload_n 1, 1) := by decide +kernel
theorem dX6_target_99 : decode cX6_target 99 = .ok (.iconst 2, 1) := by decide +kernel
theorem dX6_target_100 : decode cX6_target 100 = .ok (.if_icmp .ne 7, 3) := by decide +kernel
theorem dX6_target_103 : decode cX6_target 103 = .ok (.iconst 0, 1) := by decide +kernel
theorem dX6_target_104 : decode cX6_target 104 = .ok (.goto 4, 3) := by decide +kernel
theorem dX6_target_107 : decode cX6_target 107 = .ok (.iload_n 2, 1) := by decide +kernel
theorem dX6_target_108 : decode cX6_target 108 = .ok (.iastore, 1) := by decide +kernel
theorem dX6_target_109 : decode cX6_target 109 = .ok (.aload_n 0, 1) := by decide +kernel
theorem dX6_target_110 : decode cX6_target 110 = .ok (.getfield 33, 3) := by decide +kernel
theorem dX6_target_113 : decode cX6_target 113 = .ok (.aload_n 0, 1) := by decide +kernel
theorem dX6_target_114 : decode cX6_target 114 = .ok (.getfield 116, 3) := by decide +kernel
theorem dX6_target_117 : decode cX6_target 117 = .ok (.iload_n 1, 1) := by decide +kernel
theorem dX6_target_118 : decode cX6_target 118 = .ok (.iconst 2, 1) := by decide +kernel
theorem dX6_target_119 : decode cX6_target 119 = .ok (.if_icmp .ne 8, 3) := by decide +kernel
theorem dX6_target_122 : decode cX6_target 122 = .ok (.bipush 50, 2) := by decide +kernel
theorem dX6_target_124 : decode cX6_target 124 = .ok (.goto 13, 3) := by decide +kernel
theorem dX6_target_127 : decode cX6_target 127 = .ok (.iload_n 1, 1) := by decide +kernel
theorem dX6_target_128 : decode cX6_target 128 = .ok (.iconst 1, 1) := by decide +kernel
theorem dX6_target_129 : decode cX6_target 129 = .ok (.if_icmp .ne 7, 3) := by decide +kernel
theorem dX6_target_132 : decode cX6_target 132 = .ok (.iload_n 3, 1) := by decide +kernel
theorem dX6_target_133 : decode cX6_target 133 = .ok (.goto 4, 3) := by decide +kernel
theorem dX6_target_136 : decode cX6_target 136 = .ok (.iload_n 2, 1) := by decide +kernel
theorem dX6_target_137 : decode cX6_target 137 = .ok (.iastore, 1) := by decide +kernel
theorem dX6_target_138 : decode cX6_target 138 = .ok (.aload_n 0, 1) := by decide +kernel
theorem dX6_target_139 : decode cX6_target 139 = .ok (.getfield 36, 3) := by decide +kernel
theorem dX6_target_142 : decode cX6_target 142 = .ok (.aload_n 0, 1) := by decide +kernel
theorem dX6_target_143 : decode cX6_target 143 = .ok (.getfield 116, 3) := by decide +kernel
theorem dX6_target_146 : decode cX6_target 146 = .ok (.iload 4, 2) := by decide +kernel
theorem dX6_target_148 : decode cX6_target 148 = .ok (.iastore, 1) := by decide +kernel
theorem dX6_target_149 : decode cX6_target 149 = .ok (.aload_n 0, 1) := by decide +kernel
theorem dX6_target_150 : decode cX6_target 150 = .ok (.getfield 39, 3) := by decide +kernel
theorem dX6_target_153 : decode cX6_target 153 = .ok (.aload_n 0, 1) := by decide +kernel
theorem dX6_target_154 : decode cX6_target 154 = .ok (.getfield 116, 3) := by decide +kernel
theorem dX6_target_157 : decode cX6_target 157 = .ok (.iload 5, 2) := by decide +kernel
theorem dX6_target_159 : decode cX6_target 159 = .ok (.iastore, 1) := by decide +kernel
theorem dX6_target_160 : decode cX6_target 160 = .ok (.aload_n 0, 1) := by decide +kernel
theorem dX6_target_161 : decode cX6_target 161 = .ok (.dup, 1) := by decide +kernel
theorem dX6_target_162 : decode cX6_target 162 = .ok (.getfield 116, 3) := by decide +kernel
theorem dX6_target_165 : decode cX6_target 165 = .ok (.iconst 1, 1) := by decide +kernel
theorem dX6_target_166 : decode cX6_target 166 = .ok (.iadd, 1) := by decide +kernel
theorem dX6_target_167 : decode cX6_target 167 = .ok (.putfield 116, 3) := by decide +kernel
theorem dX6_target_170 : decode cX6_target 170 = .ok (.aload_n 0, 1) := by decide +kernel
theorem dX6_target_171 : decode cX6_target 171 = .ok (.getfield 116, 3) := by decide +kernel
theorem dX6_target_174 : decode cX6_target 174 = .ok (.iconst 1, 1) := by decide +kernel
theorem dX6_target_175 : decode cX6_target 175 = .ok (.isub, 1) := by decide +kernel
theorem dX6_target_176 : decode cX6_target 176 = .ok (.ireturn, 1) := by decide +kernel
theorem dX6_drop_0 : decode cX6_drop 0 = .ok (.aload_n 0, 1) := by decide +kernel
theorem dX6_drop_1 : decode cX6_drop 1 = .ok (.iconst 0, 1) := by decide +kernel
theorem dX6_drop_2 : decode cX6_drop 2 = .ok (.putfield 75, 3) := by decide +kernel
theorem dX6_drop_5 : decode cX6_drop 5 = .ok (.aload_n 0, 1) := by decide +kernel
theorem dX6_drop_6 : decode cX6_drop 6 = .ok (.getfield 116, 3) := by decide +kernel
theorem dX6_drop_9 : decode cX6_drop 9 = .ok (.ifCond .ne 6, 3) := by decide +kernel
theorem dX6_drop_12 : decode cX6_drop 12 = .ok (.bipush (-3), 2) := by decide +kernel
theorem dX6_drop_14 : decode cX6_drop 14 = .ok (.ireturn, 1) := by decide +kernel
theorem dX6_drop_15 : decode cX6_drop 15 = .ok (.aload_n 0, 1) := by decide +kernel
theorem dX6_drop_16 : decode cX6_drop 16 = .ok (.dup, 1) := by decide +kernel
theorem dX6_drop_17 : decode cX6_drop 17 = .ok (.getfield 116, 3) := by decide +kernel
theorem dX6_drop_20 : decode cX6_drop 20 = .ok (.iconst 1, 1) := by decide +kernel
theorem dX6_drop_21 : decode cX6_drop 21 = .ok (.isub, 1) := by decide +kernel
theorem dX6_drop_22 : decode cX6_drop 22 = .ok (.putfield 116, 3) := by decide +kernel
theorem dX6_drop_25 : decode cX6_drop 25 = .ok (.aload_n 0, 1) := by decide +kernel
theorem dX6_drop_26 : decode cX6_drop 26 = .ok (.getfield 116, 3) := by decide +kernel
theorem dX6_drop_29 : decode cX6_drop 29 = .ok (.ireturn, 1) := by decide +kernel
set_option maxRecDepth 20000 in
theorem ggX6_taken_X6_in : GoodIn wsX6_taken wsX6_in := goodIn_r _ [12] (by decide +kernel) (by decide +kernel)
set_option maxRecDepth 20000 in
theorem gX6_taken_X6_in : GoodIn wsX6_taken (va_wsS RX6 86 yX6_in wsX6_in) := goodIn_app (goodIn_of _ (by decide +kernel)) ggX6_taken_X6_in
set_option maxRecDepth 20000 in
theorem ggX6_taken_X6_finds : GoodIn wsX6_taken wsX6_finds := goodIn_r _ [16, 17, 29, 30, 31, 32, 33, 34, 35, 36, 37, 38, 39, 40, 41, 42, 43, 44, 45, 46, 47, 48, 49, 50, 51, 52, 53, 54, 55, 56] (by decide +kernel) (by decide +kernel)
set_option maxRecDepth 20000 in
theorem gX6_taken_X6_finds : GoodIn wsX6_taken (wsV RX6 154 RX6 yX6_finds wsX6_finds) := goodIn_app (goodIn_of _ (by decide +kernel)) ggX6_taken_X6_finds
set_option maxRecDepth 20000 in
theorem ggX6_taken_X6_depthOf : GoodIn wsX6_taken wsX6_depthOf := goodIn_r _ [21, 5, 22, 23, 24, 25, 11, 26, 27, 28, 29, 30, 31, 32, 33, 34, 35, 36, 37, 38, 39, 40, 41, 42, 43, 44, 45, 46, 47, 48, 49, 50, 51, 52, 53, 54, 55, 56] (by decide +kernel) (by decide +kernel)
set_option maxRecDepth 20000 in
theorem gX6_taken_X6_depthOf : GoodIn wsX6_taken (wsV RX6 108 RX6 yX6_depthOf wsX6_depthOf) := goodIn_app (goodIn_of _ (by decide +kernel)) ggX6_taken_X6_depthOf
theorem dX6_taken_0 : decode cX6_taken 0 = .ok (.aload_n 0, 1) := by decide +kernel
theorem dX6_taken_1 : decode cX6_taken 1 = .ok (.iconst 0, 1) := by decide +kernel
theorem dX6_taken_2 : decode cX6_taken 2 = .ok (.putfield 75, 3) := by decide +kernel
theorem dX6_taken_5 : decode cX6_taken 5 = .ok (.iload_n 1, 1) := by decide +kernel
theorem dX6_taken_6 : decode cX6_taken 6 = .ok (.i2l, 1) := by decide +kernel
theorem dX6_taken_7 : decode cX6_taken 7 = .ok (.lconst 0, 1) := by decide +kernel
theorem dX6_taken_8 : decode cX6_taken 8 = .ok (.aload_n 0, 1) := by decide +kernel
theorem dX6_taken_9 : decode cX6_taken 9 = .ok (.getfield 116, 3) := by decide +kernel
theorem dX6_taken_12 : decode cX6_taken 12 = .ok (.iconst 1, 1) := by decide +kernel
theorem dX6_taken_13 : decode cX6_taken 13 = .ok (.isub, 1) := by decide +kernel
theorem dX6_taken_14 : decode cX6_taken 14 = .ok (.i2l, 1) := by decide +kernel
theorem dX6_taken_15 : decode cX6_taken 15 = .ok (.invokestatic 86, 3) := by decide +kernel
theorem dX6_taken_18 : decode cX6_taken 18 = .ok (.ifCond .ne 5, 3) := by decide +kernel
theorem dX6_taken_21 : decode cX6_taken 21 = .ok (.iconst (-1), 1) := by decide +kernel
theorem dX6_taken_22 : decode cX6_taken 22 = .ok (.ireturn, 1) := by decide +kernel
theorem dX6_taken_23 : decode cX6_taken 23 = .ok (.iload_n 2, 1) := by decide +kernel
theorem dX6_taken_24 : decode cX6_taken 24 = .ok (.i2l, 1) := by decide +kernel
theorem dX6_taken_25 : decode cX6_taken 25 = .ok (.lconst 0, 1) := by decide +kernel
theorem dX6_taken_26 : decode cX6_taken 26 = .ok (.ldc2_w 142, 3) := by decide +kernel
theorem dX6_taken_29 : decode cX6_taken 29 = .ok (.invokestatic 86, 3) := by decide +kernel
theorem dX6_taken_32 : decode cX6_taken 32 = .ok (.ifCond .eq 25, 3) := by decide +kernel
theorem dX6_taken_35 : decode cX6_taken 35 = .ok (.iload_n 3, 1) := by decide +kernel
theorem dX6_taken_36 : decode cX6_taken 36 = .ok (.i2l, 1) := by decide +kernel
theorem dX6_taken_37 : decode cX6_taken 37 = .ok (.lconst 0, 1) := by decide +kernel
theorem dX6_taken_38 : decode cX6_taken 38 = .ok (.iload_n 2, 1) := by decide +kernel
theorem dX6_taken_39 : decode cX6_taken 39 = .ok (.ifCond .ne 9, 3) := by decide +kernel
theorem dX6_taken_42 : decode cX6_taken 42 = .ok (.ldc2_w 142, 3) := by decide +kernel
theorem dX6_taken_45 : decode cX6_taken 45 = .ok (.goto 6, 3) := by decide +kernel
theorem dX6_taken_48 : decode cX6_taken 48 = .ok (.ldc2_w 152, 3) := by decide +kernel
theorem dX6_taken_51 : decode cX6_taken 51 = .ok (.invokestatic 86, 3) := by decide +kernel
theorem dX6_taken_54 : decode cX6_taken 54 = .ok (.ifCond .ne 6, 3) := by decide +kernel
theorem dX6_taken_57 : decode cX6_taken 57 = .ok (.bipush (-2), 2) := by decide +kernel
theorem dX6_taken_59 : decode cX6_taken 59 = .ok (.ireturn, 1) := by decide +kernel
theorem dX6_taken_60 : decode cX6_taken 60 = .ok (.aload_n 0, 1) := by decide +kernel
theorem dX6_taken_61 : decode cX6_taken 61 = .ok (.getfield 27, 3) := by decide +kernel
theorem dX6_taken_64 : decode cX6_taken 64 = .ok (.iload_n 1, 1) := by decide +kernel
theorem dX6_taken_65 : decode cX6_taken 65 = .ok (.iaload, 1) := by decide +kernel
theorem dX6_taken_66 : decode cX6_taken 66 = .ok (.iload_n 2, 1) := by decide +kernel
theorem dX6_taken_67 : decode cX6_taken 67 = .ok (.if_icmp .ge 10, 3) := by decide +kernel
theorem dX6_taken_70 : decode cX6_taken 70 = .ok (.aload_n 0, 1) := by decide +kernel
theorem dX6_taken_71 : decode cX6_taken 71 = .ok (.bipush (-13), 2) := by decide +kernel
theorem dX6_taken_73 : decode cX6_taken 73 = .ok (.invokevirtual 154, 3) := by decide +kernel
theorem dX6_taken_76 : decode cX6_taken 76 = .ok (.ireturn, 1) := by decide +kernel
theorem dX6_taken_77 : decode cX6_taken 77 = .ok (.iload_n 3, 1) := by decide +kernel
theorem dX6_taken_78 : decode cX6_taken 78 = .ok (.ifCond .ne 12, 3) := by decide +kernel
theorem dX6_taken_81 : decode cX6_taken 81 = .ok (.aload_n 0, 1) := by decide +kernel
theorem dX6_taken_82 : decode cX6_taken 82 = .ok (.getfield 39, 3) := by decide +kernel
theorem dX6_taken_85 : decode cX6_taken 85 = .ok (.iload_n 1, 1) := by decide +kernel
theorem dX6_taken_86 : decode cX6_taken 86 = .ok (.iaload, 1) := by decide +kernel
theorem dX6_taken_87 : decode cX6_taken 87 = .ok (.goto 36, 3) := by decide +kernel
theorem dX6_taken_90 : decode cX6_taken 90 = .ok (.iload_n 3, 1) := by decide +kernel
theorem dX6_taken_91 : decode cX6_taken 91 = .ok (.iconst 1, 1) := by decide +kernel
theorem dX6_taken_92 : decode cX6_taken 92 = .ok (.if_icmp .ne 12, 3) := by decide +kernel
theorem dX6_taken_95 : decode cX6_taken 95 = .ok (.aload_n 0, 1) := by decide +kernel
theorem dX6_taken_96 : decode cX6_taken 96 = .ok (.getfield 30, 3) := by decide +kernel
theorem dX6_taken_99 : decode cX6_taken 99 = .ok (.iload_n 1, 1) := by decide +kernel
theorem dX6_taken_100 : decode cX6_taken 100 = .ok (.iaload, 1) := by decide +kernel
theorem dX6_taken_101 : decode cX6_taken 101 = .ok (.goto 22, 3) := by decide +kernel
theorem dX6_taken_104 : decode cX6_taken 104 = .ok (.iload_n 3, 1) := by decide +kernel
theorem dX6_taken_105 : decode cX6_taken 105 = .ok (.iconst 2, 1) := by decide +kernel
theorem dX6_taken_106 : decode cX6_taken 106 = .ok (.if_icmp .ne 11, 3) := by decide +kernel
theorem dX6_taken_109 : decode cX6_taken 109 = .ok (.aload_n 0, 1) := by decide +kernel
theorem dX6_taken_110 : decode cX6_taken 110 = .ok (.iload_n 1, 1) := by decide +kernel
theorem dX6_taken_111 : decode cX6_taken 111 = .ok (.invokevirtual 108, 3) := by decide +kernel
theorem dX6_taken_114 : decode cX6_taken 114 = .ok (.goto 9, 3) := by decide +kernel
theorem dX6_taken_117 : decode cX6_taken 117 = .ok (.aload_n 0, 1) := by decide +kernel
theorem dX6_taken_118 : decode cX6_taken 118 = .ok (.getfield 33, 3) := by decide +kernel
theorem dX6_taken_121 : decode cX6_taken 121 = .ok (.iload_n 1, 1) := by decide +kernel
theorem dX6_taken_122 : decode cX6_taken 122 = .ok (.iaload, 1) := by decide +kernel
theorem dX6_taken_123 : decode cX6_taken 123 = .ok (.ireturn, 1) := by decide +kernel
set_option maxRecDepth 20000 in
theorem ggX6_time_X6_noElement : GoodIn wsX6_time wsX6_noElement := goodIn_r _ [6, 7, 8, 9, 5, 10, 39, 40, 41, 42, 43, 44, 45, 46, 47, 48, 49, 50, 51, 52, 53, 54, 55, 56, 57, 58, 59, 60, 61, 62, 63, 64, 65, 66] (by decide +kernel) (by decide +kernel)
set_option maxRecDepth 20000 in
theorem gX6_time_X6_noElement : GoodIn wsX6_time (wsV RX6 135 RX6 yX6_noElement wsX6_noElement) := goodIn_app (goodIn_of _ (by decide +kernel)) ggX6_time_X6_noElement
set_option maxRecDepth 20000 in
theorem ggX6_time_X6_isPlace : GoodIn wsX6_time wsX6_isPlace := goodIn_r _ [14, 15, 16, 8, 9, 5, 10, 17, 18, 19, 20, 21, 39, 40, 41, 42, 43, 44, 45, 46, 47, 48, 49, 50, 51, 52, 53, 54, 55, 56, 57, 58, 59, 60, 61, 62, 63, 64, 65, 66] (by decide +kernel) (by decide +kernel)
set_option maxRecDepth 20000 in
theorem gX6_time_X6_isPlace : GoodIn wsX6_time (wsV RX6 144 RX6 yX6_isPlace wsX6_isPlace) := goodIn_app (goodIn_of _ (by decide +kernel)) ggX6_time_X6_isPlace
set_option maxRecDepth 20000 in
theorem ggX6_time_X6_timeOf : GoodIn wsX6_time wsX6_timeOf := goodIn_r _ [25, 26, 27, 28, 29, 5, 30, 31, 32, 33, 16, 34, 35, 36, 37, 38, 39, 40, 41, 42, 43, 44, 45, 46, 47, 48, 49, 50, 51, 52, 53, 54, 55, 56, 57, 58, 59, 60, 61, 62, 63, 64, 65, 66] (by decide +kernel) (by decide +kernel)
set_option maxRecDepth 20000 in
theorem gX6_time_X6_timeOf : GoodIn wsX6_time (wsV RX6 105 RX6 yX6_timeOf wsX6_timeOf) := goodIn_app (goodIn_of _ (by decide +kernel)) ggX6_time_X6_timeOf
theorem dX6_time_0 : decode cX6_time 0 = .ok (.aload_n 0, 1) := by decide +kernel
theorem dX6_time_1 : decode cX6_time 1 = .ok (.iconst 0, 1) := by decide +kernel
theorem dX6_time_2 : decode cX6_time 2 = .ok (.putfield 75, 3) := by decide +kernel
theorem dX6_time_5 : decode cX6_time 5 = .ok (.aload_n 0, 1) := by decide +kernel
theorem dX6_time_6 : decode cX6_time 6 = .ok (.iload_n 1, 1) := by decide +kernel
theorem dX6_time_7 : decode cX6_time 7 = .ok (.invokevirtual 135, 3) := by decide +kernel
theorem dX6_time_10 : decode cX6_time 10 = .ok (.ifCond .eq 7, 3) := by decide +kernel
theorem dX6_time_13 : decode cX6_time 13 = .ok (.iconst (-1), 1) := by decide +kernel
theorem dX6_time_14 : decode cX6_time 14 = .ok (.goto 24, 3) := by decide +kernel
theorem dX6_time_17 : decode cX6_time 17 = .ok (.aload_n 0, 1) := by decide +kernel
theorem dX6_time_18 : decode cX6_time 18 = .ok (.iload_n 2, 1) := by decide +kernel
theorem dX6_time_19 : decode cX6_time 19 = .ok (.iload_n 3, 1) := by decide +kernel
theorem dX6_time_20 : decode cX6_time 20 = .ok (.invokevirtual 144, 3) := by decide +kernel
theorem dX6_time_23 : decode cX6_time 23 = .ok (.ifCond .ne 8, 3) := by decide +kernel
theorem dX6_time_26 : decode cX6_time 26 = .ok (.bipush (-2), 2) := by decide +kernel
theorem dX6_time_28 : decode cX6_time 28 = .ok (.goto 10, 3) := by decide +kernel
theorem dX6_time_31 : decode cX6_time 31 = .ok (.aload_n 0, 1) := by decide +kernel
theorem dX6_time_32 : decode cX6_time 32 = .ok (.iload_n 1, 1) := by decide +kernel
theorem dX6_time_33 : decode cX6_time 33 = .ok (.iload_n 2, 1) := by decide +kernel
theorem dX6_time_34 : decode cX6_time 34 = .ok (.iload_n 3, 1) := by decide +kernel
theorem dX6_time_35 : decode cX6_time 35 = .ok (.invokevirtual 105, 3) := by decide +kernel
theorem dX6_time_38 : decode cX6_time 38 = .ok (.ireturn, 1) := by decide +kernel
set_option maxRecDepth 20000 in
theorem ggX6_bend_X6_noElement : GoodIn wsX6_bend wsX6_noElement := goodIn_r _ [7, 8, 9, 10, 6, 11, 35, 36, 37, 38, 39, 40, 41, 42, 43, 44, 45, 46, 47, 48, 49, 50, 51, 52, 53, 54, 55, 56, 57, 58, 59, 60, 61, 62] (by decide +kernel) (by decide +kernel)
set_option maxRecDepth 20000 in
theorem gX6_bend_X6_noElement : GoodIn wsX6_bend (wsV RX6 135 RX6 yX6_noElement wsX6_noElement) := goodIn_app (goodIn_of _ (by decide +kernel)) ggX6_bend_X6_noElement
set_option maxRecDepth 20000 in
theorem ggX6_bend_X6_isPlace : GoodIn wsX6_bend wsX6_isPlace := goodIn_r _ [15, 16, 17, 9, 10, 6, 11, 18, 19, 20, 21, 22, 35, 36, 37, 38, 39, 40, 41, 42, 43, 44, 45, 46, 47, 48, 49, 50, 51, 52, 53, 54, 55, 56, 57, 58, 59, 60, 61, 62] (by decide +kernel) (by decide +kernel)
set_option maxRecDepth 20000 in
theorem gX6_bend_X6_isPlace : GoodIn wsX6_bend (wsV RX6 144 RX6 yX6_isPlace wsX6_isPlace) := goodIn_app (goodIn_of _ (by decide +kernel)) ggX6_bend_X6_isPlace
set_option maxRecDepth 20000 in
theorem ggX6_bend_X6_make : GoodIn wsX6_bend wsX6_make := goodIn_r _ [26, 27, 28, 29, 17, 30, 31, 2, 32, 33, 6, 34, 35, 36, 37, 38, 39, 40, 41, 42, 43, 44, 45, 46, 47, 48, 49, 50, 51, 52, 53, 54, 55, 56, 57, 58, 59, 60, 61, 62] (by decide +kernel) (by decide +kernel)
set_option maxRecDepth 20000 in
theorem gX6_bend_X6_make : GoodIn wsX6_bend (wsV RX6 101 RX6 yX6_make wsX6_make) := goodIn_app (goodIn_of _ (by decide +kernel)) ggX6_bend_X6_make
theorem dX6_bend_0 : decode cX6_bend 0 = .ok (.aload_n 0, 1) := by decide +kernel
theorem dX6_bend_1 : decode cX6_bend 1 = .ok (.iconst 0, 1) := by decide +kernel
theorem dX6_bend_2 : decode cX6_bend 2 = .ok (.putfield 75, 3) := by decide +kernel
theorem dX6_bend_5 : decode cX6_bend 5 = .ok (.aload_n 0, 1) := by decide +kernel
theorem dX6_bend_6 : decode cX6_bend 6 = .ok (.iload_n 1, 1) := by decide +kernel
theorem dX6_bend_7 : decode cX6_bend 7 = .ok (.invokevirtual 135, 3) := by decide +kernel
theorem dX6_bend_10 : decode cX6_bend 10 = .ok (.ifCond .eq 5, 3) := by decide +kernel
theorem dX6_bend_13 : decode cX6_bend 13 = .ok (.iconst (-1), 1) := by decide +kernel
theorem dX6_bend_14 : decode cX6_bend 14 = .ok (.ireturn, 1) := by decide +kernel
theorem dX6_bend_15 : decode cX6_bend 15 = .ok (.aload_n 0, 1) := by decide +kernel
theorem dX6_bend_16 : decode cX6_bend 16 = .ok (.iload_n 2, 1) := by decide +kernel
theorem dX6_bend_17 : decode cX6_bend 17 = .ok (.iload_n 3, 1) := by decide +kernel
theorem dX6_bend_18 : decode cX6_bend 18 = .ok (.invokevirtual 144, 3) := by decide +kernel
theorem dX6_bend_21 : decode cX6_bend 21 = .ok (.ifCond .ne 6, 3) := by decide +kernel
theorem dX6_bend_24 : decode cX6_bend 24 = .ok (.bipush (-2), 2) := by decide +kernel
theorem dX6_bend_26 : decode cX6_bend 26 = .ok (.ireturn, 1) := by decide +kernel
theorem dX6_bend_27 : decode cX6_bend 27 = .ok (.aload_n 0, 1) := by decide +kernel
theorem dX6_bend_28 : decode cX6_bend 28 = .ok (.iload_n 1, 1) := by decide +kernel
theorem dX6_bend_29 : decode cX6_bend 29 = .ok (.iload_n 3, 1) := by decide +kernel
theorem dX6_bend_30 : decode cX6_bend 30 = .ok (.invokevirtual 101, 3) := by decide +kernel
theorem dX6_bend_33 : decode cX6_bend 33 = .ok (.aload_n 0, 1) := by decide +kernel
theorem dX6_bend_34 : decode cX6_bend 34 = .ok (.getfield 45, 3) := by decide +kernel
theorem dX6_bend_37 : decode cX6_bend 37 = .ok (.bipush 51, 2) := by decide +kernel
theorem dX6_bend_39 : decode cX6_bend 39 = .ok (.bipush 51, 2) := by decide +kernel
theorem dX6_bend_41 : decode cX6_bend 41 = .ok (.iload_n 1, 1) := by decide +kernel
theorem dX6_bend_42 : decode cX6_bend 42 = .ok (.imul, 1) := by decide +kernel
theorem dX6_bend_43 : decode cX6_bend 43 = .ok (.iload_n 3, 1) := by decide +kernel
theorem dX6_bend_44 : decode cX6_bend 44 = .ok (.iadd, 1) := by decide +kernel
theorem dX6_bend_45 : decode cX6_bend 45 = .ok (.imul, 1) := by decide +kernel
theorem dX6_bend_46 : decode cX6_bend 46 = .ok (.iload_n 2, 1) := by decide +kernel
theorem dX6_bend_47 : decode cX6_bend 47 = .ok (.iadd, 1) := by decide +kernel
theorem dX6_bend_48 : decode cX6_bend 48 = .ok (.iaload, 1) := by decide +kernel
theorem dX6_bend_49 : decode cX6_bend 49 = .ok (.ireturn, 1) := by decide +kernel
set_option maxRecDepth 20000 in
theorem ggX6_echoTime_X6_noElement : GoodIn wsX6_echoTime wsX6_noElement := goodIn_r _ [7, 8, 9, 10, 6, 11, 51, 52, 53, 54, 55, 56, 57, 58, 59, 60, 61, 62, 63, 64, 65, 66, 67, 68, 69, 70, 71, 72, 73, 74, 75, 76, 77, 78] (by decide +kernel) (by decide +kernel)
set_option maxRecDepth 20000 in
theorem gX6_echoTime_X6_noElement : GoodIn wsX6_echoTime (wsV RX6 135 RX6 yX6_noElement wsX6_noElement) := goodIn_app (goodIn_of _ (by decide +kernel)) ggX6_echoTime_X6_noElement
set_option maxRecDepth 20000 in
theorem ggX6_echoTime_X6_in : GoodIn wsX6_echoTime wsX6_in := goodIn_r _ [11] (by decide +kernel) (by decide +kernel)
set_option maxRecDepth 20000 in
theorem gX6_echoTime_X6_in : GoodIn wsX6_echoTime (va_wsS RX6 86 yX6_in wsX6_in) := goodIn_app (goodIn_of _ (by decide +kernel)) ggX6_echoTime_X6_in
set_option maxRecDepth 20000 in
theorem ggX6_echoTime_X6_echoOf : GoodIn wsX6_echoTime wsX6_echoOf := goodIn_r _ [15, 16, 17, 18, 19, 20, 6, 21, 22, 23, 24, 25, 26, 27, 28, 29, 30, 31, 32, 33, 34, 35, 36, 37, 38, 39, 40, 41, 42, 43, 44, 45, 46, 47, 48, 49, 50, 51, 52, 53, 54, 55, 56, 57, 58, 59, 60, 61, 62, 63, 64, 65, 66, 67, 68, 69, 70, 71, 72, 73, 74, 75, 76, 77, 78] (by decide +kernel) (by decide +kernel)
set_option maxRecDepth 20000 in
theorem gX6_echoTime_X6_echoOf : GoodIn wsX6_echoTime (wsV RX6 119 RX6 yX6_echoOf wsX6_echoOf) := goodIn_app (goodIn_of _ (by decide +kernel)) ggX6_echoTime_X6_echoOf
theorem dX6_echoTime_0 : decode cX6_echoTime 0 = .ok (.aload_n 0, 1) := by decide +kernel
theorem dX6_echoTime_1 : decode cX6_echoTime 1 = .ok (.iconst 0, 1) := by decide +kernel
theorem dX6_echoTime_2 : decode cX6_echoTime 2 = .ok (.putfield 75, 3) := by decide +kernel
theorem dX6_echoTime_5 : decode cX6_echoTime 5 = .ok (.aload_n 0, 1) := by decide +kernel
theorem dX6_echoTime_6 : decode cX6_echoTime 6 = .ok (.iload_n 1, 1) := by decide +kernel
theorem dX6_echoTime_7 : decode cX6_echoTime 7 = .ok (.invokevirtual 135, 3) := by decide +kernel
theorem dX6_echoTime_10 : decode cX6_echoTime 10 = .ok (.ifCond .ne 27, 3) := by decide +kernel
theorem dX6_echoTime_13 : decode cX6_echoTime 13 = .ok (.aload_n 0, 1) := by decide +kernel
theorem dX6_echoTime_14 : decode cX6_echoTime 14 = .ok (.iload_n 2, 1) := by decide +kernel
theorem dX6_echoTime_15 : decode cX6_echoTime 15 = .ok (.invokevirtual 135, 3) := by decide +kernel
theorem dX6_echoTime_18 : decode cX6_echoTime 18 = .ok (.ifCond .ne 19, 3) := by decide +kernel
theorem dX6_echoTime_21 : decode cX6_echoTime 21 = .ok (.iload_n 3, 1) := by decide +kernel
theorem dX6_echoTime_22 : decode cX6_echoTime 22 = .ok (.i2l, 1) := by decide +kernel
theorem dX6_echoTime_23 : decode cX6_echoTime 23 = .ok (.lconst 0, 1) := by decide +kernel
theorem dX6_echoTime_24 : decode cX6_echoTime 24 = .ok (.aload_n 0, 1) := by decide +kernel
theorem dX6_echoTime_25 : decode cX6_echoTime 25 = .ok (.getfield 116, 3) := by decide +kernel
theorem dX6_echoTime_28 : decode cX6_echoTime 28 = .ok (.iconst 1, 1) := by decide +kernel
theorem dX6_echoTime_29 : decode cX6_echoTime 29 = .ok (.isub, 1) := by decide +kernel
theorem dX6_echoTime_30 : decode cX6_echoTime 30 = .ok (.i2l, 1) := by decide +kernel
theorem dX6_echoTime_31 : decode cX6_echoTime 31 = .ok (.invokestatic 86, 3) := by decide +kernel
theorem dX6_echoTime_34 : decode cX6_echoTime 34 = .ok (.ifCond .ne 7, 3) := by decide +kernel
theorem dX6_echoTime_37 : decode cX6_echoTime 37 = .ok (.iconst (-1), 1) := by decide +kernel
theorem dX6_echoTime_38 : decode cX6_echoTime 38 = .ok (.goto 10, 3) := by decide +kernel
theorem dX6_echoTime_41 : decode cX6_echoTime 41 = .ok (.aload_n 0, 1) := by decide +kernel
theorem dX6_echoTime_42 : decode cX6_echoTime 42 = .ok (.iload_n 1, 1) := by decide +kernel
theorem dX6_echoTime_43 : decode cX6_echoTime 43 = .ok (.iload_n 2, 1) := by decide +kernel
theorem dX6_echoTime_44 : decode cX6_echoTime 44 = .ok (.iload_n 3, 1) := by decide +kernel
theorem dX6_echoTime_45 : decode cX6_echoTime 45 = .ok (.invokevirtual 119, 3) := by decide +kernel
theorem dX6_echoTime_48 : decode cX6_echoTime 48 = .ok (.ireturn, 1) := by decide +kernel
set_option maxRecDepth 20000 in
theorem ggX6_slowness_X6_noElement : GoodIn wsX6_slowness wsX6_noElement := goodIn_r _ [7, 8, 9, 10, 6, 11, 42, 43, 44, 45, 46, 47, 48, 49, 50, 51, 52, 53, 54, 55, 56, 57, 58, 59, 60, 61, 62, 63, 64, 65, 66, 67, 68, 69] (by decide +kernel) (by decide +kernel)
set_option maxRecDepth 20000 in
theorem gX6_slowness_X6_noElement : GoodIn wsX6_slowness (wsV RX6 135 RX6 yX6_noElement wsX6_noElement) := goodIn_app (goodIn_of _ (by decide +kernel)) ggX6_slowness_X6_noElement
set_option maxRecDepth 20000 in
theorem ggX6_slowness_X6_unmake : GoodIn wsX6_slowness wsX6_unmake := goodIn_r _ [15, 16, 42, 43, 44, 45, 46, 47, 48, 49, 50, 51, 52, 53, 54, 55, 56, 57, 58, 59, 60, 61, 62, 63, 64, 65, 66, 67, 68, 69] (by decide +kernel) (by decide +kernel)
set_option maxRecDepth 20000 in
theorem gX6_slowness_X6_unmake : GoodIn wsX6_slowness (wsV RX6 132 RX6 yX6_unmake wsX6_unmake) := goodIn_app (goodIn_of _ (by decide +kernel)) ggX6_slowness_X6_unmake
set_option maxRecDepth 20000 in
theorem ggX6_slowness_X6_floor : GoodIn wsX6_slowness wsX6_floor := goodIn_r _ [20, 21, 22, 42, 43, 44, 45, 46, 47, 48, 49, 50, 51, 52, 53, 54, 55, 56, 57, 58, 59, 60, 61, 62, 63, 64, 65, 66, 67, 68, 69] (by decide +kernel) (by decide +kernel)
set_option maxRecDepth 20000 in
theorem gX6_slowness_X6_floor : GoodIn wsX6_slowness (wsV RX6 90 RX6 yX6_floor wsX6_floor) := goodIn_app (goodIn_of _ (by decide +kernel)) ggX6_slowness_X6_floor
set_option maxRecDepth 20000 in
theorem ggX6_slowness_X6_least : GoodIn wsX6_slowness wsX6_least := goodIn_r _ [26, 27, 28, 29, 6, 30, 31, 32, 33, 34, 35, 16, 36, 37, 21, 2, 38, 39, 40, 41, 42, 43, 44, 45, 46, 47, 48, 49, 50, 51, 52, 53, 54, 55, 56, 57, 58, 59, 60, 61, 62, 63, 64, 65, 66, 67, 68, 69] (by decide +kernel) (by decide +kernel)
set_option maxRecDepth 20000 in
theorem gX6_slowness_X6_least : GoodIn wsX6_slowness (wsV RX6 112 RX6 yX6_least wsX6_least) := goodIn_app (goodIn_of _ (by decide +kernel)) ggX6_slowness_X6_least
theorem dX6_slowness_0 : decode cX6_slowness 0 = .ok (.aload_n 0, 1) := by decide +kernel
theorem dX6_slowness_1 : decode cX6_slowness 1 = .ok (.iconst 0, 1) := by decide +kernel
theorem dX6_slowness_2 : decode cX6_slowness 2 = .ok (.putfield 75, 3) := by decide +kernel
theorem dX6_slowness_5 : decode cX6_slowness 5 = .ok (.aload_n 0, 1) := by decide +kernel
theorem dX6_slowness_6 : decode cX6_slowness 6 = .ok (.iload_n 1, 1) := by decide +kernel
theorem dX6_slowness_7 : decode cX6_slowness 7 = .ok (.invokevirtual 135, 3) := by decide +kernel
theorem dX6_slowness_10 : decode cX6_slowness 10 = .ok (.ifCond .ne 11, 3) := by decide +kernel
theorem dX6_slowness_13 : decode cX6_slowness 13 = .ok (.aload_n 0, 1) := by decide +kernel
theorem dX6_slowness_14 : decode cX6_slowness 14 = .ok (.iload_n 2, 1) := by decide +kernel
theorem dX6_slowness_15 : decode cX6_slowness 15 = .ok (.invokevirtual 135, 3) := by decide +kernel
theorem dX6_slowness_18 : decode cX6_slowness 18 = .ok (.ifCond .eq 5, 3) := by decide +kernel
theorem dX6_slowness_21 : decode cX6_slowness 21 = .ok (.iconst (-1), 1) := by decide +kernel
theorem dX6_slowness_22 : decode cX6_slowness 22 = .ok (.ireturn, 1) := by decide +kernel
theorem dX6_slowness_23 : decode cX6_slowness 23 = .ok (.iload_n 3, 1) := by decide +kernel
theorem dX6_slowness_24 : decode cX6_slowness 24 = .ok (.ifCond .ge 6, 3) := by decide +kernel
theorem dX6_slowness_27 : decode cX6_slowness 27 = .ok (.bipush (-2), 2) := by decide +kernel
theorem dX6_slowness_29 : decode cX6_slowness 29 = .ok (.ireturn, 1) := by decide +kernel
theorem dX6_slowness_30 : decode cX6_slowness 30 = .ok (.aload_n 0, 1) := by decide +kernel
theorem dX6_slowness_31 : decode cX6_slowness 31 = .ok (.getfield 16, 3) := by decide +kernel
theorem dX6_slowness_34 : decode cX6_slowness 34 = .ok (.istore 4, 2) := by decide +kernel
theorem dX6_slowness_36 : decode cX6_slowness 36 = .ok (.iconst 0, 1) := by decide +kernel
theorem dX6_slowness_37 : decode cX6_slowness 37 = .ok (.istore 5, 2) := by decide +kernel
theorem dX6_slowness_39 : decode cX6_slowness 39 = .ok (.lconst 0, 1) := by decide +kernel
theorem dX6_slowness_40 : decode cX6_slowness 40 = .ok (.lstore 6, 2) := by decide +kernel
theorem dX6_slowness_42 : decode cX6_slowness 42 = .ok (.iconst 1, 1) := by decide +kernel
theorem dX6_slowness_43 : decode cX6_slowness 43 = .ok (.istore 8, 2) := by decide +kernel
theorem dX6_slowness_45 : decode cX6_slowness 45 = .ok (.iload 8, 2) := by decide +kernel
theorem dX6_slowness_47 : decode cX6_slowness 47 = .ok (.bipush 8, 2) := by decide +kernel
theorem dX6_slowness_49 : decode cX6_slowness 49 = .ok (.if_icmp .gt 77, 3) := by decide +kernel
theorem dX6_slowness_52 : decode cX6_slowness 52 = .ok (.aload_n 0, 1) := by decide +kernel
theorem dX6_slowness_53 : decode cX6_slowness 53 = .ok (.iload 8, 2) := by decide +kernel
theorem dX6_slowness_55 : decode cX6_slowness 55 = .ok (.putfield 16, 3) := by decide +kernel
theorem dX6_slowness_58 : decode cX6_slowness 58 = .ok (.aload_n 0, 1) := by decide +kernel
theorem dX6_slowness_59 : decode cX6_slowness 59 = .ok (.invokevirtual 132, 3) := by decide +kernel
theorem dX6_slowness_62 : decode cX6_slowness 62 = .ok (.aload_n 0, 1) := by decide +kernel
theorem dX6_slowness_63 : decode cX6_slowness 63 = .ok (.iload_n 1, 1) := by decide +kernel
theorem dX6_slowness_64 : decode cX6_slowness 64 = .ok (.iload_n 2, 1) := by decide +kernel
theorem dX6_slowness_65 : decode cX6_slowness 65 = .ok (.iconst 0, 1) := by decide +kernel
theorem dX6_slowness_66 : decode cX6_slowness 66 = .ok (.bipush 50, 2) := by decide +kernel
theorem dX6_slowness_68 : decode cX6_slowness 68 = .ok (.aload_n 0, 1) := by decide +kernel
theorem dX6_slowness_69 : decode cX6_slowness 69 = .ok (.invokevirtual 90, 3) := by decide +kernel
theorem dX6_slowness_72 : decode cX6_slowness 72 = .ok (.invokevirtual 112, 3) := by decide +kernel
theorem dX6_slowness_75 : decode cX6_slowness 75 = .ok (.i2l, 1) := by decide +kernel
theorem dX6_slowness_76 : decode cX6_slowness 76 = .ok (.iload_n 3, 1) := by decide +kernel
theorem dX6_slowness_77 : decode cX6_slowness 77 = .ok (.i2l, 1) := by decide +kernel
theorem dX6_slowness_78 : decode cX6_slowness 78 = .ok (.lsub, 1) := by decide +kernel
theorem dX6_slowness_79 : decode cX6_slowness 79 = .ok (.lstore 9, 2) := by decide +kernel
theorem dX6_slowness_81 : decode cX6_slowness 81 = .ok (.lload 9, 2) := by decide +kernel
theorem dX6_slowness_83 : decode cX6_slowness 83 = .ok (.lconst 0, 1) := by decide +kernel
theorem dX6_slowness_84 : decode cX6_slowness 84 = .ok (.lcmp, 1) := by decide +kernel
theorem dX6_slowness_85 : decode cX6_slowness 85 = .ok (.ifCond .ge 9, 3) := by decide +kernel
theorem dX6_slowness_88 : decode cX6_slowness 88 = .ok (.lload 9, 2) := by decide +kernel
theorem dX6_slowness_90 : decode cX6_slowness 90 = .ok (.lneg, 1) := by decide +kernel
theorem dX6_slowness_91 : decode cX6_slowness 91 = .ok (.goto 5, 3) := by decide +kernel
theorem dX6_slowness_94 : decode cX6_slowness 94 = .ok (.lload 9, 2) := by decide +kernel
theorem dX6_slowness_96 : decode cX6_slowness 96 = .ok (.lstore 9, 2) := by decide +kernel
theorem dX6_slowness_98 : decode cX6_slowness 98 = .ok (.iload 8, 2) := by decide +kernel
theorem dX6_slowness_100 : decode cX6_slowness 100 = .ok (.iconst 1, 1) := by decide +kernel
theorem dX6_slowness_101 : decode cX6_slowness 101 = .ok (.if_icmp .eq 11, 3) := by decide +kernel
theorem dX6_slowness_104 : decode cX6_slowness 104 = .ok (.lload 9, 2) := by decide +kernel
theorem dX6_slowness_106 : decode cX6_slowness 106 = .ok (.lload 6, 2) := by decide +kernel
theorem dX6_slowness_108 : decode cX6_slowness 108 = .ok (.lcmp, 1) := by decide +kernel
theorem dX6_slowness_109 : decode cX6_slowness 109 = .ok (.ifCond .ge 11, 3) := by decide +kernel
theorem dX6_slowness_112 : decode cX6_slowness 112 = .ok (.iload 8, 2) := by decide +kernel
theorem dX6_slowness_114 : decode cX6_slowness 114 = .ok (.istore 5, 2) := by decide +kernel
theorem dX6_slowness_116 : decode cX6_slowness 116 = .ok (.lload 9, 2) := by decide +kernel
theorem dX6_slowness_118 : decode cX6_slowness 118 = .ok (.lstore 6, 2) := by decide +kernel
theorem dX6_slowness_120 : decode cX6_slowness 120 = .ok (.iinc 8 1, 3) := by decide +kernel
theorem dX6_slowness_123 : decode cX6_slowness 123 = .ok (.goto (-78), 3) := by decide +kernel
theorem dX6_slowness_126 : decode cX6_slowness 126 = .ok (.aload_n 0, 1) := by decide +kernel
theorem dX6_slowness_127 : decode cX6_slowness 127 = .ok (.iload 4, 2) := by decide +kernel
theorem dX6_slowness_129 : decode cX6_slowness 129 = .ok (.putfield 16, 3) := by decide +kernel
theorem dX6_slowness_132 : decode cX6_slowness 132 = .ok (.aload_n 0, 1) := by decide +kernel
theorem dX6_slowness_133 : decode cX6_slowness 133 = .ok (.invokevirtual 132, 3) := by decide +kernel
theorem dX6_slowness_136 : decode cX6_slowness 136 = .ok (.iload 5, 2) := by decide +kernel
theorem dX6_slowness_138 : decode cX6_slowness 138 = .ok (.ireturn, 1) := by decide +kernel
set_option maxRecDepth 20000 in
theorem ggX6_echo_X6_noElement : GoodIn wsX6_echo wsX6_noElement := goodIn_r _ [6, 7, 8, 9, 5, 10, 57, 58, 59, 60, 61, 62, 63, 64, 65, 66, 67, 68, 69, 70, 71, 72, 73, 74, 75, 76, 77, 78, 79, 80, 81, 82, 83, 84] (by decide +kernel) (by decide +kernel)
set_option maxRecDepth 20000 in
theorem gX6_echo_X6_noElement : GoodIn wsX6_echo (wsV RX6 135 RX6 yX6_noElement wsX6_noElement) := goodIn_app (goodIn_of _ (by decide +kernel)) ggX6_echo_X6_noElement
set_option maxRecDepth 20000 in
theorem ggX6_echo_X6_echoAt : GoodIn wsX6_echo wsX6_echoAt := goodIn_r _ [14, 15, 16, 17, 18, 19, 20, 5, 21, 22, 23, 24, 25, 26, 27, 28, 29, 30, 31, 32, 33, 34, 35, 36, 37, 38, 39, 40, 41, 42, 43, 44, 45, 46, 47, 48, 49, 50, 51, 52, 53, 54, 55, 56, 57, 58, 59, 60, 61, 62, 63, 64, 65, 66, 67, 68, 69, 70, 71, 72, 73, 74, 75, 76, 77, 78, 79, 80, 81, 82, 83, 84] (by decide +kernel) (by decide +kernel)
set_option maxRecDepth 20000 in
theorem gX6_echo_X6_echoAt : GoodIn wsX6_echo (wsV RX6 157 RX6 yX6_echoAt wsX6_echoAt) := goodIn_app (goodIn_of _ (by decide +kernel)) ggX6_echo_X6_echoAt
theorem dX6_echo_0 : decode cX6_echo 0 = .ok (.aload_n 0, 1) := by decide +kernel
theorem dX6_echo_1 : decode cX6_echo 1 = .ok (.iconst 0, 1) := by decide +kernel
theorem dX6_echo_2 : decode cX6_echo 2 = .ok (.putfield 75, 3) := by decide +kernel
theorem dX6_echo_5 : decode cX6_echo 5 = .ok (.aload_n 0, 1) := by decide +kernel
theorem dX6_echo_6 : decode cX6_echo 6 = .ok (.iload_n 1, 1) := by decide +kernel
theorem dX6_echo_7 : decode cX6_echo 7 = .ok (.invokevirtual 135, 3) := by decide +kernel
theorem dX6_echo_10 : decode cX6_echo 10 = .ok (.ifCond .ne 11, 3) := by decide +kernel
theorem dX6_echo_13 : decode cX6_echo 13 = .ok (.aload_n 0, 1) := by decide +kernel
theorem dX6_echo_14 : decode cX6_echo 14 = .ok (.iload_n 2, 1) := by decide +kernel
theorem dX6_echo_15 : decode cX6_echo 15 = .ok (.invokevirtual 135, 3) := by decide +kernel
theorem dX6_echo_18 : decode cX6_echo 18 = .ok (.ifCond .eq 7, 3) := by decide +kernel
theorem dX6_echo_21 : decode cX6_echo 21 = .ok (.iconst (-1), 1) := by decide +kernel
theorem dX6_echo_22 : decode cX6_echo 22 = .ok (.goto 11, 3) := by decide +kernel
theorem dX6_echo_25 : decode cX6_echo 25 = .ok (.aload_n 0, 1) := by decide +kernel
theorem dX6_echo_26 : decode cX6_echo 26 = .ok (.iload_n 1, 1) := by decide +kernel
theorem dX6_echo_27 : decode cX6_echo 27 = .ok (.iload_n 2, 1) := by decide +kernel
theorem dX6_echo_28 : decode cX6_echo 28 = .ok (.iload_n 3, 1) := by decide +kernel
theorem dX6_echo_29 : decode cX6_echo 29 = .ok (.i2l, 1) := by decide +kernel
theorem dX6_echo_30 : decode cX6_echo 30 = .ok (.invokevirtual 157, 3) := by decide +kernel
theorem dX6_echo_33 : decode cX6_echo 33 = .ok (.ireturn, 1) := by decide +kernel
set_option maxRecDepth 20000 in
theorem ggX6_gate_X6_noElement : GoodIn wsX6_gate wsX6_noElement := goodIn_r _ [8, 9, 10, 11, 7, 12, 58, 59, 60, 61, 62, 63, 64, 65, 66, 67, 68, 69, 70, 71, 72, 73, 74, 75, 76, 77, 78, 79, 80, 81, 82, 83, 84, 85] (by decide +kernel) (by decide +kernel)
set_option maxRecDepth 20000 in
theorem gX6_gate_X6_noElement : GoodIn wsX6_gate (wsV RX6 135 RX6 yX6_noElement wsX6_noElement) := goodIn_app (goodIn_of _ (by decide +kernel)) ggX6_gate_X6_noElement
set_option maxRecDepth 20000 in
theorem ggX6_gate_X6_in : GoodIn wsX6_gate wsX6_in := goodIn_r _ [12] (by decide +kernel) (by decide +kernel)
set_option maxRecDepth 20000 in
theorem gX6_gate_X6_in : GoodIn wsX6_gate (va_wsS RX6 86 yX6_in wsX6_in) := goodIn_app (goodIn_of _ (by decide +kernel)) ggX6_gate_X6_in
set_option maxRecDepth 20000 in
theorem ggX6_gate_X6_echoOf : GoodIn wsX6_gate wsX6_echoOf := goodIn_r _ [16, 17, 18, 19, 20, 21, 7, 22, 23, 24, 25, 26, 27, 28, 29, 30, 31, 32, 33, 34, 35, 36, 37, 38, 39, 40, 41, 42, 43, 44, 45, 46, 47, 48, 49, 50, 51, 58, 59, 60, 61, 62, 63, 64, 65, 66, 67, 68, 69, 70, 71, 72, 73, 74, 75, 76, 77, 78, 79, 80, 81, 82, 83, 84, 85] (by decide +kernel) (by decide +kernel)
set_option maxRecDepth 20000 in
theorem gX6_gate_X6_echoOf : GoodIn wsX6_gate (wsV RX6 119 RX6 yX6_echoOf wsX6_echoOf) := goodIn_app (goodIn_of _ (by decide +kernel)) ggX6_gate_X6_echoOf
set_option maxRecDepth 20000 in
theorem ggX6_gate_X6_echoAt : GoodIn wsX6_gate wsX6_echoAt := goodIn_r _ [55, 3, 56, 57, 13, 14, 15, 7, 16, 17, 18, 19, 20, 21, 22, 23, 24, 25, 26, 27, 28, 29, 30, 31, 32, 33, 34, 35, 36, 37, 38, 39, 40, 41, 42, 43, 44, 45, 46, 47, 48, 49, 50, 51, 58, 59, 60, 61, 62, 63, 64, 65, 66, 67, 68, 69, 70, 71, 72, 73, 74, 75, 76, 77, 78, 79, 80, 81, 82, 83, 84, 85] (by decide +kernel) (by decide +kernel)
set_option maxRecDepth 20000 in
theorem gX6_gate_X6_echoAt : GoodIn wsX6_gate (wsV RX6 157 RX6 yX6_echoAt wsX6_echoAt) := goodIn_app (goodIn_of _ (by decide +kernel)) ggX6_gate_X6_echoAt
theorem dX6_gate_0 : decode cX6_gate 0 = .ok (.aload_n 0, 1) := by decide +kernel
theorem dX6_gate_1 : decode cX6_gate 1 = .ok (.iconst 0, 1) := by decide +kernel
theorem dX6_gate_2 : decode cX6_gate 2 = .ok (.putfield 75, 3) := by decide +kernel
theorem dX6_gate_5 : decode cX6_gate 5 = .ok (.aload_n 0, 1) := by decide +kernel
theorem dX6_gate_6 : decode cX6_gate 6 = .ok (.iload_n 1, 1) := by decide +kernel
theorem dX6_gate_7 : decode cX6_gate 7 = .ok (.invokevirtual 135, 3) := by decide +kernel
theorem dX6_gate_10 : decode cX6_gate 10 = .ok (.ifCond .ne 11, 3) := by decide +kernel
theorem dX6_gate_13 : decode cX6_gate 13 = .ok (.aload_n 0, 1) := by decide +kernel
theorem dX6_gate_14 : decode cX6_gate 14 = .ok (.iload_n 2, 1) := by decide +kernel
theorem dX6_gate_15 : decode cX6_gate 15 = .ok (.invokevirtual 135, 3) := by decide +kernel
theorem dX6_gate_18 : decode cX6_gate 18 = .ok (.ifCond .eq 5, 3) := by decide +kernel
theorem dX6_gate_21 : decode cX6_gate 21 = .ok (.iconst (-1), 1) := by decide +kernel
theorem dX6_gate_22 : decode cX6_gate 22 = .ok (.ireturn, 1) := by decide +kernel
theorem dX6_gate_23 : decode cX6_gate 23 = .ok (.iload_n 3, 1) := by decide +kernel
theorem dX6_gate_24 : decode cX6_gate 24 = .ok (.i2l, 1) := by decide +kernel
theorem dX6_gate_25 : decode cX6_gate 25 = .ok (.lconst 0, 1) := by decide +kernel
theorem dX6_gate_26 : decode cX6_gate 26 = .ok (.iload 4, 2) := by decide +kernel
theorem dX6_gate_28 : decode cX6_gate 28 = .ok (.i2l, 1) := by decide +kernel
theorem dX6_gate_29 : decode cX6_gate 29 = .ok (.invokestatic 86, 3) := by decide +kernel
theorem dX6_gate_32 : decode cX6_gate 32 = .ok (.ifCond .eq 17, 3) := by decide +kernel
theorem dX6_gate_35 : decode cX6_gate 35 = .ok (.iload 4, 2) := by decide +kernel
theorem dX6_gate_37 : decode cX6_gate 37 = .ok (.sipush 4000, 3) := by decide +kernel
theorem dX6_gate_40 : decode cX6_gate 40 = .ok (.if_icmp .gt 9, 3) := by decide +kernel
theorem dX6_gate_43 : decode cX6_gate 43 = .ok (.iload 5, 2) := by decide +kernel
theorem dX6_gate_45 : decode cX6_gate 45 = .ok (.iconst 1, 1) := by decide +kernel
theorem dX6_gate_46 : decode cX6_gate 46 = .ok (.if_icmp .ge 6, 3) := by decide +kernel
theorem dX6_gate_49 : decode cX6_gate 49 = .ok (.bipush (-2), 2) := by decide +kernel
theorem dX6_gate_51 : decode cX6_gate 51 = .ok (.ireturn, 1) := by decide +kernel
theorem dX6_gate_52 : decode cX6_gate 52 = .ok (.ldc 161, 2) := by decide +kernel
theorem dX6_gate_54 : decode cX6_gate 54 = .ok (.istore 6, 2) := by decide +kernel
theorem dX6_gate_56 : decode cX6_gate 56 = .ok (.iconst 0, 1) := by decide +kernel
theorem dX6_gate_57 : decode cX6_gate 57 = .ok (.istore 7, 2) := by decide +kernel
theorem dX6_gate_59 : decode cX6_gate 59 = .ok (.iload 7, 2) := by decide +kernel
theorem dX6_gate_61 : decode cX6_gate 61 = .ok (.aload_n 0, 1) := by decide +kernel
theorem dX6_gate_62 : decode cX6_gate 62 = .ok (.getfield 116, 3) := by decide +kernel
theorem dX6_gate_65 : decode cX6_gate 65 = .ok (.if_icmp .ge 97, 3) := by decide +kernel
theorem dX6_gate_68 : decode cX6_gate 68 = .ok (.aload_n 0, 1) := by decide +kernel
theorem dX6_gate_69 : decode cX6_gate 69 = .ok (.iload_n 1, 1) := by decide +kernel
theorem dX6_gate_70 : decode cX6_gate 70 = .ok (.iload_n 2, 1) := by decide +kernel
theorem dX6_gate_71 : decode cX6_gate 71 = .ok (.iload 7, 2) := by decide +kernel
theorem dX6_gate_73 : decode cX6_gate 73 = .ok (.invokevirtual 119, 3) := by decide +kernel
theorem dX6_gate_76 : decode cX6_gate 76 = .ok (.istore 8, 2) := by decide +kernel
theorem dX6_gate_78 : decode cX6_gate 78 = .ok (.aload_n 0, 1) := by decide +kernel
theorem dX6_gate_79 : decode cX6_gate 79 = .ok (.iload_n 1, 1) := by decide +kernel
theorem dX6_gate_80 : decode cX6_gate 80 = .ok (.iload_n 2, 1) := by decide +kernel
theorem dX6_gate_81 : decode cX6_gate 81 = .ok (.iload 8, 2) := by decide +kernel
theorem dX6_gate_83 : decode cX6_gate 83 = .ok (.i2l, 1) := by decide +kernel
theorem dX6_gate_84 : decode cX6_gate 84 = .ok (.invokevirtual 157, 3) := by decide +kernel
theorem dX6_gate_87 : decode cX6_gate 87 = .ok (.istore 9, 2) := by decide +kernel
theorem dX6_gate_89 : decode cX6_gate 89 = .ok (.iload 8, 2) := by decide +kernel
theorem dX6_gate_91 : decode cX6_gate 91 = .ok (.i2l, 1) := by decide +kernel
theorem dX6_gate_92 : decode cX6_gate 92 = .ok (.iload_n 3, 1) := by decide +kernel
theorem dX6_gate_93 : decode cX6_gate 93 = .ok (.i2l, 1) := by decide +kernel
theorem dX6_gate_94 : decode cX6_gate 94 = .ok (.iload 4, 2) := by decide +kernel
theorem dX6_gate_96 : decode cX6_gate 96 = .ok (.i2l, 1) := by decide +kernel
theorem dX6_gate_97 : decode cX6_gate 97 = .ok (.invokestatic 86, 3) := by decide +kernel
theorem dX6_gate_100 : decode cX6_gate 100 = .ok (.ifCond .eq 25, 3) := by decide +kernel
theorem dX6_gate_103 : decode cX6_gate 103 = .ok (.iload 9, 2) := by decide +kernel
theorem dX6_gate_105 : decode cX6_gate 105 = .ok (.iload 5, 2) := by decide +kernel
theorem dX6_gate_107 : decode cX6_gate 107 = .ok (.if_icmp .ge 14, 3) := by decide +kernel
theorem dX6_gate_110 : decode cX6_gate 110 = .ok (.iload 9, 2) := by decide +kernel
theorem dX6_gate_112 : decode cX6_gate 112 = .ok (.i2l, 1) := by decide +kernel
theorem dX6_gate_113 : decode cX6_gate 113 = .ok (.iload 5, 2) := by decide +kernel
theorem dX6_gate_115 : decode cX6_gate 115 = .ok (.i2l, 1) := by decide +kernel
theorem dX6_gate_116 : decode cX6_gate 116 = .ok (.lneg, 1) := by decide +kernel
theorem dX6_gate_117 : decode cX6_gate 117 = .ok (.lcmp, 1) := by decide +kernel
theorem dX6_gate_118 : decode cX6_gate 118 = .ok (.ifCond .gt 7, 3) := by decide +kernel
theorem dX6_gate_121 : decode cX6_gate 121 = .ok (.iconst 1, 1) := by decide +kernel
theorem dX6_gate_122 : decode cX6_gate 122 = .ok (.goto 4, 3) := by decide +kernel
theorem dX6_gate_125 : decode cX6_gate 125 = .ok (.iconst 0, 1) := by decide +kernel
theorem dX6_gate_126 : decode cX6_gate 126 = .ok (.istore 10, 2) := by decide +kernel
theorem dX6_gate_128 : decode cX6_gate 128 = .ok (.iload 10, 2) := by decide +kernel
theorem dX6_gate_130 : decode cX6_gate 130 = .ok (.ifCond .eq 22, 3) := by decide +kernel
theorem dX6_gate_133 : decode cX6_gate 133 = .ok (.iload 6, 2) := by decide +kernel
theorem dX6_gate_135 : decode cX6_gate 135 = .ok (.ldc 161, 2) := by decide +kernel
theorem dX6_gate_137 : decode cX6_gate 137 = .ok (.if_icmp .eq 10, 3) := by decide +kernel
theorem dX6_gate_140 : decode cX6_gate 140 = .ok (.iload 8, 2) := by decide +kernel
theorem dX6_gate_142 : decode cX6_gate 142 = .ok (.iload 6, 2) := by decide +kernel
theorem dX6_gate_144 : decode cX6_gate 144 = .ok (.if_icmp .ge 8, 3) := by decide +kernel
theorem dX6_gate_147 : decode cX6_gate 147 = .ok (.iload 8, 2) := by decide +kernel
theorem dX6_gate_149 : decode cX6_gate 149 = .ok (.goto 5, 3) := by decide +kernel
theorem dX6_gate_152 : decode cX6_gate 152 = .ok (.iload 6, 2) := by decide +kernel
theorem dX6_gate_154 : decode cX6_gate 154 = .ok (.istore 6, 2) := by decide +kernel
theorem dX6_gate_156 : decode cX6_gate 156 = .ok (.iinc 7 1, 3) := by decide +kernel
theorem dX6_gate_159 : decode cX6_gate 159 = .ok (.goto (-100), 3) := by decide +kernel
theorem dX6_gate_162 : decode cX6_gate 162 = .ok (.iload 6, 2) := by decide +kernel
theorem dX6_gate_164 : decode cX6_gate 164 = .ok (.ireturn, 1) := by decide +kernel
set_option maxRecDepth 20000 in
theorem ggX6_focus_X6_isPlace : GoodIn wsX6_focus wsX6_isPlace := goodIn_r _ [10, 11, 12, 13, 14, 9, 15, 16, 17, 18, 19, 20, 42, 43, 44, 45, 46, 47, 48, 49, 50, 51, 52, 53, 54, 55, 56, 57, 58, 59, 60, 61, 62, 63, 64, 65, 66, 67, 68, 69] (by decide +kernel) (by decide +kernel)
set_option maxRecDepth 20000 in
theorem gX6_focus_X6_isPlace : GoodIn wsX6_focus (wsV RX6 144 RX6 yX6_isPlace wsX6_isPlace) := goodIn_app (goodIn_of _ (by decide +kernel)) ggX6_focus_X6_isPlace
set_option maxRecDepth 20000 in
theorem ggX6_focus_X6_working : GoodIn wsX6_focus wsX6_working := goodIn_r _ [24, 2, 3, 42, 43, 44, 45, 46, 47, 48, 49, 50, 51, 52, 53, 54, 55, 56, 57, 58, 59, 60, 61, 62, 63, 64, 65, 66, 67, 68, 69] (by decide +kernel) (by decide +kernel)
set_option maxRecDepth 20000 in
theorem gX6_focus_X6_working : GoodIn wsX6_focus (wsV RX6 139 RX6 yX6_working wsX6_working) := goodIn_app (goodIn_of _ (by decide +kernel)) ggX6_focus_X6_working
set_option maxRecDepth 20000 in
theorem ggX6_focus_X6_timeOf : GoodIn wsX6_focus wsX6_timeOf := goodIn_r _ [28, 29, 30, 31, 32, 9, 33, 34, 35, 36, 12, 37, 38, 39, 40, 41, 42, 43, 44, 45, 46, 47, 48, 49, 50, 51, 52, 53, 54, 55, 56, 57, 58, 59, 60, 61, 62, 63, 64, 65, 66, 67, 68, 69] (by decide +kernel) (by decide +kernel)
set_option maxRecDepth 20000 in
theorem gX6_focus_X6_timeOf : GoodIn wsX6_focus (wsV RX6 105 RX6 yX6_timeOf wsX6_timeOf) := goodIn_app (goodIn_of _ (by decide +kernel)) ggX6_focus_X6_timeOf
theorem dX6_focus_0 : decode cX6_focus 0 = .ok (.aload_n 0, 1) := by decide +kernel
theorem dX6_focus_1 : decode cX6_focus 1 = .ok (.iconst 0, 1) := by decide +kernel
theorem dX6_focus_2 : decode cX6_focus 2 = .ok (.putfield 75, 3) := by decide +kernel
theorem dX6_focus_5 : decode cX6_focus 5 = .ok (.aload_n 0, 1) := by decide +kernel
theorem dX6_focus_6 : decode cX6_focus 6 = .ok (.iload_n 1, 1) := by decide +kernel
theorem dX6_focus_7 : decode cX6_focus 7 = .ok (.iload_n 2, 1) := by decide +kernel
theorem dX6_focus_8 : decode cX6_focus 8 = .ok (.invokevirtual 144, 3) := by decide +kernel
theorem dX6_focus_11 : decode cX6_focus 11 = .ok (.ifCond .ne 6, 3) := by decide +kernel
theorem dX6_focus_14 : decode cX6_focus 14 = .ok (.bipush (-2), 2) := by decide +kernel
theorem dX6_focus_16 : decode cX6_focus 16 = .ok (.ireturn, 1) := by decide +kernel
theorem dX6_focus_17 : decode cX6_focus 17 = .ok (.aload_n 0, 1) := by decide +kernel
theorem dX6_focus_18 : decode cX6_focus 18 = .ok (.invokevirtual 139, 3) := by decide +kernel
theorem dX6_focus_21 : decode cX6_focus 21 = .ok (.ifCond .ne 6, 3) := by decide +kernel
theorem dX6_focus_24 : decode cX6_focus 24 = .ok (.bipush (-3), 2) := by decide +kernel
theorem dX6_focus_26 : decode cX6_focus 26 = .ok (.ireturn, 1) := by decide +kernel
theorem dX6_focus_27 : decode cX6_focus 27 = .ok (.iconst 0, 1) := by decide +kernel
theorem dX6_focus_28 : decode cX6_focus 28 = .ok (.istore_n 3, 1) := by decide +kernel
theorem dX6_focus_29 : decode cX6_focus 29 = .ok (.iconst 0, 1) := by decide +kernel
theorem dX6_focus_30 : decode cX6_focus 30 = .ok (.istore 4, 2) := by decide +kernel
theorem dX6_focus_32 : decode cX6_focus 32 = .ok (.iload 4, 2) := by decide +kernel
theorem dX6_focus_34 : decode cX6_focus 34 = .ok (.aload_n 0, 1) := by decide +kernel
theorem dX6_focus_35 : decode cX6_focus 35 = .ok (.getfield 94, 3) := by decide +kernel
theorem dX6_focus_38 : decode cX6_focus 38 = .ok (.if_icmp .ge 44, 3) := by decide +kernel
theorem dX6_focus_41 : decode cX6_focus 41 = .ok (.aload_n 0, 1) := by decide +kernel
theorem dX6_focus_42 : decode cX6_focus 42 = .ok (.getfield 23, 3) := by decide +kernel
theorem dX6_focus_45 : decode cX6_focus 45 = .ok (.iload 4, 2) := by decide +kernel
theorem dX6_focus_47 : decode cX6_focus 47 = .ok (.baload, 1) := by decide +kernel
theorem dX6_focus_48 : decode cX6_focus 48 = .ok (.ifCond .ne 26, 3) := by decide +kernel
theorem dX6_focus_51 : decode cX6_focus 51 = .ok (.aload_n 0, 1) := by decide +kernel
theorem dX6_focus_52 : decode cX6_focus 52 = .ok (.iload 4, 2) := by decide +kernel
theorem dX6_focus_54 : decode cX6_focus 54 = .ok (.iload_n 1, 1) := by decide +kernel
theorem dX6_focus_55 : decode cX6_focus 55 = .ok (.iload_n 2, 1) := by decide +kernel
theorem dX6_focus_56 : decode cX6_focus 56 = .ok (.invokevirtual 105, 3) := by decide +kernel
theorem dX6_focus_59 : decode cX6_focus 59 = .ok (.iload_n 3, 1) := by decide +kernel
theorem dX6_focus_60 : decode cX6_focus 60 = .ok (.if_icmp .le 14, 3) := by decide +kernel
theorem dX6_focus_63 : decode cX6_focus 63 = .ok (.aload_n 0, 1) := by decide +kernel
theorem dX6_focus_64 : decode cX6_focus 64 = .ok (.iload 4, 2) := by decide +kernel
theorem dX6_focus_66 : decode cX6_focus 66 = .ok (.iload_n 1, 1) := by decide +kernel
theorem dX6_focus_67 : decode cX6_focus 67 = .ok (.iload_n 2, 1) := by decide +kernel
theorem dX6_focus_68 : decode cX6_focus 68 = .ok (.invokevirtual 105, 3) := by decide +kernel
theorem dX6_focus_71 : decode cX6_focus 71 = .ok (.goto 4, 3) := by decide +kernel
theorem dX6_focus_74 : decode cX6_focus 74 = .ok (.iload_n 3, 1) := by decide +kernel
theorem dX6_focus_75 : decode cX6_focus 75 = .ok (.istore_n 3, 1) := by decide +kernel
theorem dX6_focus_76 : decode cX6_focus 76 = .ok (.iinc 4 1, 3) := by decide +kernel
theorem dX6_focus_79 : decode cX6_focus 79 = .ok (.goto (-47), 3) := by decide +kernel
theorem dX6_focus_82 : decode cX6_focus 82 = .ok (.iconst 0, 1) := by decide +kernel
theorem dX6_focus_83 : decode cX6_focus 83 = .ok (.istore 4, 2) := by decide +kernel
theorem dX6_focus_85 : decode cX6_focus 85 = .ok (.iload 4, 2) := by decide +kernel
theorem dX6_focus_87 : decode cX6_focus 87 = .ok (.aload_n 0, 1) := by decide +kernel
theorem dX6_focus_88 : decode cX6_focus 88 = .ok (.getfield 94, 3) := by decide +kernel
theorem dX6_focus_91 : decode cX6_focus 91 = .ok (.if_icmp .ge 26, 3) := by decide +kernel
theorem dX6_focus_94 : decode cX6_focus 94 = .ok (.aload_n 0, 1) := by decide +kernel
theorem dX6_focus_95 : decode cX6_focus 95 = .ok (.getfield 51, 3) := by decide +kernel
theorem dX6_focus_98 : decode cX6_focus 98 = .ok (.iload 4, 2) := by decide +kernel
theorem dX6_focus_100 : decode cX6_focus 100 = .ok (.iload_n 3, 1) := by decide +kernel
theorem dX6_focus_101 : decode cX6_focus 101 = .ok (.aload_n 0, 1) := by decide +kernel
theorem dX6_focus_102 : decode cX6_focus 102 = .ok (.iload 4, 2) := by decide +kernel
theorem dX6_focus_104 : decode cX6_focus 104 = .ok (.iload_n 1, 1) := by decide +kernel
theorem dX6_focus_105 : decode cX6_focus 105 = .ok (.iload_n 2, 1) := by decide +kernel
theorem dX6_focus_106 : decode cX6_focus 106 = .ok (.invokevirtual 105, 3) := by decide +kernel
theorem dX6_focus_109 : decode cX6_focus 109 = .ok (.isub, 1) := by decide +kernel
theorem dX6_focus_110 : decode cX6_focus 110 = .ok (.iastore, 1) := by decide +kernel
theorem dX6_focus_111 : decode cX6_focus 111 = .ok (.iinc 4 1, 3) := by decide +kernel
theorem dX6_focus_114 : decode cX6_focus 114 = .ok (.goto (-29), 3) := by decide +kernel
theorem dX6_focus_117 : decode cX6_focus 117 = .ok (.aload_n 0, 1) := by decide +kernel
theorem dX6_focus_118 : decode cX6_focus 118 = .ok (.iconst 1, 1) := by decide +kernel
theorem dX6_focus_119 : decode cX6_focus 119 = .ok (.putfield 128, 3) := by decide +kernel
theorem dX6_focus_122 : decode cX6_focus 122 = .ok (.iload_n 3, 1) := by decide +kernel
theorem dX6_focus_123 : decode cX6_focus 123 = .ok (.ireturn, 1) := by decide +kernel
set_option maxRecDepth 20000 in
theorem ggX6_delay_X6_noElement : GoodIn wsX6_delay wsX6_noElement := goodIn_r _ [10, 11, 12, 13, 9, 14, 15, 16, 17, 18, 19, 20, 21, 22, 23, 24, 25, 26, 27, 28, 29, 30, 31, 32, 33, 34, 35, 36, 37, 38, 39, 40, 41, 42] (by decide +kernel) (by decide +kernel)
set_option maxRecDepth 20000 in
theorem gX6_delay_X6_noElement : GoodIn wsX6_delay (wsV RX6 135 RX6 yX6_noElement wsX6_noElement) := goodIn_app (goodIn_of _ (by decide +kernel)) ggX6_delay_X6_noElement
theorem dX6_delay_0 : decode cX6_delay 0 = .ok (.aload_n 0, 1) := by decide +kernel
theorem dX6_delay_1 : decode cX6_delay 1 = .ok (.iconst 0, 1) := by decide +kernel
theorem dX6_delay_2 : decode cX6_delay 2 = .ok (.putfield 75, 3) := by decide +kernel
theorem dX6_delay_5 : decode cX6_delay 5 = .ok (.aload_n 0, 1) := by decide +kernel
theorem dX6_delay_6 : decode cX6_delay 6 = .ok (.iload_n 1, 1) := by decide +kernel
theorem dX6_delay_7 : decode cX6_delay 7 = .ok (.invokevirtual 135, 3) := by decide +kernel
theorem dX6_delay_10 : decode cX6_delay 10 = .ok (.ifCond .eq 7, 3) := by decide +kernel
theorem dX6_delay_13 : decode cX6_delay 13 = .ok (.iconst (-1), 1) := by decide +kernel
theorem dX6_delay_14 : decode cX6_delay 14 = .ok (.goto 35, 3) := by decide +kernel
theorem dX6_delay_17 : decode cX6_delay 17 = .ok (.aload_n 0, 1) := by decide +kernel
theorem dX6_delay_18 : decode cX6_delay 18 = .ok (.getfield 128, 3) := by decide +kernel
theorem dX6_delay_21 : decode cX6_delay 21 = .ok (.ifCond .ne 8, 3) := by decide +kernel
theorem dX6_delay_24 : decode cX6_delay 24 = .ok (.bipush (-3), 2) := by decide +kernel
theorem dX6_delay_26 : decode cX6_delay 26 = .ok (.goto 23, 3) := by decide +kernel
theorem dX6_delay_29 : decode cX6_delay 29 = .ok (.aload_n 0, 1) := by decide +kernel
theorem dX6_delay_30 : decode cX6_delay 30 = .ok (.getfield 23, 3) := by decide +kernel
theorem dX6_delay_33 : decode cX6_delay 33 = .ok (.iload_n 1, 1) := by decide +kernel
theorem dX6_delay_34 : decode cX6_delay 34 = .ok (.baload, 1) := by decide +kernel
theorem dX6_delay_35 : decode cX6_delay 35 = .ok (.ifCond .eq 8, 3) := by decide +kernel
theorem dX6_delay_38 : decode cX6_delay 38 = .ok (.ldc 161, 2) := by decide +kernel
theorem dX6_delay_40 : decode cX6_delay 40 = .ok (.goto 9, 3) := by decide +kernel
theorem dX6_delay_43 : decode cX6_delay 43 = .ok (.aload_n 0, 1) := by decide +kernel
theorem dX6_delay_44 : decode cX6_delay 44 = .ok (.getfield 51, 3) := by decide +kernel
theorem dX6_delay_47 : decode cX6_delay 47 = .ok (.iload_n 1, 1) := by decide +kernel
theorem dX6_delay_48 : decode cX6_delay 48 = .ok (.iaload, 1) := by decide +kernel
theorem dX6_delay_49 : decode cX6_delay 49 = .ok (.ireturn, 1) := by decide +kernel
set_option maxRecDepth 20000 in
theorem ggX6_heardAt_X6_echoAt : GoodIn wsX6_heardAt wsX6_echoAt := goodIn_r _ [8, 9, 2, 10, 11, 12, 13, 7, 14, 15, 16, 17, 18, 19, 20, 21, 22, 23, 24, 25, 26, 27, 28, 29, 30, 31, 32, 33, 34, 35, 36, 37, 38, 39, 40, 41, 42, 43, 44, 45, 46, 47, 48, 49, 50, 51, 52, 53, 54, 55, 56, 57, 58, 59, 60, 61, 62, 63, 64, 65, 66, 67, 68, 69, 70, 71, 72, 73, 74, 75, 76, 77] (by decide +kernel) (by decide +kernel)
set_option maxRecDepth 20000 in
theorem gX6_heardAt_X6_echoAt : GoodIn wsX6_heardAt (wsV RX6 157 RX6 yX6_echoAt wsX6_echoAt) := goodIn_app (goodIn_of _ (by decide +kernel)) ggX6_heardAt_X6_echoAt
theorem dX6_heardAt_0 : decode cX6_heardAt 0 = .ok (.iconst 0, 1) := by decide +kernel
theorem dX6_heardAt_1 : decode cX6_heardAt 1 = .ok (.istore 4, 2) := by decide +kernel
theorem dX6_heardAt_3 : decode cX6_heardAt 3 = .ok (.iconst 0, 1) := by decide +kernel
theorem dX6_heardAt_4 : decode cX6_heardAt 4 = .ok (.istore 5, 2) := by decide +kernel
theorem dX6_heardAt_6 : decode cX6_heardAt 6 = .ok (.iload 5, 2) := by decide +kernel
theorem dX6_heardAt_8 : decode cX6_heardAt 8 = .ok (.aload_n 0, 1) := by decide +kernel
theorem dX6_heardAt_9 : decode cX6_heardAt 9 = .ok (.getfield 94, 3) := by decide +kernel
theorem dX6_heardAt_12 : decode cX6_heardAt 12 = .ok (.if_icmp .ge 45, 3) := by decide +kernel
theorem dX6_heardAt_15 : decode cX6_heardAt 15 = .ok (.iload 4, 2) := by decide +kernel
theorem dX6_heardAt_17 : decode cX6_heardAt 17 = .ok (.aload_n 0, 1) := by decide +kernel
theorem dX6_heardAt_18 : decode cX6_heardAt 18 = .ok (.getfield 23, 3) := by decide +kernel
theorem dX6_heardAt_21 : decode cX6_heardAt 21 = .ok (.iload 5, 2) := by decide +kernel
theorem dX6_heardAt_23 : decode cX6_heardAt 23 = .ok (.baload, 1) := by decide +kernel
theorem dX6_heardAt_24 : decode cX6_heardAt 24 = .ok (.ifCond .eq 7, 3) := by decide +kernel
theorem dX6_heardAt_27 : decode cX6_heardAt 27 = .ok (.iconst 0, 1) := by decide +kernel
theorem dX6_heardAt_28 : decode cX6_heardAt 28 = .ok (.goto 20, 3) := by decide +kernel
theorem dX6_heardAt_31 : decode cX6_heardAt 31 = .ok (.aload_n 0, 1) := by decide +kernel
theorem dX6_heardAt_32 : decode cX6_heardAt 32 = .ok (.iload 5, 2) := by decide +kernel
theorem dX6_heardAt_34 : decode cX6_heardAt 34 = .ok (.iload_n 1, 1) := by decide +kernel
theorem dX6_heardAt_35 : decode cX6_heardAt 35 = .ok (.lload_n 2, 1) := by decide +kernel
theorem dX6_heardAt_36 : decode cX6_heardAt 36 = .ok (.aload_n 0, 1) := by decide +kernel
theorem dX6_heardAt_37 : decode cX6_heardAt 37 = .ok (.getfield 51, 3) := by decide +kernel
theorem dX6_heardAt_40 : decode cX6_heardAt 40 = .ok (.iload 5, 2) := by decide +kernel
theorem dX6_heardAt_42 : decode cX6_heardAt 42 = .ok (.iaload, 1) := by decide +kernel
theorem dX6_heardAt_43 : decode cX6_heardAt 43 = .ok (.i2l, 1) := by decide +kernel
theorem dX6_heardAt_44 : decode cX6_heardAt 44 = .ok (.lsub, 1) := by decide +kernel
theorem dX6_heardAt_45 : decode cX6_heardAt 45 = .ok (.invokevirtual 157, 3) := by decide +kernel
theorem dX6_heardAt_48 : decode cX6_heardAt 48 = .ok (.iadd, 1) := by decide +kernel
theorem dX6_heardAt_49 : decode cX6_heardAt 49 = .ok (.istore 4, 2) := by decide +kernel
theorem dX6_heardAt_51 : decode cX6_heardAt 51 = .ok (.iinc 5 1, 3) := by decide +kernel
theorem dX6_heardAt_54 : decode cX6_heardAt 54 = .ok (.goto (-48), 3) := by decide +kernel
theorem dX6_heardAt_57 : decode cX6_heardAt 57 = .ok (.iload 4, 2) := by decide +kernel
theorem dX6_heardAt_59 : decode cX6_heardAt 59 = .ok (.ireturn, 1) := by decide +kernel
set_option maxRecDepth 20000 in
theorem ggX6_heard_X6_noElement : GoodIn wsX6_heard wsX6_noElement := goodIn_r _ [7, 8, 9, 10, 6, 11, 63, 64, 65, 66, 67, 68, 69, 70, 71, 72, 73, 74, 75, 76, 77, 78, 79, 80, 81, 82, 83, 84, 85, 86, 87, 88, 89, 90] (by decide +kernel) (by decide +kernel)
set_option maxRecDepth 20000 in
theorem gX6_heard_X6_noElement : GoodIn wsX6_heard (wsV RX6 135 RX6 yX6_noElement wsX6_noElement) := goodIn_app (goodIn_of _ (by decide +kernel)) ggX6_heard_X6_noElement
set_option maxRecDepth 20000 in
theorem ggX6_heard_X6_heardAt : GoodIn wsX6_heard wsX6_heardAt := goodIn_r _ [15, 8, 16, 17, 18, 19, 20, 6, 21, 22, 23, 24, 25, 26, 27, 28, 29, 30, 31, 32, 33, 34, 35, 36, 37, 38, 39, 40, 41, 42, 43, 44, 45, 46, 47, 48, 49, 50, 51, 52, 53, 54, 55, 56, 57, 58, 59, 60, 61, 62, 63, 64, 65, 66, 67, 68, 69, 70, 71, 72, 73, 74, 75, 76, 77, 78, 79, 80, 81, 82, 83, 84, 85, 86, 87, 88, 89, 90] (by decide +kernel) (by decide +kernel)
set_option maxRecDepth 20000 in
theorem gX6_heard_X6_heardAt : GoodIn wsX6_heard (wsV RX6 162 RX6 yX6_heardAt wsX6_heardAt) := goodIn_app (goodIn_of _ (by decide +kernel)) ggX6_heard_X6_heardAt
theorem dX6_heard_0 : decode cX6_heard 0 = .ok (.aload_n 0, 1) := by decide +kernel
theorem dX6_heard_1 : decode cX6_heard 1 = .ok (.iconst 0, 1) := by decide +kernel
theorem dX6_heard_2 : decode cX6_heard 2 = .ok (.putfield 75, 3) := by decide +kernel
theorem dX6_heard_5 : decode cX6_heard 5 = .ok (.aload_n 0, 1) := by decide +kernel
theorem dX6_heard_6 : decode cX6_heard 6 = .ok (.iload_n 1, 1) := by decide +kernel
theorem dX6_heard_7 : decode cX6_heard 7 = .ok (.invokevirtual 135, 3) := by decide +kernel
theorem dX6_heard_10 : decode cX6_heard 10 = .ok (.ifCond .eq 7, 3) := by decide +kernel
theorem dX6_heard_13 : decode cX6_heard 13 = .ok (.iconst (-1), 1) := by decide +kernel
theorem dX6_heard_14 : decode cX6_heard 14 = .ok (.goto 22, 3) := by decide +kernel
theorem dX6_heard_17 : decode cX6_heard 17 = .ok (.aload_n 0, 1) := by decide +kernel
theorem dX6_heard_18 : decode cX6_heard 18 = .ok (.getfield 128, 3) := by decide +kernel
theorem dX6_heard_21 : decode cX6_heard 21 = .ok (.ifCond .ne 8, 3) := by decide +kernel
theorem dX6_heard_24 : decode cX6_heard 24 = .ok (.bipush (-3), 2) := by decide +kernel
theorem dX6_heard_26 : decode cX6_heard 26 = .ok (.goto 10, 3) := by decide +kernel
theorem dX6_heard_29 : decode cX6_heard 29 = .ok (.aload_n 0, 1) := by decide +kernel
theorem dX6_heard_30 : decode cX6_heard 30 = .ok (.iload_n 1, 1) := by decide +kernel
theorem dX6_heard_31 : decode cX6_heard 31 = .ok (.iload_n 2, 1) := by decide +kernel
theorem dX6_heard_32 : decode cX6_heard 32 = .ok (.i2l, 1) := by decide +kernel
theorem dX6_heard_33 : decode cX6_heard 33 = .ok (.invokevirtual 162, 3) := by decide +kernel
theorem dX6_heard_36 : decode cX6_heard 36 = .ok (.ireturn, 1) := by decide +kernel
set_option maxRecDepth 20000 in
theorem ggX6_sum_X6_heardAt : GoodIn wsX6_sum wsX6_heardAt := goodIn_r _ [10, 3, 4, 5, 11, 12, 13, 9, 14, 15, 16, 17, 18, 19, 20, 21, 22, 23, 24, 25, 26, 27, 28, 29, 30, 31, 32, 33, 34, 35, 36, 37, 38, 39, 40, 41, 42, 43, 44, 45, 46, 47, 48, 49, 50, 51, 52, 53, 54, 55, 56, 57, 58, 59, 60, 61, 62, 63, 64, 65, 66, 67, 68, 69, 70, 71, 72, 73, 74, 75, 76, 77, 78, 79, 80, 81, 82, 83] (by decide +kernel) (by decide +kernel)
set_option maxRecDepth 20000 in
theorem gX6_sum_X6_heardAt : GoodIn wsX6_sum (wsV RX6 162 RX6 yX6_heardAt wsX6_heardAt) := goodIn_app (goodIn_of _ (by decide +kernel)) ggX6_sum_X6_heardAt
theorem dX6_sum_0 : decode cX6_sum 0 = .ok (.aload_n 0, 1) := by decide +kernel
theorem dX6_sum_1 : decode cX6_sum 1 = .ok (.iconst 0, 1) := by decide +kernel
theorem dX6_sum_2 : decode cX6_sum 2 = .ok (.putfield 75, 3) := by decide +kernel
theorem dX6_sum_5 : decode cX6_sum 5 = .ok (.aload_n 0, 1) := by decide +kernel
theorem dX6_sum_6 : decode cX6_sum 6 = .ok (.getfield 128, 3) := by decide +kernel
theorem dX6_sum_9 : decode cX6_sum 9 = .ok (.ifCond .ne 6, 3) := by decide +kernel
theorem dX6_sum_12 : decode cX6_sum 12 = .ok (.bipush (-3), 2) := by decide +kernel
theorem dX6_sum_14 : decode cX6_sum 14 = .ok (.ireturn, 1) := by decide +kernel
theorem dX6_sum_15 : decode cX6_sum 15 = .ok (.iconst 0, 1) := by decide +kernel
theorem dX6_sum_16 : decode cX6_sum 16 = .ok (.istore_n 2, 1) := by decide +kernel
theorem dX6_sum_17 : decode cX6_sum 17 = .ok (.iconst 0, 1) := by decide +kernel
theorem dX6_sum_18 : decode cX6_sum 18 = .ok (.istore_n 3, 1) := by decide +kernel
theorem dX6_sum_19 : decode cX6_sum 19 = .ok (.iload_n 3, 1) := by decide +kernel
theorem dX6_sum_20 : decode cX6_sum 20 = .ok (.aload_n 0, 1) := by decide +kernel
theorem dX6_sum_21 : decode cX6_sum 21 = .ok (.getfield 94, 3) := by decide +kernel
theorem dX6_sum_24 : decode cX6_sum 24 = .ok (.if_icmp .ge 40, 3) := by decide +kernel
theorem dX6_sum_27 : decode cX6_sum 27 = .ok (.iload_n 2, 1) := by decide +kernel
theorem dX6_sum_28 : decode cX6_sum 28 = .ok (.aload_n 0, 1) := by decide +kernel
theorem dX6_sum_29 : decode cX6_sum 29 = .ok (.getfield 23, 3) := by decide +kernel
theorem dX6_sum_32 : decode cX6_sum 32 = .ok (.iload_n 3, 1) := by decide +kernel
theorem dX6_sum_33 : decode cX6_sum 33 = .ok (.baload, 1) := by decide +kernel
theorem dX6_sum_34 : decode cX6_sum 34 = .ok (.ifCond .eq 7, 3) := by decide +kernel
theorem dX6_sum_37 : decode cX6_sum 37 = .ok (.iconst 0, 1) := by decide +kernel
theorem dX6_sum_38 : decode cX6_sum 38 = .ok (.goto 18, 3) := by decide +kernel
theorem dX6_sum_41 : decode cX6_sum 41 = .ok (.aload_n 0, 1) := by decide +kernel
theorem dX6_sum_42 : decode cX6_sum 42 = .ok (.iload_n 3, 1) := by decide +kernel
theorem dX6_sum_43 : decode cX6_sum 43 = .ok (.iload_n 1, 1) := by decide +kernel
theorem dX6_sum_44 : decode cX6_sum 44 = .ok (.i2l, 1) := by decide +kernel
theorem dX6_sum_45 : decode cX6_sum 45 = .ok (.aload_n 0, 1) := by decide +kernel
theorem dX6_sum_46 : decode cX6_sum 46 = .ok (.getfield 51, 3) := by decide +kernel
theorem dX6_sum_49 : decode cX6_sum 49 = .ok (.iload_n 3, 1) := by decide +kernel
theorem dX6_sum_50 : decode cX6_sum 50 = .ok (.iaload, 1) := by decide +kernel
theorem dX6_sum_51 : decode cX6_sum 51 = .ok (.i2l, 1) := by decide +kernel
theorem dX6_sum_52 : decode cX6_sum 52 = .ok (.lsub, 1) := by decide +kernel
theorem dX6_sum_53 : decode cX6_sum 53 = .ok (.invokevirtual 162, 3) := by decide +kernel
theorem dX6_sum_56 : decode cX6_sum 56 = .ok (.iadd, 1) := by decide +kernel
theorem dX6_sum_57 : decode cX6_sum 57 = .ok (.istore_n 2, 1) := by decide +kernel
theorem dX6_sum_58 : decode cX6_sum 58 = .ok (.iinc 3 1, 3) := by decide +kernel
theorem dX6_sum_61 : decode cX6_sum 61 = .ok (.goto (-42), 3) := by decide +kernel
theorem dX6_sum_64 : decode cX6_sum 64 = .ok (.iload_n 2, 1) := by decide +kernel
theorem dX6_sum_65 : decode cX6_sum 65 = .ok (.ireturn, 1) := by decide +kernel
set_option maxRecDepth 20000 in
theorem ggX6_board_X6_isPlace : GoodIn wsX6_board wsX6_isPlace := goodIn_r _ [7, 8, 9, 10, 11, 6, 12, 13, 14, 15, 16, 17, 58, 59, 60, 61, 62, 63, 64, 65, 66, 67, 68, 69, 70, 71, 72, 73, 74, 75, 76, 77, 78, 79, 80, 81, 82, 83, 84, 85] (by decide +kernel) (by decide +kernel)
set_option maxRecDepth 20000 in
theorem gX6_board_X6_isPlace : GoodIn wsX6_board (wsV RX6 144 RX6 yX6_isPlace wsX6_isPlace) := goodIn_app (goodIn_of _ (by decide +kernel)) ggX6_board_X6_isPlace
set_option maxRecDepth 20000 in
theorem ggX6_board_X6_timeOf : GoodIn wsX6_board wsX6_timeOf := goodIn_r _ [21, 22, 23, 24, 25, 6, 26, 27, 28, 29, 9, 30, 31, 32, 33, 34, 58, 59, 60, 61, 62, 63, 64, 65, 66, 67, 68, 69, 70, 71, 72, 73, 74, 75, 76, 77, 78, 79, 80, 81, 82, 83, 84, 85] (by decide +kernel) (by decide +kernel)
set_option maxRecDepth 20000 in
theorem gX6_board_X6_timeOf : GoodIn wsX6_board (wsV RX6 105 RX6 yX6_timeOf wsX6_timeOf) := goodIn_app (goodIn_of _ (by decide +kernel)) ggX6_board_X6_timeOf
set_option maxRecDepth 20000 in
theorem ggX6_board_X6_echoAt : GoodIn wsX6_board wsX6_echoAt := goodIn_r _ [38, 39, 40, 41, 42, 43, 44, 6, 45, 46, 47, 48, 49, 50, 51, 52, 53, 13, 14, 15, 16, 9, 17, 54, 55, 56, 57, 18, 19, 20, 21, 22, 23, 24, 25, 26, 27, 28, 29, 30, 31, 32, 33, 34, 58, 59, 60, 61, 62, 63, 64, 65, 66, 67, 68, 69, 70, 71, 72, 73, 74, 75, 76, 77, 78, 79, 80, 81, 82, 83, 84, 85] (by decide +kernel) (by decide +kernel)
set_option maxRecDepth 20000 in
theorem gX6_board_X6_echoAt : GoodIn wsX6_board (wsV RX6 157 RX6 yX6_echoAt wsX6_echoAt) := goodIn_app (goodIn_of _ (by decide +kernel)) ggX6_board_X6_echoAt
theorem dX6_board_0 : decode cX6_board 0 = .ok (.aload_n 0, 1) := by decide +kernel
theorem dX6_board_1 : decode cX6_board 1 = .ok (.iconst 0, 1) := by decide +kernel
theorem dX6_board_2 : decode cX6_board 2 = .ok (.putfield 75, 3) := by decide +kernel
theorem dX6_board_5 : decode cX6_board 5 = .ok (.aload_n 0, 1) := by decide +kernel
theorem dX6_board_6 : decode cX6_board 6 = .ok (.iload_n 1, 1) := by decide +kernel
theorem dX6_board_7 : decode cX6_board 7 = .ok (.iload_n 2, 1) := by decide +kernel
theorem dX6_board_8 : decode cX6_board 8 = .ok (.invokevirtual 144, 3) := by decide +kernel
theorem dX6_board_11 : decode cX6_board 11 = .ok (.ifCond .ne 6, 3) := by decide +kernel
theorem dX6_board_14 : decode cX6_board 14 = .ok (.bipush (-2), 2) := by decide +kernel
theorem dX6_board_16 : decode cX6_board 16 = .ok (.ireturn, 1) := by decide +kernel
theorem dX6_board_17 : decode cX6_board 17 = .ok (.iconst 0, 1) := by decide +kernel
theorem dX6_board_18 : decode cX6_board 18 = .ok (.istore_n 3, 1) := by decide +kernel
theorem dX6_board_19 : decode cX6_board 19 = .ok (.iconst 0, 1) := by decide +kernel
theorem dX6_board_20 : decode cX6_board 20 = .ok (.istore 4, 2) := by decide +kernel
theorem dX6_board_22 : decode cX6_board 22 = .ok (.iload 4, 2) := by decide +kernel
theorem dX6_board_24 : decode cX6_board 24 = .ok (.aload_n 0, 1) := by decide +kernel
theorem dX6_board_25 : decode cX6_board 25 = .ok (.getfield 94, 3) := by decide +kernel
theorem dX6_board_28 : decode cX6_board 28 = .ok (.if_icmp .ge 56, 3) := by decide +kernel
theorem dX6_board_31 : decode cX6_board 31 = .ok (.iconst 0, 1) := by decide +kernel
theorem dX6_board_32 : decode cX6_board 32 = .ok (.istore 5, 2) := by decide +kernel
theorem dX6_board_34 : decode cX6_board 34 = .ok (.iload 5, 2) := by decide +kernel
theorem dX6_board_36 : decode cX6_board 36 = .ok (.aload_n 0, 1) := by decide +kernel
theorem dX6_board_37 : decode cX6_board 37 = .ok (.getfield 94, 3) := by decide +kernel
theorem dX6_board_40 : decode cX6_board 40 = .ok (.if_icmp .ge 38, 3) := by decide +kernel
theorem dX6_board_43 : decode cX6_board 43 = .ok (.iload_n 3, 1) := by decide +kernel
theorem dX6_board_44 : decode cX6_board 44 = .ok (.aload_n 0, 1) := by decide +kernel
theorem dX6_board_45 : decode cX6_board 45 = .ok (.iload 4, 2) := by decide +kernel
theorem dX6_board_47 : decode cX6_board 47 = .ok (.iload 5, 2) := by decide +kernel
theorem dX6_board_49 : decode cX6_board 49 = .ok (.aload_n 0, 1) := by decide +kernel
theorem dX6_board_50 : decode cX6_board 50 = .ok (.iload 4, 2) := by decide +kernel
theorem dX6_board_52 : decode cX6_board 52 = .ok (.iload_n 1, 1) := by decide +kernel
theorem dX6_board_53 : decode cX6_board 53 = .ok (.iload_n 2, 1) := by decide +kernel
theorem dX6_board_54 : decode cX6_board 54 = .ok (.invokevirtual 105, 3) := by decide +kernel
theorem dX6_board_57 : decode cX6_board 57 = .ok (.aload_n 0, 1) := by decide +kernel
theorem dX6_board_58 : decode cX6_board 58 = .ok (.iload 5, 2) := by decide +kernel
theorem dX6_board_60 : decode cX6_board 60 = .ok (.iload_n 1, 1) := by decide +kernel
theorem dX6_board_61 : decode cX6_board 61 = .ok (.iload_n 2, 1) := by decide +kernel
theorem dX6_board_62 : decode cX6_board 62 = .ok (.invokevirtual 105, 3) := by decide +kernel
theorem dX6_board_65 : decode cX6_board 65 = .ok (.iadd, 1) := by decide +kernel
theorem dX6_board_66 : decode cX6_board 66 = .ok (.i2l, 1) := by decide +kernel
theorem dX6_board_67 : decode cX6_board 67 = .ok (.invokevirtual 157, 3) := by decide +kernel
theorem dX6_board_70 : decode cX6_board 70 = .ok (.iadd, 1) := by decide +kernel
theorem dX6_board_71 : decode cX6_board 71 = .ok (.istore_n 3, 1) := by decide +kernel
theorem dX6_board_72 : decode cX6_board 72 = .ok (.iinc 5 1, 3) := by decide +kernel
theorem dX6_board_75 : decode cX6_board 75 = .ok (.goto (-41), 3) := by decide +kernel
theorem dX6_board_78 : decode cX6_board 78 = .ok (.iinc 4 1, 3) := by decide +kernel
theorem dX6_board_81 : decode cX6_board 81 = .ok (.goto (-59), 3) := by decide +kernel
theorem dX6_board_84 : decode cX6_board 84 = .ok (.iload_n 3, 1) := by decide +kernel
theorem dX6_board_85 : decode cX6_board 85 = .ok (.ireturn, 1) := by decide +kernel
set_option maxRecDepth 20000 in
theorem ggX6_tell_X6_noElement : GoodIn wsX6_tell wsX6_noElement := goodIn_r _ [11, 12, 13, 14, 10, 15, 16, 17, 18, 19, 20, 21, 22, 23, 24, 25, 26, 27, 28, 29, 30, 31, 32, 33, 34, 35, 36, 37, 38, 39, 40, 41, 42, 43] (by decide +kernel) (by decide +kernel)
set_option maxRecDepth 20000 in
theorem gX6_tell_X6_noElement : GoodIn wsX6_tell (wsV RX6 135 RX6 yX6_noElement wsX6_noElement) := goodIn_app (goodIn_of _ (by decide +kernel)) ggX6_tell_X6_noElement
set_option maxRecDepth 20000 in
theorem ggX6_tell_X6_in : GoodIn wsX6_tell wsX6_in := goodIn_r _ [15] (by decide +kernel) (by decide +kernel)
set_option maxRecDepth 20000 in
theorem gX6_tell_X6_in : GoodIn wsX6_tell (va_wsS RX6 86 yX6_in wsX6_in) := goodIn_app (goodIn_of _ (by decide +kernel)) ggX6_tell_X6_in
theorem dX6_tell_0 : decode cX6_tell 0 = .ok (.aload_n 0, 1) := by decide +kernel
theorem dX6_tell_1 : decode cX6_tell 1 = .ok (.iconst 0, 1) := by decide +kernel
theorem dX6_tell_2 : decode cX6_tell 2 = .ok (.putfield 75, 3) := by decide +kernel
theorem dX6_tell_5 : decode cX6_tell 5 = .ok (.aload_n 0, 1) := by decide +kernel
theorem dX6_tell_6 : decode cX6_tell 6 = .ok (.iload_n 1, 1) := by decide +kernel
theorem dX6_tell_7 : decode cX6_tell 7 = .ok (.invokevirtual 135, 3) := by decide +kernel
theorem dX6_tell_10 : decode cX6_tell 10 = .ok (.ifCond .ne 11, 3) := by decide +kernel
theorem dX6_tell_13 : decode cX6_tell 13 = .ok (.aload_n 0, 1) := by decide +kernel
theorem dX6_tell_14 : decode cX6_tell 14 = .ok (.iload_n 2, 1) := by decide +kernel
theorem dX6_tell_15 : decode cX6_tell 15 = .ok (.invokevirtual 135, 3) := by decide +kernel
theorem dX6_tell_18 : decode cX6_tell 18 = .ok (.ifCond .eq 5, 3) := by decide +kernel
theorem dX6_tell_21 : decode cX6_tell 21 = .ok (.iconst (-1), 1) := by decide +kernel
theorem dX6_tell_22 : decode cX6_tell 22 = .ok (.ireturn, 1) := by decide +kernel
theorem dX6_tell_23 : decode cX6_tell 23 = .ok (.iload_n 3, 1) := by decide +kernel
theorem dX6_tell_24 : decode cX6_tell 24 = .ok (.i2l, 1) := by decide +kernel
theorem dX6_tell_25 : decode cX6_tell 25 = .ok (.lconst 0, 1) := by decide +kernel
theorem dX6_tell_26 : decode cX6_tell 26 = .ok (.ldc2_w 166, 3) := by decide +kernel
theorem dX6_tell_29 : decode cX6_tell 29 = .ok (.invokestatic 86, 3) := by decide +kernel
theorem dX6_tell_32 : decode cX6_tell 32 = .ok (.ifCond .ne 6, 3) := by decide +kernel
theorem dX6_tell_35 : decode cX6_tell 35 = .ok (.bipush (-2), 2) := by decide +kernel
theorem dX6_tell_37 : decode cX6_tell 37 = .ok (.ireturn, 1) := by decide +kernel
theorem dX6_tell_38 : decode cX6_tell 38 = .ok (.aload_n 0, 1) := by decide +kernel
theorem dX6_tell_39 : decode cX6_tell 39 = .ok (.getfield 168, 3) := by decide +kernel
theorem dX6_tell_42 : decode cX6_tell 42 = .ok (.bipush 6, 2) := by decide +kernel
theorem dX6_tell_44 : decode cX6_tell 44 = .ok (.if_icmp .ne 6, 3) := by decide +kernel
theorem dX6_tell_47 : decode cX6_tell 47 = .ok (.bipush (-4), 2) := by decide +kernel
theorem dX6_tell_49 : decode cX6_tell 49 = .ok (.ireturn, 1) := by decide +kernel
theorem dX6_tell_50 : decode cX6_tell 50 = .ok (.aload_n 0, 1) := by decide +kernel
theorem dX6_tell_51 : decode cX6_tell 51 = .ok (.getfield 54, 3) := by decide +kernel
theorem dX6_tell_54 : decode cX6_tell 54 = .ok (.aload_n 0, 1) := by decide +kernel
theorem dX6_tell_55 : decode cX6_tell 55 = .ok (.getfield 168, 3) := by decide +kernel
theorem dX6_tell_58 : decode cX6_tell 58 = .ok (.iload_n 1, 1) := by decide +kernel
theorem dX6_tell_59 : decode cX6_tell 59 = .ok (.iastore, 1) := by decide +kernel
theorem dX6_tell_60 : decode cX6_tell 60 = .ok (.aload_n 0, 1) := by decide +kernel
theorem dX6_tell_61 : decode cX6_tell 61 = .ok (.getfield 57, 3) := by decide +kernel
theorem dX6_tell_64 : decode cX6_tell 64 = .ok (.aload_n 0, 1) := by decide +kernel
theorem dX6_tell_65 : decode cX6_tell 65 = .ok (.getfield 168, 3) := by decide +kernel
theorem dX6_tell_68 : decode cX6_tell 68 = .ok (.iload_n 2, 1) := by decide +kernel
theorem dX6_tell_69 : decode cX6_tell 69 = .ok (.iastore, 1) := by decide +kernel
theorem dX6_tell_70 : decode cX6_tell 70 = .ok (.aload_n 0, 1) := by decide +kernel
theorem dX6_tell_71 : decode cX6_tell 71 = .ok (.getfield 60, 3) := by decide +kernel
theorem dX6_tell_74 : decode cX6_tell 74 = .ok (.aload_n 0, 1) := by decide +kernel
theorem dX6_tell_75 : decode cX6_tell 75 = .ok (.getfield 168, 3) := by decide +kernel
theorem dX6_tell_78 : decode cX6_tell 78 = .ok (.iload_n 3, 1) := by decide +kernel
theorem dX6_tell_79 : decode cX6_tell 79 = .ok (.iastore, 1) := by decide +kernel
theorem dX6_tell_80 : decode cX6_tell 80 = .ok (.aload_n 0, 1) := by decide +kernel
theorem dX6_tell_81 : decode cX6_tell 81 = .ok (.dup, 1) := by decide +kernel
theorem dX6_tell_82 : decode cX6_tell 82 = .ok (.getfield 168, 3) := by decide +kernel
theorem dX6_tell_85 : decode cX6_tell 85 = .ok (.iconst 1, 1) := by decide +kernel
theorem dX6_tell_86 : decode cX6_tell 86 = .ok (.iadd, 1) := by decide +kernel
theorem dX6_tell_87 : decode cX6_tell 87 = .ok (.putfield 168, 3) := by decide +kernel
theorem dX6_tell_90 : decode cX6_tell 90 = .ok (.aload_n 0, 1) := by decide +kernel
theorem dX6_tell_91 : decode cX6_tell 91 = .ok (.getfield 168, 3) := by decide +kernel
theorem dX6_tell_94 : decode cX6_tell 94 = .ok (.ireturn, 1) := by decide +kernel
theorem dX6_forget_0 : decode cX6_forget 0 = .ok (.aload_n 0, 1) := by decide +kernel
theorem dX6_forget_1 : decode cX6_forget 1 = .ok (.iconst 0, 1) := by decide +kernel
theorem dX6_forget_2 : decode cX6_forget 2 = .ok (.putfield 75, 3) := by decide +kernel
theorem dX6_forget_5 : decode cX6_forget 5 = .ok (.aload_n 0, 1) := by decide +kernel
theorem dX6_forget_6 : decode cX6_forget 6 = .ok (.getfield 168, 3) := by decide +kernel
theorem dX6_forget_9 : decode cX6_forget 9 = .ok (.istore_n 1, 1) := by decide +kernel
theorem dX6_forget_10 : decode cX6_forget 10 = .ok (.aload_n 0, 1) := by decide +kernel
theorem dX6_forget_11 : decode cX6_forget 11 = .ok (.iconst 0, 1) := by decide +kernel
theorem dX6_forget_12 : decode cX6_forget 12 = .ok (.putfield 168, 3) := by decide +kernel
theorem dX6_forget_15 : decode cX6_forget 15 = .ok (.iload_n 1, 1) := by decide +kernel
theorem dX6_forget_16 : decode cX6_forget 16 = .ok (.ireturn, 1) := by decide +kernel
set_option maxRecDepth 20000 in
theorem ggX6_isNear_X6_timeOf : GoodIn wsX6_isNear wsX6_timeOf := goodIn_r _ [9, 10, 11, 12, 13, 8, 14, 15, 16, 17, 18, 19, 20, 21, 22, 23, 27, 28, 29, 30, 31, 32, 33, 34, 35, 36, 37, 38, 39, 40, 41, 42, 43, 44, 45, 46, 47, 48, 49, 50, 51, 52, 53, 54] (by decide +kernel) (by decide +kernel)
set_option maxRecDepth 20000 in
theorem gX6_isNear_X6_timeOf : GoodIn wsX6_isNear (wsV RX6 105 RX6 yX6_timeOf wsX6_timeOf) := goodIn_app (goodIn_of _ (by decide +kernel)) ggX6_isNear_X6_timeOf
set_option maxRecDepth 20000 in
theorem ggX6_isNear_X6_in : GoodIn wsX6_isNear wsX6_in := goodIn_r _ [26] (by decide +kernel) (by decide +kernel)
set_option maxRecDepth 20000 in
theorem gX6_isNear_X6_in : GoodIn wsX6_isNear (va_wsS RX6 86 yX6_in wsX6_in) := goodIn_app (goodIn_of _ (by decide +kernel)) ggX6_isNear_X6_in
theorem dX6_isNear_0 : decode cX6_isNear 0 = .ok (.iconst 0, 1) := by decide +kernel
theorem dX6_isNear_1 : decode cX6_isNear 1 = .ok (.istore 4, 2) := by decide +kernel
theorem dX6_isNear_3 : decode cX6_isNear 3 = .ok (.iload 4, 2) := by decide +kernel
theorem dX6_isNear_5 : decode cX6_isNear 5 = .ok (.aload_n 0, 1) := by decide +kernel
theorem dX6_isNear_6 : decode cX6_isNear 6 = .ok (.getfield 168, 3) := by decide +kernel
theorem dX6_isNear_9 : decode cX6_isNear 9 = .ok (.if_icmp .ge 62, 3) := by decide +kernel
theorem dX6_isNear_12 : decode cX6_isNear 12 = .ok (.aload_n 0, 1) := by decide +kernel
theorem dX6_isNear_13 : decode cX6_isNear 13 = .ok (.aload_n 0, 1) := by decide +kernel
theorem dX6_isNear_14 : decode cX6_isNear 14 = .ok (.getfield 54, 3) := by decide +kernel
theorem dX6_isNear_17 : decode cX6_isNear 17 = .ok (.iload 4, 2) := by decide +kernel
theorem dX6_isNear_19 : decode cX6_isNear 19 = .ok (.iaload, 1) := by decide +kernel
theorem dX6_isNear_20 : decode cX6_isNear 20 = .ok (.iload_n 1, 1) := by decide +kernel
theorem dX6_isNear_21 : decode cX6_isNear 21 = .ok (.iload_n 2, 1) := by decide +kernel
theorem dX6_isNear_22 : decode cX6_isNear 22 = .ok (.invokevirtual 105, 3) := by decide +kernel
theorem dX6_isNear_25 : decode cX6_isNear 25 = .ok (.aload_n 0, 1) := by decide +kernel
theorem dX6_isNear_26 : decode cX6_isNear 26 = .ok (.aload_n 0, 1) := by decide +kernel
theorem dX6_isNear_27 : decode cX6_isNear 27 = .ok (.getfield 57, 3) := by decide +kernel
theorem dX6_isNear_30 : decode cX6_isNear 30 = .ok (.iload 4, 2) := by decide +kernel
theorem dX6_isNear_32 : decode cX6_isNear 32 = .ok (.iaload, 1) := by decide +kernel
theorem dX6_isNear_33 : decode cX6_isNear 33 = .ok (.iload_n 1, 1) := by decide +kernel
theorem dX6_isNear_34 : decode cX6_isNear 34 = .ok (.iload_n 2, 1) := by decide +kernel
theorem dX6_isNear_35 : decode cX6_isNear 35 = .ok (.invokevirtual 105, 3) := by decide +kernel
theorem dX6_isNear_38 : decode cX6_isNear 38 = .ok (.iadd, 1) := by decide +kernel
theorem dX6_isNear_39 : decode cX6_isNear 39 = .ok (.aload_n 0, 1) := by decide +kernel
theorem dX6_isNear_40 : decode cX6_isNear 40 = .ok (.getfield 60, 3) := by decide +kernel
theorem dX6_isNear_43 : decode cX6_isNear 43 = .ok (.iload 4, 2) := by decide +kernel
theorem dX6_isNear_45 : decode cX6_isNear 45 = .ok (.iaload, 1) := by decide +kernel
theorem dX6_isNear_46 : decode cX6_isNear 46 = .ok (.isub, 1) := by decide +kernel
theorem dX6_isNear_47 : decode cX6_isNear 47 = .ok (.istore 5, 2) := by decide +kernel
theorem dX6_isNear_49 : decode cX6_isNear 49 = .ok (.iload 5, 2) := by decide +kernel
theorem dX6_isNear_51 : decode cX6_isNear 51 = .ok (.i2l, 1) := by decide +kernel
theorem dX6_isNear_52 : decode cX6_isNear 52 = .ok (.iload_n 3, 1) := by decide +kernel
theorem dX6_isNear_53 : decode cX6_isNear 53 = .ok (.ineg, 1) := by decide +kernel
theorem dX6_isNear_54 : decode cX6_isNear 54 = .ok (.i2l, 1) := by decide +kernel
theorem dX6_isNear_55 : decode cX6_isNear 55 = .ok (.iload_n 3, 1) := by decide +kernel
theorem dX6_isNear_56 : decode cX6_isNear 56 = .ok (.i2l, 1) := by decide +kernel
theorem dX6_isNear_57 : decode cX6_isNear 57 = .ok (.invokestatic 86, 3) := by decide +kernel
theorem dX6_isNear_60 : decode cX6_isNear 60 = .ok (.ifCond .ne 5, 3) := by decide +kernel
theorem dX6_isNear_63 : decode cX6_isNear 63 = .ok (.iconst 0, 1) := by decide +kernel
theorem dX6_isNear_64 : decode cX6_isNear 64 = .ok (.ireturn, 1) := by decide +kernel
theorem dX6_isNear_65 : decode cX6_isNear 65 = .ok (.iinc 4 1, 3) := by decide +kernel
theorem dX6_isNear_68 : decode cX6_isNear 68 = .ok (.goto (-65), 3) := by decide +kernel
theorem dX6_isNear_71 : decode cX6_isNear 71 = .ok (.iconst 1, 1) := by decide +kernel
theorem dX6_isNear_72 : decode cX6_isNear 72 = .ok (.ireturn, 1) := by decide +kernel
set_option maxRecDepth 20000 in
theorem ggX6_near_X6_floor : GoodIn wsX6_near wsX6_floor := goodIn_r _ [7, 1, 8, 37, 38, 39, 40, 41, 42, 43, 44, 45, 46, 47, 48, 49, 50, 51, 52, 53, 54, 55, 56, 57, 58, 59, 60, 61, 62, 63, 64] (by decide +kernel) (by decide +kernel)
set_option maxRecDepth 20000 in
theorem gX6_near_X6_floor : GoodIn wsX6_near (wsV RX6 90 RX6 yX6_floor wsX6_floor) := goodIn_app (goodIn_of _ (by decide +kernel)) ggX6_near_X6_floor
set_option maxRecDepth 20000 in
theorem ggX6_near_X6_isNear : GoodIn wsX6_near wsX6_isNear := goodIn_r _ [12, 13, 14, 15, 16, 17, 18, 19, 6, 20, 21, 22, 23, 24, 25, 26, 27, 28, 1, 29, 30, 31, 32, 33, 34, 35, 36, 37, 38, 39, 40, 41, 42, 43, 44, 45, 46, 47, 48, 49, 50, 51, 52, 53, 54, 55, 56, 57, 58, 59, 60, 61, 62, 63, 64] (by decide +kernel) (by decide +kernel)
set_option maxRecDepth 20000 in
theorem gX6_near_X6_isNear : GoodIn wsX6_near (wsV RX6 171 RX6 yX6_isNear wsX6_isNear) := goodIn_app (goodIn_of _ (by decide +kernel)) ggX6_near_X6_isNear
theorem dX6_near_0 : decode cX6_near 0 = .ok (.iconst 0, 1) := by decide +kernel
theorem dX6_near_1 : decode cX6_near 1 = .ok (.istore_n 3, 1) := by decide +kernel
theorem dX6_near_2 : decode cX6_near 2 = .ok (.aload_n 0, 1) := by decide +kernel
theorem dX6_near_3 : decode cX6_near 3 = .ok (.getfield 81, 3) := by decide +kernel
theorem dX6_near_6 : decode cX6_near 6 = .ok (.istore 4, 2) := by decide +kernel
theorem dX6_near_8 : decode cX6_near 8 = .ok (.iload 4, 2) := by decide +kernel
theorem dX6_near_10 : decode cX6_near 10 = .ok (.aload_n 0, 1) := by decide +kernel
theorem dX6_near_11 : decode cX6_near 11 = .ok (.invokevirtual 90, 3) := by decide +kernel
theorem dX6_near_14 : decode cX6_near 14 = .ok (.if_icmp .gt 55, 3) := by decide +kernel
theorem dX6_near_17 : decode cX6_near 17 = .ok (.iconst 0, 1) := by decide +kernel
theorem dX6_near_18 : decode cX6_near 18 = .ok (.istore 5, 2) := by decide +kernel
theorem dX6_near_20 : decode cX6_near 20 = .ok (.iload 5, 2) := by decide +kernel
theorem dX6_near_22 : decode cX6_near 22 = .ok (.bipush 51, 2) := by decide +kernel
theorem dX6_near_24 : decode cX6_near 24 = .ok (.if_icmp .ge 39, 3) := by decide +kernel
theorem dX6_near_27 : decode cX6_near 27 = .ok (.aload_n 0, 1) := by decide +kernel
theorem dX6_near_28 : decode cX6_near 28 = .ok (.iload 5, 2) := by decide +kernel
theorem dX6_near_30 : decode cX6_near 30 = .ok (.iload 4, 2) := by decide +kernel
theorem dX6_near_32 : decode cX6_near 32 = .ok (.iload_n 1, 1) := by decide +kernel
theorem dX6_near_33 : decode cX6_near 33 = .ok (.invokevirtual 171, 3) := by decide +kernel
theorem dX6_near_36 : decode cX6_near 36 = .ok (.ifCond .eq 21, 3) := by decide +kernel
theorem dX6_near_39 : decode cX6_near 39 = .ok (.iload_n 3, 1) := by decide +kernel
theorem dX6_near_40 : decode cX6_near 40 = .ok (.iload_n 2, 1) := by decide +kernel
theorem dX6_near_41 : decode cX6_near 41 = .ok (.if_icmp .ne 13, 3) := by decide +kernel
theorem dX6_near_44 : decode cX6_near 44 = .ok (.sipush 1000, 3) := by decide +kernel
theorem dX6_near_47 : decode cX6_near 47 = .ok (.iload 5, 2) := by decide +kernel
theorem dX6_near_49 : decode cX6_near 49 = .ok (.imul, 1) := by decide +kernel
theorem dX6_near_50 : decode cX6_near 50 = .ok (.iload 4, 2) := by decide +kernel
theorem dX6_near_52 : decode cX6_near 52 = .ok (.iadd, 1) := by decide +kernel
theorem dX6_near_53 : decode cX6_near 53 = .ok (.ireturn, 1) := by decide +kernel
theorem dX6_near_54 : decode cX6_near 54 = .ok (.iinc 3 1, 3) := by decide +kernel
theorem dX6_near_57 : decode cX6_near 57 = .ok (.iinc 5 1, 3) := by decide +kernel
theorem dX6_near_60 : decode cX6_near 60 = .ok (.goto (-40), 3) := by decide +kernel
theorem dX6_near_63 : decode cX6_near 63 = .ok (.iinc 4 1, 3) := by decide +kernel
theorem dX6_near_66 : decode cX6_near 66 = .ok (.goto (-58), 3) := by decide +kernel
theorem dX6_near_69 : decode cX6_near 69 = .ok (.iload_n 2, 1) := by decide +kernel
theorem dX6_near_70 : decode cX6_near 70 = .ok (.bipush (-2), 2) := by decide +kernel
theorem dX6_near_72 : decode cX6_near 72 = .ok (.if_icmp .ne 7, 3) := by decide +kernel
theorem dX6_near_75 : decode cX6_near 75 = .ok (.iload_n 3, 1) := by decide +kernel
theorem dX6_near_76 : decode cX6_near 76 = .ok (.goto 5, 3) := by decide +kernel
theorem dX6_near_79 : decode cX6_near 79 = .ok (.ldc 161, 2) := by decide +kernel
theorem dX6_near_81 : decode cX6_near 81 = .ok (.ireturn, 1) := by decide +kernel
set_option maxRecDepth 20000 in
theorem ggX6_places_X6_in : GoodIn wsX6_places wsX6_in := goodIn_r _ [6] (by decide +kernel) (by decide +kernel)
set_option maxRecDepth 20000 in
theorem gX6_places_X6_in : GoodIn wsX6_places (va_wsS RX6 86 yX6_in wsX6_in) := goodIn_app (goodIn_of _ (by decide +kernel)) ggX6_places_X6_in
set_option maxRecDepth 20000 in
theorem ggX6_places_X6_near : GoodIn wsX6_places wsX6_near := goodIn_r _ [10, 11, 12, 13, 14, 15, 5, 16, 17, 18, 19, 20, 21, 22, 23, 24, 25, 26, 27, 28, 29, 30, 31, 32, 33, 34, 35, 36, 37, 38, 39, 40, 41, 42, 3, 4, 6, 43, 44, 45, 46, 47, 48, 49, 50, 51, 52, 53, 54, 55, 56, 57, 58, 59, 60, 61, 62, 63, 64, 65, 66, 67, 68, 69, 70] (by decide +kernel) (by decide +kernel)
set_option maxRecDepth 20000 in
theorem gX6_places_X6_near : GoodIn wsX6_places (wsV RX6 177 RX6 yX6_near wsX6_near) := goodIn_app (goodIn_of _ (by decide +kernel)) ggX6_places_X6_near
theorem dX6_places_0 : decode cX6_places 0 = .ok (.aload_n 0, 1) := by decide +kernel
theorem dX6_places_1 : decode cX6_places 1 = .ok (.iconst 0, 1) := by decide +kernel
theorem dX6_places_2 : decode cX6_places 2 = .ok (.putfield 75, 3) := by decide +kernel
theorem dX6_places_5 : decode cX6_places 5 = .ok (.iload_n 1, 1) := by decide +kernel
theorem dX6_places_6 : decode cX6_places 6 = .ok (.i2l, 1) := by decide +kernel
theorem dX6_places_7 : decode cX6_places 7 = .ok (.lconst 0, 1) := by decide +kernel
theorem dX6_places_8 : decode cX6_places 8 = .ok (.ldc2_w 175, 3) := by decide +kernel
theorem dX6_places_11 : decode cX6_places 11 = .ok (.invokestatic 86, 3) := by decide +kernel
theorem dX6_places_14 : decode cX6_places 14 = .ok (.ifCond .eq 13, 3) := by decide +kernel
theorem dX6_places_17 : decode cX6_places 17 = .ok (.aload_n 0, 1) := by decide +kernel
theorem dX6_places_18 : decode cX6_places 18 = .ok (.iload_n 1, 1) := by decide +kernel
theorem dX6_places_19 : decode cX6_places 19 = .ok (.bipush (-2), 2) := by decide +kernel
theorem dX6_places_21 : decode cX6_places 21 = .ok (.invokevirtual 177, 3) := by decide +kernel
theorem dX6_places_24 : decode cX6_places 24 = .ok (.goto 5, 3) := by decide +kernel
theorem dX6_places_27 : decode cX6_places 27 = .ok (.bipush (-2), 2) := by decide +kernel
theorem dX6_places_29 : decode cX6_places 29 = .ok (.ireturn, 1) := by decide +kernel
set_option maxRecDepth 20000 in
theorem ggX6_place_X6_in : GoodIn wsX6_place wsX6_in := goodIn_r _ [7] (by decide +kernel) (by decide +kernel)
set_option maxRecDepth 20000 in
theorem gX6_place_X6_in : GoodIn wsX6_place (va_wsS RX6 86 yX6_in wsX6_in) := goodIn_app (goodIn_of _ (by decide +kernel)) ggX6_place_X6_in
set_option maxRecDepth 20000 in
theorem ggX6_place_X6_near : GoodIn wsX6_place wsX6_near := goodIn_r _ [11, 12, 3, 13, 14, 15, 6, 16, 17, 18, 19, 20, 21, 22, 23, 24, 25, 26, 27, 28, 29, 30, 31, 32, 33, 34, 35, 36, 37, 38, 39, 40, 41, 42, 4, 5, 7, 43, 44, 45, 46, 47, 48, 49, 50, 51, 52, 53, 54, 55, 56, 57, 58, 59, 60, 61, 62, 63, 64, 65, 66, 67, 68, 69, 70] (by decide +kernel) (by decide +kernel)
set_option maxRecDepth 20000 in
theorem gX6_place_X6_near : GoodIn wsX6_place (wsV RX6 177 RX6 yX6_near wsX6_near) := goodIn_app (goodIn_of _ (by decide +kernel)) ggX6_place_X6_near
theorem dX6_place_0 : decode cX6_place 0 = .ok (.aload_n 0, 1) := by decide +kernel
theorem dX6_place_1 : decode cX6_place 1 = .ok (.iconst 0, 1) := by decide +kernel
theorem dX6_place_2 : decode cX6_place 2 = .ok (.putfield 75, 3) := by decide +kernel
theorem dX6_place_5 : decode cX6_place 5 = .ok (.iload_n 1, 1) := by decide +kernel
theorem dX6_place_6 : decode cX6_place 6 = .ok (.i2l, 1) := by decide +kernel
theorem dX6_place_7 : decode cX6_place 7 = .ok (.lconst 0, 1) := by decide +kernel
theorem dX6_place_8 : decode cX6_place 8 = .ok (.ldc2_w 175, 3) := by decide +kernel
theorem dX6_place_11 : decode cX6_place 11 = .ok (.invokestatic 86, 3) := by decide +kernel
theorem dX6_place_14 : decode cX6_place 14 = .ok (.ifCond .ne 8, 3) := by decide +kernel
theorem dX6_place_17 : decode cX6_place 17 = .ok (.bipush (-2), 2) := by decide +kernel
theorem dX6_place_19 : decode cX6_place 19 = .ok (.goto 18, 3) := by decide +kernel
theorem dX6_place_22 : decode cX6_place 22 = .ok (.iload_n 2, 1) := by decide +kernel
theorem dX6_place_23 : decode cX6_place 23 = .ok (.ifCond .ge 8, 3) := by decide +kernel
theorem dX6_place_26 : decode cX6_place 26 = .ok (.ldc 161, 2) := by decide +kernel
theorem dX6_place_28 : decode cX6_place 28 = .ok (.goto 9, 3) := by decide +kernel
theorem dX6_place_31 : decode cX6_place 31 = .ok (.aload_n 0, 1) := by decide +kernel
theorem dX6_place_32 : decode cX6_place 32 = .ok (.iload_n 1, 1) := by decide +kernel
theorem dX6_place_33 : decode cX6_place 33 = .ok (.iload_n 2, 1) := by decide +kernel
theorem dX6_place_34 : decode cX6_place 34 = .ok (.invokevirtual 177, 3) := by decide +kernel
theorem dX6_place_37 : decode cX6_place 37 = .ok (.ireturn, 1) := by decide +kernel
set_option maxRecDepth 20000 in
theorem ggX6_isSheet_X6_in : GoodIn wsX6_isSheet wsX6_in := goodIn_r _ [5] (by decide +kernel) (by decide +kernel)
set_option maxRecDepth 20000 in
theorem gX6_isSheet_X6_in : GoodIn wsX6_isSheet (va_wsS RX6 86 yX6_in wsX6_in) := goodIn_app (goodIn_of _ (by decide +kernel)) ggX6_isSheet_X6_in
theorem dX6_isSheet_0 : decode cX6_isSheet 0 = .ok (.iload_n 0, 1) := by decide +kernel
theorem dX6_isSheet_1 : decode cX6_isSheet 1 = .ok (.i2l, 1) := by decide +kernel
theorem dX6_isSheet_2 : decode cX6_isSheet 2 = .ok (.lconst 0, 1) := by decide +kernel
theorem dX6_isSheet_3 : decode cX6_isSheet 3 = .ok (.ldc2_w 181, 3) := by decide +kernel
theorem dX6_isSheet_6 : decode cX6_isSheet 6 = .ok (.invokestatic 86, 3) := by decide +kernel
theorem dX6_isSheet_9 : decode cX6_isSheet 9 = .ok (.ireturn, 1) := by decide +kernel
theorem dX6_as_0 : decode cX6_as 0 = .ok (.iload_n 0, 1) := by decide +kernel
theorem dX6_as_1 : decode cX6_as 1 = .ok (.ifCond .ne 9, 3) := by decide +kernel
theorem dX6_as_4 : decode cX6_as 4 = .ok (.ldc2_w 183, 3) := by decide +kernel
theorem dX6_as_7 : decode cX6_as 7 = .ok (.goto 17, 3) := by decide +kernel
theorem dX6_as_10 : decode cX6_as 10 = .ok (.iload_n 0, 1) := by decide +kernel
theorem dX6_as_11 : decode cX6_as 11 = .ok (.iconst 1, 1) := by decide +kernel
theorem dX6_as_12 : decode cX6_as 12 = .ok (.if_icmp .ne 9, 3) := by decide +kernel
theorem dX6_as_15 : decode cX6_as 15 = .ok (.ldc2_w 185, 3) := by decide +kernel
theorem dX6_as_18 : decode cX6_as 18 = .ok (.goto 6, 3) := by decide +kernel
theorem dX6_as_21 : decode cX6_as 21 = .ok (.ldc2_w 187, 3) := by decide +kernel
theorem dX6_as_24 : decode cX6_as 24 = .ok (.lstore_n 3, 1) := by decide +kernel
theorem dX6_as_25 : decode cX6_as 25 = .ok (.lload_n 1, 1) := by decide +kernel
theorem dX6_as_26 : decode cX6_as 26 = .ok (.lload_n 3, 1) := by decide +kernel
theorem dX6_as_27 : decode cX6_as 27 = .ok (.lcmp, 1) := by decide +kernel
theorem dX6_as_28 : decode cX6_as 28 = .ok (.ifCond .le 7, 3) := by decide +kernel
theorem dX6_as_31 : decode cX6_as 31 = .ok (.lload_n 3, 1) := by decide +kernel
theorem dX6_as_32 : decode cX6_as 32 = .ok (.goto 20, 3) := by decide +kernel
theorem dX6_as_35 : decode cX6_as 35 = .ok (.lload_n 1, 1) := by decide +kernel
theorem dX6_as_36 : decode cX6_as 36 = .ok (.lload_n 3, 1) := by decide +kernel
theorem dX6_as_37 : decode cX6_as 37 = .ok (.lneg, 1) := by decide +kernel
theorem dX6_as_38 : decode cX6_as 38 = .ok (.lconst 1, 1) := by decide +kernel
theorem dX6_as_39 : decode cX6_as 39 = .ok (.lsub, 1) := by decide +kernel
theorem dX6_as_40 : decode cX6_as 40 = .ok (.lcmp, 1) := by decide +kernel
theorem dX6_as_41 : decode cX6_as 41 = .ok (.ifCond .ge 10, 3) := by decide +kernel
theorem dX6_as_44 : decode cX6_as 44 = .ok (.lload_n 3, 1) := by decide +kernel
theorem dX6_as_45 : decode cX6_as 45 = .ok (.lneg, 1) := by decide +kernel
theorem dX6_as_46 : decode cX6_as 46 = .ok (.lconst 1, 1) := by decide +kernel
theorem dX6_as_47 : decode cX6_as 47 = .ok (.lsub, 1) := by decide +kernel
theorem dX6_as_48 : decode cX6_as 48 = .ok (.goto 4, 3) := by decide +kernel
theorem dX6_as_51 : decode cX6_as 51 = .ok (.lload_n 1, 1) := by decide +kernel
theorem dX6_as_52 : decode cX6_as 52 = .ok (.l2i, 1) := by decide +kernel
theorem dX6_as_53 : decode cX6_as 53 = .ok (.ireturn, 1) := by decide +kernel
set_option maxRecDepth 20000 in
theorem ggX6_sheet_X6_isSheet : GoodIn wsX6_sheet wsX6_isSheet := goodIn_r _ [9, 10, 11, 12, 8, 13] (by decide +kernel) (by decide +kernel)
set_option maxRecDepth 20000 in
theorem gX6_sheet_X6_isSheet : GoodIn wsX6_sheet (va_wsS RX6 189 yX6_isSheet wsX6_isSheet) := goodIn_app (goodIn_of _ (by decide +kernel)) ggX6_sheet_X6_isSheet
set_option maxRecDepth 20000 in
theorem ggX6_sheet_X6_finds : GoodIn wsX6_sheet wsX6_finds := goodIn_r _ [17, 18, 19, 20, 21, 22, 23, 24, 25, 26, 27, 28, 29, 30, 31, 32, 33, 34, 35, 36, 37, 38, 39, 40, 41, 42, 43, 44, 45, 46] (by decide +kernel) (by decide +kernel)
set_option maxRecDepth 20000 in
theorem gX6_sheet_X6_finds : GoodIn wsX6_sheet (wsV RX6 154 RX6 yX6_finds wsX6_finds) := goodIn_app (goodIn_of _ (by decide +kernel)) ggX6_sheet_X6_finds
set_option maxRecDepth 20000 in
theorem ggX6_sheet_X6_in : GoodIn wsX6_sheet wsX6_in := goodIn_r _ [13] (by decide +kernel) (by decide +kernel)
set_option maxRecDepth 20000 in
theorem gX6_sheet_X6_in : GoodIn wsX6_sheet (va_wsS RX6 86 yX6_in wsX6_in) := goodIn_app (goodIn_of _ (by decide +kernel)) ggX6_sheet_X6_in
theorem dX6_sheet_0 : decode cX6_sheet 0 = .ok (.aload_n 0, 1) := by decide +kernel
theorem dX6_sheet_1 : decode cX6_sheet 1 = .ok (.iconst 0, 1) := by decide +kernel
theorem dX6_sheet_2 : decode cX6_sheet 2 = .ok (.putfield 75, 3) := by decide +kernel
theorem dX6_sheet_5 : decode cX6_sheet 5 = .ok (.iload_n 1, 1) := by decide +kernel
theorem dX6_sheet_6 : decode cX6_sheet 6 = .ok (.invokestatic 189, 3) := by decide +kernel
theorem dX6_sheet_9 : decode cX6_sheet 9 = .ok (.ifCond .ne 10, 3) := by decide +kernel
theorem dX6_sheet_12 : decode cX6_sheet 12 = .ok (.aload_n 0, 1) := by decide +kernel
theorem dX6_sheet_13 : decode cX6_sheet 13 = .ok (.bipush (-12), 2) := by decide +kernel
theorem dX6_sheet_15 : decode cX6_sheet 15 = .ok (.invokevirtual 154, 3) := by decide +kernel
theorem dX6_sheet_18 : decode cX6_sheet 18 = .ok (.ireturn, 1) := by decide +kernel
theorem dX6_sheet_19 : decode cX6_sheet 19 = .ok (.iload_n 2, 1) := by decide +kernel
theorem dX6_sheet_20 : decode cX6_sheet 20 = .ok (.i2l, 1) := by decide +kernel
theorem dX6_sheet_21 : decode cX6_sheet 21 = .ok (.lconst 0, 1) := by decide +kernel
theorem dX6_sheet_22 : decode cX6_sheet 22 = .ok (.ldc2_w 142, 3) := by decide +kernel
theorem dX6_sheet_25 : decode cX6_sheet 25 = .ok (.invokestatic 86, 3) := by decide +kernel
theorem dX6_sheet_28 : decode cX6_sheet 28 = .ok (.ifCond .eq 9, 3) := by decide +kernel
theorem dX6_sheet_31 : decode cX6_sheet 31 = .ok (.iload_n 3, 1) := by decide +kernel
theorem dX6_sheet_32 : decode cX6_sheet 32 = .ok (.bipush 64, 2) := by decide +kernel
theorem dX6_sheet_34 : decode cX6_sheet 34 = .ok (.if_icmp .le 6, 3) := by decide +kernel
theorem dX6_sheet_37 : decode cX6_sheet 37 = .ok (.bipush (-2), 2) := by decide +kernel
theorem dX6_sheet_39 : decode cX6_sheet 39 = .ok (.ireturn, 1) := by decide +kernel
theorem dX6_sheet_40 : decode cX6_sheet 40 = .ok (.iload_n 3, 1) := by decide +kernel
theorem dX6_sheet_41 : decode cX6_sheet 41 = .ok (.ifCond .ge 10, 3) := by decide +kernel
theorem dX6_sheet_44 : decode cX6_sheet 44 = .ok (.aload_n 0, 1) := by decide +kernel
theorem dX6_sheet_45 : decode cX6_sheet 45 = .ok (.bipush (-14), 2) := by decide +kernel
theorem dX6_sheet_47 : decode cX6_sheet 47 = .ok (.invokevirtual 154, 3) := by decide +kernel
theorem dX6_sheet_50 : decode cX6_sheet 50 = .ok (.ireturn, 1) := by decide +kernel
theorem dX6_sheet_51 : decode cX6_sheet 51 = .ok (.aload_n 0, 1) := by decide +kernel
theorem dX6_sheet_52 : decode cX6_sheet 52 = .ok (.getfield 63, 3) := by decide +kernel
theorem dX6_sheet_55 : decode cX6_sheet 55 = .ok (.iload_n 1, 1) := by decide +kernel
theorem dX6_sheet_56 : decode cX6_sheet 56 = .ok (.iload_n 3, 1) := by decide +kernel
theorem dX6_sheet_57 : decode cX6_sheet 57 = .ok (.iastore, 1) := by decide +kernel
theorem dX6_sheet_58 : decode cX6_sheet 58 = .ok (.aload_n 0, 1) := by decide +kernel
theorem dX6_sheet_59 : decode cX6_sheet 59 = .ok (.getfield 66, 3) := by decide +kernel
theorem dX6_sheet_62 : decode cX6_sheet 62 = .ok (.iload_n 1, 1) := by decide +kernel
theorem dX6_sheet_63 : decode cX6_sheet 63 = .ok (.iload_n 2, 1) := by decide +kernel
theorem dX6_sheet_64 : decode cX6_sheet 64 = .ok (.iastore, 1) := by decide +kernel
theorem dX6_sheet_65 : decode cX6_sheet 65 = .ok (.iconst 0, 1) := by decide +kernel
theorem dX6_sheet_66 : decode cX6_sheet 66 = .ok (.istore 4, 2) := by decide +kernel
theorem dX6_sheet_68 : decode cX6_sheet 68 = .ok (.iload 4, 2) := by decide +kernel
theorem dX6_sheet_70 : decode cX6_sheet 70 = .ok (.iload_n 3, 1) := by decide +kernel
theorem dX6_sheet_71 : decode cX6_sheet 71 = .ok (.if_icmp .ge 22, 3) := by decide +kernel
theorem dX6_sheet_74 : decode cX6_sheet 74 = .ok (.aload_n 0, 1) := by decide +kernel
theorem dX6_sheet_75 : decode cX6_sheet 75 = .ok (.getfield 69, 3) := by decide +kernel
theorem dX6_sheet_78 : decode cX6_sheet 78 = .ok (.bipush 64, 2) := by decide +kernel
theorem dX6_sheet_80 : decode cX6_sheet 80 = .ok (.iload_n 1, 1) := by decide +kernel
theorem dX6_sheet_81 : decode cX6_sheet 81 = .ok (.imul, 1) := by decide +kernel
theorem dX6_sheet_82 : decode cX6_sheet 82 = .ok (.iload 4, 2) := by decide +kernel
theorem dX6_sheet_84 : decode cX6_sheet 84 = .ok (.iadd, 1) := by decide +kernel
theorem dX6_sheet_85 : decode cX6_sheet 85 = .ok (.iconst 0, 1) := by decide +kernel
theorem dX6_sheet_86 : decode cX6_sheet 86 = .ok (.iastore, 1) := by decide +kernel
theorem dX6_sheet_87 : decode cX6_sheet 87 = .ok (.iinc 4 1, 3) := by decide +kernel
theorem dX6_sheet_90 : decode cX6_sheet 90 = .ok (.goto (-22), 3) := by decide +kernel
theorem dX6_sheet_93 : decode cX6_sheet 93 = .ok (.iload_n 3, 1) := by decide +kernel
theorem dX6_sheet_94 : decode cX6_sheet 94 = .ok (.ireturn, 1) := by decide +kernel
set_option maxRecDepth 20000 in
theorem ggX6_tear_X6_isSheet : GoodIn wsX6_tear wsX6_isSheet := goodIn_r _ [6, 7, 8, 9, 5, 10] (by decide +kernel) (by decide +kernel)
set_option maxRecDepth 20000 in
theorem gX6_tear_X6_isSheet : GoodIn wsX6_tear (va_wsS RX6 189 yX6_isSheet wsX6_isSheet) := goodIn_app (goodIn_of _ (by decide +kernel)) ggX6_tear_X6_isSheet
set_option maxRecDepth 20000 in
theorem ggX6_tear_X6_finds : GoodIn wsX6_tear wsX6_finds := goodIn_r _ [14, 15, 16, 17, 18, 19, 20, 21, 22, 23, 24, 25, 26, 27, 28, 29, 30, 31, 32, 33, 34, 35, 36, 37, 38, 39, 40, 41, 42, 43] (by decide +kernel) (by decide +kernel)
set_option maxRecDepth 20000 in
theorem gX6_tear_X6_finds : GoodIn wsX6_tear (wsV RX6 154 RX6 yX6_finds wsX6_finds) := goodIn_app (goodIn_of _ (by decide +kernel)) ggX6_tear_X6_finds
theorem dX6_tear_0 : decode cX6_tear 0 = .ok (.aload_n 0, 1) := by decide +kernel
theorem dX6_tear_1 : decode cX6_tear 1 = .ok (.iconst 0, 1) := by decide +kernel
theorem dX6_tear_2 : decode cX6_tear 2 = .ok (.putfield 75, 3) := by decide +kernel
theorem dX6_tear_5 : decode cX6_tear 5 = .ok (.iload_n 1, 1) := by decide +kernel
theorem dX6_tear_6 : decode cX6_tear 6 = .ok (.invokestatic 189, 3) := by decide +kernel
theorem dX6_tear_9 : decode cX6_tear 9 = .ok (.ifCond .ne 10, 3) := by decide +kernel
theorem dX6_tear_12 : decode cX6_tear 12 = .ok (.aload_n 0, 1) := by decide +kernel
theorem dX6_tear_13 : decode cX6_tear 13 = .ok (.bipush (-12), 2) := by decide +kernel
theorem dX6_tear_15 : decode cX6_tear 15 = .ok (.invokevirtual 154, 3) := by decide +kernel
theorem dX6_tear_18 : decode cX6_tear 18 = .ok (.ireturn, 1) := by decide +kernel
theorem dX6_tear_19 : decode cX6_tear 19 = .ok (.aload_n 0, 1) := by decide +kernel
theorem dX6_tear_20 : decode cX6_tear 20 = .ok (.getfield 63, 3) := by decide +kernel
theorem dX6_tear_23 : decode cX6_tear 23 = .ok (.iload_n 1, 1) := by decide +kernel
theorem dX6_tear_24 : decode cX6_tear 24 = .ok (.iaload, 1) := by decide +kernel
theorem dX6_tear_25 : decode cX6_tear 25 = .ok (.ifCond .ge 7, 3) := by decide +kernel
theorem dX6_tear_28 : decode cX6_tear 28 = .ok (.iconst 1, 1) := by decide +kernel
theorem dX6_tear_29 : decode cX6_tear 29 = .ok (.goto 4, 3) := by decide +kernel
theorem dX6_tear_32 : decode cX6_tear 32 = .ok (.iconst 0, 1) := by decide +kernel
theorem dX6_tear_33 : decode cX6_tear 33 = .ok (.istore_n 2, 1) := by decide +kernel
theorem dX6_tear_34 : decode cX6_tear 34 = .ok (.aload_n 0, 1) := by decide +kernel
theorem dX6_tear_35 : decode cX6_tear 35 = .ok (.getfield 63, 3) := by decide +kernel
theorem dX6_tear_38 : decode cX6_tear 38 = .ok (.iload_n 1, 1) := by decide +kernel
theorem dX6_tear_39 : decode cX6_tear 39 = .ok (.iconst (-1), 1) := by decide +kernel
theorem dX6_tear_40 : decode cX6_tear 40 = .ok (.iastore, 1) := by decide +kernel
theorem dX6_tear_41 : decode cX6_tear 41 = .ok (.iload_n 2, 1) := by decide +kernel
theorem dX6_tear_42 : decode cX6_tear 42 = .ok (.ireturn, 1) := by decide +kernel
set_option maxRecDepth 20000 in
theorem ggX6_record_X6_isSheet : GoodIn wsX6_record wsX6_isSheet := goodIn_r _ [8, 9, 10, 11, 7, 12] (by decide +kernel) (by decide +kernel)
set_option maxRecDepth 20000 in
theorem gX6_record_X6_isSheet : GoodIn wsX6_record (va_wsS RX6 189 yX6_isSheet wsX6_isSheet) := goodIn_app (goodIn_of _ (by decide +kernel)) ggX6_record_X6_isSheet
set_option maxRecDepth 20000 in
theorem ggX6_record_X6_finds : GoodIn wsX6_record wsX6_finds := goodIn_r _ [16, 17, 75, 76, 77, 78, 79, 80, 81, 82, 83, 84, 85, 86, 87, 88, 89, 90, 91, 92, 93, 94, 95, 96, 97, 98, 99, 100, 101, 102] (by decide +kernel) (by decide +kernel)
set_option maxRecDepth 20000 in
theorem gX6_record_X6_finds : GoodIn wsX6_record (wsV RX6 154 RX6 yX6_finds wsX6_finds) := goodIn_app (goodIn_of _ (by decide +kernel)) ggX6_record_X6_finds
set_option maxRecDepth 20000 in
theorem ggX6_record_X6_noElement : GoodIn wsX6_record wsX6_noElement := goodIn_r _ [21, 22, 10, 11, 7, 12, 75, 76, 77, 78, 79, 80, 81, 82, 83, 84, 85, 86, 87, 88, 89, 90, 91, 92, 93, 94, 95, 96, 97, 98, 99, 100, 101, 102] (by decide +kernel) (by decide +kernel)
set_option maxRecDepth 20000 in
theorem gX6_record_X6_noElement : GoodIn wsX6_record (wsV RX6 135 RX6 yX6_noElement wsX6_noElement) := goodIn_app (goodIn_of _ (by decide +kernel)) ggX6_record_X6_noElement
set_option maxRecDepth 20000 in
theorem ggX6_record_X6_echoAt : GoodIn wsX6_record wsX6_echoAt := goodIn_r _ [26, 27, 28, 29, 30, 31, 32, 7, 33, 34, 35, 36, 37, 38, 39, 40, 41, 42, 43, 44, 45, 46, 47, 48, 49, 50, 51, 52, 53, 54, 55, 56, 57, 58, 59, 60, 61, 62, 63, 64, 65, 66, 67, 68, 75, 76, 77, 78, 79, 80, 81, 82, 83, 84, 85, 86, 87, 88, 89, 90, 91, 92, 93, 94, 95, 96, 97, 98, 99, 100, 101, 102] (by decide +kernel) (by decide +kernel)
set_option maxRecDepth 20000 in
theorem gX6_record_X6_echoAt : GoodIn wsX6_record (wsV RX6 157 RX6 yX6_echoAt wsX6_echoAt) := goodIn_app (goodIn_of _ (by decide +kernel)) ggX6_record_X6_echoAt
set_option maxRecDepth 20000 in
theorem ggX6_record_X6_as : GoodIn wsX6_record wsX6_as := goodIn_r _ [71, 72, 73, 74] (by decide +kernel) (by decide +kernel)
set_option maxRecDepth 20000 in
theorem gX6_record_X6_as : GoodIn wsX6_record (va_wsS RX6 192 yX6_as wsX6_as) := goodIn_app (goodIn_of _ (by decide +kernel)) ggX6_record_X6_as
theorem dX6_record_0 : decode cX6_record 0 = .ok (.aload_n 0, 1) := by decide +kernel
theorem dX6_record_1 : decode cX6_record 1 = .ok (.iconst 0, 1) := by decide +kernel
theorem dX6_record_2 : decode cX6_record 2 = .ok (.putfield 75, 3) := by decide +kernel
theorem dX6_record_5 : decode cX6_record 5 = .ok (.iload_n 1, 1) := by decide +kernel
theorem dX6_record_6 : decode cX6_record 6 = .ok (.invokestatic 189, 3) := by decide +kernel
theorem dX6_record_9 : decode cX6_record 9 = .ok (.ifCond .ne 10, 3) := by decide +kernel
theorem dX6_record_12 : decode cX6_record 12 = .ok (.aload_n 0, 1) := by decide +kernel
theorem dX6_record_13 : decode cX6_record 13 = .ok (.bipush (-12), 2) := by decide +kernel
theorem dX6_record_15 : decode cX6_record 15 = .ok (.invokevirtual 154, 3) := by decide +kernel
theorem dX6_record_18 : decode cX6_record 18 = .ok (.ireturn, 1) := by decide +kernel
theorem dX6_record_19 : decode cX6_record 19 = .ok (.aload_n 0, 1) := by decide +kernel
theorem dX6_record_20 : decode cX6_record 20 = .ok (.iload_n 2, 1) := by decide +kernel
theorem dX6_record_21 : decode cX6_record 21 = .ok (.invokevirtual 135, 3) := by decide +kernel
theorem dX6_record_24 : decode cX6_record 24 = .ok (.ifCond .ne 11, 3) := by decide +kernel
theorem dX6_record_27 : decode cX6_record 27 = .ok (.aload_n 0, 1) := by decide +kernel
theorem dX6_record_28 : decode cX6_record 28 = .ok (.iload_n 3, 1) := by decide +kernel
theorem dX6_record_29 : decode cX6_record 29 = .ok (.invokevirtual 135, 3) := by decide +kernel
theorem dX6_record_32 : decode cX6_record 32 = .ok (.ifCond .eq 5, 3) := by decide +kernel
theorem dX6_record_35 : decode cX6_record 35 = .ok (.iconst (-1), 1) := by decide +kernel
theorem dX6_record_36 : decode cX6_record 36 = .ok (.ireturn, 1) := by decide +kernel
theorem dX6_record_37 : decode cX6_record 37 = .ok (.aload_n 0, 1) := by decide +kernel
theorem dX6_record_38 : decode cX6_record 38 = .ok (.getfield 63, 3) := by decide +kernel
theorem dX6_record_41 : decode cX6_record 41 = .ok (.iload_n 1, 1) := by decide +kernel
theorem dX6_record_42 : decode cX6_record 42 = .ok (.iaload, 1) := by decide +kernel
theorem dX6_record_43 : decode cX6_record 43 = .ok (.ifCond .ge 10, 3) := by decide +kernel
theorem dX6_record_46 : decode cX6_record 46 = .ok (.aload_n 0, 1) := by decide +kernel
theorem dX6_record_47 : decode cX6_record 47 = .ok (.bipush (-11), 2) := by decide +kernel
theorem dX6_record_49 : decode cX6_record 49 = .ok (.invokevirtual 154, 3) := by decide +kernel
theorem dX6_record_52 : decode cX6_record 52 = .ok (.ireturn, 1) := by decide +kernel
theorem dX6_record_53 : decode cX6_record 53 = .ok (.iconst 0, 1) := by decide +kernel
theorem dX6_record_54 : decode cX6_record 54 = .ok (.istore 5, 2) := by decide +kernel
theorem dX6_record_56 : decode cX6_record 56 = .ok (.iload 5, 2) := by decide +kernel
theorem dX6_record_58 : decode cX6_record 58 = .ok (.aload_n 0, 1) := by decide +kernel
theorem dX6_record_59 : decode cX6_record 59 = .ok (.getfield 63, 3) := by decide +kernel
theorem dX6_record_62 : decode cX6_record 62 = .ok (.iload_n 1, 1) := by decide +kernel
theorem dX6_record_63 : decode cX6_record 63 = .ok (.iaload, 1) := by decide +kernel
theorem dX6_record_64 : decode cX6_record 64 = .ok (.if_icmp .ge 44, 3) := by decide +kernel
theorem dX6_record_67 : decode cX6_record 67 = .ok (.aload_n 0, 1) := by decide +kernel
theorem dX6_record_68 : decode cX6_record 68 = .ok (.getfield 69, 3) := by decide +kernel
theorem dX6_record_71 : decode cX6_record 71 = .ok (.bipush 64, 2) := by decide +kernel
theorem dX6_record_73 : decode cX6_record 73 = .ok (.iload_n 1, 1) := by decide +kernel
theorem dX6_record_74 : decode cX6_record 74 = .ok (.imul, 1) := by decide +kernel
theorem dX6_record_75 : decode cX6_record 75 = .ok (.iload 5, 2) := by decide +kernel
theorem dX6_record_77 : decode cX6_record 77 = .ok (.iadd, 1) := by decide +kernel
theorem dX6_record_78 : decode cX6_record 78 = .ok (.aload_n 0, 1) := by decide +kernel
theorem dX6_record_79 : decode cX6_record 79 = .ok (.getfield 66, 3) := by decide +kernel
theorem dX6_record_82 : decode cX6_record 82 = .ok (.iload_n 1, 1) := by decide +kernel
theorem dX6_record_83 : decode cX6_record 83 = .ok (.iaload, 1) := by decide +kernel
theorem dX6_record_84 : decode cX6_record 84 = .ok (.aload_n 0, 1) := by decide +kernel
theorem dX6_record_85 : decode cX6_record 85 = .ok (.iload_n 2, 1) := by decide +kernel
theorem dX6_record_86 : decode cX6_record 86 = .ok (.iload_n 3, 1) := by decide +kernel
theorem dX6_record_87 : decode cX6_record 87 = .ok (.iload 4, 2) := by decide +kernel
theorem dX6_record_89 : decode cX6_record 89 = .ok (.i2l, 1) := by decide +kernel
theorem dX6_record_90 : decode cX6_record 90 = .ok (.iload 5, 2) := by decide +kernel
theorem dX6_record_92 : decode cX6_record 92 = .ok (.i2l, 1) := by decide +kernel
theorem dX6_record_93 : decode cX6_record 93 = .ok (.ladd, 1) := by decide +kernel
theorem dX6_record_94 : decode cX6_record 94 = .ok (.invokevirtual 157, 3) := by decide +kernel
theorem dX6_record_97 : decode cX6_record 97 = .ok (.i2l, 1) := by decide +kernel
theorem dX6_record_98 : decode cX6_record 98 = .ok (.invokestatic 192, 3) := by decide +kernel
theorem dX6_record_101 : decode cX6_record 101 = .ok (.iastore, 1) := by decide +kernel
theorem dX6_record_102 : decode cX6_record 102 = .ok (.iinc 5 1, 3) := by decide +kernel
theorem dX6_record_105 : decode cX6_record 105 = .ok (.goto (-49), 3) := by decide +kernel
theorem dX6_record_108 : decode cX6_record 108 = .ok (.aload_n 0, 1) := by decide +kernel
theorem dX6_record_109 : decode cX6_record 109 = .ok (.getfield 63, 3) := by decide +kernel
theorem dX6_record_112 : decode cX6_record 112 = .ok (.iload_n 1, 1) := by decide +kernel
theorem dX6_record_113 : decode cX6_record 113 = .ok (.iaload, 1) := by decide +kernel
theorem dX6_record_114 : decode cX6_record 114 = .ok (.ireturn, 1) := by decide +kernel
set_option maxRecDepth 20000 in
theorem ggX6_add_X6_isSheet : GoodIn wsX6_add wsX6_isSheet := goodIn_r _ [9, 10, 11, 12, 8, 13] (by decide +kernel) (by decide +kernel)
set_option maxRecDepth 20000 in
theorem gX6_add_X6_isSheet : GoodIn wsX6_add (va_wsS RX6 189 yX6_isSheet wsX6_isSheet) := goodIn_app (goodIn_of _ (by decide +kernel)) ggX6_add_X6_isSheet
set_option maxRecDepth 20000 in
theorem ggX6_add_X6_finds : GoodIn wsX6_add wsX6_finds := goodIn_r _ [17, 18, 25, 26, 27, 28, 29, 30, 31, 32, 33, 34, 35, 36, 37, 38, 39, 40, 41, 42, 43, 44, 45, 46, 47, 48, 49, 50, 51, 52] (by decide +kernel) (by decide +kernel)
set_option maxRecDepth 20000 in
theorem gX6_add_X6_finds : GoodIn wsX6_add (wsV RX6 154 RX6 yX6_finds wsX6_finds) := goodIn_app (goodIn_of _ (by decide +kernel)) ggX6_add_X6_finds
set_option maxRecDepth 20000 in
theorem ggX6_add_X6_in : GoodIn wsX6_add wsX6_in := goodIn_r _ [13] (by decide +kernel) (by decide +kernel)
set_option maxRecDepth 20000 in
theorem gX6_add_X6_in : GoodIn wsX6_add (va_wsS RX6 86 yX6_in wsX6_in) := goodIn_app (goodIn_of _ (by decide +kernel)) ggX6_add_X6_in
set_option maxRecDepth 20000 in
theorem ggX6_add_X6_as : GoodIn wsX6_add wsX6_as := goodIn_r _ [21, 22, 23, 24] (by decide +kernel) (by decide +kernel)
set_option maxRecDepth 20000 in
theorem gX6_add_X6_as : GoodIn wsX6_add (va_wsS RX6 192 yX6_as wsX6_as) := goodIn_app (goodIn_of _ (by decide +kernel)) ggX6_add_X6_as
theorem dX6_add_0 : decode cX6_add 0 = .ok (.aload_n 0, 1) := by decide +kernel
theorem dX6_add_1 : decode cX6_add 1 = .ok (.iconst 0, 1) := by decide +kernel
theorem dX6_add_2 : decode cX6_add 2 = .ok (.putfield 75, 3) := by decide +kernel
theorem dX6_add_5 : decode cX6_add 5 = .ok (.iload_n 1, 1) := by decide +kernel
theorem dX6_add_6 : decode cX6_add 6 = .ok (.invokestatic 189, 3) := by decide +kernel
theorem dX6_add_9 : decode cX6_add 9 = .ok (.ifCond .eq 10, 3) := by decide +kernel
theorem dX6_add_12 : decode cX6_add 12 = .ok (.iload_n 2, 1) := by decide +kernel
theorem dX6_add_13 : decode cX6_add 13 = .ok (.invokestatic 189, 3) := by decide +kernel
theorem dX6_add_16 : decode cX6_add 16 = .ok (.ifCond .ne 10, 3) := by decide +kernel
theorem dX6_add_19 : decode cX6_add 19 = .ok (.aload_n 0, 1) := by decide +kernel
theorem dX6_add_20 : decode cX6_add 20 = .ok (.bipush (-12), 2) := by decide +kernel
theorem dX6_add_22 : decode cX6_add 22 = .ok (.invokevirtual 154, 3) := by decide +kernel
theorem dX6_add_25 : decode cX6_add 25 = .ok (.ireturn, 1) := by decide +kernel
theorem dX6_add_26 : decode cX6_add 26 = .ok (.aload_n 0, 1) := by decide +kernel
theorem dX6_add_27 : decode cX6_add 27 = .ok (.getfield 63, 3) := by decide +kernel
theorem dX6_add_30 : decode cX6_add 30 = .ok (.iload_n 1, 1) := by decide +kernel
theorem dX6_add_31 : decode cX6_add 31 = .ok (.iaload, 1) := by decide +kernel
theorem dX6_add_32 : decode cX6_add 32 = .ok (.ifCond .lt 12, 3) := by decide +kernel
theorem dX6_add_35 : decode cX6_add 35 = .ok (.aload_n 0, 1) := by decide +kernel
theorem dX6_add_36 : decode cX6_add 36 = .ok (.getfield 63, 3) := by decide +kernel
theorem dX6_add_39 : decode cX6_add 39 = .ok (.iload_n 2, 1) := by decide +kernel
theorem dX6_add_40 : decode cX6_add 40 = .ok (.iaload, 1) := by decide +kernel
theorem dX6_add_41 : decode cX6_add 41 = .ok (.ifCond .ge 10, 3) := by decide +kernel
theorem dX6_add_44 : decode cX6_add 44 = .ok (.aload_n 0, 1) := by decide +kernel
theorem dX6_add_45 : decode cX6_add 45 = .ok (.bipush (-11), 2) := by decide +kernel
theorem dX6_add_47 : decode cX6_add 47 = .ok (.invokevirtual 154, 3) := by decide +kernel
theorem dX6_add_50 : decode cX6_add 50 = .ok (.ireturn, 1) := by decide +kernel
theorem dX6_add_51 : decode cX6_add 51 = .ok (.iconst 0, 1) := by decide +kernel
theorem dX6_add_52 : decode cX6_add 52 = .ok (.istore 4, 2) := by decide +kernel
theorem dX6_add_54 : decode cX6_add 54 = .ok (.iload 4, 2) := by decide +kernel
theorem dX6_add_56 : decode cX6_add 56 = .ok (.aload_n 0, 1) := by decide +kernel
theorem dX6_add_57 : decode cX6_add 57 = .ok (.getfield 63, 3) := by decide +kernel
theorem dX6_add_60 : decode cX6_add 60 = .ok (.iload_n 1, 1) := by decide +kernel
theorem dX6_add_61 : decode cX6_add 61 = .ok (.iaload, 1) := by decide +kernel
theorem dX6_add_62 : decode cX6_add 62 = .ok (.if_icmp .ge 28, 3) := by decide +kernel
theorem dX6_add_65 : decode cX6_add 65 = .ok (.aload_n 0, 1) := by decide +kernel
theorem dX6_add_66 : decode cX6_add 66 = .ok (.getfield 72, 3) := by decide +kernel
theorem dX6_add_69 : decode cX6_add 69 = .ok (.iload 4, 2) := by decide +kernel
theorem dX6_add_71 : decode cX6_add 71 = .ok (.aload_n 0, 1) := by decide +kernel
theorem dX6_add_72 : decode cX6_add 72 = .ok (.getfield 69, 3) := by decide +kernel
theorem dX6_add_75 : decode cX6_add 75 = .ok (.bipush 64, 2) := by decide +kernel
theorem dX6_add_77 : decode cX6_add 77 = .ok (.iload_n 1, 1) := by decide +kernel
theorem dX6_add_78 : decode cX6_add 78 = .ok (.imul, 1) := by decide +kernel
theorem dX6_add_79 : decode cX6_add 79 = .ok (.iload 4, 2) := by decide +kernel
theorem dX6_add_81 : decode cX6_add 81 = .ok (.iadd, 1) := by decide +kernel
theorem dX6_add_82 : decode cX6_add 82 = .ok (.iaload, 1) := by decide +kernel
theorem dX6_add_83 : decode cX6_add 83 = .ok (.iastore, 1) := by decide +kernel
theorem dX6_add_84 : decode cX6_add 84 = .ok (.iinc 4 1, 3) := by decide +kernel
theorem dX6_add_87 : decode cX6_add 87 = .ok (.goto (-33), 3) := by decide +kernel
theorem dX6_add_90 : decode cX6_add 90 = .ok (.iconst 0, 1) := by decide +kernel
theorem dX6_add_91 : decode cX6_add 91 = .ok (.istore 4, 2) := by decide +kernel
theorem dX6_add_93 : decode cX6_add 93 = .ok (.iconst 0, 1) := by decide +kernel
theorem dX6_add_94 : decode cX6_add 94 = .ok (.istore 5, 2) := by decide +kernel
theorem dX6_add_96 : decode cX6_add 96 = .ok (.iload 5, 2) := by decide +kernel
theorem dX6_add_98 : decode cX6_add 98 = .ok (.aload_n 0, 1) := by decide +kernel
theorem dX6_add_99 : decode cX6_add 99 = .ok (.getfield 63, 3) := by decide +kernel
theorem dX6_add_102 : decode cX6_add 102 = .ok (.iload_n 1, 1) := by decide +kernel
theorem dX6_add_103 : decode cX6_add 103 = .ok (.iaload, 1) := by decide +kernel
theorem dX6_add_104 : decode cX6_add 104 = .ok (.if_icmp .ge 81, 3) := by decide +kernel
theorem dX6_add_107 : decode cX6_add 107 = .ok (.iload 5, 2) := by decide +kernel
theorem dX6_add_109 : decode cX6_add 109 = .ok (.i2l, 1) := by decide +kernel
theorem dX6_add_110 : decode cX6_add 110 = .ok (.iload_n 3, 1) := by decide +kernel
theorem dX6_add_111 : decode cX6_add 111 = .ok (.i2l, 1) := by decide +kernel
theorem dX6_add_112 : decode cX6_add 112 = .ok (.ladd, 1) := by decide +kernel
theorem dX6_add_113 : decode cX6_add 113 = .ok (.lstore 6, 2) := by decide +kernel
theorem dX6_add_115 : decode cX6_add 115 = .ok (.lload 6, 2) := by decide +kernel
theorem dX6_add_117 : decode cX6_add 117 = .ok (.lconst 0, 1) := by decide +kernel
theorem dX6_add_118 : decode cX6_add 118 = .ok (.aload_n 0, 1) := by decide +kernel
theorem dX6_add_119 : decode cX6_add 119 = .ok (.getfield 63, 3) := by decide +kernel
theorem dX6_add_122 : decode cX6_add 122 = .ok (.iload_n 2, 1) := by decide +kernel
theorem dX6_add_123 : decode cX6_add 123 = .ok (.iaload, 1) := by decide +kernel
theorem dX6_add_124 : decode cX6_add 124 = .ok (.iconst 1, 1) := by decide +kernel
theorem dX6_add_125 : decode cX6_add 125 = .ok (.isub, 1) := by decide +kernel
theorem dX6_add_126 : decode cX6_add 126 = .ok (.i2l, 1) := by decide +kernel
theorem dX6_add_127 : decode cX6_add 127 = .ok (.invokestatic 86, 3) := by decide +kernel
theorem dX6_add_130 : decode cX6_add 130 = .ok (.ifCond .eq 49, 3) := by decide +kernel
theorem dX6_add_133 : decode cX6_add 133 = .ok (.bipush 64, 2) := by decide +kernel
theorem dX6_add_135 : decode cX6_add 135 = .ok (.iload_n 2, 1) := by decide +kernel
theorem dX6_add_136 : decode cX6_add 136 = .ok (.imul, 1) := by decide +kernel
theorem dX6_add_137 : decode cX6_add 137 = .ok (.lload 6, 2) := by decide +kernel
theorem dX6_add_139 : decode cX6_add 139 = .ok (.l2i, 1) := by decide +kernel
theorem dX6_add_140 : decode cX6_add 140 = .ok (.iadd, 1) := by decide +kernel
theorem dX6_add_141 : decode cX6_add 141 = .ok (.istore 8, 2) := by decide +kernel
theorem dX6_add_143 : decode cX6_add 143 = .ok (.aload_n 0, 1) := by decide +kernel
theorem dX6_add_144 : decode cX6_add 144 = .ok (.getfield 69, 3) := by decide +kernel
theorem dX6_add_147 : decode cX6_add 147 = .ok (.iload 8, 2) := by decide +kernel
theorem dX6_add_149 : decode cX6_add 149 = .ok (.aload_n 0, 1) := by decide +kernel
theorem dX6_add_150 : decode cX6_add 150 = .ok (.getfield 66, 3) := by decide +kernel
theorem dX6_add_153 : decode cX6_add 153 = .ok (.iload_n 2, 1) := by decide +kernel
theorem dX6_add_154 : decode cX6_add 154 = .ok (.iaload, 1) := by decide +kernel
theorem dX6_add_155 : decode cX6_add 155 = .ok (.aload_n 0, 1) := by decide +kernel
theorem dX6_add_156 : decode cX6_add 156 = .ok (.getfield 69, 3) := by decide +kernel
theorem dX6_add_159 : decode cX6_add 159 = .ok (.iload 8, 2) := by decide +kernel
theorem dX6_add_161 : decode cX6_add 161 = .ok (.iaload, 1) := by decide +kernel
theorem dX6_add_162 : decode cX6_add 162 = .ok (.i2l, 1) := by decide +kernel
theorem dX6_add_163 : decode cX6_add 163 = .ok (.aload_n 0, 1) := by decide +kernel
theorem dX6_add_164 : decode cX6_add 164 = .ok (.getfield 72, 3) := by decide +kernel
theorem dX6_add_167 : decode cX6_add 167 = .ok (.iload 5, 2) := by decide +kernel
theorem dX6_add_169 : decode cX6_add 169 = .ok (.iaload, 1) := by decide +kernel
theorem dX6_add_170 : decode cX6_add 170 = .ok (.i2l, 1) := by decide +kernel
theorem dX6_add_171 : decode cX6_add 171 = .ok (.ladd, 1) := by decide +kernel
theorem dX6_add_172 : decode cX6_add 172 = .ok (.invokestatic 192, 3) := by decide +kernel
theorem dX6_add_175 : decode cX6_add 175 = .ok (.iastore, 1) := by decide +kernel
theorem dX6_add_176 : decode cX6_add 176 = .ok (.iinc 4 1, 3) := by decide +kernel
theorem dX6_add_179 : decode cX6_add 179 = .ok (.iinc 5 1, 3) := by decide +kernel
theorem dX6_add_182 : decode cX6_add 182 = .ok (.goto (-86), 3) := by decide +kernel
theorem dX6_add_185 : decode cX6_add 185 = .ok (.iload 4, 2) := by decide +kernel
theorem dX6_add_187 : decode cX6_add 187 = .ok (.ireturn, 1) := by decide +kernel
set_option maxRecDepth 20000 in
theorem ggX6_copy_X6_isSheet : GoodIn wsX6_copy wsX6_isSheet := goodIn_r _ [9, 10, 11, 12, 8, 13] (by decide +kernel) (by decide +kernel)
set_option maxRecDepth 20000 in
theorem gX6_copy_X6_isSheet : GoodIn wsX6_copy (va_wsS RX6 189 yX6_isSheet wsX6_isSheet) := goodIn_app (goodIn_of _ (by decide +kernel)) ggX6_copy_X6_isSheet
set_option maxRecDepth 20000 in
theorem ggX6_copy_X6_finds : GoodIn wsX6_copy wsX6_finds := goodIn_r _ [17, 18, 19, 20, 21, 22, 23, 24, 25, 26, 27, 28, 29, 30, 31, 32, 33, 34, 35, 36, 37, 38, 39, 40, 41, 42, 43, 44, 45, 46] (by decide +kernel) (by decide +kernel)
set_option maxRecDepth 20000 in
theorem gX6_copy_X6_finds : GoodIn wsX6_copy (wsV RX6 154 RX6 yX6_finds wsX6_finds) := goodIn_app (goodIn_of _ (by decide +kernel)) ggX6_copy_X6_finds
theorem dX6_copy_0 : decode cX6_copy 0 = .ok (.aload_n 0, 1) := by decide +kernel
theorem dX6_copy_1 : decode cX6_copy 1 = .ok (.iconst 0, 1) := by decide +kernel
theorem dX6_copy_2 : decode cX6_copy 2 = .ok (.putfield 75, 3) := by decide +kernel
theorem dX6_copy_5 : decode cX6_copy 5 = .ok (.iload_n 1, 1) := by decide +kernel
theorem dX6_copy_6 : decode cX6_copy 6 = .ok (.invokestatic 189, 3) := by decide +kernel
theorem dX6_copy_9 : decode cX6_copy 9 = .ok (.ifCond .eq 10, 3) := by decide +kernel
theorem dX6_copy_12 : decode cX6_copy 12 = .ok (.iload_n 3, 1) := by decide +kernel
theorem dX6_copy_13 : decode cX6_copy 13 = .ok (.invokestatic 189, 3) := by decide +kernel
theorem dX6_copy_16 : decode cX6_copy 16 = .ok (.ifCond .ne 10, 3) := by decide +kernel
theorem dX6_copy_19 : decode cX6_copy 19 = .ok (.aload_n 0, 1) := by decide +kernel
theorem dX6_copy_20 : decode cX6_copy 20 = .ok (.bipush (-12), 2) := by decide +kernel
theorem dX6_copy_22 : decode cX6_copy 22 = .ok (.invokevirtual 154, 3) := by decide +kernel
theorem dX6_copy_25 : decode cX6_copy 25 = .ok (.ireturn, 1) := by decide +kernel
theorem dX6_copy_26 : decode cX6_copy 26 = .ok (.aload_n 0, 1) := by decide +kernel
theorem dX6_copy_27 : decode cX6_copy 27 = .ok (.getfield 63, 3) := by decide +kernel
theorem dX6_copy_30 : decode cX6_copy 30 = .ok (.iload_n 1, 1) := by decide +kernel
theorem dX6_copy_31 : decode cX6_copy 31 = .ok (.iaload, 1) := by decide +kernel
theorem dX6_copy_32 : decode cX6_copy 32 = .ok (.ifCond .lt 12, 3) := by decide +kernel
theorem dX6_copy_35 : decode cX6_copy 35 = .ok (.aload_n 0, 1) := by decide +kernel
theorem dX6_copy_36 : decode cX6_copy 36 = .ok (.getfield 63, 3) := by decide +kernel
theorem dX6_copy_39 : decode cX6_copy 39 = .ok (.iload_n 3, 1) := by decide +kernel
theorem dX6_copy_40 : decode cX6_copy 40 = .ok (.iaload, 1) := by decide +kernel
theorem dX6_copy_41 : decode cX6_copy 41 = .ok (.ifCond .ge 10, 3) := by decide +kernel
theorem dX6_copy_44 : decode cX6_copy 44 = .ok (.aload_n 0, 1) := by decide +kernel
theorem dX6_copy_45 : decode cX6_copy 45 = .ok (.bipush (-11), 2) := by decide +kernel
theorem dX6_copy_47 : decode cX6_copy 47 = .ok (.invokevirtual 154, 3) := by decide +kernel
theorem dX6_copy_50 : decode cX6_copy 50 = .ok (.ireturn, 1) := by decide +kernel
theorem dX6_copy_51 : decode cX6_copy 51 = .ok (.aload_n 0, 1) := by decide +kernel
theorem dX6_copy_52 : decode cX6_copy 52 = .ok (.getfield 66, 3) := by decide +kernel
theorem dX6_copy_55 : decode cX6_copy 55 = .ok (.iload_n 1, 1) := by decide +kernel
theorem dX6_copy_56 : decode cX6_copy 56 = .ok (.iaload, 1) := by decide +kernel
theorem dX6_copy_57 : decode cX6_copy 57 = .ok (.aload_n 0, 1) := by decide +kernel
theorem dX6_copy_58 : decode cX6_copy 58 = .ok (.getfield 66, 3) := by decide +kernel
theorem dX6_copy_61 : decode cX6_copy 61 = .ok (.iload_n 3, 1) := by decide +kernel
theorem dX6_copy_62 : decode cX6_copy 62 = .ok (.iaload, 1) := by decide +kernel
theorem dX6_copy_63 : decode cX6_copy 63 = .ok (.if_icmp .eq 10, 3) := by decide +kernel
theorem dX6_copy_66 : decode cX6_copy 66 = .ok (.aload_n 0, 1) := by decide +kernel
theorem dX6_copy_67 : decode cX6_copy 67 = .ok (.bipush (-13), 2) := by decide +kernel
theorem dX6_copy_69 : decode cX6_copy 69 = .ok (.invokevirtual 154, 3) := by decide +kernel
theorem dX6_copy_72 : decode cX6_copy 72 = .ok (.ireturn, 1) := by decide +kernel
theorem dX6_copy_73 : decode cX6_copy 73 = .ok (.iload 5, 2) := by decide +kernel
theorem dX6_copy_75 : decode cX6_copy 75 = .ok (.ifCond .ge 10, 3) := by decide +kernel
theorem dX6_copy_78 : decode cX6_copy 78 = .ok (.aload_n 0, 1) := by decide +kernel
theorem dX6_copy_79 : decode cX6_copy 79 = .ok (.bipush (-14), 2) := by decide +kernel
theorem dX6_copy_81 : decode cX6_copy 81 = .ok (.invokevirtual 154, 3) := by decide +kernel
theorem dX6_copy_84 : decode cX6_copy 84 = .ok (.ireturn, 1) := by decide +kernel
theorem dX6_copy_85 : decode cX6_copy 85 = .ok (.iload_n 2, 1) := by decide +kernel
theorem dX6_copy_86 : decode cX6_copy 86 = .ok (.ifCond .lt 43, 3) := by decide +kernel
theorem dX6_copy_89 : decode cX6_copy 89 = .ok (.iload 4, 2) := by decide +kernel
theorem dX6_copy_91 : decode cX6_copy 91 = .ok (.ifCond .lt 38, 3) := by decide +kernel
theorem dX6_copy_94 : decode cX6_copy 94 = .ok (.iload_n 2, 1) := by decide +kernel
theorem dX6_copy_95 : decode cX6_copy 95 = .ok (.i2l, 1) := by decide +kernel
theorem dX6_copy_96 : decode cX6_copy 96 = .ok (.iload 5, 2) := by decide +kernel
theorem dX6_copy_98 : decode cX6_copy 98 = .ok (.i2l, 1) := by decide +kernel
theorem dX6_copy_99 : decode cX6_copy 99 = .ok (.ladd, 1) := by decide +kernel
theorem dX6_copy_100 : decode cX6_copy 100 = .ok (.aload_n 0, 1) := by decide +kernel
theorem dX6_copy_101 : decode cX6_copy 101 = .ok (.getfield 63, 3) := by decide +kernel
theorem dX6_copy_104 : decode cX6_copy 104 = .ok (.iload_n 1, 1) := by decide +kernel
theorem dX6_copy_105 : decode cX6_copy 105 = .ok (.iaload, 1) := by decide +kernel
theorem dX6_copy_106 : decode cX6_copy 106 = .ok (.i2l, 1) := by decide +kernel
theorem dX6_copy_107 : decode cX6_copy 107 = .ok (.lcmp, 1) := by decide +kernel
theorem dX6_copy_108 : decode cX6_copy 108 = .ok (.ifCond .gt 21, 3) := by decide +kernel
theorem dX6_copy_111 : decode cX6_copy 111 = .ok (.iload 4, 2) := by decide +kernel
theorem dX6_copy_113 : decode cX6_copy 113 = .ok (.i2l, 1) := by decide +kernel
theorem dX6_copy_114 : decode cX6_copy 114 = .ok (.iload 5, 2) := by decide +kernel
theorem dX6_copy_116 : decode cX6_copy 116 = .ok (.i2l, 1) := by decide +kernel
theorem dX6_copy_117 : decode cX6_copy 117 = .ok (.ladd, 1) := by decide +kernel
theorem dX6_copy_118 : decode cX6_copy 118 = .ok (.aload_n 0, 1) := by decide +kernel
theorem dX6_copy_119 : decode cX6_copy 119 = .ok (.getfield 63, 3) := by decide +kernel
theorem dX6_copy_122 : decode cX6_copy 122 = .ok (.iload_n 3, 1) := by decide +kernel
theorem dX6_copy_123 : decode cX6_copy 123 = .ok (.iaload, 1) := by decide +kernel
theorem dX6_copy_124 : decode cX6_copy 124 = .ok (.i2l, 1) := by decide +kernel
theorem dX6_copy_125 : decode cX6_copy 125 = .ok (.lcmp, 1) := by decide +kernel
theorem dX6_copy_126 : decode cX6_copy 126 = .ok (.ifCond .le 10, 3) := by decide +kernel
theorem dX6_copy_129 : decode cX6_copy 129 = .ok (.aload_n 0, 1) := by decide +kernel
theorem dX6_copy_130 : decode cX6_copy 130 = .ok (.bipush (-12), 2) := by decide +kernel
theorem dX6_copy_132 : decode cX6_copy 132 = .ok (.invokevirtual 154, 3) := by decide +kernel
theorem dX6_copy_135 : decode cX6_copy 135 = .ok (.ireturn, 1) := by decide +kernel
theorem dX6_copy_136 : decode cX6_copy 136 = .ok (.iconst 0, 1) := by decide +kernel
theorem dX6_copy_137 : decode cX6_copy 137 = .ok (.istore 6, 2) := by decide +kernel
theorem dX6_copy_139 : decode cX6_copy 139 = .ok (.iload 6, 2) := by decide +kernel
theorem dX6_copy_141 : decode cX6_copy 141 = .ok (.iload 5, 2) := by decide +kernel
theorem dX6_copy_143 : decode cX6_copy 143 = .ok (.if_icmp .ge 30, 3) := by decide +kernel
theorem dX6_copy_146 : decode cX6_copy 146 = .ok (.aload_n 0, 1) := by decide +kernel
theorem dX6_copy_147 : decode cX6_copy 147 = .ok (.getfield 72, 3) := by decide +kernel
theorem dX6_copy_150 : decode cX6_copy 150 = .ok (.iload 6, 2) := by decide +kernel
theorem dX6_copy_152 : decode cX6_copy 152 = .ok (.aload_n 0, 1) := by decide +kernel
theorem dX6_copy_153 : decode cX6_copy 153 = .ok (.getfield 69, 3) := by decide +kernel
theorem dX6_copy_156 : decode cX6_copy 156 = .ok (.bipush 64, 2) := by decide +kernel
theorem dX6_copy_158 : decode cX6_copy 158 = .ok (.iload_n 1, 1) := by decide +kernel
theorem dX6_copy_159 : decode cX6_copy 159 = .ok (.imul, 1) := by decide +kernel
theorem dX6_copy_160 : decode cX6_copy 160 = .ok (.iload_n 2, 1) := by decide +kernel
theorem dX6_copy_161 : decode cX6_copy 161 = .ok (.iadd, 1) := by decide +kernel
theorem dX6_copy_162 : decode cX6_copy 162 = .ok (.iload 6, 2) := by decide +kernel
theorem dX6_copy_164 : decode cX6_copy 164 = .ok (.iadd, 1) := by decide +kernel
theorem dX6_copy_165 : decode cX6_copy 165 = .ok (.iaload, 1) := by decide +kernel
theorem dX6_copy_166 : decode cX6_copy 166 = .ok (.iastore, 1) := by decide +kernel
theorem dX6_copy_167 : decode cX6_copy 167 = .ok (.iinc 6 1, 3) := by decide +kernel
theorem dX6_copy_170 : decode cX6_copy 170 = .ok (.goto (-31), 3) := by decide +kernel
theorem dX6_copy_173 : decode cX6_copy 173 = .ok (.iconst 0, 1) := by decide +kernel
theorem dX6_copy_174 : decode cX6_copy 174 = .ok (.istore 6, 2) := by decide +kernel
theorem dX6_copy_176 : decode cX6_copy 176 = .ok (.iload 6, 2) := by decide +kernel
theorem dX6_copy_178 : decode cX6_copy 178 = .ok (.iload 5, 2) := by decide +kernel
theorem dX6_copy_180 : decode cX6_copy 180 = .ok (.if_icmp .ge 31, 3) := by decide +kernel
theorem dX6_copy_183 : decode cX6_copy 183 = .ok (.aload_n 0, 1) := by decide +kernel
theorem dX6_copy_184 : decode cX6_copy 184 = .ok (.getfield 69, 3) := by decide +kernel
theorem dX6_copy_187 : decode cX6_copy 187 = .ok (.bipush 64, 2) := by decide +kernel
theorem dX6_copy_189 : decode cX6_copy 189 = .ok (.iload_n 3, 1) := by decide +kernel
theorem dX6_copy_190 : decode cX6_copy 190 = .ok (.imul, 1) := by decide +kernel
theorem dX6_copy_191 : decode cX6_copy 191 = .ok (.iload 4, 2) := by decide +kernel
theorem dX6_copy_193 : decode cX6_copy 193 = .ok (.iadd, 1) := by decide +kernel
theorem dX6_copy_194 : decode cX6_copy 194 = .ok (.iload 6, 2) := by decide +kernel
theorem dX6_copy_196 : decode cX6_copy 196 = .ok (.iadd, 1) := by decide +kernel
theorem dX6_copy_197 : decode cX6_copy 197 = .ok (.aload_n 0, 1) := by decide +kernel
theorem dX6_copy_198 : decode cX6_copy 198 = .ok (.getfield 72, 3) := by decide +kernel
theorem dX6_copy_201 : decode cX6_copy 201 = .ok (.iload 6, 2) := by decide +kernel
theorem dX6_copy_203 : decode cX6_copy 203 = .ok (.iaload, 1) := by decide +kernel
theorem dX6_copy_204 : decode cX6_copy 204 = .ok (.iastore, 1) := by decide +kernel
theorem dX6_copy_205 : decode cX6_copy 205 = .ok (.iinc 6 1, 3) := by decide +kernel
theorem dX6_copy_208 : decode cX6_copy 208 = .ok (.goto (-32), 3) := by decide +kernel
theorem dX6_copy_211 : decode cX6_copy 211 = .ok (.iload 5, 2) := by decide +kernel
theorem dX6_copy_213 : decode cX6_copy 213 = .ok (.ireturn, 1) := by decide +kernel
set_option maxRecDepth 20000 in
theorem ggX6_at_X6_isSheet : GoodIn wsX6_at wsX6_isSheet := goodIn_r _ [7, 8, 9, 10, 6, 11] (by decide +kernel) (by decide +kernel)
set_option maxRecDepth 20000 in
theorem gX6_at_X6_isSheet : GoodIn wsX6_at (va_wsS RX6 189 yX6_isSheet wsX6_isSheet) := goodIn_app (goodIn_of _ (by decide +kernel)) ggX6_at_X6_isSheet
set_option maxRecDepth 20000 in
theorem ggX6_at_X6_finds : GoodIn wsX6_at wsX6_finds := goodIn_r _ [15, 16, 17, 18, 19, 20, 21, 22, 23, 24, 25, 26, 27, 28, 29, 30, 31, 32, 33, 34, 35, 36, 37, 38, 39, 40, 41, 42, 43, 44] (by decide +kernel) (by decide +kernel)
set_option maxRecDepth 20000 in
theorem gX6_at_X6_finds : GoodIn wsX6_at (wsV RX6 154 RX6 yX6_finds wsX6_finds) := goodIn_app (goodIn_of _ (by decide +kernel)) ggX6_at_X6_finds
set_option maxRecDepth 20000 in
theorem ggX6_at_X6_in : GoodIn wsX6_at wsX6_in := goodIn_r _ [11] (by decide +kernel) (by decide +kernel)
set_option maxRecDepth 20000 in
theorem gX6_at_X6_in : GoodIn wsX6_at (va_wsS RX6 86 yX6_in wsX6_in) := goodIn_app (goodIn_of _ (by decide +kernel)) ggX6_at_X6_in
theorem dX6_at_0 : decode cX6_at 0 = .ok (.aload_n 0, 1) := by decide +kernel
theorem dX6_at_1 : decode cX6_at 1 = .ok (.iconst 0, 1) := by decide +kernel
theorem dX6_at_2 : decode cX6_at 2 = .ok (.putfield 75, 3) := by decide +kernel
theorem dX6_at_5 : decode cX6_at 5 = .ok (.iload_n 1, 1) := by decide +kernel
theorem dX6_at_6 : decode cX6_at 6 = .ok (.invokestatic 189, 3) := by decide +kernel
theorem dX6_at_9 : decode cX6_at 9 = .ok (.ifCond .ne 10, 3) := by decide +kernel
theorem dX6_at_12 : decode cX6_at 12 = .ok (.aload_n 0, 1) := by decide +kernel
theorem dX6_at_13 : decode cX6_at 13 = .ok (.bipush (-12), 2) := by decide +kernel
theorem dX6_at_15 : decode cX6_at 15 = .ok (.invokevirtual 154, 3) := by decide +kernel
theorem dX6_at_18 : decode cX6_at 18 = .ok (.ireturn, 1) := by decide +kernel
theorem dX6_at_19 : decode cX6_at 19 = .ok (.aload_n 0, 1) := by decide +kernel
theorem dX6_at_20 : decode cX6_at 20 = .ok (.getfield 63, 3) := by decide +kernel
theorem dX6_at_23 : decode cX6_at 23 = .ok (.iload_n 1, 1) := by decide +kernel
theorem dX6_at_24 : decode cX6_at 24 = .ok (.iaload, 1) := by decide +kernel
theorem dX6_at_25 : decode cX6_at 25 = .ok (.ifCond .ge 10, 3) := by decide +kernel
theorem dX6_at_28 : decode cX6_at 28 = .ok (.aload_n 0, 1) := by decide +kernel
theorem dX6_at_29 : decode cX6_at 29 = .ok (.bipush (-11), 2) := by decide +kernel
theorem dX6_at_31 : decode cX6_at 31 = .ok (.invokevirtual 154, 3) := by decide +kernel
theorem dX6_at_34 : decode cX6_at 34 = .ok (.ireturn, 1) := by decide +kernel
theorem dX6_at_35 : decode cX6_at 35 = .ok (.iload_n 2, 1) := by decide +kernel
theorem dX6_at_36 : decode cX6_at 36 = .ok (.i2l, 1) := by decide +kernel
theorem dX6_at_37 : decode cX6_at 37 = .ok (.lconst 0, 1) := by decide +kernel
theorem dX6_at_38 : decode cX6_at 38 = .ok (.aload_n 0, 1) := by decide +kernel
theorem dX6_at_39 : decode cX6_at 39 = .ok (.getfield 63, 3) := by decide +kernel
theorem dX6_at_42 : decode cX6_at 42 = .ok (.iload_n 1, 1) := by decide +kernel
theorem dX6_at_43 : decode cX6_at 43 = .ok (.iaload, 1) := by decide +kernel
theorem dX6_at_44 : decode cX6_at 44 = .ok (.iconst 1, 1) := by decide +kernel
theorem dX6_at_45 : decode cX6_at 45 = .ok (.isub, 1) := by decide +kernel
theorem dX6_at_46 : decode cX6_at 46 = .ok (.i2l, 1) := by decide +kernel
theorem dX6_at_47 : decode cX6_at 47 = .ok (.invokestatic 86, 3) := by decide +kernel
theorem dX6_at_50 : decode cX6_at 50 = .ok (.ifCond .eq 17, 3) := by decide +kernel
theorem dX6_at_53 : decode cX6_at 53 = .ok (.aload_n 0, 1) := by decide +kernel
theorem dX6_at_54 : decode cX6_at 54 = .ok (.getfield 69, 3) := by decide +kernel
theorem dX6_at_57 : decode cX6_at 57 = .ok (.bipush 64, 2) := by decide +kernel
theorem dX6_at_59 : decode cX6_at 59 = .ok (.iload_n 1, 1) := by decide +kernel
theorem dX6_at_60 : decode cX6_at 60 = .ok (.imul, 1) := by decide +kernel
theorem dX6_at_61 : decode cX6_at 61 = .ok (.iload_n 2, 1) := by decide +kernel
theorem dX6_at_62 : decode cX6_at 62 = .ok (.iadd, 1) := by decide +kernel
theorem dX6_at_63 : decode cX6_at 63 = .ok (.iaload, 1) := by decide +kernel
theorem dX6_at_64 : decode cX6_at 64 = .ok (.goto 9, 3) := by decide +kernel
theorem dX6_at_67 : decode cX6_at 67 = .ok (.aload_n 0, 1) := by decide +kernel
theorem dX6_at_68 : decode cX6_at 68 = .ok (.bipush (-12), 2) := by decide +kernel
theorem dX6_at_70 : decode cX6_at 70 = .ok (.invokevirtual 154, 3) := by decide +kernel
theorem dX6_at_73 : decode cX6_at 73 = .ok (.ireturn, 1) := by decide +kernel
set_option maxRecDepth 20000 in
theorem ggX6_peak_X6_isSheet : GoodIn wsX6_peak wsX6_isSheet := goodIn_r _ [9, 10, 11, 12, 8, 13] (by decide +kernel) (by decide +kernel)
set_option maxRecDepth 20000 in
theorem gX6_peak_X6_isSheet : GoodIn wsX6_peak (va_wsS RX6 189 yX6_isSheet wsX6_isSheet) := goodIn_app (goodIn_of _ (by decide +kernel)) ggX6_peak_X6_isSheet
set_option maxRecDepth 20000 in
theorem ggX6_peak_X6_finds : GoodIn wsX6_peak wsX6_finds := goodIn_r _ [17, 18, 19, 20, 21, 22, 23, 24, 25, 26, 27, 28, 29, 30, 31, 32, 33, 34, 35, 36, 37, 38, 39, 40, 41, 42, 43, 44, 45, 46] (by decide +kernel) (by decide +kernel)
set_option maxRecDepth 20000 in
theorem gX6_peak_X6_finds : GoodIn wsX6_peak (wsV RX6 154 RX6 yX6_finds wsX6_finds) := goodIn_app (goodIn_of _ (by decide +kernel)) ggX6_peak_X6_finds
theorem dX6_peak_0 : decode cX6_peak 0 = .ok (.aload_n 0, 1) := by decide +kernel
theorem dX6_peak_1 : decode cX6_peak 1 = .ok (.iconst 0, 1) := by decide +kernel
theorem dX6_peak_2 : decode cX6_peak 2 = .ok (.putfield 75, 3) := by decide +kernel
theorem dX6_peak_5 : decode cX6_peak 5 = .ok (.iload_n 1, 1) := by decide +kernel
theorem dX6_peak_6 : decode cX6_peak 6 = .ok (.invokestatic 189, 3) := by decide +kernel
theorem dX6_peak_9 : decode cX6_peak 9 = .ok (.ifCond .ne 10, 3) := by decide +kernel
theorem dX6_peak_12 : decode cX6_peak 12 = .ok (.aload_n 0, 1) := by decide +kernel
theorem dX6_peak_13 : decode cX6_peak 13 = .ok (.bipush (-12), 2) := by decide +kernel
theorem dX6_peak_15 : decode cX6_peak 15 = .ok (.invokevirtual 154, 3) := by decide +kernel
theorem dX6_peak_18 : decode cX6_peak 18 = .ok (.ireturn, 1) := by decide +kernel
theorem dX6_peak_19 : decode cX6_peak 19 = .ok (.aload_n 0, 1) := by decide +kernel
theorem dX6_peak_20 : decode cX6_peak 20 = .ok (.getfield 63, 3) := by decide +kernel
theorem dX6_peak_23 : decode cX6_peak 23 = .ok (.iload_n 1, 1) := by decide +kernel
theorem dX6_peak_24 : decode cX6_peak 24 = .ok (.iaload, 1) := by decide +kernel
theorem dX6_peak_25 : decode cX6_peak 25 = .ok (.ifCond .ge 10, 3) := by decide +kernel
theorem dX6_peak_28 : decode cX6_peak 28 = .ok (.aload_n 0, 1) := by decide +kernel
theorem dX6_peak_29 : decode cX6_peak 29 = .ok (.bipush (-11), 2) := by decide +kernel
theorem dX6_peak_31 : decode cX6_peak 31 = .ok (.invokevirtual 154, 3) := by decide +kernel
theorem dX6_peak_34 : decode cX6_peak 34 = .ok (.ireturn, 1) := by decide +kernel
theorem dX6_peak_35 : decode cX6_peak 35 = .ok (.ldc 161, 2) := by decide +kernel
theorem dX6_peak_37 : decode cX6_peak 37 = .ok (.istore_n 2, 1) := by decide +kernel
theorem dX6_peak_38 : decode cX6_peak 38 = .ok (.ldc2_w 195, 3) := by decide +kernel
theorem dX6_peak_41 : decode cX6_peak 41 = .ok (.lstore_n 3, 1) := by decide +kernel
theorem dX6_peak_42 : decode cX6_peak 42 = .ok (.iconst 0, 1) := by decide +kernel
theorem dX6_peak_43 : decode cX6_peak 43 = .ok (.istore 5, 2) := by decide +kernel
theorem dX6_peak_45 : decode cX6_peak 45 = .ok (.iload 5, 2) := by decide +kernel
theorem dX6_peak_47 : decode cX6_peak 47 = .ok (.aload_n 0, 1) := by decide +kernel
theorem dX6_peak_48 : decode cX6_peak 48 = .ok (.getfield 63, 3) := by decide +kernel
theorem dX6_peak_51 : decode cX6_peak 51 = .ok (.iload_n 1, 1) := by decide +kernel
theorem dX6_peak_52 : decode cX6_peak 52 = .ok (.iaload, 1) := by decide +kernel
theorem dX6_peak_53 : decode cX6_peak 53 = .ok (.if_icmp .ge 54, 3) := by decide +kernel
theorem dX6_peak_56 : decode cX6_peak 56 = .ok (.aload_n 0, 1) := by decide +kernel
theorem dX6_peak_57 : decode cX6_peak 57 = .ok (.getfield 69, 3) := by decide +kernel
theorem dX6_peak_60 : decode cX6_peak 60 = .ok (.bipush 64, 2) := by decide +kernel
theorem dX6_peak_62 : decode cX6_peak 62 = .ok (.iload_n 1, 1) := by decide +kernel
theorem dX6_peak_63 : decode cX6_peak 63 = .ok (.imul, 1) := by decide +kernel
theorem dX6_peak_64 : decode cX6_peak 64 = .ok (.iload 5, 2) := by decide +kernel
theorem dX6_peak_66 : decode cX6_peak 66 = .ok (.iadd, 1) := by decide +kernel
theorem dX6_peak_67 : decode cX6_peak 67 = .ok (.iaload, 1) := by decide +kernel
theorem dX6_peak_68 : decode cX6_peak 68 = .ok (.i2l, 1) := by decide +kernel
theorem dX6_peak_69 : decode cX6_peak 69 = .ok (.lstore 6, 2) := by decide +kernel
theorem dX6_peak_71 : decode cX6_peak 71 = .ok (.lload 6, 2) := by decide +kernel
theorem dX6_peak_73 : decode cX6_peak 73 = .ok (.lconst 0, 1) := by decide +kernel
theorem dX6_peak_74 : decode cX6_peak 74 = .ok (.lcmp, 1) := by decide +kernel
theorem dX6_peak_75 : decode cX6_peak 75 = .ok (.ifCond .ge 9, 3) := by decide +kernel
theorem dX6_peak_78 : decode cX6_peak 78 = .ok (.lload 6, 2) := by decide +kernel
theorem dX6_peak_80 : decode cX6_peak 80 = .ok (.lneg, 1) := by decide +kernel
theorem dX6_peak_81 : decode cX6_peak 81 = .ok (.goto 5, 3) := by decide +kernel
theorem dX6_peak_84 : decode cX6_peak 84 = .ok (.lload 6, 2) := by decide +kernel
theorem dX6_peak_86 : decode cX6_peak 86 = .ok (.lstore 6, 2) := by decide +kernel
theorem dX6_peak_88 : decode cX6_peak 88 = .ok (.lload 6, 2) := by decide +kernel
theorem dX6_peak_90 : decode cX6_peak 90 = .ok (.lload_n 3, 1) := by decide +kernel
theorem dX6_peak_91 : decode cX6_peak 91 = .ok (.lcmp, 1) := by decide +kernel
theorem dX6_peak_92 : decode cX6_peak 92 = .ok (.ifCond .le 9, 3) := by decide +kernel
theorem dX6_peak_95 : decode cX6_peak 95 = .ok (.iload 5, 2) := by decide +kernel
theorem dX6_peak_97 : decode cX6_peak 97 = .ok (.istore_n 2, 1) := by decide +kernel
theorem dX6_peak_98 : decode cX6_peak 98 = .ok (.lload 6, 2) := by decide +kernel
theorem dX6_peak_100 : decode cX6_peak 100 = .ok (.lstore_n 3, 1) := by decide +kernel
theorem dX6_peak_101 : decode cX6_peak 101 = .ok (.iinc 5 1, 3) := by decide +kernel
theorem dX6_peak_104 : decode cX6_peak 104 = .ok (.goto (-59), 3) := by decide +kernel
theorem dX6_peak_107 : decode cX6_peak 107 = .ok (.iload_n 2, 1) := by decide +kernel
theorem dX6_peak_108 : decode cX6_peak 108 = .ok (.ireturn, 1) := by decide +kernel
set_option maxRecDepth 20000 in
theorem ggX6_total_X6_working : GoodIn wsX6_total wsX6_working := goodIn_r _ [12, 3, 13, 20, 21, 22, 23, 24, 25, 26, 27, 28, 29, 30, 31, 32, 33, 34, 35, 36, 37, 38, 39, 40, 41, 42, 43, 44, 45, 46, 47] (by decide +kernel) (by decide +kernel)
set_option maxRecDepth 20000 in
theorem gX6_total_X6_working : GoodIn wsX6_total (wsV RX6 139 RX6 yX6_working wsX6_working) := goodIn_app (goodIn_of _ (by decide +kernel)) ggX6_total_X6_working
set_option maxRecDepth 20000 in
theorem ggX6_total_X6_floor : GoodIn wsX6_total wsX6_floor := goodIn_r _ [17, 18, 19, 20, 21, 22, 23, 24, 25, 26, 27, 28, 29, 30, 31, 32, 33, 34, 35, 36, 37, 38, 39, 40, 41, 42, 43, 44, 45, 46, 47] (by decide +kernel) (by decide +kernel)
set_option maxRecDepth 20000 in
theorem gX6_total_X6_floor : GoodIn wsX6_total (wsV RX6 90 RX6 yX6_floor wsX6_floor) := goodIn_app (goodIn_of _ (by decide +kernel)) ggX6_total_X6_floor
theorem dX6_total_0 : decode cX6_total 0 = .ok (.aload_n 0, 1) := by decide +kernel
theorem dX6_total_1 : decode cX6_total 1 = .ok (.iconst 0, 1) := by decide +kernel
theorem dX6_total_2 : decode cX6_total 2 = .ok (.putfield 75, 3) := by decide +kernel
theorem dX6_total_5 : decode cX6_total 5 = .ok (.iconst 0, 1) := by decide +kernel
theorem dX6_total_6 : decode cX6_total 6 = .ok (.istore_n 2, 1) := by decide +kernel
theorem dX6_total_7 : decode cX6_total 7 = .ok (.iconst 0, 1) := by decide +kernel
theorem dX6_total_8 : decode cX6_total 8 = .ok (.istore_n 3, 1) := by decide +kernel
theorem dX6_total_9 : decode cX6_total 9 = .ok (.iload_n 3, 1) := by decide +kernel
theorem dX6_total_10 : decode cX6_total 10 = .ok (.bipush 6, 2) := by decide +kernel
theorem dX6_total_12 : decode cX6_total 12 = .ok (.if_icmp .ge 26, 3) := by decide +kernel
theorem dX6_total_15 : decode cX6_total 15 = .ok (.iload_n 2, 1) := by decide +kernel
theorem dX6_total_16 : decode cX6_total 16 = .ok (.aload_n 0, 1) := by decide +kernel
theorem dX6_total_17 : decode cX6_total 17 = .ok (.getfield 63, 3) := by decide +kernel
theorem dX6_total_20 : decode cX6_total 20 = .ok (.iload_n 3, 1) := by decide +kernel
theorem dX6_total_21 : decode cX6_total 21 = .ok (.iaload, 1) := by decide +kernel
theorem dX6_total_22 : decode cX6_total 22 = .ok (.ifCond .ge 7, 3) := by decide +kernel
theorem dX6_total_25 : decode cX6_total 25 = .ok (.iconst 0, 1) := by decide +kernel
theorem dX6_total_26 : decode cX6_total 26 = .ok (.goto 4, 3) := by decide +kernel
theorem dX6_total_29 : decode cX6_total 29 = .ok (.iconst 1, 1) := by decide +kernel
theorem dX6_total_30 : decode cX6_total 30 = .ok (.iadd, 1) := by decide +kernel
theorem dX6_total_31 : decode cX6_total 31 = .ok (.istore_n 2, 1) := by decide +kernel
theorem dX6_total_32 : decode cX6_total 32 = .ok (.iinc 3 1, 3) := by decide +kernel
theorem dX6_total_35 : decode cX6_total 35 = .ok (.goto (-26), 3) := by decide +kernel
theorem dX6_total_38 : decode cX6_total 38 = .ok (.iload_n 1, 1) := by decide +kernel
theorem dX6_total_39 : decode cX6_total 39 = .ok (.tableswitch 90 0 7 #[45, 50, 55, 60, 65, 70, 72, 77], 45) := by decide +kernel
theorem dX6_total_84 : decode cX6_total 84 = .ok (.aload_n 0, 1) := by decide +kernel
theorem dX6_total_85 : decode cX6_total 85 = .ok (.getfield 94, 3) := by decide +kernel
theorem dX6_total_88 : decode cX6_total 88 = .ok (.ireturn, 1) := by decide +kernel
theorem dX6_total_89 : decode cX6_total 89 = .ok (.aload_n 0, 1) := by decide +kernel
theorem dX6_total_90 : decode cX6_total 90 = .ok (.invokevirtual 139, 3) := by decide +kernel
theorem dX6_total_93 : decode cX6_total 93 = .ok (.ireturn, 1) := by decide +kernel
theorem dX6_total_94 : decode cX6_total 94 = .ok (.aload_n 0, 1) := by decide +kernel
theorem dX6_total_95 : decode cX6_total 95 = .ok (.getfield 116, 3) := by decide +kernel
theorem dX6_total_98 : decode cX6_total 98 = .ok (.ireturn, 1) := by decide +kernel
theorem dX6_total_99 : decode cX6_total 99 = .ok (.aload_n 0, 1) := by decide +kernel
theorem dX6_total_100 : decode cX6_total 100 = .ok (.getfield 168, 3) := by decide +kernel
theorem dX6_total_103 : decode cX6_total 103 = .ok (.ireturn, 1) := by decide +kernel
theorem dX6_total_104 : decode cX6_total 104 = .ok (.aload_n 0, 1) := by decide +kernel
theorem dX6_total_105 : decode cX6_total 105 = .ok (.getfield 78, 3) := by decide +kernel
theorem dX6_total_108 : decode cX6_total 108 = .ok (.ireturn, 1) := by decide +kernel
theorem dX6_total_109 : decode cX6_total 109 = .ok (.iload_n 2, 1) := by decide +kernel
theorem dX6_total_110 : decode cX6_total 110 = .ok (.ireturn, 1) := by decide +kernel
theorem dX6_total_111 : decode cX6_total 111 = .ok (.aload_n 0, 1) := by decide +kernel
theorem dX6_total_112 : decode cX6_total 112 = .ok (.invokevirtual 90, 3) := by decide +kernel
theorem dX6_total_115 : decode cX6_total 115 = .ok (.ireturn, 1) := by decide +kernel
theorem dX6_total_116 : decode cX6_total 116 = .ok (.aload_n 0, 1) := by decide +kernel
theorem dX6_total_117 : decode cX6_total 117 = .ok (.getfield 128, 3) := by decide +kernel
theorem dX6_total_120 : decode cX6_total 120 = .ok (.ifCond .eq 7, 3) := by decide +kernel
theorem dX6_total_123 : decode cX6_total 123 = .ok (.iconst 1, 1) := by decide +kernel
theorem dX6_total_124 : decode cX6_total 124 = .ok (.goto 4, 3) := by decide +kernel
theorem dX6_total_127 : decode cX6_total 127 = .ok (.iconst 0, 1) := by decide +kernel
theorem dX6_total_128 : decode cX6_total 128 = .ok (.ireturn, 1) := by decide +kernel
theorem dX6_total_129 : decode cX6_total 129 = .ok (.bipush (-2), 2) := by decide +kernel
theorem dX6_total_131 : decode cX6_total 131 = .ok (.ireturn, 1) := by decide +kernel
theorem dJ9_abs_0f7a4_0 : decode cJ9_abs_0f7a4 0 = .ok (.iload_n 0, 1) := by decide +kernel
theorem dJ9_abs_0f7a4_1 : decode cJ9_abs_0f7a4 1 = .ok (.ifCond .ge 8, 3) := by decide +kernel
theorem dJ9_abs_0f7a4_4 : decode cJ9_abs_0f7a4 4 = .ok (.iload_n 0, 1) := by decide +kernel
theorem dJ9_abs_0f7a4_5 : decode cJ9_abs_0f7a4 5 = .ok (.ineg, 1) := by decide +kernel
theorem dJ9_abs_0f7a4_6 : decode cJ9_abs_0f7a4 6 = .ok (.goto 4, 3) := by decide +kernel
theorem dJ9_abs_0f7a4_9 : decode cJ9_abs_0f7a4 9 = .ok (.iload_n 0, 1) := by decide +kernel
theorem dJ9_abs_0f7a4_10 : decode cJ9_abs_0f7a4 10 = .ok (.ireturn, 1) := by decide +kernel
theorem dJ9_abs_067f4_0 : decode cJ9_abs_067f4 0 = .ok (.lload_n 0, 1) := by decide +kernel
theorem dJ9_abs_067f4_1 : decode cJ9_abs_067f4 1 = .ok (.lconst 0, 1) := by decide +kernel
theorem dJ9_abs_067f4_2 : decode cJ9_abs_067f4 2 = .ok (.lcmp, 1) := by decide +kernel
theorem dJ9_abs_067f4_3 : decode cJ9_abs_067f4 3 = .ok (.ifCond .ge 8, 3) := by decide +kernel
theorem dJ9_abs_067f4_6 : decode cJ9_abs_067f4 6 = .ok (.lload_n 0, 1) := by decide +kernel
theorem dJ9_abs_067f4_7 : decode cJ9_abs_067f4 7 = .ok (.lneg, 1) := by decide +kernel
theorem dJ9_abs_067f4_8 : decode cJ9_abs_067f4 8 = .ok (.goto 4, 3) := by decide +kernel
theorem dJ9_abs_067f4_11 : decode cJ9_abs_067f4 11 = .ok (.lload_n 0, 1) := by decide +kernel
theorem dJ9_abs_067f4_12 : decode cJ9_abs_067f4 12 = .ok (.lreturn, 1) := by decide +kernel
theorem dJ9_max_7cf53_0 : decode cJ9_max_7cf53 0 = .ok (.iload_n 0, 1) := by decide +kernel
theorem dJ9_max_7cf53_1 : decode cJ9_max_7cf53 1 = .ok (.iload_n 1, 1) := by decide +kernel
theorem dJ9_max_7cf53_2 : decode cJ9_max_7cf53 2 = .ok (.if_icmp .lt 7, 3) := by decide +kernel
theorem dJ9_max_7cf53_5 : decode cJ9_max_7cf53 5 = .ok (.iload_n 0, 1) := by decide +kernel
theorem dJ9_max_7cf53_6 : decode cJ9_max_7cf53 6 = .ok (.goto 4, 3) := by decide +kernel
theorem dJ9_max_7cf53_9 : decode cJ9_max_7cf53 9 = .ok (.iload_n 1, 1) := by decide +kernel
theorem dJ9_max_7cf53_10 : decode cJ9_max_7cf53 10 = .ok (.ireturn, 1) := by decide +kernel
theorem dJ9_max_f86c9_0 : decode cJ9_max_f86c9 0 = .ok (.lload_n 0, 1) := by decide +kernel
theorem dJ9_max_f86c9_1 : decode cJ9_max_f86c9 1 = .ok (.lload_n 2, 1) := by decide +kernel
theorem dJ9_max_f86c9_2 : decode cJ9_max_f86c9 2 = .ok (.lcmp, 1) := by decide +kernel
theorem dJ9_max_f86c9_3 : decode cJ9_max_f86c9 3 = .ok (.ifCond .lt 7, 3) := by decide +kernel
theorem dJ9_max_f86c9_6 : decode cJ9_max_f86c9 6 = .ok (.lload_n 0, 1) := by decide +kernel
theorem dJ9_max_f86c9_7 : decode cJ9_max_f86c9 7 = .ok (.goto 4, 3) := by decide +kernel
theorem dJ9_max_f86c9_10 : decode cJ9_max_f86c9 10 = .ok (.lload_n 2, 1) := by decide +kernel
theorem dJ9_max_f86c9_11 : decode cJ9_max_f86c9 11 = .ok (.lreturn, 1) := by decide +kernel
theorem dJ9_min_7cf53_0 : decode cJ9_min_7cf53 0 = .ok (.iload_n 0, 1) := by decide +kernel
theorem dJ9_min_7cf53_1 : decode cJ9_min_7cf53 1 = .ok (.iload_n 1, 1) := by decide +kernel
theorem dJ9_min_7cf53_2 : decode cJ9_min_7cf53 2 = .ok (.if_icmp .gt 7, 3) := by decide +kernel
theorem dJ9_min_7cf53_5 : decode cJ9_min_7cf53 5 = .ok (.iload_n 0, 1) := by decide +kernel
theorem dJ9_min_7cf53_6 : decode cJ9_min_7cf53 6 = .ok (.goto 4, 3) := by decide +kernel
theorem dJ9_min_7cf53_9 : decode cJ9_min_7cf53 9 = .ok (.iload_n 1, 1) := by decide +kernel
theorem dJ9_min_7cf53_10 : decode cJ9_min_7cf53 10 = .ok (.ireturn, 1) := by decide +kernel
theorem dJ9_min_f86c9_0 : decode cJ9_min_f86c9 0 = .ok (.lload_n 0, 1) := by decide +kernel
theorem dJ9_min_f86c9_1 : decode cJ9_min_f86c9 1 = .ok (.lload_n 2, 1) := by decide +kernel
theorem dJ9_min_f86c9_2 : decode cJ9_min_f86c9 2 = .ok (.lcmp, 1) := by decide +kernel
theorem dJ9_min_f86c9_3 : decode cJ9_min_f86c9 3 = .ok (.ifCond .gt 7, 3) := by decide +kernel
theorem dJ9_min_f86c9_6 : decode cJ9_min_f86c9 6 = .ok (.lload_n 0, 1) := by decide +kernel
theorem dJ9_min_f86c9_7 : decode cJ9_min_f86c9 7 = .ok (.goto 4, 3) := by decide +kernel
theorem dJ9_min_f86c9_10 : decode cJ9_min_f86c9 10 = .ok (.lload_n 2, 1) := by decide +kernel
theorem dJ9_min_f86c9_11 : decode cJ9_min_f86c9 11 = .ok (.lreturn, 1) := by decide +kernel
theorem dJ7_fill_53178_0 : decode cJ7_fill_53178 0 = .ok (.iconst 0, 1) := by decide +kernel
theorem dJ7_fill_53178_1 : decode cJ7_fill_53178 1 = .ok (.istore_n 2, 1) := by decide +kernel
theorem dJ7_fill_53178_2 : decode cJ7_fill_53178 2 = .ok (.aload_n 0, 1) := by decide +kernel
theorem dJ7_fill_53178_3 : decode cJ7_fill_53178 3 = .ok (.arraylength, 1) := by decide +kernel
theorem dJ7_fill_53178_4 : decode cJ7_fill_53178 4 = .ok (.istore_n 3, 1) := by decide +kernel
theorem dJ7_fill_53178_5 : decode cJ7_fill_53178 5 = .ok (.iload_n 2, 1) := by decide +kernel
theorem dJ7_fill_53178_6 : decode cJ7_fill_53178 6 = .ok (.iload_n 3, 1) := by decide +kernel
theorem dJ7_fill_53178_7 : decode cJ7_fill_53178 7 = .ok (.if_icmp .ge 13, 3) := by decide +kernel
theorem dJ7_fill_53178_10 : decode cJ7_fill_53178 10 = .ok (.aload_n 0, 1) := by decide +kernel
theorem dJ7_fill_53178_11 : decode cJ7_fill_53178 11 = .ok (.iload_n 2, 1) := by decide +kernel
theorem dJ7_fill_53178_12 : decode cJ7_fill_53178 12 = .ok (.iload_n 1, 1) := by decide +kernel
theorem dJ7_fill_53178_13 : decode cJ7_fill_53178 13 = .ok (.iastore, 1) := by decide +kernel
theorem dJ7_fill_53178_14 : decode cJ7_fill_53178 14 = .ok (.iinc 2 1, 3) := by decide +kernel
theorem dJ7_fill_53178_17 : decode cJ7_fill_53178 17 = .ok (.goto (-12), 3) := by decide +kernel
theorem dJ7_fill_53178_20 : decode cJ7_fill_53178 20 = .ok (.return_, 1) := by decide +kernel
