set_option maxRecDepth 20000 in
theorem ggX5_init_X1_init : GoodIn wsX5_init wsX1_init := goodIn_r _ [20, 21, 2, 3, 16, 22, 23, 24, 25, 26, 27, 28, 29, 6, 30, 31, 32, 33, 34, 35, 36, 37, 38, 39, 40, 41, 42, 43] (by decide +kernel) (by decide +kernel)
set_option maxRecDepth 20000 in
theorem gX5_init_X1_init : GoodIn wsX5_init (wsX1_init) := ggX5_init_X1_init
theorem dX5_init_0 : decode cX5_init 0 = .ok (.aload_n 0, 1) := by decide +kernel
theorem dX5_init_1 : decode cX5_init 1 = .ok (.invokespecial 3, 3) := by decide +kernel
theorem dX5_init_4 : decode cX5_init 4 = .ok (.aload_n 0, 1) := by decide +kernel
theorem dX5_init_5 : decode cX5_init 5 = .ok (.new 9, 3) := by decide +kernel
theorem dX5_init_8 : decode cX5_init 8 = .ok (.dup, 1) := by decide +kernel
theorem dX5_init_9 : decode cX5_init 9 = .ok (.invokespecial 11, 3) := by decide +kernel
theorem dX5_init_12 : decode cX5_init 12 = .ok (.putfield 12, 3) := by decide +kernel
theorem dX5_init_15 : decode cX5_init 15 = .ok (.aload_n 0, 1) := by decide +kernel
theorem dX5_init_16 : decode cX5_init 16 = .ok (.bipush 8, 2) := by decide +kernel
theorem dX5_init_18 : decode cX5_init 18 = .ok (.anewarray 16, 3) := by decide +kernel
theorem dX5_init_21 : decode cX5_init 21 = .ok (.putfield 18, 3) := by decide +kernel
theorem dX5_init_24 : decode cX5_init 24 = .ok (.aload_n 0, 1) := by decide +kernel
theorem dX5_init_25 : decode cX5_init 25 = .ok (.bipush 8, 2) := by decide +kernel
theorem dX5_init_27 : decode cX5_init 27 = .ok (.anewarray 22, 3) := by decide +kernel
theorem dX5_init_30 : decode cX5_init 30 = .ok (.putfield 24, 3) := by decide +kernel
theorem dX5_init_33 : decode cX5_init 33 = .ok (.aload_n 0, 1) := by decide +kernel
theorem dX5_init_34 : decode cX5_init 34 = .ok (.bipush 6, 2) := by decide +kernel
theorem dX5_init_36 : decode cX5_init 36 = .ok (.anewarray 28, 3) := by decide +kernel
theorem dX5_init_39 : decode cX5_init 39 = .ok (.putfield 30, 3) := by decide +kernel
theorem dX5_init_42 : decode cX5_init 42 = .ok (.aload_n 0, 1) := by decide +kernel
theorem dX5_init_43 : decode cX5_init 43 = .ok (.bipush 6, 2) := by decide +kernel
theorem dX5_init_45 : decode cX5_init 45 = .ok (.anewarray 34, 3) := by decide +kernel
theorem dX5_init_48 : decode cX5_init 48 = .ok (.putfield 36, 3) := by decide +kernel
theorem dX5_init_51 : decode cX5_init 51 = .ok (.aload_n 0, 1) := by decide +kernel
theorem dX5_init_52 : decode cX5_init 52 = .ok (.bipush 64, 2) := by decide +kernel
theorem dX5_init_54 : decode cX5_init 54 = .ok (.newarray .int, 2) := by decide +kernel
theorem dX5_init_56 : decode cX5_init 56 = .ok (.putfield 40, 3) := by decide +kernel
theorem dX5_init_59 : decode cX5_init 59 = .ok (.return_, 1) := by decide +kernel
set_option maxRecDepth 20000 in
theorem ggX5_body_X5_outside : GoodIn wsX5_body wsX5_outside := goodIn_r _ [9] (by decide +kernel) (by decide +kernel)
set_option maxRecDepth 20000 in
theorem gX5_body_X5_outside : GoodIn wsX5_body (va_wsS RX5 44 yX5_outside wsX5_outside) := goodIn_app (goodIn_of _ (by decide +kernel)) ggX5_body_X5_outside
set_option maxRecDepth 20000 in
theorem ggX5_body_X1_lay : GoodIn wsX5_body wsX1_lay := goodIn_r _ [14, 15, 16, 17, 18, 19, 20, 21, 13, 22, 54, 55, 56, 57, 58, 59, 60] (by decide +kernel) (by decide +kernel)
set_option maxRecDepth 20000 in
theorem gX5_body_X1_lay : GoodIn wsX5_body (wsV RX5 55 RX1 yX1_lay wsX1_lay) := goodIn_app (goodIn_of _ (by decide +kernel)) ggX5_body_X1_lay
set_option maxRecDepth 20000 in
theorem ggX5_body_X3_forgetTimes : GoodIn wsX5_body wsX3_forgetTimes := goodIn_r _ [27, 28, 29, 30, 31, 32, 48, 49, 50, 51, 52, 53] (by decide +kernel) (by decide +kernel)
set_option maxRecDepth 20000 in
theorem gX5_body_X3_forgetTimes : GoodIn wsX5_body (wsV RX5 59 RX3 yX3_forgetTimes wsX3_forgetTimes) := goodIn_app (goodIn_of _ (by decide +kernel)) ggX5_body_X3_forgetTimes
set_option maxRecDepth 20000 in
theorem ggX5_body_X1_floor : GoodIn wsX5_body wsX1_floor := goodIn_r _ [36, 15, 16, 54, 55, 56, 57, 58, 59, 60] (by decide +kernel) (by decide +kernel)
set_option maxRecDepth 20000 in
theorem gX5_body_X1_floor : GoodIn wsX5_body (wsV RX5 66 RX1 yX1_floor wsX1_floor) := goodIn_app (goodIn_of _ (by decide +kernel)) ggX5_body_X1_floor
theorem dX5_body_0 : decode cX5_body 0 = .ok (.iload_n 1, 1) := by decide +kernel
theorem dX5_body_1 : decode cX5_body 1 = .ok (.iconst 0, 1) := by decide +kernel
theorem dX5_body_2 : decode cX5_body 2 = .ok (.bipush 20, 2) := by decide +kernel
theorem dX5_body_4 : decode cX5_body 4 = .ok (.invokestatic 44, 3) := by decide +kernel
theorem dX5_body_7 : decode cX5_body 7 = .ok (.ifCond .ne 13, 3) := by decide +kernel
theorem dX5_body_10 : decode cX5_body 10 = .ok (.iload_n 2, 1) := by decide +kernel
theorem dX5_body_11 : decode cX5_body 11 = .ok (.iconst 1, 1) := by decide +kernel
theorem dX5_body_12 : decode cX5_body 12 = .ok (.bipush 30, 2) := by decide +kernel
theorem dX5_body_14 : decode cX5_body 14 = .ok (.invokestatic 44, 3) := by decide +kernel
theorem dX5_body_17 : decode cX5_body 17 = .ok (.ifCond .eq 6, 3) := by decide +kernel
theorem dX5_body_20 : decode cX5_body 20 = .ok (.bipush (-2), 2) := by decide +kernel
theorem dX5_body_22 : decode cX5_body 22 = .ok (.ireturn, 1) := by decide +kernel
theorem dX5_body_23 : decode cX5_body 23 = .ok (.iload_n 3, 1) := by decide +kernel
theorem dX5_body_24 : decode cX5_body 24 = .ok (.iconst 1, 1) := by decide +kernel
theorem dX5_body_25 : decode cX5_body 25 = .ok (.bipush 8, 2) := by decide +kernel
theorem dX5_body_27 : decode cX5_body 27 = .ok (.invokestatic 44, 3) := by decide +kernel
theorem dX5_body_30 : decode cX5_body 30 = .ok (.ifCond .ne 14, 3) := by decide +kernel
theorem dX5_body_33 : decode cX5_body 33 = .ok (.iload 4, 2) := by decide +kernel
theorem dX5_body_35 : decode cX5_body 35 = .ok (.iconst 1, 1) := by decide +kernel
theorem dX5_body_36 : decode cX5_body 36 = .ok (.bipush 8, 2) := by decide +kernel
theorem dX5_body_38 : decode cX5_body 38 = .ok (.invokestatic 44, 3) := by decide +kernel
theorem dX5_body_41 : decode cX5_body 41 = .ok (.ifCond .eq 6, 3) := by decide +kernel
theorem dX5_body_44 : decode cX5_body 44 = .ok (.bipush (-2), 2) := by decide +kernel
theorem dX5_body_46 : decode cX5_body 46 = .ok (.ireturn, 1) := by decide +kernel
theorem dX5_body_47 : decode cX5_body 47 = .ok (.aload_n 0, 1) := by decide +kernel
theorem dX5_body_48 : decode cX5_body 48 = .ok (.getfield 24, 3) := by decide +kernel
theorem dX5_body_51 : decode cX5_body 51 = .ok (.astore 5, 2) := by decide +kernel
theorem dX5_body_53 : decode cX5_body 53 = .ok (.aload 5, 2) := by decide +kernel
theorem dX5_body_55 : decode cX5_body 55 = .ok (.arraylength, 1) := by decide +kernel
theorem dX5_body_56 : decode cX5_body 56 = .ok (.istore 6, 2) := by decide +kernel
theorem dX5_body_58 : decode cX5_body 58 = .ok (.iconst 0, 1) := by decide +kernel
theorem dX5_body_59 : decode cX5_body 59 = .ok (.istore 7, 2) := by decide +kernel
theorem dX5_body_61 : decode cX5_body 61 = .ok (.iload 7, 2) := by decide +kernel
theorem dX5_body_63 : decode cX5_body 63 = .ok (.iload 6, 2) := by decide +kernel
theorem dX5_body_65 : decode cX5_body 65 = .ok (.if_icmp .ge 48, 3) := by decide +kernel
theorem dX5_body_68 : decode cX5_body 68 = .ok (.aload 5, 2) := by decide +kernel
theorem dX5_body_70 : decode cX5_body 70 = .ok (.iload 7, 2) := by decide +kernel
theorem dX5_body_72 : decode cX5_body 72 = .ok (.aaload, 1) := by decide +kernel
theorem dX5_body_73 : decode cX5_body 73 = .ok (.astore 8, 2) := by decide +kernel
theorem dX5_body_75 : decode cX5_body 75 = .ok (.aload 8, 2) := by decide +kernel
theorem dX5_body_77 : decode cX5_body 77 = .ok (.ifnull 30, 3) := by decide +kernel
theorem dX5_body_80 : decode cX5_body 80 = .ok (.aload 8, 2) := by decide +kernel
theorem dX5_body_82 : decode cX5_body 82 = .ok (.getfield 48, 3) := by decide +kernel
theorem dX5_body_85 : decode cX5_body 85 = .ok (.iconst 2, 1) := by decide +kernel
theorem dX5_body_86 : decode cX5_body 86 = .ok (.if_icmp .eq 21, 3) := by decide +kernel
theorem dX5_body_89 : decode cX5_body 89 = .ok (.aload 8, 2) := by decide +kernel
theorem dX5_body_91 : decode cX5_body 91 = .ok (.getfield 52, 3) := by decide +kernel
theorem dX5_body_94 : decode cX5_body 94 = .ok (.iload_n 1, 1) := by decide +kernel
theorem dX5_body_95 : decode cX5_body 95 = .ok (.iload_n 1, 1) := by decide +kernel
theorem dX5_body_96 : decode cX5_body 96 = .ok (.iload_n 2, 1) := by decide +kernel
theorem dX5_body_97 : decode cX5_body 97 = .ok (.iadd, 1) := by decide +kernel
theorem dX5_body_98 : decode cX5_body 98 = .ok (.invokestatic 44, 3) := by decide +kernel
theorem dX5_body_101 : decode cX5_body 101 = .ok (.ifCond .eq 6, 3) := by decide +kernel
theorem dX5_body_104 : decode cX5_body 104 = .ok (.bipush (-3), 2) := by decide +kernel
theorem dX5_body_106 : decode cX5_body 106 = .ok (.ireturn, 1) := by decide +kernel
theorem dX5_body_107 : decode cX5_body 107 = .ok (.iinc 7 1, 3) := by decide +kernel
theorem dX5_body_110 : decode cX5_body 110 = .ok (.goto (-49), 3) := by decide +kernel
theorem dX5_body_113 : decode cX5_body 113 = .ok (.aload_n 0, 1) := by decide +kernel
theorem dX5_body_114 : decode cX5_body 114 = .ok (.getfield 12, 3) := by decide +kernel
theorem dX5_body_117 : decode cX5_body 117 = .ok (.iload_n 1, 1) := by decide +kernel
theorem dX5_body_118 : decode cX5_body 118 = .ok (.iload_n 2, 1) := by decide +kernel
theorem dX5_body_119 : decode cX5_body 119 = .ok (.iload_n 3, 1) := by decide +kernel
theorem dX5_body_120 : decode cX5_body 120 = .ok (.iload 4, 2) := by decide +kernel
theorem dX5_body_122 : decode cX5_body 122 = .ok (.invokevirtual 55, 3) := by decide +kernel
theorem dX5_body_125 : decode cX5_body 125 = .ok (.aload_n 0, 1) := by decide +kernel
theorem dX5_body_126 : decode cX5_body 126 = .ok (.getfield 24, 3) := by decide +kernel
theorem dX5_body_129 : decode cX5_body 129 = .ok (.astore 5, 2) := by decide +kernel
theorem dX5_body_131 : decode cX5_body 131 = .ok (.aload 5, 2) := by decide +kernel
theorem dX5_body_133 : decode cX5_body 133 = .ok (.arraylength, 1) := by decide +kernel
theorem dX5_body_134 : decode cX5_body 134 = .ok (.istore 6, 2) := by decide +kernel
theorem dX5_body_136 : decode cX5_body 136 = .ok (.iconst 0, 1) := by decide +kernel
theorem dX5_body_137 : decode cX5_body 137 = .ok (.istore 7, 2) := by decide +kernel
theorem dX5_body_139 : decode cX5_body 139 = .ok (.iload 7, 2) := by decide +kernel
theorem dX5_body_141 : decode cX5_body 141 = .ok (.iload 6, 2) := by decide +kernel
theorem dX5_body_143 : decode cX5_body 143 = .ok (.if_icmp .ge 26, 3) := by decide +kernel
theorem dX5_body_146 : decode cX5_body 146 = .ok (.aload 5, 2) := by decide +kernel
theorem dX5_body_148 : decode cX5_body 148 = .ok (.iload 7, 2) := by decide +kernel
theorem dX5_body_150 : decode cX5_body 150 = .ok (.aaload, 1) := by decide +kernel
theorem dX5_body_151 : decode cX5_body 151 = .ok (.astore 8, 2) := by decide +kernel
theorem dX5_body_153 : decode cX5_body 153 = .ok (.aload 8, 2) := by decide +kernel
theorem dX5_body_155 : decode cX5_body 155 = .ok (.ifnull 8, 3) := by decide +kernel
theorem dX5_body_158 : decode cX5_body 158 = .ok (.aload 8, 2) := by decide +kernel
theorem dX5_body_160 : decode cX5_body 160 = .ok (.invokevirtual 59, 3) := by decide +kernel
theorem dX5_body_163 : decode cX5_body 163 = .ok (.iinc 7 1, 3) := by decide +kernel
theorem dX5_body_166 : decode cX5_body 166 = .ok (.goto (-27), 3) := by decide +kernel
theorem dX5_body_169 : decode cX5_body 169 = .ok (.aload_n 0, 1) := by decide +kernel
theorem dX5_body_170 : decode cX5_body 170 = .ok (.iconst 0, 1) := by decide +kernel
theorem dX5_body_171 : decode cX5_body 171 = .ok (.putfield 62, 3) := by decide +kernel
theorem dX5_body_174 : decode cX5_body 174 = .ok (.aload_n 0, 1) := by decide +kernel
theorem dX5_body_175 : decode cX5_body 175 = .ok (.getfield 12, 3) := by decide +kernel
theorem dX5_body_178 : decode cX5_body 178 = .ok (.invokevirtual 66, 3) := by decide +kernel
theorem dX5_body_181 : decode cX5_body 181 = .ok (.ireturn, 1) := by decide +kernel
set_option maxRecDepth 20000 in
theorem ggX5_element_X5_outside : GoodIn wsX5_element wsX5_outside := goodIn_r _ [10] (by decide +kernel) (by decide +kernel)
set_option maxRecDepth 20000 in
theorem gX5_element_X5_outside : GoodIn wsX5_element (va_wsS RX5 44 yX5_outside wsX5_outside) := goodIn_app (goodIn_of _ (by decide +kernel)) ggX5_element_X5_outside
set_option maxRecDepth 20000 in
theorem ggX5_element_X0_init : GoodIn wsX5_element wsX0_init := goodIn_r _ [13, 14, 15, 16, 17, 18, 19, 31, 32, 33, 34] (by decide +kernel) (by decide +kernel)
set_option maxRecDepth 20000 in
theorem gX5_element_X0_init : GoodIn wsX5_element (wsX0_init) := ggX5_element_X0_init
theorem dX5_element_0 : decode cX5_element 0 = .ok (.iload_n 1, 1) := by decide +kernel
theorem dX5_element_1 : decode cX5_element 1 = .ok (.iconst 0, 1) := by decide +kernel
theorem dX5_element_2 : decode cX5_element 2 = .ok (.bipush 50, 2) := by decide +kernel
theorem dX5_element_4 : decode cX5_element 4 = .ok (.invokestatic 44, 3) := by decide +kernel
theorem dX5_element_7 : decode cX5_element 7 = .ok (.ifCond .eq 6, 3) := by decide +kernel
theorem dX5_element_10 : decode cX5_element 10 = .ok (.bipush (-2), 2) := by decide +kernel
theorem dX5_element_12 : decode cX5_element 12 = .ok (.ireturn, 1) := by decide +kernel
theorem dX5_element_13 : decode cX5_element 13 = .ok (.aload_n 0, 1) := by decide +kernel
theorem dX5_element_14 : decode cX5_element 14 = .ok (.getfield 70, 3) := by decide +kernel
theorem dX5_element_17 : decode cX5_element 17 = .ok (.bipush 8, 2) := by decide +kernel
theorem dX5_element_19 : decode cX5_element 19 = .ok (.if_icmp .lt 6, 3) := by decide +kernel
theorem dX5_element_22 : decode cX5_element 22 = .ok (.bipush (-4), 2) := by decide +kernel
theorem dX5_element_24 : decode cX5_element 24 = .ok (.ireturn, 1) := by decide +kernel
theorem dX5_element_25 : decode cX5_element 25 = .ok (.aload_n 0, 1) := by decide +kernel
theorem dX5_element_26 : decode cX5_element 26 = .ok (.getfield 18, 3) := by decide +kernel
theorem dX5_element_29 : decode cX5_element 29 = .ok (.aload_n 0, 1) := by decide +kernel
theorem dX5_element_30 : decode cX5_element 30 = .ok (.getfield 70, 3) := by decide +kernel
theorem dX5_element_33 : decode cX5_element 33 = .ok (.new 16, 3) := by decide +kernel
theorem dX5_element_36 : decode cX5_element 36 = .ok (.dup, 1) := by decide +kernel
theorem dX5_element_37 : decode cX5_element 37 = .ok (.aload_n 0, 1) := by decide +kernel
theorem dX5_element_38 : decode cX5_element 38 = .ok (.getfield 70, 3) := by decide +kernel
theorem dX5_element_41 : decode cX5_element 41 = .ok (.iload_n 1, 1) := by decide +kernel
theorem dX5_element_42 : decode cX5_element 42 = .ok (.invokespecial 73, 3) := by decide +kernel
theorem dX5_element_45 : decode cX5_element 45 = .ok (.aastore, 1) := by decide +kernel
theorem dX5_element_46 : decode cX5_element 46 = .ok (.aload_n 0, 1) := by decide +kernel
theorem dX5_element_47 : decode cX5_element 47 = .ok (.dup, 1) := by decide +kernel
theorem dX5_element_48 : decode cX5_element 48 = .ok (.getfield 70, 3) := by decide +kernel
theorem dX5_element_51 : decode cX5_element 51 = .ok (.iconst 1, 1) := by decide +kernel
theorem dX5_element_52 : decode cX5_element 52 = .ok (.iadd, 1) := by decide +kernel
theorem dX5_element_53 : decode cX5_element 53 = .ok (.putfield 70, 3) := by decide +kernel
theorem dX5_element_56 : decode cX5_element 56 = .ok (.aload_n 0, 1) := by decide +kernel
theorem dX5_element_57 : decode cX5_element 57 = .ok (.iconst 0, 1) := by decide +kernel
theorem dX5_element_58 : decode cX5_element 58 = .ok (.putfield 62, 3) := by decide +kernel
theorem dX5_element_61 : decode cX5_element 61 = .ok (.aload_n 0, 1) := by decide +kernel
theorem dX5_element_62 : decode cX5_element 62 = .ok (.getfield 70, 3) := by decide +kernel
theorem dX5_element_65 : decode cX5_element 65 = .ok (.iconst 1, 1) := by decide +kernel
theorem dX5_element_66 : decode cX5_element 66 = .ok (.isub, 1) := by decide +kernel
theorem dX5_element_67 : decode cX5_element 67 = .ok (.ireturn, 1) := by decide +kernel
set_option maxRecDepth 20000 in
theorem ggX5_lose_X5_elementNumbered : GoodIn wsX5_lose wsX5_elementNumbered := goodIn_r _ [7, 8, 17, 18, 19, 20, 21, 22, 23, 24, 25, 26, 27] (by decide +kernel) (by decide +kernel)
set_option maxRecDepth 20000 in
theorem gX5_lose_X5_elementNumbered : GoodIn wsX5_lose (wsV RX5 76 RX5 yX5_elementNumbered wsX5_elementNumbered) := goodIn_app (goodIn_of _ (by decide +kernel)) ggX5_lose_X5_elementNumbered
set_option maxRecDepth 20000 in
theorem ggX5_lose_X5_countWorking : GoodIn wsX5_lose wsX5_countWorking := goodIn_r _ [12, 8, 1, 17, 18, 19, 20, 21, 22, 23, 24, 25, 26, 27, 13, 14, 15, 16] (by decide +kernel) (by decide +kernel)
set_option maxRecDepth 20000 in
theorem gX5_lose_X5_countWorking : GoodIn wsX5_lose (wsV RX5 83 RX5 yX5_countWorking wsX5_countWorking) := goodIn_app (goodIn_of _ (by decide +kernel)) ggX5_lose_X5_countWorking
theorem dX5_lose_0 : decode cX5_lose 0 = .ok (.aload_n 0, 1) := by decide +kernel
theorem dX5_lose_1 : decode cX5_lose 1 = .ok (.iload_n 1, 1) := by decide +kernel
theorem dX5_lose_2 : decode cX5_lose 2 = .ok (.invokevirtual 76, 3) := by decide +kernel
theorem dX5_lose_5 : decode cX5_lose 5 = .ok (.astore_n 3, 1) := by decide +kernel
theorem dX5_lose_6 : decode cX5_lose 6 = .ok (.aload_n 3, 1) := by decide +kernel
theorem dX5_lose_7 : decode cX5_lose 7 = .ok (.ifnonnull 5, 3) := by decide +kernel
theorem dX5_lose_10 : decode cX5_lose 10 = .ok (.iconst (-1), 1) := by decide +kernel
theorem dX5_lose_11 : decode cX5_lose 11 = .ok (.ireturn, 1) := by decide +kernel
theorem dX5_lose_12 : decode cX5_lose 12 = .ok (.aload_n 3, 1) := by decide +kernel
theorem dX5_lose_13 : decode cX5_lose 13 = .ok (.iload_n 2, 1) := by decide +kernel
theorem dX5_lose_14 : decode cX5_lose 14 = .ok (.ifCond .ne 7, 3) := by decide +kernel
theorem dX5_lose_17 : decode cX5_lose 17 = .ok (.iconst 1, 1) := by decide +kernel
theorem dX5_lose_18 : decode cX5_lose 18 = .ok (.goto 4, 3) := by decide +kernel
theorem dX5_lose_21 : decode cX5_lose 21 = .ok (.iconst 0, 1) := by decide +kernel
theorem dX5_lose_22 : decode cX5_lose 22 = .ok (.putfield 80, 3) := by decide +kernel
theorem dX5_lose_25 : decode cX5_lose 25 = .ok (.aload_n 0, 1) := by decide +kernel
theorem dX5_lose_26 : decode cX5_lose 26 = .ok (.iconst 0, 1) := by decide +kernel
theorem dX5_lose_27 : decode cX5_lose 27 = .ok (.putfield 62, 3) := by decide +kernel
theorem dX5_lose_30 : decode cX5_lose 30 = .ok (.aload_n 0, 1) := by decide +kernel
theorem dX5_lose_31 : decode cX5_lose 31 = .ok (.invokevirtual 83, 3) := by decide +kernel
theorem dX5_lose_34 : decode cX5_lose 34 = .ok (.ireturn, 1) := by decide +kernel
set_option maxRecDepth 20000 in
theorem ggX5_target_X5_outside : GoodIn wsX5_target wsX5_outside := goodIn_r _ [7] (by decide +kernel) (by decide +kernel)
set_option maxRecDepth 20000 in
theorem gX5_target_X5_outside : GoodIn wsX5_target (va_wsS RX5 44 yX5_outside wsX5_outside) := goodIn_app (goodIn_of _ (by decide +kernel)) ggX5_target_X5_outside
set_option maxRecDepth 20000 in
theorem ggX5_target_X1_holds : GoodIn wsX5_target wsX1_holds := goodIn_r _ [12, 13, 14, 5, 6, 7, 49, 50, 51, 52, 53, 54, 55] (by decide +kernel) (by decide +kernel)
set_option maxRecDepth 20000 in
theorem gX5_target_X1_holds : GoodIn wsX5_target (wsV RX5 86 RX1 yX1_holds wsX1_holds) := goodIn_app (goodIn_of _ (by decide +kernel)) ggX5_target_X1_holds
set_option maxRecDepth 20000 in
theorem ggX5_target_X5_newTarget : GoodIn wsX5_target wsX5_newTarget := goodIn_r _ [17, 18, 19, 20, 21, 22, 23, 24, 25, 26, 27, 28, 29, 30, 31, 32, 33, 34, 35, 36, 37, 56, 57, 58, 59, 60, 61] (by decide +kernel) (by decide +kernel)
set_option maxRecDepth 20000 in
theorem gX5_target_X5_newTarget : GoodIn wsX5_target (va_wsS RX5 93 yX5_newTarget wsX5_newTarget) := goodIn_app (goodIn_of _ (by decide +kernel)) ggX5_target_X5_newTarget
theorem dX5_target_0 : decode cX5_target 0 = .ok (.iload_n 1, 1) := by decide +kernel
theorem dX5_target_1 : decode cX5_target 1 = .ok (.iconst 0, 1) := by decide +kernel
theorem dX5_target_2 : decode cX5_target 2 = .ok (.iconst 2, 1) := by decide +kernel
theorem dX5_target_3 : decode cX5_target 3 = .ok (.invokestatic 44, 3) := by decide +kernel
theorem dX5_target_6 : decode cX5_target 6 = .ok (.ifCond .ne 17, 3) := by decide +kernel
theorem dX5_target_9 : decode cX5_target 9 = .ok (.iload 5, 2) := by decide +kernel
theorem dX5_target_11 : decode cX5_target 11 = .ok (.sipush (-1000), 3) := by decide +kernel
theorem dX5_target_14 : decode cX5_target 14 = .ok (.sipush 1000, 3) := by decide +kernel
theorem dX5_target_17 : decode cX5_target 17 = .ok (.invokestatic 44, 3) := by decide +kernel
theorem dX5_target_20 : decode cX5_target 20 = .ok (.ifCond .eq 6, 3) := by decide +kernel
theorem dX5_target_23 : decode cX5_target 23 = .ok (.bipush (-2), 2) := by decide +kernel
theorem dX5_target_25 : decode cX5_target 25 = .ok (.ireturn, 1) := by decide +kernel
theorem dX5_target_26 : decode cX5_target 26 = .ok (.iload_n 1, 1) := by decide +kernel
theorem dX5_target_27 : decode cX5_target 27 = .ok (.iconst 2, 1) := by decide +kernel
theorem dX5_target_28 : decode cX5_target 28 = .ok (.if_icmp .eq 19, 3) := by decide +kernel
theorem dX5_target_31 : decode cX5_target 31 = .ok (.aload_n 0, 1) := by decide +kernel
theorem dX5_target_32 : decode cX5_target 32 = .ok (.getfield 12, 3) := by decide +kernel
theorem dX5_target_35 : decode cX5_target 35 = .ok (.iload_n 2, 1) := by decide +kernel
theorem dX5_target_36 : decode cX5_target 36 = .ok (.iload 4, 2) := by decide +kernel
theorem dX5_target_38 : decode cX5_target 38 = .ok (.invokevirtual 86, 3) := by decide +kernel
theorem dX5_target_41 : decode cX5_target 41 = .ok (.ifCond .ne 6, 3) := by decide +kernel
theorem dX5_target_44 : decode cX5_target 44 = .ok (.bipush (-2), 2) := by decide +kernel
theorem dX5_target_46 : decode cX5_target 46 = .ok (.ireturn, 1) := by decide +kernel
theorem dX5_target_47 : decode cX5_target 47 = .ok (.iload_n 1, 1) := by decide +kernel
theorem dX5_target_48 : decode cX5_target 48 = .ok (.iconst 1, 1) := by decide +kernel
theorem dX5_target_49 : decode cX5_target 49 = .ok (.if_icmp .ne 16, 3) := by decide +kernel
theorem dX5_target_52 : decode cX5_target 52 = .ok (.iload_n 3, 1) := by decide +kernel
theorem dX5_target_53 : decode cX5_target 53 = .ok (.iload_n 2, 1) := by decide +kernel
theorem dX5_target_54 : decode cX5_target 54 = .ok (.bipush 50, 2) := by decide +kernel
theorem dX5_target_56 : decode cX5_target 56 = .ok (.invokestatic 44, 3) := by decide +kernel
theorem dX5_target_59 : decode cX5_target 59 = .ok (.ifCond .eq 6, 3) := by decide +kernel
theorem dX5_target_62 : decode cX5_target 62 = .ok (.bipush (-2), 2) := by decide +kernel
theorem dX5_target_64 : decode cX5_target 64 = .ok (.ireturn, 1) := by decide +kernel
theorem dX5_target_65 : decode cX5_target 65 = .ok (.aload_n 0, 1) := by decide +kernel
theorem dX5_target_66 : decode cX5_target 66 = .ok (.getfield 90, 3) := by decide +kernel
theorem dX5_target_69 : decode cX5_target 69 = .ok (.bipush 8, 2) := by decide +kernel
theorem dX5_target_71 : decode cX5_target 71 = .ok (.if_icmp .lt 6, 3) := by decide +kernel
theorem dX5_target_74 : decode cX5_target 74 = .ok (.bipush (-4), 2) := by decide +kernel
theorem dX5_target_76 : decode cX5_target 76 = .ok (.ireturn, 1) := by decide +kernel
theorem dX5_target_77 : decode cX5_target 77 = .ok (.aload_n 0, 1) := by decide +kernel
theorem dX5_target_78 : decode cX5_target 78 = .ok (.getfield 24, 3) := by decide +kernel
theorem dX5_target_81 : decode cX5_target 81 = .ok (.aload_n 0, 1) := by decide +kernel
theorem dX5_target_82 : decode cX5_target 82 = .ok (.getfield 90, 3) := by decide +kernel
theorem dX5_target_85 : decode cX5_target 85 = .ok (.iload_n 1, 1) := by decide +kernel
theorem dX5_target_86 : decode cX5_target 86 = .ok (.iload_n 2, 1) := by decide +kernel
theorem dX5_target_87 : decode cX5_target 87 = .ok (.iload_n 3, 1) := by decide +kernel
theorem dX5_target_88 : decode cX5_target 88 = .ok (.iload 4, 2) := by decide +kernel
theorem dX5_target_90 : decode cX5_target 90 = .ok (.iload 5, 2) := by decide +kernel
theorem dX5_target_92 : decode cX5_target 92 = .ok (.invokestatic 93, 3) := by decide +kernel
theorem dX5_target_95 : decode cX5_target 95 = .ok (.aastore, 1) := by decide +kernel
theorem dX5_target_96 : decode cX5_target 96 = .ok (.aload_n 0, 1) := by decide +kernel
theorem dX5_target_97 : decode cX5_target 97 = .ok (.dup, 1) := by decide +kernel
theorem dX5_target_98 : decode cX5_target 98 = .ok (.getfield 90, 3) := by decide +kernel
theorem dX5_target_101 : decode cX5_target 101 = .ok (.iconst 1, 1) := by decide +kernel
theorem dX5_target_102 : decode cX5_target 102 = .ok (.iadd, 1) := by decide +kernel
theorem dX5_target_103 : decode cX5_target 103 = .ok (.putfield 90, 3) := by decide +kernel
theorem dX5_target_106 : decode cX5_target 106 = .ok (.aload_n 0, 1) := by decide +kernel
theorem dX5_target_107 : decode cX5_target 107 = .ok (.getfield 90, 3) := by decide +kernel
theorem dX5_target_110 : decode cX5_target 110 = .ok (.iconst 1, 1) := by decide +kernel
theorem dX5_target_111 : decode cX5_target 111 = .ok (.isub, 1) := by decide +kernel
theorem dX5_target_112 : decode cX5_target 112 = .ok (.ireturn, 1) := by decide +kernel
theorem dX5_drop_0 : decode cX5_drop 0 = .ok (.aload_n 0, 1) := by decide +kernel
theorem dX5_drop_1 : decode cX5_drop 1 = .ok (.getfield 90, 3) := by decide +kernel
theorem dX5_drop_4 : decode cX5_drop 4 = .ok (.iconst 1, 1) := by decide +kernel
theorem dX5_drop_5 : decode cX5_drop 5 = .ok (.if_icmp .ge 6, 3) := by decide +kernel
theorem dX5_drop_8 : decode cX5_drop 8 = .ok (.bipush (-3), 2) := by decide +kernel
theorem dX5_drop_10 : decode cX5_drop 10 = .ok (.ireturn, 1) := by decide +kernel
theorem dX5_drop_11 : decode cX5_drop 11 = .ok (.aload_n 0, 1) := by decide +kernel
theorem dX5_drop_12 : decode cX5_drop 12 = .ok (.dup, 1) := by decide +kernel
theorem dX5_drop_13 : decode cX5_drop 13 = .ok (.getfield 90, 3) := by decide +kernel
theorem dX5_drop_16 : decode cX5_drop 16 = .ok (.iconst 1, 1) := by decide +kernel
theorem dX5_drop_17 : decode cX5_drop 17 = .ok (.isub, 1) := by decide +kernel
theorem dX5_drop_18 : decode cX5_drop 18 = .ok (.putfield 90, 3) := by decide +kernel
theorem dX5_drop_21 : decode cX5_drop 21 = .ok (.aload_n 0, 1) := by decide +kernel
theorem dX5_drop_22 : decode cX5_drop 22 = .ok (.getfield 24, 3) := by decide +kernel
theorem dX5_drop_25 : decode cX5_drop 25 = .ok (.aload_n 0, 1) := by decide +kernel
theorem dX5_drop_26 : decode cX5_drop 26 = .ok (.getfield 90, 3) := by decide +kernel
theorem dX5_drop_29 : decode cX5_drop 29 = .ok (.aconst_null, 1) := by decide +kernel
theorem dX5_drop_30 : decode cX5_drop 30 = .ok (.aastore, 1) := by decide +kernel
theorem dX5_drop_31 : decode cX5_drop 31 = .ok (.aload_n 0, 1) := by decide +kernel
theorem dX5_drop_32 : decode cX5_drop 32 = .ok (.getfield 90, 3) := by decide +kernel
theorem dX5_drop_35 : decode cX5_drop 35 = .ok (.ireturn, 1) := by decide +kernel
set_option maxRecDepth 20000 in
theorem ggX5_taken_X5_targetNumbered : GoodIn wsX5_taken wsX5_targetNumbered := goodIn_r _ [9, 10, 38, 39, 40, 41, 42, 43, 44, 45, 46, 47, 48] (by decide +kernel) (by decide +kernel)
set_option maxRecDepth 20000 in
theorem gX5_taken_X5_targetNumbered : GoodIn wsX5_taken (wsV RX5 97 RX5 yX5_targetNumbered wsX5_targetNumbered) := goodIn_app (goodIn_of _ (by decide +kernel)) ggX5_taken_X5_targetNumbered
set_option maxRecDepth 20000 in
theorem ggX5_taken_X5_outside : GoodIn wsX5_taken wsX5_outside := goodIn_r _ [13] (by decide +kernel) (by decide +kernel)
set_option maxRecDepth 20000 in
theorem gX5_taken_X5_outside : GoodIn wsX5_taken (va_wsS RX5 44 yX5_outside wsX5_outside) := goodIn_app (goodIn_of _ (by decide +kernel)) ggX5_taken_X5_outside
set_option maxRecDepth 20000 in
theorem ggX5_taken_X5_found : GoodIn wsX5_taken wsX5_found := goodIn_r _ [17, 18, 38, 39, 40, 41, 42, 43, 44, 45, 46, 47, 48] (by decide +kernel) (by decide +kernel)
set_option maxRecDepth 20000 in
theorem gX5_taken_X5_found : GoodIn wsX5_taken (wsV RX5 101 RX5 yX5_found wsX5_found) := goodIn_app (goodIn_of _ (by decide +kernel)) ggX5_taken_X5_found
set_option maxRecDepth 20000 in
theorem ggX5_taken_X5_depthOf : GoodIn wsX5_taken wsX5_depthOf := goodIn_r _ [22, 1, 23, 24, 25, 26, 27, 28, 29, 30, 31, 32, 33, 34, 35, 36, 37, 38, 39, 40, 41, 42, 43, 44, 45, 46, 47, 48, 49, 50, 51, 52, 53, 54, 55] (by decide +kernel) (by decide +kernel)
set_option maxRecDepth 20000 in
theorem gX5_taken_X5_depthOf : GoodIn wsX5_taken (wsV RX5 111 RX5 yX5_depthOf wsX5_depthOf) := goodIn_app (goodIn_of _ (by decide +kernel)) ggX5_taken_X5_depthOf
theorem dX5_taken_0 : decode cX5_taken 0 = .ok (.aload_n 0, 1) := by decide +kernel
theorem dX5_taken_1 : decode cX5_taken 1 = .ok (.iload_n 1, 1) := by decide +kernel
theorem dX5_taken_2 : decode cX5_taken 2 = .ok (.invokevirtual 97, 3) := by decide +kernel
theorem dX5_taken_5 : decode cX5_taken 5 = .ok (.astore 4, 2) := by decide +kernel
theorem dX5_taken_7 : decode cX5_taken 7 = .ok (.aload 4, 2) := by decide +kernel
theorem dX5_taken_9 : decode cX5_taken 9 = .ok (.ifnonnull 5, 3) := by decide +kernel
theorem dX5_taken_12 : decode cX5_taken 12 = .ok (.iconst (-1), 1) := by decide +kernel
theorem dX5_taken_13 : decode cX5_taken 13 = .ok (.ireturn, 1) := by decide +kernel
theorem dX5_taken_14 : decode cX5_taken 14 = .ok (.iload_n 2, 1) := by decide +kernel
theorem dX5_taken_15 : decode cX5_taken 15 = .ok (.iconst 0, 1) := by decide +kernel
theorem dX5_taken_16 : decode cX5_taken 16 = .ok (.iconst 2, 1) := by decide +kernel
theorem dX5_taken_17 : decode cX5_taken 17 = .ok (.invokestatic 44, 3) := by decide +kernel
theorem dX5_taken_20 : decode cX5_taken 20 = .ok (.ifCond .ne 20, 3) := by decide +kernel
theorem dX5_taken_23 : decode cX5_taken 23 = .ok (.iload_n 3, 1) := by decide +kernel
theorem dX5_taken_24 : decode cX5_taken 24 = .ok (.iconst 0, 1) := by decide +kernel
theorem dX5_taken_25 : decode cX5_taken 25 = .ok (.iload_n 2, 1) := by decide +kernel
theorem dX5_taken_26 : decode cX5_taken 26 = .ok (.ifCond .ne 7, 3) := by decide +kernel
theorem dX5_taken_29 : decode cX5_taken 29 = .ok (.iconst 2, 1) := by decide +kernel
theorem dX5_taken_30 : decode cX5_taken 30 = .ok (.goto 4, 3) := by decide +kernel
theorem dX5_taken_33 : decode cX5_taken 33 = .ok (.iconst 3, 1) := by decide +kernel
theorem dX5_taken_34 : decode cX5_taken 34 = .ok (.invokestatic 44, 3) := by decide +kernel
theorem dX5_taken_37 : decode cX5_taken 37 = .ok (.ifCond .eq 6, 3) := by decide +kernel
theorem dX5_taken_40 : decode cX5_taken 40 = .ok (.bipush (-2), 2) := by decide +kernel
theorem dX5_taken_42 : decode cX5_taken 42 = .ok (.ireturn, 1) := by decide +kernel
theorem dX5_taken_43 : decode cX5_taken 43 = .ok (.aload 4, 2) := by decide +kernel
theorem dX5_taken_45 : decode cX5_taken 45 = .ok (.getfield 48, 3) := by decide +kernel
theorem dX5_taken_48 : decode cX5_taken 48 = .ok (.iload_n 2, 1) := by decide +kernel
theorem dX5_taken_49 : decode cX5_taken 49 = .ok (.if_icmp .ge 10, 3) := by decide +kernel
theorem dX5_taken_52 : decode cX5_taken 52 = .ok (.aload_n 0, 1) := by decide +kernel
theorem dX5_taken_53 : decode cX5_taken 53 = .ok (.bipush (-13), 2) := by decide +kernel
theorem dX5_taken_55 : decode cX5_taken 55 = .ok (.invokevirtual 101, 3) := by decide +kernel
theorem dX5_taken_58 : decode cX5_taken 58 = .ok (.ireturn, 1) := by decide +kernel
theorem dX5_taken_59 : decode cX5_taken 59 = .ok (.iload_n 3, 1) := by decide +kernel
theorem dX5_taken_60 : decode cX5_taken 60 = .ok (.tableswitch 47 0 2 #[28, 34, 40], 28) := by decide +kernel
theorem dX5_taken_88 : decode cX5_taken 88 = .ok (.aload 4, 2) := by decide +kernel
theorem dX5_taken_90 : decode cX5_taken 90 = .ok (.getfield 105, 3) := by decide +kernel
theorem dX5_taken_93 : decode cX5_taken 93 = .ok (.ireturn, 1) := by decide +kernel
theorem dX5_taken_94 : decode cX5_taken 94 = .ok (.aload 4, 2) := by decide +kernel
theorem dX5_taken_96 : decode cX5_taken 96 = .ok (.getfield 108, 3) := by decide +kernel
theorem dX5_taken_99 : decode cX5_taken 99 = .ok (.ireturn, 1) := by decide +kernel
theorem dX5_taken_100 : decode cX5_taken 100 = .ok (.aload_n 0, 1) := by decide +kernel
theorem dX5_taken_101 : decode cX5_taken 101 = .ok (.aload 4, 2) := by decide +kernel
theorem dX5_taken_103 : decode cX5_taken 103 = .ok (.invokevirtual 111, 3) := by decide +kernel
theorem dX5_taken_106 : decode cX5_taken 106 = .ok (.ireturn, 1) := by decide +kernel
theorem dX5_taken_107 : decode cX5_taken 107 = .ok (.aload 4, 2) := by decide +kernel
theorem dX5_taken_109 : decode cX5_taken 109 = .ok (.getfield 115, 3) := by decide +kernel
theorem dX5_taken_112 : decode cX5_taken 112 = .ok (.ireturn, 1) := by decide +kernel
set_option maxRecDepth 20000 in
theorem ggX5_time_X5_elementNumbered : GoodIn wsX5_time wsX5_elementNumbered := goodIn_r _ [7, 8, 43, 44, 45, 46, 47, 48, 49, 50, 51, 52, 53] (by decide +kernel) (by decide +kernel)
set_option maxRecDepth 20000 in
theorem gX5_time_X5_elementNumbered : GoodIn wsX5_time (wsV RX5 76 RX5 yX5_elementNumbered wsX5_elementNumbered) := goodIn_app (goodIn_of _ (by decide +kernel)) ggX5_time_X5_elementNumbered
set_option maxRecDepth 20000 in
theorem ggX5_time_X1_holds : GoodIn wsX5_time wsX1_holds := goodIn_r _ [13, 14, 15, 16, 6, 17, 58, 59, 60, 61, 62, 63, 64] (by decide +kernel) (by decide +kernel)
set_option maxRecDepth 20000 in
theorem gX5_time_X1_holds : GoodIn wsX5_time (wsV RX5 86 RX1 yX1_holds wsX1_holds) := goodIn_app (goodIn_of _ (by decide +kernel)) ggX5_time_X1_holds
set_option maxRecDepth 20000 in
theorem ggX5_time_X1_timeTo : GoodIn wsX5_time wsX1_timeTo := goodIn_r _ [21, 14, 22, 23, 24, 25, 26, 27, 28, 29, 16, 6, 17, 30, 31, 32, 12, 33, 34, 35, 36, 37, 38, 39, 40, 41, 42, 58, 59, 60, 61, 62, 63, 64] (by decide +kernel) (by decide +kernel)
set_option maxRecDepth 20000 in
theorem gX5_time_X1_timeTo : GoodIn wsX5_time (wsV RX5 119 RX1 yX1_timeTo wsX1_timeTo) := goodIn_app (goodIn_of _ (by decide +kernel)) ggX5_time_X1_timeTo
theorem dX5_time_0 : decode cX5_time 0 = .ok (.aload_n 0, 1) := by decide +kernel
theorem dX5_time_1 : decode cX5_time 1 = .ok (.iload_n 1, 1) := by decide +kernel
theorem dX5_time_2 : decode cX5_time 2 = .ok (.invokevirtual 76, 3) := by decide +kernel
theorem dX5_time_5 : decode cX5_time 5 = .ok (.astore 4, 2) := by decide +kernel
theorem dX5_time_7 : decode cX5_time 7 = .ok (.aload 4, 2) := by decide +kernel
theorem dX5_time_9 : decode cX5_time 9 = .ok (.ifnonnull 5, 3) := by decide +kernel
theorem dX5_time_12 : decode cX5_time 12 = .ok (.iconst (-1), 1) := by decide +kernel
theorem dX5_time_13 : decode cX5_time 13 = .ok (.ireturn, 1) := by decide +kernel
theorem dX5_time_14 : decode cX5_time 14 = .ok (.aload_n 0, 1) := by decide +kernel
theorem dX5_time_15 : decode cX5_time 15 = .ok (.getfield 12, 3) := by decide +kernel
theorem dX5_time_18 : decode cX5_time 18 = .ok (.iload_n 2, 1) := by decide +kernel
theorem dX5_time_19 : decode cX5_time 19 = .ok (.iload_n 3, 1) := by decide +kernel
theorem dX5_time_20 : decode cX5_time 20 = .ok (.invokevirtual 86, 3) := by decide +kernel
theorem dX5_time_23 : decode cX5_time 23 = .ok (.ifCond .eq 20, 3) := by decide +kernel
theorem dX5_time_26 : decode cX5_time 26 = .ok (.aload_n 0, 1) := by decide +kernel
theorem dX5_time_27 : decode cX5_time 27 = .ok (.getfield 12, 3) := by decide +kernel
theorem dX5_time_30 : decode cX5_time 30 = .ok (.aload 4, 2) := by decide +kernel
theorem dX5_time_32 : decode cX5_time 32 = .ok (.getfield 118, 3) := by decide +kernel
theorem dX5_time_35 : decode cX5_time 35 = .ok (.iload_n 2, 1) := by decide +kernel
theorem dX5_time_36 : decode cX5_time 36 = .ok (.iload_n 3, 1) := by decide +kernel
theorem dX5_time_37 : decode cX5_time 37 = .ok (.invokevirtual 119, 3) := by decide +kernel
theorem dX5_time_40 : decode cX5_time 40 = .ok (.goto 5, 3) := by decide +kernel
theorem dX5_time_43 : decode cX5_time 43 = .ok (.bipush (-2), 2) := by decide +kernel
theorem dX5_time_45 : decode cX5_time 45 = .ok (.ireturn, 1) := by decide +kernel
set_option maxRecDepth 20000 in
theorem ggX5_bend_X5_elementNumbered : GoodIn wsX5_bend wsX5_elementNumbered := goodIn_r _ [7, 8, 47, 48, 49, 50, 51, 52, 53, 54, 55, 56, 57] (by decide +kernel) (by decide +kernel)
set_option maxRecDepth 20000 in
theorem gX5_bend_X5_elementNumbered : GoodIn wsX5_bend (wsV RX5 76 RX5 yX5_elementNumbered wsX5_elementNumbered) := goodIn_app (goodIn_of _ (by decide +kernel)) ggX5_bend_X5_elementNumbered
set_option maxRecDepth 20000 in
theorem ggX5_bend_X1_holds : GoodIn wsX5_bend wsX1_holds := goodIn_r _ [13, 14, 15, 16, 6, 17, 62, 63, 64, 65, 66, 67, 68] (by decide +kernel) (by decide +kernel)
set_option maxRecDepth 20000 in
theorem gX5_bend_X1_holds : GoodIn wsX5_bend (wsV RX5 86 RX1 yX1_holds wsX1_holds) := goodIn_app (goodIn_of _ (by decide +kernel)) ggX5_bend_X1_holds
set_option maxRecDepth 20000 in
theorem ggX5_bend_X1_bendTo : GoodIn wsX5_bend wsX1_bendTo := goodIn_r _ [21, 22, 14, 23, 24, 25, 26, 27, 28, 29, 30, 31, 32, 12, 33, 34, 35, 16, 6, 17, 36, 37, 38, 39, 40, 41, 42, 43, 44, 45, 46, 62, 63, 64, 65, 66, 67, 68] (by decide +kernel) (by decide +kernel)
set_option maxRecDepth 20000 in
theorem gX5_bend_X1_bendTo : GoodIn wsX5_bend (wsV RX5 123 RX1 yX1_bendTo wsX1_bendTo) := goodIn_app (goodIn_of _ (by decide +kernel)) ggX5_bend_X1_bendTo
theorem dX5_bend_0 : decode cX5_bend 0 = .ok (.aload_n 0, 1) := by decide +kernel
theorem dX5_bend_1 : decode cX5_bend 1 = .ok (.iload_n 1, 1) := by decide +kernel
theorem dX5_bend_2 : decode cX5_bend 2 = .ok (.invokevirtual 76, 3) := by decide +kernel
theorem dX5_bend_5 : decode cX5_bend 5 = .ok (.astore 4, 2) := by decide +kernel
theorem dX5_bend_7 : decode cX5_bend 7 = .ok (.aload 4, 2) := by decide +kernel
theorem dX5_bend_9 : decode cX5_bend 9 = .ok (.ifnonnull 5, 3) := by decide +kernel
theorem dX5_bend_12 : decode cX5_bend 12 = .ok (.iconst (-1), 1) := by decide +kernel
theorem dX5_bend_13 : decode cX5_bend 13 = .ok (.ireturn, 1) := by decide +kernel
theorem dX5_bend_14 : decode cX5_bend 14 = .ok (.aload_n 0, 1) := by decide +kernel
theorem dX5_bend_15 : decode cX5_bend 15 = .ok (.getfield 12, 3) := by decide +kernel
theorem dX5_bend_18 : decode cX5_bend 18 = .ok (.iload_n 2, 1) := by decide +kernel
theorem dX5_bend_19 : decode cX5_bend 19 = .ok (.iload_n 3, 1) := by decide +kernel
theorem dX5_bend_20 : decode cX5_bend 20 = .ok (.invokevirtual 86, 3) := by decide +kernel
theorem dX5_bend_23 : decode cX5_bend 23 = .ok (.ifCond .eq 20, 3) := by decide +kernel
theorem dX5_bend_26 : decode cX5_bend 26 = .ok (.aload_n 0, 1) := by decide +kernel
theorem dX5_bend_27 : decode cX5_bend 27 = .ok (.getfield 12, 3) := by decide +kernel
theorem dX5_bend_30 : decode cX5_bend 30 = .ok (.aload 4, 2) := by decide +kernel
theorem dX5_bend_32 : decode cX5_bend 32 = .ok (.getfield 118, 3) := by decide +kernel
theorem dX5_bend_35 : decode cX5_bend 35 = .ok (.iload_n 2, 1) := by decide +kernel
theorem dX5_bend_36 : decode cX5_bend 36 = .ok (.iload_n 3, 1) := by decide +kernel
theorem dX5_bend_37 : decode cX5_bend 37 = .ok (.invokevirtual 123, 3) := by decide +kernel
theorem dX5_bend_40 : decode cX5_bend 40 = .ok (.goto 5, 3) := by decide +kernel
theorem dX5_bend_43 : decode cX5_bend 43 = .ok (.bipush (-2), 2) := by decide +kernel
theorem dX5_bend_45 : decode cX5_bend 45 = .ok (.ireturn, 1) := by decide +kernel
set_option maxRecDepth 20000 in
theorem ggX5_echoTime_X5_elementNumbered : GoodIn wsX5_echoTime wsX5_elementNumbered := goodIn_r _ [5, 6, 65, 66, 67, 68, 69, 70, 71, 72, 73, 74, 75] (by decide +kernel) (by decide +kernel)
set_option maxRecDepth 20000 in
theorem gX5_echoTime_X5_elementNumbered : GoodIn wsX5_echoTime (wsV RX5 76 RX5 yX5_elementNumbered wsX5_elementNumbered) := goodIn_app (goodIn_of _ (by decide +kernel)) ggX5_echoTime_X5_elementNumbered
set_option maxRecDepth 20000 in
theorem ggX5_echoTime_X5_targetNumbered : GoodIn wsX5_echoTime wsX5_targetNumbered := goodIn_r _ [10, 11, 65, 66, 67, 68, 69, 70, 71, 72, 73, 74, 75] (by decide +kernel) (by decide +kernel)
set_option maxRecDepth 20000 in
theorem gX5_echoTime_X5_targetNumbered : GoodIn wsX5_echoTime (wsV RX5 97 RX5 yX5_targetNumbered wsX5_targetNumbered) := goodIn_app (goodIn_of _ (by decide +kernel)) ggX5_echoTime_X5_targetNumbered
set_option maxRecDepth 20000 in
theorem ggX5_echoTime_X5_echoTimeBy : GoodIn wsX5_echoTime wsX5_echoTimeBy := goodIn_r _ [15, 16, 17, 18, 19, 20, 21, 22, 23, 24, 25, 26, 27, 28, 29, 30, 4, 31, 32, 33, 34, 35, 36, 37, 38, 39, 40, 41, 42, 43, 44, 45, 46, 47, 48, 49, 50, 51, 52, 53, 54, 55, 56, 57, 58, 59, 60, 61, 62, 63, 64, 76, 77, 78, 79, 80, 81, 82, 83, 84, 85, 65, 66, 67, 68, 69, 70, 71, 72, 73, 74, 75, 86, 87, 88, 89, 90, 91, 92] (by decide +kernel) (by decide +kernel)
set_option maxRecDepth 20000 in
theorem gX5_echoTime_X5_echoTimeBy : GoodIn wsX5_echoTime (wsV RX5 126 RX5 yX5_echoTimeBy wsX5_echoTimeBy) := goodIn_app (goodIn_of _ (by decide +kernel)) ggX5_echoTime_X5_echoTimeBy
theorem dX5_echoTime_0 : decode cX5_echoTime 0 = .ok (.aload_n 0, 1) := by decide +kernel
theorem dX5_echoTime_1 : decode cX5_echoTime 1 = .ok (.iload_n 1, 1) := by decide +kernel
theorem dX5_echoTime_2 : decode cX5_echoTime 2 = .ok (.invokevirtual 76, 3) := by decide +kernel
theorem dX5_echoTime_5 : decode cX5_echoTime 5 = .ok (.astore 4, 2) := by decide +kernel
theorem dX5_echoTime_7 : decode cX5_echoTime 7 = .ok (.aload_n 0, 1) := by decide +kernel
theorem dX5_echoTime_8 : decode cX5_echoTime 8 = .ok (.iload_n 2, 1) := by decide +kernel
theorem dX5_echoTime_9 : decode cX5_echoTime 9 = .ok (.invokevirtual 76, 3) := by decide +kernel
theorem dX5_echoTime_12 : decode cX5_echoTime 12 = .ok (.astore 5, 2) := by decide +kernel
theorem dX5_echoTime_14 : decode cX5_echoTime 14 = .ok (.aload_n 0, 1) := by decide +kernel
theorem dX5_echoTime_15 : decode cX5_echoTime 15 = .ok (.iload_n 3, 1) := by decide +kernel
theorem dX5_echoTime_16 : decode cX5_echoTime 16 = .ok (.invokevirtual 97, 3) := by decide +kernel
theorem dX5_echoTime_19 : decode cX5_echoTime 19 = .ok (.astore 6, 2) := by decide +kernel
theorem dX5_echoTime_21 : decode cX5_echoTime 21 = .ok (.aload 4, 2) := by decide +kernel
theorem dX5_echoTime_23 : decode cX5_echoTime 23 = .ok (.ifnull 13, 3) := by decide +kernel
theorem dX5_echoTime_26 : decode cX5_echoTime 26 = .ok (.aload 5, 2) := by decide +kernel
theorem dX5_echoTime_28 : decode cX5_echoTime 28 = .ok (.ifnull 8, 3) := by decide +kernel
theorem dX5_echoTime_31 : decode cX5_echoTime 31 = .ok (.aload 6, 2) := by decide +kernel
theorem dX5_echoTime_33 : decode cX5_echoTime 33 = .ok (.ifnonnull 5, 3) := by decide +kernel
theorem dX5_echoTime_36 : decode cX5_echoTime 36 = .ok (.iconst (-1), 1) := by decide +kernel
theorem dX5_echoTime_37 : decode cX5_echoTime 37 = .ok (.ireturn, 1) := by decide +kernel
theorem dX5_echoTime_38 : decode cX5_echoTime 38 = .ok (.aload_n 0, 1) := by decide +kernel
theorem dX5_echoTime_39 : decode cX5_echoTime 39 = .ok (.aload 4, 2) := by decide +kernel
theorem dX5_echoTime_41 : decode cX5_echoTime 41 = .ok (.aload 5, 2) := by decide +kernel
theorem dX5_echoTime_43 : decode cX5_echoTime 43 = .ok (.aload 6, 2) := by decide +kernel
theorem dX5_echoTime_45 : decode cX5_echoTime 45 = .ok (.invokevirtual 126, 3) := by decide +kernel
theorem dX5_echoTime_48 : decode cX5_echoTime 48 = .ok (.ireturn, 1) := by decide +kernel
set_option maxRecDepth 20000 in
theorem ggX5_slowness_X5_elementNumbered : GoodIn wsX5_slowness wsX5_elementNumbered := goodIn_r _ [12, 13, 38, 39, 40, 41, 42, 43, 44, 45, 46, 47, 48] (by decide +kernel) (by decide +kernel)
set_option maxRecDepth 20000 in
theorem gX5_slowness_X5_elementNumbered : GoodIn wsX5_slowness (wsV RX5 76 RX5 yX5_elementNumbered wsX5_elementNumbered) := goodIn_app (goodIn_of _ (by decide +kernel)) ggX5_slowness_X5_elementNumbered
set_option maxRecDepth 20000 in
theorem ggX5_slowness_X1_wallTime : GoodIn wsX5_slowness wsX1_wallTime := goodIn_r _ [18, 19, 20, 21, 5, 6, 7, 22, 23, 24, 25, 26, 27, 28, 17, 29, 30, 31, 32, 33, 11, 34, 35, 36, 37, 53, 54, 55, 56, 57, 58, 59] (by decide +kernel) (by decide +kernel)
set_option maxRecDepth 20000 in
theorem gX5_slowness_X1_wallTime : GoodIn wsX5_slowness (wsV RX5 131 RX1 yX1_wallTime wsX1_wallTime) := goodIn_app (goodIn_of _ (by decide +kernel)) ggX5_slowness_X1_wallTime
theorem dX5_slowness_0 : decode cX5_slowness 0 = .ok (.aload_n 0, 1) := by decide +kernel
theorem dX5_slowness_1 : decode cX5_slowness 1 = .ok (.iload_n 1, 1) := by decide +kernel
theorem dX5_slowness_2 : decode cX5_slowness 2 = .ok (.invokevirtual 76, 3) := by decide +kernel
theorem dX5_slowness_5 : decode cX5_slowness 5 = .ok (.astore 4, 2) := by decide +kernel
theorem dX5_slowness_7 : decode cX5_slowness 7 = .ok (.aload_n 0, 1) := by decide +kernel
theorem dX5_slowness_8 : decode cX5_slowness 8 = .ok (.iload_n 2, 1) := by decide +kernel
theorem dX5_slowness_9 : decode cX5_slowness 9 = .ok (.invokevirtual 76, 3) := by decide +kernel
theorem dX5_slowness_12 : decode cX5_slowness 12 = .ok (.astore 5, 2) := by decide +kernel
theorem dX5_slowness_14 : decode cX5_slowness 14 = .ok (.aload 4, 2) := by decide +kernel
theorem dX5_slowness_16 : decode cX5_slowness 16 = .ok (.ifnull 8, 3) := by decide +kernel
theorem dX5_slowness_19 : decode cX5_slowness 19 = .ok (.aload 5, 2) := by decide +kernel
theorem dX5_slowness_21 : decode cX5_slowness 21 = .ok (.ifnonnull 5, 3) := by decide +kernel
theorem dX5_slowness_24 : decode cX5_slowness 24 = .ok (.iconst (-1), 1) := by decide +kernel
theorem dX5_slowness_25 : decode cX5_slowness 25 = .ok (.ireturn, 1) := by decide +kernel
theorem dX5_slowness_26 : decode cX5_slowness 26 = .ok (.iload_n 3, 1) := by decide +kernel
theorem dX5_slowness_27 : decode cX5_slowness 27 = .ok (.ifCond .ge 6, 3) := by decide +kernel
theorem dX5_slowness_30 : decode cX5_slowness 30 = .ok (.bipush (-2), 2) := by decide +kernel
theorem dX5_slowness_32 : decode cX5_slowness 32 = .ok (.ireturn, 1) := by decide +kernel
theorem dX5_slowness_33 : decode cX5_slowness 33 = .ok (.iconst 1, 1) := by decide +kernel
theorem dX5_slowness_34 : decode cX5_slowness 34 = .ok (.istore 6, 2) := by decide +kernel
theorem dX5_slowness_36 : decode cX5_slowness 36 = .ok (.ldc 130, 2) := by decide +kernel
theorem dX5_slowness_38 : decode cX5_slowness 38 = .ok (.istore 7, 2) := by decide +kernel
theorem dX5_slowness_40 : decode cX5_slowness 40 = .ok (.iconst 1, 1) := by decide +kernel
theorem dX5_slowness_41 : decode cX5_slowness 41 = .ok (.istore 8, 2) := by decide +kernel
theorem dX5_slowness_43 : decode cX5_slowness 43 = .ok (.iload 8, 2) := by decide +kernel
theorem dX5_slowness_45 : decode cX5_slowness 45 = .ok (.bipush 8, 2) := by decide +kernel
theorem dX5_slowness_47 : decode cX5_slowness 47 = .ok (.if_icmp .gt 50, 3) := by decide +kernel
theorem dX5_slowness_50 : decode cX5_slowness 50 = .ok (.aload_n 0, 1) := by decide +kernel
theorem dX5_slowness_51 : decode cX5_slowness 51 = .ok (.getfield 12, 3) := by decide +kernel
theorem dX5_slowness_54 : decode cX5_slowness 54 = .ok (.aload 4, 2) := by decide +kernel
theorem dX5_slowness_56 : decode cX5_slowness 56 = .ok (.getfield 118, 3) := by decide +kernel
theorem dX5_slowness_59 : decode cX5_slowness 59 = .ok (.aload 5, 2) := by decide +kernel
theorem dX5_slowness_61 : decode cX5_slowness 61 = .ok (.getfield 118, 3) := by decide +kernel
theorem dX5_slowness_64 : decode cX5_slowness 64 = .ok (.iload 8, 2) := by decide +kernel
theorem dX5_slowness_66 : decode cX5_slowness 66 = .ok (.invokevirtual 131, 3) := by decide +kernel
theorem dX5_slowness_69 : decode cX5_slowness 69 = .ok (.iload_n 3, 1) := by decide +kernel
theorem dX5_slowness_70 : decode cX5_slowness 70 = .ok (.isub, 1) := by decide +kernel
theorem dX5_slowness_71 : decode cX5_slowness 71 = .ok (.invokestatic 134, 3) := by decide +kernel
theorem dX5_slowness_74 : decode cX5_slowness 74 = .ok (.istore 9, 2) := by decide +kernel
theorem dX5_slowness_76 : decode cX5_slowness 76 = .ok (.iload 9, 2) := by decide +kernel
theorem dX5_slowness_78 : decode cX5_slowness 78 = .ok (.iload 7, 2) := by decide +kernel
theorem dX5_slowness_80 : decode cX5_slowness 80 = .ok (.if_icmp .ge 11, 3) := by decide +kernel
theorem dX5_slowness_83 : decode cX5_slowness 83 = .ok (.iload 9, 2) := by decide +kernel
theorem dX5_slowness_85 : decode cX5_slowness 85 = .ok (.istore 7, 2) := by decide +kernel
theorem dX5_slowness_87 : decode cX5_slowness 87 = .ok (.iload 8, 2) := by decide +kernel
theorem dX5_slowness_89 : decode cX5_slowness 89 = .ok (.istore 6, 2) := by decide +kernel
theorem dX5_slowness_91 : decode cX5_slowness 91 = .ok (.iinc 8 1, 3) := by decide +kernel
theorem dX5_slowness_94 : decode cX5_slowness 94 = .ok (.goto (-51), 3) := by decide +kernel
theorem dX5_slowness_97 : decode cX5_slowness 97 = .ok (.iload 6, 2) := by decide +kernel
theorem dX5_slowness_99 : decode cX5_slowness 99 = .ok (.ireturn, 1) := by decide +kernel
set_option maxRecDepth 20000 in
theorem ggX5_echo_X5_elementNumbered : GoodIn wsX5_echo wsX5_elementNumbered := goodIn_r _ [5, 6, 67, 68, 69, 70, 71, 72, 73, 74, 75, 76, 77] (by decide +kernel) (by decide +kernel)
set_option maxRecDepth 20000 in
theorem gX5_echo_X5_elementNumbered : GoodIn wsX5_echo (wsV RX5 76 RX5 yX5_elementNumbered wsX5_elementNumbered) := goodIn_app (goodIn_of _ (by decide +kernel)) ggX5_echo_X5_elementNumbered
set_option maxRecDepth 20000 in
theorem ggX5_echo_X5_echoAt : GoodIn wsX5_echo wsX5_echoAt := goodIn_r _ [10, 11, 12, 13, 14, 15, 16, 4, 17, 18, 19, 20, 21, 22, 23, 24, 25, 26, 27, 28, 29, 30, 31, 32, 33, 34, 35, 36, 37, 38, 39, 40, 41, 42, 43, 44, 45, 46, 47, 48, 49, 50, 51, 52, 53, 54, 55, 56, 57, 58, 59, 60, 61, 62, 63, 64, 65, 66, 78, 79, 80, 81, 67, 68, 69, 70, 71, 72, 73, 74, 75, 76, 77, 82, 83, 84, 85, 86, 87, 88, 89, 90, 91, 92, 93, 94] (by decide +kernel) (by decide +kernel)
set_option maxRecDepth 20000 in
theorem gX5_echo_X5_echoAt : GoodIn wsX5_echo (wsV RX5 139 RX5 yX5_echoAt wsX5_echoAt) := goodIn_app (goodIn_of _ (by decide +kernel)) ggX5_echo_X5_echoAt
theorem dX5_echo_0 : decode cX5_echo 0 = .ok (.aload_n 0, 1) := by decide +kernel
theorem dX5_echo_1 : decode cX5_echo 1 = .ok (.iload_n 1, 1) := by decide +kernel
theorem dX5_echo_2 : decode cX5_echo 2 = .ok (.invokevirtual 76, 3) := by decide +kernel
theorem dX5_echo_5 : decode cX5_echo 5 = .ok (.astore 4, 2) := by decide +kernel
theorem dX5_echo_7 : decode cX5_echo 7 = .ok (.aload_n 0, 1) := by decide +kernel
theorem dX5_echo_8 : decode cX5_echo 8 = .ok (.iload_n 2, 1) := by decide +kernel
theorem dX5_echo_9 : decode cX5_echo 9 = .ok (.invokevirtual 76, 3) := by decide +kernel
theorem dX5_echo_12 : decode cX5_echo 12 = .ok (.astore 5, 2) := by decide +kernel
theorem dX5_echo_14 : decode cX5_echo 14 = .ok (.aload 4, 2) := by decide +kernel
theorem dX5_echo_16 : decode cX5_echo 16 = .ok (.ifnull 8, 3) := by decide +kernel
theorem dX5_echo_19 : decode cX5_echo 19 = .ok (.aload 5, 2) := by decide +kernel
theorem dX5_echo_21 : decode cX5_echo 21 = .ok (.ifnonnull 5, 3) := by decide +kernel
theorem dX5_echo_24 : decode cX5_echo 24 = .ok (.iconst (-1), 1) := by decide +kernel
theorem dX5_echo_25 : decode cX5_echo 25 = .ok (.ireturn, 1) := by decide +kernel
theorem dX5_echo_26 : decode cX5_echo 26 = .ok (.aload_n 0, 1) := by decide +kernel
theorem dX5_echo_27 : decode cX5_echo 27 = .ok (.aload 4, 2) := by decide +kernel
theorem dX5_echo_29 : decode cX5_echo 29 = .ok (.aload 5, 2) := by decide +kernel
theorem dX5_echo_31 : decode cX5_echo 31 = .ok (.iload_n 3, 1) := by decide +kernel
theorem dX5_echo_32 : decode cX5_echo 32 = .ok (.i2l, 1) := by decide +kernel
theorem dX5_echo_33 : decode cX5_echo 33 = .ok (.invokevirtual 139, 3) := by decide +kernel
theorem dX5_echo_36 : decode cX5_echo 36 = .ok (.ireturn, 1) := by decide +kernel
set_option maxRecDepth 20000 in
theorem ggX5_gate_X5_elementNumbered : GoodIn wsX5_gate wsX5_elementNumbered := goodIn_r _ [11, 12, 69, 70, 71, 72, 73, 74, 75, 76, 77, 78, 79] (by decide +kernel) (by decide +kernel)
set_option maxRecDepth 20000 in
theorem gX5_gate_X5_elementNumbered : GoodIn wsX5_gate (wsV RX5 76 RX5 yX5_elementNumbered wsX5_elementNumbered) := goodIn_app (goodIn_of _ (by decide +kernel)) ggX5_gate_X5_elementNumbered
set_option maxRecDepth 20000 in
theorem ggX5_gate_X5_outside : GoodIn wsX5_gate wsX5_outside := goodIn_r _ [15] (by decide +kernel) (by decide +kernel)
set_option maxRecDepth 20000 in
theorem gX5_gate_X5_outside : GoodIn wsX5_gate (va_wsS RX5 44 yX5_outside wsX5_outside) := goodIn_app (goodIn_of _ (by decide +kernel)) ggX5_gate_X5_outside
set_option maxRecDepth 20000 in
theorem ggX5_gate_X5_echoTimeBy : GoodIn wsX5_gate wsX5_echoTimeBy := goodIn_r _ [19, 20, 21, 1, 22, 23, 24, 25, 26, 27, 28, 5, 29, 30, 31, 32, 10, 33, 34, 35, 36, 37, 38, 39, 40, 41, 42, 43, 44, 45, 46, 47, 4, 6, 48, 49, 50, 51, 14, 15, 52, 53, 54, 55, 56, 57, 58, 59, 60, 61, 62, 80, 81, 82, 83, 84, 85, 86, 87, 88, 89, 69, 70, 71, 72, 73, 74, 75, 76, 77, 78, 79, 90, 91, 92, 93, 94, 95, 96] (by decide +kernel) (by decide +kernel)
set_option maxRecDepth 20000 in
theorem gX5_gate_X5_echoTimeBy : GoodIn wsX5_gate (wsV RX5 126 RX5 yX5_echoTimeBy wsX5_echoTimeBy) := goodIn_app (goodIn_of _ (by decide +kernel)) ggX5_gate_X5_echoTimeBy
set_option maxRecDepth 20000 in
theorem ggX5_gate_X5_echoAt : GoodIn wsX5_gate wsX5_echoAt := goodIn_r _ [66, 67, 2, 68, 16, 17, 18, 10, 19, 20, 21, 1, 22, 23, 24, 25, 26, 27, 28, 5, 29, 30, 31, 32, 33, 34, 35, 36, 37, 38, 39, 40, 41, 42, 43, 44, 45, 46, 47, 4, 6, 48, 49, 50, 51, 14, 15, 52, 53, 54, 55, 56, 57, 58, 59, 60, 61, 62, 80, 81, 82, 83, 69, 70, 71, 72, 73, 74, 75, 76, 77, 78, 79, 84, 85, 86, 87, 88, 89, 90, 91, 92, 93, 94, 95, 96] (by decide +kernel) (by decide +kernel)
set_option maxRecDepth 20000 in
theorem gX5_gate_X5_echoAt : GoodIn wsX5_gate (wsV RX5 139 RX5 yX5_echoAt wsX5_echoAt) := goodIn_app (goodIn_of _ (by decide +kernel)) ggX5_gate_X5_echoAt
theorem dX5_gate_0 : decode cX5_gate 0 = .ok (.aload_n 0, 1) := by decide +kernel
theorem dX5_gate_1 : decode cX5_gate 1 = .ok (.iload_n 1, 1) := by decide +kernel
theorem dX5_gate_2 : decode cX5_gate 2 = .ok (.invokevirtual 76, 3) := by decide +kernel
theorem dX5_gate_5 : decode cX5_gate 5 = .ok (.astore 6, 2) := by decide +kernel
theorem dX5_gate_7 : decode cX5_gate 7 = .ok (.aload_n 0, 1) := by decide +kernel
theorem dX5_gate_8 : decode cX5_gate 8 = .ok (.iload_n 2, 1) := by decide +kernel
theorem dX5_gate_9 : decode cX5_gate 9 = .ok (.invokevirtual 76, 3) := by decide +kernel
theorem dX5_gate_12 : decode cX5_gate 12 = .ok (.astore 7, 2) := by decide +kernel
theorem dX5_gate_14 : decode cX5_gate 14 = .ok (.aload 6, 2) := by decide +kernel
theorem dX5_gate_16 : decode cX5_gate 16 = .ok (.ifnull 8, 3) := by decide +kernel
theorem dX5_gate_19 : decode cX5_gate 19 = .ok (.aload 7, 2) := by decide +kernel
theorem dX5_gate_21 : decode cX5_gate 21 = .ok (.ifnonnull 5, 3) := by decide +kernel
theorem dX5_gate_24 : decode cX5_gate 24 = .ok (.iconst (-1), 1) := by decide +kernel
theorem dX5_gate_25 : decode cX5_gate 25 = .ok (.ireturn, 1) := by decide +kernel
theorem dX5_gate_26 : decode cX5_gate 26 = .ok (.iload_n 3, 1) := by decide +kernel
theorem dX5_gate_27 : decode cX5_gate 27 = .ok (.iconst 0, 1) := by decide +kernel
theorem dX5_gate_28 : decode cX5_gate 28 = .ok (.iload 4, 2) := by decide +kernel
theorem dX5_gate_30 : decode cX5_gate 30 = .ok (.invokestatic 44, 3) := by decide +kernel
theorem dX5_gate_33 : decode cX5_gate 33 = .ok (.ifCond .ne 17, 3) := by decide +kernel
theorem dX5_gate_36 : decode cX5_gate 36 = .ok (.iload 4, 2) := by decide +kernel
theorem dX5_gate_38 : decode cX5_gate 38 = .ok (.sipush 4000, 3) := by decide +kernel
theorem dX5_gate_41 : decode cX5_gate 41 = .ok (.if_icmp .gt 9, 3) := by decide +kernel
theorem dX5_gate_44 : decode cX5_gate 44 = .ok (.iload 5, 2) := by decide +kernel
theorem dX5_gate_46 : decode cX5_gate 46 = .ok (.iconst 1, 1) := by decide +kernel
theorem dX5_gate_47 : decode cX5_gate 47 = .ok (.if_icmp .ge 6, 3) := by decide +kernel
theorem dX5_gate_50 : decode cX5_gate 50 = .ok (.bipush (-2), 2) := by decide +kernel
theorem dX5_gate_52 : decode cX5_gate 52 = .ok (.ireturn, 1) := by decide +kernel
theorem dX5_gate_53 : decode cX5_gate 53 = .ok (.ldc 143, 2) := by decide +kernel
theorem dX5_gate_55 : decode cX5_gate 55 = .ok (.istore 8, 2) := by decide +kernel
theorem dX5_gate_57 : decode cX5_gate 57 = .ok (.aload_n 0, 1) := by decide +kernel
theorem dX5_gate_58 : decode cX5_gate 58 = .ok (.getfield 24, 3) := by decide +kernel
theorem dX5_gate_61 : decode cX5_gate 61 = .ok (.astore 9, 2) := by decide +kernel
theorem dX5_gate_63 : decode cX5_gate 63 = .ok (.aload 9, 2) := by decide +kernel
theorem dX5_gate_65 : decode cX5_gate 65 = .ok (.arraylength, 1) := by decide +kernel
theorem dX5_gate_66 : decode cX5_gate 66 = .ok (.istore 10, 2) := by decide +kernel
theorem dX5_gate_68 : decode cX5_gate 68 = .ok (.iconst 0, 1) := by decide +kernel
theorem dX5_gate_69 : decode cX5_gate 69 = .ok (.istore 11, 2) := by decide +kernel
theorem dX5_gate_71 : decode cX5_gate 71 = .ok (.iload 11, 2) := by decide +kernel
theorem dX5_gate_73 : decode cX5_gate 73 = .ok (.iload 10, 2) := by decide +kernel
theorem dX5_gate_75 : decode cX5_gate 75 = .ok (.if_icmp .ge 93, 3) := by decide +kernel
theorem dX5_gate_78 : decode cX5_gate 78 = .ok (.aload 9, 2) := by decide +kernel
theorem dX5_gate_80 : decode cX5_gate 80 = .ok (.iload 11, 2) := by decide +kernel
theorem dX5_gate_82 : decode cX5_gate 82 = .ok (.aaload, 1) := by decide +kernel
theorem dX5_gate_83 : decode cX5_gate 83 = .ok (.astore 12, 2) := by decide +kernel
theorem dX5_gate_85 : decode cX5_gate 85 = .ok (.aload 12, 2) := by decide +kernel
theorem dX5_gate_87 : decode cX5_gate 87 = .ok (.ifnull 75, 3) := by decide +kernel
theorem dX5_gate_90 : decode cX5_gate 90 = .ok (.aload_n 0, 1) := by decide +kernel
theorem dX5_gate_91 : decode cX5_gate 91 = .ok (.aload 6, 2) := by decide +kernel
theorem dX5_gate_93 : decode cX5_gate 93 = .ok (.aload 7, 2) := by decide +kernel
theorem dX5_gate_95 : decode cX5_gate 95 = .ok (.aload 12, 2) := by decide +kernel
theorem dX5_gate_97 : decode cX5_gate 97 = .ok (.invokevirtual 126, 3) := by decide +kernel
theorem dX5_gate_100 : decode cX5_gate 100 = .ok (.istore 13, 2) := by decide +kernel
theorem dX5_gate_102 : decode cX5_gate 102 = .ok (.iload 8, 2) := by decide +kernel
theorem dX5_gate_104 : decode cX5_gate 104 = .ok (.ldc 143, 2) := by decide +kernel
theorem dX5_gate_106 : decode cX5_gate 106 = .ok (.if_icmp .eq 10, 3) := by decide +kernel
theorem dX5_gate_109 : decode cX5_gate 109 = .ok (.iload 13, 2) := by decide +kernel
theorem dX5_gate_111 : decode cX5_gate 111 = .ok (.iload 8, 2) := by decide +kernel
theorem dX5_gate_113 : decode cX5_gate 113 = .ok (.if_icmp .ge 7, 3) := by decide +kernel
theorem dX5_gate_116 : decode cX5_gate 116 = .ok (.iconst 1, 1) := by decide +kernel
theorem dX5_gate_117 : decode cX5_gate 117 = .ok (.goto 4, 3) := by decide +kernel
theorem dX5_gate_120 : decode cX5_gate 120 = .ok (.iconst 0, 1) := by decide +kernel
theorem dX5_gate_121 : decode cX5_gate 121 = .ok (.istore 14, 2) := by decide +kernel
theorem dX5_gate_123 : decode cX5_gate 123 = .ok (.iload 14, 2) := by decide +kernel
theorem dX5_gate_125 : decode cX5_gate 125 = .ok (.ifCond .eq 37, 3) := by decide +kernel
theorem dX5_gate_128 : decode cX5_gate 128 = .ok (.iload 13, 2) := by decide +kernel
theorem dX5_gate_130 : decode cX5_gate 130 = .ok (.iload_n 3, 1) := by decide +kernel
theorem dX5_gate_131 : decode cX5_gate 131 = .ok (.iload 4, 2) := by decide +kernel
theorem dX5_gate_133 : decode cX5_gate 133 = .ok (.invokestatic 44, 3) := by decide +kernel
theorem dX5_gate_136 : decode cX5_gate 136 = .ok (.ifCond .ne 26, 3) := by decide +kernel
theorem dX5_gate_139 : decode cX5_gate 139 = .ok (.aload_n 0, 1) := by decide +kernel
theorem dX5_gate_140 : decode cX5_gate 140 = .ok (.aload 6, 2) := by decide +kernel
theorem dX5_gate_142 : decode cX5_gate 142 = .ok (.aload 7, 2) := by decide +kernel
theorem dX5_gate_144 : decode cX5_gate 144 = .ok (.iload 13, 2) := by decide +kernel
theorem dX5_gate_146 : decode cX5_gate 146 = .ok (.i2l, 1) := by decide +kernel
theorem dX5_gate_147 : decode cX5_gate 147 = .ok (.invokevirtual 139, 3) := by decide +kernel
theorem dX5_gate_150 : decode cX5_gate 150 = .ok (.invokestatic 134, 3) := by decide +kernel
theorem dX5_gate_153 : decode cX5_gate 153 = .ok (.iload 5, 2) := by decide +kernel
theorem dX5_gate_155 : decode cX5_gate 155 = .ok (.if_icmp .lt 7, 3) := by decide +kernel
theorem dX5_gate_158 : decode cX5_gate 158 = .ok (.iload 13, 2) := by decide +kernel
theorem dX5_gate_160 : decode cX5_gate 160 = .ok (.istore 8, 2) := by decide +kernel
theorem dX5_gate_162 : decode cX5_gate 162 = .ok (.iinc 11 1, 3) := by decide +kernel
theorem dX5_gate_165 : decode cX5_gate 165 = .ok (.goto (-94), 3) := by decide +kernel
theorem dX5_gate_168 : decode cX5_gate 168 = .ok (.iload 8, 2) := by decide +kernel
theorem dX5_gate_170 : decode cX5_gate 170 = .ok (.ireturn, 1) := by decide +kernel
set_option maxRecDepth 20000 in
theorem ggX5_focus_X1_holds : GoodIn wsX5_focus wsX1_holds := goodIn_r _ [15, 16, 17, 18, 19, 20, 64, 65, 66, 67, 68, 69, 70] (by decide +kernel) (by decide +kernel)
set_option maxRecDepth 20000 in
theorem gX5_focus_X1_holds : GoodIn wsX5_focus (wsV RX5 86 RX1 yX1_holds wsX1_holds) := goodIn_app (goodIn_of _ (by decide +kernel)) ggX5_focus_X1_holds
set_option maxRecDepth 20000 in
theorem ggX5_focus_X5_countWorking : GoodIn wsX5_focus wsX5_countWorking := goodIn_r _ [24, 2, 3, 49, 50, 51, 52, 53, 54, 55, 56, 57, 58, 59, 60, 61, 62, 63] (by decide +kernel) (by decide +kernel)
set_option maxRecDepth 20000 in
theorem gX5_focus_X5_countWorking : GoodIn wsX5_focus (wsV RX5 83 RX5 yX5_countWorking wsX5_countWorking) := goodIn_app (goodIn_of _ (by decide +kernel)) ggX5_focus_X5_countWorking
set_option maxRecDepth 20000 in
theorem ggX5_focus_X1_timeTo : GoodIn wsX5_focus wsX1_timeTo := goodIn_r _ [28, 16, 29, 30, 7, 31, 32, 33, 34, 35, 18, 19, 20, 36, 37, 38, 14, 39, 40, 41, 42, 43, 44, 45, 46, 47, 48, 64, 65, 66, 67, 68, 69, 70] (by decide +kernel) (by decide +kernel)
set_option maxRecDepth 20000 in
theorem gX5_focus_X1_timeTo : GoodIn wsX5_focus (wsV RX5 119 RX1 yX1_timeTo wsX1_timeTo) := goodIn_app (goodIn_of _ (by decide +kernel)) ggX5_focus_X1_timeTo
theorem dX5_focus_0 : decode cX5_focus 0 = .ok (.aload_n 0, 1) := by decide +kernel
theorem dX5_focus_1 : decode cX5_focus 1 = .ok (.getfield 12, 3) := by decide +kernel
theorem dX5_focus_4 : decode cX5_focus 4 = .ok (.iload_n 1, 1) := by decide +kernel
theorem dX5_focus_5 : decode cX5_focus 5 = .ok (.iload_n 2, 1) := by decide +kernel
theorem dX5_focus_6 : decode cX5_focus 6 = .ok (.invokevirtual 86, 3) := by decide +kernel
theorem dX5_focus_9 : decode cX5_focus 9 = .ok (.ifCond .ne 6, 3) := by decide +kernel
theorem dX5_focus_12 : decode cX5_focus 12 = .ok (.bipush (-2), 2) := by decide +kernel
theorem dX5_focus_14 : decode cX5_focus 14 = .ok (.ireturn, 1) := by decide +kernel
theorem dX5_focus_15 : decode cX5_focus 15 = .ok (.aload_n 0, 1) := by decide +kernel
theorem dX5_focus_16 : decode cX5_focus 16 = .ok (.invokevirtual 83, 3) := by decide +kernel
theorem dX5_focus_19 : decode cX5_focus 19 = .ok (.iconst 1, 1) := by decide +kernel
theorem dX5_focus_20 : decode cX5_focus 20 = .ok (.if_icmp .ge 6, 3) := by decide +kernel
theorem dX5_focus_23 : decode cX5_focus 23 = .ok (.bipush (-3), 2) := by decide +kernel
theorem dX5_focus_25 : decode cX5_focus 25 = .ok (.ireturn, 1) := by decide +kernel
theorem dX5_focus_26 : decode cX5_focus 26 = .ok (.iconst 0, 1) := by decide +kernel
theorem dX5_focus_27 : decode cX5_focus 27 = .ok (.istore_n 3, 1) := by decide +kernel
theorem dX5_focus_28 : decode cX5_focus 28 = .ok (.aload_n 0, 1) := by decide +kernel
theorem dX5_focus_29 : decode cX5_focus 29 = .ok (.getfield 18, 3) := by decide +kernel
theorem dX5_focus_32 : decode cX5_focus 32 = .ok (.astore 4, 2) := by decide +kernel
theorem dX5_focus_34 : decode cX5_focus 34 = .ok (.aload 4, 2) := by decide +kernel
theorem dX5_focus_36 : decode cX5_focus 36 = .ok (.arraylength, 1) := by decide +kernel
theorem dX5_focus_37 : decode cX5_focus 37 = .ok (.istore 5, 2) := by decide +kernel
theorem dX5_focus_39 : decode cX5_focus 39 = .ok (.iconst 0, 1) := by decide +kernel
theorem dX5_focus_40 : decode cX5_focus 40 = .ok (.istore 6, 2) := by decide +kernel
theorem dX5_focus_42 : decode cX5_focus 42 = .ok (.iload 6, 2) := by decide +kernel
theorem dX5_focus_44 : decode cX5_focus 44 = .ok (.iload 5, 2) := by decide +kernel
theorem dX5_focus_46 : decode cX5_focus 46 = .ok (.if_icmp .ge 48, 3) := by decide +kernel
theorem dX5_focus_49 : decode cX5_focus 49 = .ok (.aload 4, 2) := by decide +kernel
theorem dX5_focus_51 : decode cX5_focus 51 = .ok (.iload 6, 2) := by decide +kernel
theorem dX5_focus_53 : decode cX5_focus 53 = .ok (.aaload, 1) := by decide +kernel
theorem dX5_focus_54 : decode cX5_focus 54 = .ok (.astore 7, 2) := by decide +kernel
theorem dX5_focus_56 : decode cX5_focus 56 = .ok (.aload 7, 2) := by decide +kernel
theorem dX5_focus_58 : decode cX5_focus 58 = .ok (.ifnull 30, 3) := by decide +kernel
theorem dX5_focus_61 : decode cX5_focus 61 = .ok (.aload 7, 2) := by decide +kernel
theorem dX5_focus_63 : decode cX5_focus 63 = .ok (.getfield 80, 3) := by decide +kernel
theorem dX5_focus_66 : decode cX5_focus 66 = .ok (.ifCond .eq 22, 3) := by decide +kernel
theorem dX5_focus_69 : decode cX5_focus 69 = .ok (.iload_n 3, 1) := by decide +kernel
theorem dX5_focus_70 : decode cX5_focus 70 = .ok (.aload_n 0, 1) := by decide +kernel
theorem dX5_focus_71 : decode cX5_focus 71 = .ok (.getfield 12, 3) := by decide +kernel
theorem dX5_focus_74 : decode cX5_focus 74 = .ok (.aload 7, 2) := by decide +kernel
theorem dX5_focus_76 : decode cX5_focus 76 = .ok (.getfield 118, 3) := by decide +kernel
theorem dX5_focus_79 : decode cX5_focus 79 = .ok (.iload_n 1, 1) := by decide +kernel
theorem dX5_focus_80 : decode cX5_focus 80 = .ok (.iload_n 2, 1) := by decide +kernel
theorem dX5_focus_81 : decode cX5_focus 81 = .ok (.invokevirtual 119, 3) := by decide +kernel
theorem dX5_focus_84 : decode cX5_focus 84 = .ok (.invokestatic 144, 3) := by decide +kernel
theorem dX5_focus_87 : decode cX5_focus 87 = .ok (.istore_n 3, 1) := by decide +kernel
theorem dX5_focus_88 : decode cX5_focus 88 = .ok (.iinc 6 1, 3) := by decide +kernel
theorem dX5_focus_91 : decode cX5_focus 91 = .ok (.goto (-49), 3) := by decide +kernel
theorem dX5_focus_94 : decode cX5_focus 94 = .ok (.aload_n 0, 1) := by decide +kernel
theorem dX5_focus_95 : decode cX5_focus 95 = .ok (.getfield 18, 3) := by decide +kernel
theorem dX5_focus_98 : decode cX5_focus 98 = .ok (.astore 4, 2) := by decide +kernel
theorem dX5_focus_100 : decode cX5_focus 100 = .ok (.aload 4, 2) := by decide +kernel
theorem dX5_focus_102 : decode cX5_focus 102 = .ok (.arraylength, 1) := by decide +kernel
theorem dX5_focus_103 : decode cX5_focus 103 = .ok (.istore 5, 2) := by decide +kernel
theorem dX5_focus_105 : decode cX5_focus 105 = .ok (.iconst 0, 1) := by decide +kernel
theorem dX5_focus_106 : decode cX5_focus 106 = .ok (.istore 6, 2) := by decide +kernel
theorem dX5_focus_108 : decode cX5_focus 108 = .ok (.iload 6, 2) := by decide +kernel
theorem dX5_focus_110 : decode cX5_focus 110 = .ok (.iload 5, 2) := by decide +kernel
theorem dX5_focus_112 : decode cX5_focus 112 = .ok (.if_icmp .ge 50, 3) := by decide +kernel
theorem dX5_focus_115 : decode cX5_focus 115 = .ok (.aload 4, 2) := by decide +kernel
theorem dX5_focus_117 : decode cX5_focus 117 = .ok (.iload 6, 2) := by decide +kernel
theorem dX5_focus_119 : decode cX5_focus 119 = .ok (.aaload, 1) := by decide +kernel
theorem dX5_focus_120 : decode cX5_focus 120 = .ok (.astore 7, 2) := by decide +kernel
theorem dX5_focus_122 : decode cX5_focus 122 = .ok (.aload 7, 2) := by decide +kernel
theorem dX5_focus_124 : decode cX5_focus 124 = .ok (.ifnull 32, 3) := by decide +kernel
theorem dX5_focus_127 : decode cX5_focus 127 = .ok (.aload 7, 2) := by decide +kernel
theorem dX5_focus_129 : decode cX5_focus 129 = .ok (.getfield 80, 3) := by decide +kernel
theorem dX5_focus_132 : decode cX5_focus 132 = .ok (.ifCond .eq 24, 3) := by decide +kernel
theorem dX5_focus_135 : decode cX5_focus 135 = .ok (.aload 7, 2) := by decide +kernel
theorem dX5_focus_137 : decode cX5_focus 137 = .ok (.iload_n 3, 1) := by decide +kernel
theorem dX5_focus_138 : decode cX5_focus 138 = .ok (.aload_n 0, 1) := by decide +kernel
theorem dX5_focus_139 : decode cX5_focus 139 = .ok (.getfield 12, 3) := by decide +kernel
theorem dX5_focus_142 : decode cX5_focus 142 = .ok (.aload 7, 2) := by decide +kernel
theorem dX5_focus_144 : decode cX5_focus 144 = .ok (.getfield 118, 3) := by decide +kernel
theorem dX5_focus_147 : decode cX5_focus 147 = .ok (.iload_n 1, 1) := by decide +kernel
theorem dX5_focus_148 : decode cX5_focus 148 = .ok (.iload_n 2, 1) := by decide +kernel
theorem dX5_focus_149 : decode cX5_focus 149 = .ok (.invokevirtual 119, 3) := by decide +kernel
theorem dX5_focus_152 : decode cX5_focus 152 = .ok (.isub, 1) := by decide +kernel
theorem dX5_focus_153 : decode cX5_focus 153 = .ok (.putfield 148, 3) := by decide +kernel
theorem dX5_focus_156 : decode cX5_focus 156 = .ok (.iinc 6 1, 3) := by decide +kernel
theorem dX5_focus_159 : decode cX5_focus 159 = .ok (.goto (-51), 3) := by decide +kernel
theorem dX5_focus_162 : decode cX5_focus 162 = .ok (.aload_n 0, 1) := by decide +kernel
theorem dX5_focus_163 : decode cX5_focus 163 = .ok (.iconst 1, 1) := by decide +kernel
theorem dX5_focus_164 : decode cX5_focus 164 = .ok (.putfield 62, 3) := by decide +kernel
theorem dX5_focus_167 : decode cX5_focus 167 = .ok (.iload_n 3, 1) := by decide +kernel
theorem dX5_focus_168 : decode cX5_focus 168 = .ok (.ireturn, 1) := by decide +kernel
set_option maxRecDepth 20000 in
theorem ggX5_delay_X5_elementNumbered : GoodIn wsX5_delay wsX5_elementNumbered := goodIn_r _ [9, 10, 11, 12, 13, 14, 15, 16, 17, 18, 19, 20, 21] (by decide +kernel) (by decide +kernel)
set_option maxRecDepth 20000 in
theorem gX5_delay_X5_elementNumbered : GoodIn wsX5_delay (wsV RX5 76 RX5 yX5_elementNumbered wsX5_elementNumbered) := goodIn_app (goodIn_of _ (by decide +kernel)) ggX5_delay_X5_elementNumbered
theorem dX5_delay_0 : decode cX5_delay 0 = .ok (.aload_n 0, 1) := by decide +kernel
theorem dX5_delay_1 : decode cX5_delay 1 = .ok (.iload_n 1, 1) := by decide +kernel
theorem dX5_delay_2 : decode cX5_delay 2 = .ok (.invokevirtual 76, 3) := by decide +kernel
theorem dX5_delay_5 : decode cX5_delay 5 = .ok (.astore_n 2, 1) := by decide +kernel
theorem dX5_delay_6 : decode cX5_delay 6 = .ok (.aload_n 2, 1) := by decide +kernel
theorem dX5_delay_7 : decode cX5_delay 7 = .ok (.ifnonnull 5, 3) := by decide +kernel
theorem dX5_delay_10 : decode cX5_delay 10 = .ok (.iconst (-1), 1) := by decide +kernel
theorem dX5_delay_11 : decode cX5_delay 11 = .ok (.ireturn, 1) := by decide +kernel
theorem dX5_delay_12 : decode cX5_delay 12 = .ok (.aload_n 0, 1) := by decide +kernel
theorem dX5_delay_13 : decode cX5_delay 13 = .ok (.getfield 62, 3) := by decide +kernel
theorem dX5_delay_16 : decode cX5_delay 16 = .ok (.ifCond .ne 6, 3) := by decide +kernel
theorem dX5_delay_19 : decode cX5_delay 19 = .ok (.bipush (-3), 2) := by decide +kernel
theorem dX5_delay_21 : decode cX5_delay 21 = .ok (.ireturn, 1) := by decide +kernel
theorem dX5_delay_22 : decode cX5_delay 22 = .ok (.aload_n 2, 1) := by decide +kernel
theorem dX5_delay_23 : decode cX5_delay 23 = .ok (.getfield 80, 3) := by decide +kernel
theorem dX5_delay_26 : decode cX5_delay 26 = .ok (.ifCond .eq 10, 3) := by decide +kernel
theorem dX5_delay_29 : decode cX5_delay 29 = .ok (.aload_n 2, 1) := by decide +kernel
theorem dX5_delay_30 : decode cX5_delay 30 = .ok (.getfield 148, 3) := by decide +kernel
theorem dX5_delay_33 : decode cX5_delay 33 = .ok (.goto 5, 3) := by decide +kernel
theorem dX5_delay_36 : decode cX5_delay 36 = .ok (.ldc 143, 2) := by decide +kernel
theorem dX5_delay_38 : decode cX5_delay 38 = .ok (.ireturn, 1) := by decide +kernel
set_option maxRecDepth 20000 in
theorem ggX5_heard_X5_elementNumbered : GoodIn wsX5_heard wsX5_elementNumbered := goodIn_r _ [6, 7, 73, 74, 75, 76, 77, 78, 79, 80, 81, 82, 83] (by decide +kernel) (by decide +kernel)
set_option maxRecDepth 20000 in
theorem gX5_heard_X5_elementNumbered : GoodIn wsX5_heard (wsV RX5 76 RX5 yX5_elementNumbered wsX5_elementNumbered) := goodIn_app (goodIn_of _ (by decide +kernel)) ggX5_heard_X5_elementNumbered
set_option maxRecDepth 20000 in
theorem ggX5_heard_X5_heardBy : GoodIn wsX5_heard wsX5_heardBy := goodIn_r _ [11, 7, 12, 13, 14, 15, 16, 5, 17, 18, 19, 20, 21, 22, 23, 24, 25, 26, 27, 28, 29, 30, 31, 32, 33, 34, 35, 36, 37, 38, 39, 40, 41, 42, 43, 44, 45, 46, 47, 48, 49, 50, 51, 52, 53, 54, 55, 56, 57, 58, 59, 60, 61, 62, 63, 64, 65, 66, 67, 68, 69, 70, 71, 72, 73, 74, 75, 76, 77, 78, 79, 80, 81, 82, 83, 84, 85, 86, 87, 88, 89, 90, 91, 92, 93, 94, 95, 96, 97, 98, 99, 100] (by decide +kernel) (by decide +kernel)
set_option maxRecDepth 20000 in
theorem gX5_heard_X5_heardBy : GoodIn wsX5_heard (wsV RX5 151 RX5 yX5_heardBy wsX5_heardBy) := goodIn_app (goodIn_of _ (by decide +kernel)) ggX5_heard_X5_heardBy
theorem dX5_heard_0 : decode cX5_heard 0 = .ok (.aload_n 0, 1) := by decide +kernel
theorem dX5_heard_1 : decode cX5_heard 1 = .ok (.iload_n 1, 1) := by decide +kernel
theorem dX5_heard_2 : decode cX5_heard 2 = .ok (.invokevirtual 76, 3) := by decide +kernel
theorem dX5_heard_5 : decode cX5_heard 5 = .ok (.astore_n 3, 1) := by decide +kernel
theorem dX5_heard_6 : decode cX5_heard 6 = .ok (.aload_n 3, 1) := by decide +kernel
theorem dX5_heard_7 : decode cX5_heard 7 = .ok (.ifnonnull 5, 3) := by decide +kernel
theorem dX5_heard_10 : decode cX5_heard 10 = .ok (.iconst (-1), 1) := by decide +kernel
theorem dX5_heard_11 : decode cX5_heard 11 = .ok (.ireturn, 1) := by decide +kernel
theorem dX5_heard_12 : decode cX5_heard 12 = .ok (.aload_n 0, 1) := by decide +kernel
theorem dX5_heard_13 : decode cX5_heard 13 = .ok (.getfield 62, 3) := by decide +kernel
theorem dX5_heard_16 : decode cX5_heard 16 = .ok (.ifCond .eq 13, 3) := by decide +kernel
theorem dX5_heard_19 : decode cX5_heard 19 = .ok (.aload_n 0, 1) := by decide +kernel
theorem dX5_heard_20 : decode cX5_heard 20 = .ok (.aload_n 3, 1) := by decide +kernel
theorem dX5_heard_21 : decode cX5_heard 21 = .ok (.iload_n 2, 1) := by decide +kernel
theorem dX5_heard_22 : decode cX5_heard 22 = .ok (.i2l, 1) := by decide +kernel
theorem dX5_heard_23 : decode cX5_heard 23 = .ok (.invokevirtual 151, 3) := by decide +kernel
theorem dX5_heard_26 : decode cX5_heard 26 = .ok (.goto 5, 3) := by decide +kernel
theorem dX5_heard_29 : decode cX5_heard 29 = .ok (.bipush (-3), 2) := by decide +kernel
theorem dX5_heard_31 : decode cX5_heard 31 = .ok (.ireturn, 1) := by decide +kernel
set_option maxRecDepth 20000 in
theorem ggX5_sum_X5_heardBy : GoodIn wsX5_sum wsX5_heardBy := goodIn_r _ [9, 2, 3, 4, 10, 11, 12, 8, 13, 14, 15, 16, 17, 18, 19, 20, 21, 22, 23, 24, 25, 26, 27, 28, 29, 30, 31, 32, 33, 34, 35, 36, 37, 38, 39, 40, 41, 42, 43, 44, 45, 46, 47, 48, 49, 50, 51, 52, 53, 54, 55, 56, 57, 58, 59, 60, 61, 62, 63, 64, 65, 66, 67, 68, 69, 70, 71, 72, 73, 74, 75, 76, 77, 78, 79, 80, 81, 82, 83, 84, 85, 86, 87, 88, 89, 90, 91, 92, 93, 94, 95, 96] (by decide +kernel) (by decide +kernel)
set_option maxRecDepth 20000 in
theorem gX5_sum_X5_heardBy : GoodIn wsX5_sum (wsV RX5 151 RX5 yX5_heardBy wsX5_heardBy) := goodIn_app (goodIn_of _ (by decide +kernel)) ggX5_sum_X5_heardBy
theorem dX5_sum_0 : decode cX5_sum 0 = .ok (.aload_n 0, 1) := by decide +kernel
theorem dX5_sum_1 : decode cX5_sum 1 = .ok (.getfield 62, 3) := by decide +kernel
theorem dX5_sum_4 : decode cX5_sum 4 = .ok (.ifCond .ne 6, 3) := by decide +kernel
theorem dX5_sum_7 : decode cX5_sum 7 = .ok (.bipush (-3), 2) := by decide +kernel
theorem dX5_sum_9 : decode cX5_sum 9 = .ok (.ireturn, 1) := by decide +kernel
theorem dX5_sum_10 : decode cX5_sum 10 = .ok (.iconst 0, 1) := by decide +kernel
theorem dX5_sum_11 : decode cX5_sum 11 = .ok (.istore_n 2, 1) := by decide +kernel
theorem dX5_sum_12 : decode cX5_sum 12 = .ok (.aload_n 0, 1) := by decide +kernel
theorem dX5_sum_13 : decode cX5_sum 13 = .ok (.getfield 18, 3) := by decide +kernel
theorem dX5_sum_16 : decode cX5_sum 16 = .ok (.astore_n 3, 1) := by decide +kernel
theorem dX5_sum_17 : decode cX5_sum 17 = .ok (.aload_n 3, 1) := by decide +kernel
theorem dX5_sum_18 : decode cX5_sum 18 = .ok (.arraylength, 1) := by decide +kernel
theorem dX5_sum_19 : decode cX5_sum 19 = .ok (.istore 4, 2) := by decide +kernel
theorem dX5_sum_21 : decode cX5_sum 21 = .ok (.iconst 0, 1) := by decide +kernel
theorem dX5_sum_22 : decode cX5_sum 22 = .ok (.istore 5, 2) := by decide +kernel
theorem dX5_sum_24 : decode cX5_sum 24 = .ok (.iload 5, 2) := by decide +kernel
theorem dX5_sum_26 : decode cX5_sum 26 = .ok (.iload 4, 2) := by decide +kernel
theorem dX5_sum_28 : decode cX5_sum 28 = .ok (.if_icmp .ge 46, 3) := by decide +kernel
theorem dX5_sum_31 : decode cX5_sum 31 = .ok (.aload_n 3, 1) := by decide +kernel
theorem dX5_sum_32 : decode cX5_sum 32 = .ok (.iload 5, 2) := by decide +kernel
theorem dX5_sum_34 : decode cX5_sum 34 = .ok (.aaload, 1) := by decide +kernel
theorem dX5_sum_35 : decode cX5_sum 35 = .ok (.astore 6, 2) := by decide +kernel
theorem dX5_sum_37 : decode cX5_sum 37 = .ok (.aload 6, 2) := by decide +kernel
theorem dX5_sum_39 : decode cX5_sum 39 = .ok (.ifnull 29, 3) := by decide +kernel
theorem dX5_sum_42 : decode cX5_sum 42 = .ok (.aload 6, 2) := by decide +kernel
theorem dX5_sum_44 : decode cX5_sum 44 = .ok (.getfield 80, 3) := by decide +kernel
theorem dX5_sum_47 : decode cX5_sum 47 = .ok (.ifCond .eq 21, 3) := by decide +kernel
theorem dX5_sum_50 : decode cX5_sum 50 = .ok (.iload_n 2, 1) := by decide +kernel
theorem dX5_sum_51 : decode cX5_sum 51 = .ok (.aload_n 0, 1) := by decide +kernel
theorem dX5_sum_52 : decode cX5_sum 52 = .ok (.aload 6, 2) := by decide +kernel
theorem dX5_sum_54 : decode cX5_sum 54 = .ok (.iload_n 1, 1) := by decide +kernel
theorem dX5_sum_55 : decode cX5_sum 55 = .ok (.i2l, 1) := by decide +kernel
theorem dX5_sum_56 : decode cX5_sum 56 = .ok (.aload 6, 2) := by decide +kernel
theorem dX5_sum_58 : decode cX5_sum 58 = .ok (.getfield 148, 3) := by decide +kernel
theorem dX5_sum_61 : decode cX5_sum 61 = .ok (.i2l, 1) := by decide +kernel
theorem dX5_sum_62 : decode cX5_sum 62 = .ok (.lsub, 1) := by decide +kernel
theorem dX5_sum_63 : decode cX5_sum 63 = .ok (.invokevirtual 151, 3) := by decide +kernel
theorem dX5_sum_66 : decode cX5_sum 66 = .ok (.iadd, 1) := by decide +kernel
theorem dX5_sum_67 : decode cX5_sum 67 = .ok (.istore_n 2, 1) := by decide +kernel
theorem dX5_sum_68 : decode cX5_sum 68 = .ok (.iinc 5 1, 3) := by decide +kernel
theorem dX5_sum_71 : decode cX5_sum 71 = .ok (.goto (-47), 3) := by decide +kernel
theorem dX5_sum_74 : decode cX5_sum 74 = .ok (.iload_n 2, 1) := by decide +kernel
theorem dX5_sum_75 : decode cX5_sum 75 = .ok (.ireturn, 1) := by decide +kernel
set_option maxRecDepth 20000 in
theorem ggX5_board_X1_holds : GoodIn wsX5_board wsX1_holds := goodIn_r _ [9, 10, 11, 12, 13, 14, 82, 83, 84, 85, 86, 87, 88] (by decide +kernel) (by decide +kernel)
set_option maxRecDepth 20000 in
theorem gX5_board_X1_holds : GoodIn wsX5_board (wsV RX5 86 RX1 yX1_holds wsX1_holds) := goodIn_app (goodIn_of _ (by decide +kernel)) ggX5_board_X1_holds
set_option maxRecDepth 20000 in
theorem ggX5_board_X1_timeTo : GoodIn wsX5_board wsX1_timeTo := goodIn_r _ [18, 10, 19, 20, 21, 22, 23, 24, 25, 26, 12, 13, 14, 27, 28, 29, 8, 30, 31, 32, 33, 34, 35, 36, 37, 38, 39, 82, 83, 84, 85, 86, 87, 88] (by decide +kernel) (by decide +kernel)
set_option maxRecDepth 20000 in
theorem gX5_board_X1_timeTo : GoodIn wsX5_board (wsV RX5 119 RX1 yX1_timeTo wsX1_timeTo) := goodIn_app (goodIn_of _ (by decide +kernel)) ggX5_board_X1_timeTo
set_option maxRecDepth 20000 in
theorem ggX5_board_X5_echoAt : GoodIn wsX5_board wsX5_echoAt := goodIn_r _ [43, 3, 44, 45, 46, 47, 48, 13, 49, 50, 51, 52, 53, 54, 55, 1, 4, 56, 35, 21, 36, 57, 58, 59, 60, 61, 62, 63, 64, 65, 8, 66, 10, 11, 15, 16, 17, 18, 19, 20, 22, 23, 24, 25, 26, 12, 14, 27, 28, 29, 30, 31, 32, 33, 34, 37, 38, 39, 78, 79, 80, 81, 67, 68, 69, 70, 71, 72, 73, 74, 75, 76, 77, 89, 90, 91, 92, 93, 94, 82, 83, 84, 85, 86, 87, 88] (by decide +kernel) (by decide +kernel)
set_option maxRecDepth 20000 in
theorem gX5_board_X5_echoAt : GoodIn wsX5_board (wsV RX5 139 RX5 yX5_echoAt wsX5_echoAt) := goodIn_app (goodIn_of _ (by decide +kernel)) ggX5_board_X5_echoAt
theorem dX5_board_0 : decode cX5_board 0 = .ok (.aload_n 0, 1) := by decide +kernel
theorem dX5_board_1 : decode cX5_board 1 = .ok (.getfield 12, 3) := by decide +kernel
theorem dX5_board_4 : decode cX5_board 4 = .ok (.iload_n 1, 1) := by decide +kernel
theorem dX5_board_5 : decode cX5_board 5 = .ok (.iload_n 2, 1) := by decide +kernel
theorem dX5_board_6 : decode cX5_board 6 = .ok (.invokevirtual 86, 3) := by decide +kernel
theorem dX5_board_9 : decode cX5_board 9 = .ok (.ifCond .ne 6, 3) := by decide +kernel
theorem dX5_board_12 : decode cX5_board 12 = .ok (.bipush (-2), 2) := by decide +kernel
theorem dX5_board_14 : decode cX5_board 14 = .ok (.ireturn, 1) := by decide +kernel
theorem dX5_board_15 : decode cX5_board 15 = .ok (.iconst 0, 1) := by decide +kernel
theorem dX5_board_16 : decode cX5_board 16 = .ok (.istore_n 3, 1) := by decide +kernel
theorem dX5_board_17 : decode cX5_board 17 = .ok (.aload_n 0, 1) := by decide +kernel
theorem dX5_board_18 : decode cX5_board 18 = .ok (.getfield 18, 3) := by decide +kernel
theorem dX5_board_21 : decode cX5_board 21 = .ok (.astore 4, 2) := by decide +kernel
theorem dX5_board_23 : decode cX5_board 23 = .ok (.aload 4, 2) := by decide +kernel
theorem dX5_board_25 : decode cX5_board 25 = .ok (.arraylength, 1) := by decide +kernel
theorem dX5_board_26 : decode cX5_board 26 = .ok (.istore 5, 2) := by decide +kernel
theorem dX5_board_28 : decode cX5_board 28 = .ok (.iconst 0, 1) := by decide +kernel
theorem dX5_board_29 : decode cX5_board 29 = .ok (.istore 6, 2) := by decide +kernel
theorem dX5_board_31 : decode cX5_board 31 = .ok (.iload 6, 2) := by decide +kernel
theorem dX5_board_33 : decode cX5_board 33 = .ok (.iload 5, 2) := by decide +kernel
theorem dX5_board_35 : decode cX5_board 35 = .ok (.if_icmp .ge 117, 3) := by decide +kernel
theorem dX5_board_38 : decode cX5_board 38 = .ok (.aload 4, 2) := by decide +kernel
theorem dX5_board_40 : decode cX5_board 40 = .ok (.iload 6, 2) := by decide +kernel
theorem dX5_board_42 : decode cX5_board 42 = .ok (.aaload, 1) := by decide +kernel
theorem dX5_board_43 : decode cX5_board 43 = .ok (.astore 7, 2) := by decide +kernel
theorem dX5_board_45 : decode cX5_board 45 = .ok (.aload_n 0, 1) := by decide +kernel
theorem dX5_board_46 : decode cX5_board 46 = .ok (.getfield 18, 3) := by decide +kernel
theorem dX5_board_49 : decode cX5_board 49 = .ok (.astore 8, 2) := by decide +kernel
theorem dX5_board_51 : decode cX5_board 51 = .ok (.aload 8, 2) := by decide +kernel
theorem dX5_board_53 : decode cX5_board 53 = .ok (.arraylength, 1) := by decide +kernel
theorem dX5_board_54 : decode cX5_board 54 = .ok (.istore 9, 2) := by decide +kernel
theorem dX5_board_56 : decode cX5_board 56 = .ok (.iconst 0, 1) := by decide +kernel
theorem dX5_board_57 : decode cX5_board 57 = .ok (.istore 10, 2) := by decide +kernel
theorem dX5_board_59 : decode cX5_board 59 = .ok (.iload 10, 2) := by decide +kernel
theorem dX5_board_61 : decode cX5_board 61 = .ok (.iload 9, 2) := by decide +kernel
theorem dX5_board_63 : decode cX5_board 63 = .ok (.if_icmp .ge 83, 3) := by decide +kernel
theorem dX5_board_66 : decode cX5_board 66 = .ok (.aload 8, 2) := by decide +kernel
theorem dX5_board_68 : decode cX5_board 68 = .ok (.iload 10, 2) := by decide +kernel
theorem dX5_board_70 : decode cX5_board 70 = .ok (.aaload, 1) := by decide +kernel
theorem dX5_board_71 : decode cX5_board 71 = .ok (.astore 11, 2) := by decide +kernel
theorem dX5_board_73 : decode cX5_board 73 = .ok (.aload 7, 2) := by decide +kernel
theorem dX5_board_75 : decode cX5_board 75 = .ok (.ifnull 65, 3) := by decide +kernel
theorem dX5_board_78 : decode cX5_board 78 = .ok (.aload 11, 2) := by decide +kernel
theorem dX5_board_80 : decode cX5_board 80 = .ok (.ifnull 60, 3) := by decide +kernel
theorem dX5_board_83 : decode cX5_board 83 = .ok (.aload 7, 2) := by decide +kernel
theorem dX5_board_85 : decode cX5_board 85 = .ok (.getfield 80, 3) := by decide +kernel
theorem dX5_board_88 : decode cX5_board 88 = .ok (.ifCond .eq 52, 3) := by decide +kernel
theorem dX5_board_91 : decode cX5_board 91 = .ok (.aload 11, 2) := by decide +kernel
theorem dX5_board_93 : decode cX5_board 93 = .ok (.getfield 80, 3) := by decide +kernel
theorem dX5_board_96 : decode cX5_board 96 = .ok (.ifCond .eq 44, 3) := by decide +kernel
theorem dX5_board_99 : decode cX5_board 99 = .ok (.iload_n 3, 1) := by decide +kernel
theorem dX5_board_100 : decode cX5_board 100 = .ok (.aload_n 0, 1) := by decide +kernel
theorem dX5_board_101 : decode cX5_board 101 = .ok (.aload 7, 2) := by decide +kernel
theorem dX5_board_103 : decode cX5_board 103 = .ok (.aload 11, 2) := by decide +kernel
theorem dX5_board_105 : decode cX5_board 105 = .ok (.aload_n 0, 1) := by decide +kernel
theorem dX5_board_106 : decode cX5_board 106 = .ok (.getfield 12, 3) := by decide +kernel
theorem dX5_board_109 : decode cX5_board 109 = .ok (.aload 7, 2) := by decide +kernel
theorem dX5_board_111 : decode cX5_board 111 = .ok (.getfield 118, 3) := by decide +kernel
theorem dX5_board_114 : decode cX5_board 114 = .ok (.iload_n 1, 1) := by decide +kernel
theorem dX5_board_115 : decode cX5_board 115 = .ok (.iload_n 2, 1) := by decide +kernel
theorem dX5_board_116 : decode cX5_board 116 = .ok (.invokevirtual 119, 3) := by decide +kernel
theorem dX5_board_119 : decode cX5_board 119 = .ok (.aload_n 0, 1) := by decide +kernel
theorem dX5_board_120 : decode cX5_board 120 = .ok (.getfield 12, 3) := by decide +kernel
theorem dX5_board_123 : decode cX5_board 123 = .ok (.aload 11, 2) := by decide +kernel
theorem dX5_board_125 : decode cX5_board 125 = .ok (.getfield 118, 3) := by decide +kernel
theorem dX5_board_128 : decode cX5_board 128 = .ok (.iload_n 1, 1) := by decide +kernel
theorem dX5_board_129 : decode cX5_board 129 = .ok (.iload_n 2, 1) := by decide +kernel
theorem dX5_board_130 : decode cX5_board 130 = .ok (.invokevirtual 119, 3) := by decide +kernel
theorem dX5_board_133 : decode cX5_board 133 = .ok (.iadd, 1) := by decide +kernel
theorem dX5_board_134 : decode cX5_board 134 = .ok (.i2l, 1) := by decide +kernel
theorem dX5_board_135 : decode cX5_board 135 = .ok (.invokevirtual 139, 3) := by decide +kernel
theorem dX5_board_138 : decode cX5_board 138 = .ok (.iadd, 1) := by decide +kernel
theorem dX5_board_139 : decode cX5_board 139 = .ok (.istore_n 3, 1) := by decide +kernel
theorem dX5_board_140 : decode cX5_board 140 = .ok (.iinc 10 1, 3) := by decide +kernel
theorem dX5_board_143 : decode cX5_board 143 = .ok (.goto (-84), 3) := by decide +kernel
theorem dX5_board_146 : decode cX5_board 146 = .ok (.iinc 6 1, 3) := by decide +kernel
theorem dX5_board_149 : decode cX5_board 149 = .ok (.goto (-118), 3) := by decide +kernel
theorem dX5_board_152 : decode cX5_board 152 = .ok (.iload_n 3, 1) := by decide +kernel
theorem dX5_board_153 : decode cX5_board 153 = .ok (.ireturn, 1) := by decide +kernel
set_option maxRecDepth 20000 in
theorem ggX5_tell_X5_elementNumbered : GoodIn wsX5_tell wsX5_elementNumbered := goodIn_r _ [10, 11, 24, 25, 26, 27, 28, 29, 30, 31, 32, 33, 34] (by decide +kernel) (by decide +kernel)
set_option maxRecDepth 20000 in
theorem gX5_tell_X5_elementNumbered : GoodIn wsX5_tell (wsV RX5 76 RX5 yX5_elementNumbered wsX5_elementNumbered) := goodIn_app (goodIn_of _ (by decide +kernel)) ggX5_tell_X5_elementNumbered
set_option maxRecDepth 20000 in
theorem ggX5_tell_X5_outside : GoodIn wsX5_tell wsX5_outside := goodIn_r _ [14] (by decide +kernel) (by decide +kernel)
set_option maxRecDepth 20000 in
theorem gX5_tell_X5_outside : GoodIn wsX5_tell (va_wsS RX5 44 yX5_outside wsX5_outside) := goodIn_app (goodIn_of _ (by decide +kernel)) ggX5_tell_X5_outside
set_option maxRecDepth 20000 in
theorem ggX5_tell_X4_init : GoodIn wsX5_tell wsX4_init := goodIn_r _ [17, 18, 19, 20, 21, 22, 23, 35, 36, 37] (by decide +kernel) (by decide +kernel)
set_option maxRecDepth 20000 in
theorem gX5_tell_X4_init : GoodIn wsX5_tell (wsX4_init) := ggX5_tell_X4_init
theorem dX5_tell_0 : decode cX5_tell 0 = .ok (.aload_n 0, 1) := by decide +kernel
theorem dX5_tell_1 : decode cX5_tell 1 = .ok (.iload_n 1, 1) := by decide +kernel
theorem dX5_tell_2 : decode cX5_tell 2 = .ok (.invokevirtual 76, 3) := by decide +kernel
theorem dX5_tell_5 : decode cX5_tell 5 = .ok (.astore 4, 2) := by decide +kernel
theorem dX5_tell_7 : decode cX5_tell 7 = .ok (.aload_n 0, 1) := by decide +kernel
theorem dX5_tell_8 : decode cX5_tell 8 = .ok (.iload_n 2, 1) := by decide +kernel
theorem dX5_tell_9 : decode cX5_tell 9 = .ok (.invokevirtual 76, 3) := by decide +kernel
theorem dX5_tell_12 : decode cX5_tell 12 = .ok (.astore 5, 2) := by decide +kernel
theorem dX5_tell_14 : decode cX5_tell 14 = .ok (.aload 4, 2) := by decide +kernel
theorem dX5_tell_16 : decode cX5_tell 16 = .ok (.ifnull 8, 3) := by decide +kernel
theorem dX5_tell_19 : decode cX5_tell 19 = .ok (.aload 5, 2) := by decide +kernel
theorem dX5_tell_21 : decode cX5_tell 21 = .ok (.ifnonnull 5, 3) := by decide +kernel
theorem dX5_tell_24 : decode cX5_tell 24 = .ok (.iconst (-1), 1) := by decide +kernel
theorem dX5_tell_25 : decode cX5_tell 25 = .ok (.ireturn, 1) := by decide +kernel
theorem dX5_tell_26 : decode cX5_tell 26 = .ok (.iload_n 3, 1) := by decide +kernel
theorem dX5_tell_27 : decode cX5_tell 27 = .ok (.iconst 0, 1) := by decide +kernel
theorem dX5_tell_28 : decode cX5_tell 28 = .ok (.sipush 4000, 3) := by decide +kernel
theorem dX5_tell_31 : decode cX5_tell 31 = .ok (.invokestatic 44, 3) := by decide +kernel
theorem dX5_tell_34 : decode cX5_tell 34 = .ok (.ifCond .eq 6, 3) := by decide +kernel
theorem dX5_tell_37 : decode cX5_tell 37 = .ok (.bipush (-2), 2) := by decide +kernel
theorem dX5_tell_39 : decode cX5_tell 39 = .ok (.ireturn, 1) := by decide +kernel
theorem dX5_tell_40 : decode cX5_tell 40 = .ok (.aload_n 0, 1) := by decide +kernel
theorem dX5_tell_41 : decode cX5_tell 41 = .ok (.getfield 155, 3) := by decide +kernel
theorem dX5_tell_44 : decode cX5_tell 44 = .ok (.bipush 6, 2) := by decide +kernel
theorem dX5_tell_46 : decode cX5_tell 46 = .ok (.if_icmp .lt 6, 3) := by decide +kernel
theorem dX5_tell_49 : decode cX5_tell 49 = .ok (.bipush (-4), 2) := by decide +kernel
theorem dX5_tell_51 : decode cX5_tell 51 = .ok (.ireturn, 1) := by decide +kernel
theorem dX5_tell_52 : decode cX5_tell 52 = .ok (.aload_n 0, 1) := by decide +kernel
theorem dX5_tell_53 : decode cX5_tell 53 = .ok (.getfield 30, 3) := by decide +kernel
theorem dX5_tell_56 : decode cX5_tell 56 = .ok (.aload_n 0, 1) := by decide +kernel
theorem dX5_tell_57 : decode cX5_tell 57 = .ok (.getfield 155, 3) := by decide +kernel
theorem dX5_tell_60 : decode cX5_tell 60 = .ok (.new 28, 3) := by decide +kernel
theorem dX5_tell_63 : decode cX5_tell 63 = .ok (.dup, 1) := by decide +kernel
theorem dX5_tell_64 : decode cX5_tell 64 = .ok (.aload 4, 2) := by decide +kernel
theorem dX5_tell_66 : decode cX5_tell 66 = .ok (.aload 5, 2) := by decide +kernel
theorem dX5_tell_68 : decode cX5_tell 68 = .ok (.iload_n 3, 1) := by decide +kernel
theorem dX5_tell_69 : decode cX5_tell 69 = .ok (.invokespecial 158, 3) := by decide +kernel
theorem dX5_tell_72 : decode cX5_tell 72 = .ok (.aastore, 1) := by decide +kernel
theorem dX5_tell_73 : decode cX5_tell 73 = .ok (.aload_n 0, 1) := by decide +kernel
theorem dX5_tell_74 : decode cX5_tell 74 = .ok (.dup, 1) := by decide +kernel
theorem dX5_tell_75 : decode cX5_tell 75 = .ok (.getfield 155, 3) := by decide +kernel
theorem dX5_tell_78 : decode cX5_tell 78 = .ok (.iconst 1, 1) := by decide +kernel
theorem dX5_tell_79 : decode cX5_tell 79 = .ok (.iadd, 1) := by decide +kernel
theorem dX5_tell_80 : decode cX5_tell 80 = .ok (.putfield 155, 3) := by decide +kernel
theorem dX5_tell_83 : decode cX5_tell 83 = .ok (.aload_n 0, 1) := by decide +kernel
theorem dX5_tell_84 : decode cX5_tell 84 = .ok (.getfield 155, 3) := by decide +kernel
theorem dX5_tell_87 : decode cX5_tell 87 = .ok (.ireturn, 1) := by decide +kernel
theorem dX5_forget_0 : decode cX5_forget 0 = .ok (.aload_n 0, 1) := by decide +kernel
theorem dX5_forget_1 : decode cX5_forget 1 = .ok (.getfield 155, 3) := by decide +kernel
theorem dX5_forget_4 : decode cX5_forget 4 = .ok (.istore_n 1, 1) := by decide +kernel
theorem dX5_forget_5 : decode cX5_forget 5 = .ok (.iconst 0, 1) := by decide +kernel
theorem dX5_forget_6 : decode cX5_forget 6 = .ok (.istore_n 2, 1) := by decide +kernel
theorem dX5_forget_7 : decode cX5_forget 7 = .ok (.iload_n 2, 1) := by decide +kernel
theorem dX5_forget_8 : decode cX5_forget 8 = .ok (.aload_n 0, 1) := by decide +kernel
theorem dX5_forget_9 : decode cX5_forget 9 = .ok (.getfield 30, 3) := by decide +kernel
theorem dX5_forget_12 : decode cX5_forget 12 = .ok (.arraylength, 1) := by decide +kernel
theorem dX5_forget_13 : decode cX5_forget 13 = .ok (.if_icmp .ge 16, 3) := by decide +kernel
theorem dX5_forget_16 : decode cX5_forget 16 = .ok (.aload_n 0, 1) := by decide +kernel
theorem dX5_forget_17 : decode cX5_forget 17 = .ok (.getfield 30, 3) := by decide +kernel
theorem dX5_forget_20 : decode cX5_forget 20 = .ok (.iload_n 2, 1) := by decide +kernel
theorem dX5_forget_21 : decode cX5_forget 21 = .ok (.aconst_null, 1) := by decide +kernel
theorem dX5_forget_22 : decode cX5_forget 22 = .ok (.aastore, 1) := by decide +kernel
theorem dX5_forget_23 : decode cX5_forget 23 = .ok (.iinc 2 1, 3) := by decide +kernel
theorem dX5_forget_26 : decode cX5_forget 26 = .ok (.goto (-19), 3) := by decide +kernel
theorem dX5_forget_29 : decode cX5_forget 29 = .ok (.aload_n 0, 1) := by decide +kernel
theorem dX5_forget_30 : decode cX5_forget 30 = .ok (.iconst 0, 1) := by decide +kernel
theorem dX5_forget_31 : decode cX5_forget 31 = .ok (.putfield 155, 3) := by decide +kernel
theorem dX5_forget_34 : decode cX5_forget 34 = .ok (.iload_n 1, 1) := by decide +kernel
theorem dX5_forget_35 : decode cX5_forget 35 = .ok (.ireturn, 1) := by decide +kernel
set_option maxRecDepth 20000 in
theorem ggX5_places_X5_outside : GoodIn wsX5_places wsX5_outside := goodIn_r _ [6] (by decide +kernel) (by decide +kernel)
set_option maxRecDepth 20000 in
theorem gX5_places_X5_outside : GoodIn wsX5_places (va_wsS RX5 44 yX5_outside wsX5_outside) := goodIn_app (goodIn_of _ (by decide +kernel)) ggX5_places_X5_outside
set_option maxRecDepth 20000 in
theorem ggX5_places_X1_floor : GoodIn wsX5_places wsX1_floor := goodIn_r _ [11, 12, 13, 60, 61, 62, 63, 64, 65, 66] (by decide +kernel) (by decide +kernel)
set_option maxRecDepth 20000 in
theorem gX5_places_X1_floor : GoodIn wsX5_places (wsV RX5 66 RX1 yX1_floor wsX1_floor) := goodIn_app (goodIn_of _ (by decide +kernel)) ggX5_places_X1_floor
set_option maxRecDepth 20000 in
theorem ggX5_places_X5_fits : GoodIn wsX5_places wsX5_fits := goodIn_r _ [17, 18, 1, 19, 20, 21, 22, 23, 24, 25, 26, 27, 28, 29, 10, 30, 12, 31, 32, 33, 34, 35, 4, 5, 6, 36, 37, 38, 39, 40, 41, 42, 43, 44, 45, 46, 47, 48, 49, 50, 51, 52, 53, 54, 55, 56, 57, 58, 59, 67, 68, 69, 70, 71, 72, 73, 60, 61, 62, 63, 64, 65, 66] (by decide +kernel) (by decide +kernel)
set_option maxRecDepth 20000 in
theorem gX5_places_X5_fits : GoodIn wsX5_places (wsV RX5 164 RX5 yX5_fits wsX5_fits) := goodIn_app (goodIn_of _ (by decide +kernel)) ggX5_places_X5_fits
theorem dX5_places_0 : decode cX5_places 0 = .ok (.iload_n 1, 1) := by decide +kernel
theorem dX5_places_1 : decode cX5_places 1 = .ok (.iconst 0, 1) := by decide +kernel
theorem dX5_places_2 : decode cX5_places 2 = .ok (.bipush 100, 2) := by decide +kernel
theorem dX5_places_4 : decode cX5_places 4 = .ok (.invokestatic 44, 3) := by decide +kernel
theorem dX5_places_7 : decode cX5_places 7 = .ok (.ifCond .eq 6, 3) := by decide +kernel
theorem dX5_places_10 : decode cX5_places 10 = .ok (.bipush (-2), 2) := by decide +kernel
theorem dX5_places_12 : decode cX5_places 12 = .ok (.ireturn, 1) := by decide +kernel
theorem dX5_places_13 : decode cX5_places 13 = .ok (.iconst 0, 1) := by decide +kernel
theorem dX5_places_14 : decode cX5_places 14 = .ok (.istore_n 2, 1) := by decide +kernel
theorem dX5_places_15 : decode cX5_places 15 = .ok (.aload_n 0, 1) := by decide +kernel
theorem dX5_places_16 : decode cX5_places 16 = .ok (.getfield 12, 3) := by decide +kernel
theorem dX5_places_19 : decode cX5_places 19 = .ok (.getfield 161, 3) := by decide +kernel
theorem dX5_places_22 : decode cX5_places 22 = .ok (.istore_n 3, 1) := by decide +kernel
theorem dX5_places_23 : decode cX5_places 23 = .ok (.iload_n 3, 1) := by decide +kernel
theorem dX5_places_24 : decode cX5_places 24 = .ok (.aload_n 0, 1) := by decide +kernel
theorem dX5_places_25 : decode cX5_places 25 = .ok (.getfield 12, 3) := by decide +kernel
theorem dX5_places_28 : decode cX5_places 28 = .ok (.invokevirtual 66, 3) := by decide +kernel
theorem dX5_places_31 : decode cX5_places 31 = .ok (.if_icmp .gt 39, 3) := by decide +kernel
theorem dX5_places_34 : decode cX5_places 34 = .ok (.iconst 0, 1) := by decide +kernel
theorem dX5_places_35 : decode cX5_places 35 = .ok (.istore 4, 2) := by decide +kernel
theorem dX5_places_37 : decode cX5_places 37 = .ok (.iload 4, 2) := by decide +kernel
theorem dX5_places_39 : decode cX5_places 39 = .ok (.bipush 50, 2) := by decide +kernel
theorem dX5_places_41 : decode cX5_places 41 = .ok (.if_icmp .gt 23, 3) := by decide +kernel
theorem dX5_places_44 : decode cX5_places 44 = .ok (.aload_n 0, 1) := by decide +kernel
theorem dX5_places_45 : decode cX5_places 45 = .ok (.iload 4, 2) := by decide +kernel
theorem dX5_places_47 : decode cX5_places 47 = .ok (.iload_n 3, 1) := by decide +kernel
theorem dX5_places_48 : decode cX5_places 48 = .ok (.iload_n 1, 1) := by decide +kernel
theorem dX5_places_49 : decode cX5_places 49 = .ok (.invokevirtual 164, 3) := by decide +kernel
theorem dX5_places_52 : decode cX5_places 52 = .ok (.ifCond .eq 6, 3) := by decide +kernel
theorem dX5_places_55 : decode cX5_places 55 = .ok (.iinc 2 1, 3) := by decide +kernel
theorem dX5_places_58 : decode cX5_places 58 = .ok (.iinc 4 1, 3) := by decide +kernel
theorem dX5_places_61 : decode cX5_places 61 = .ok (.goto (-24), 3) := by decide +kernel
theorem dX5_places_64 : decode cX5_places 64 = .ok (.iinc 3 1, 3) := by decide +kernel
theorem dX5_places_67 : decode cX5_places 67 = .ok (.goto (-44), 3) := by decide +kernel
theorem dX5_places_70 : decode cX5_places 70 = .ok (.iload_n 2, 1) := by decide +kernel
theorem dX5_places_71 : decode cX5_places 71 = .ok (.ireturn, 1) := by decide +kernel
set_option maxRecDepth 20000 in
theorem ggX5_place_X5_outside : GoodIn wsX5_place wsX5_outside := goodIn_r _ [7] (by decide +kernel) (by decide +kernel)
set_option maxRecDepth 20000 in
theorem gX5_place_X5_outside : GoodIn wsX5_place (va_wsS RX5 44 yX5_outside wsX5_outside) := goodIn_app (goodIn_of _ (by decide +kernel)) ggX5_place_X5_outside
set_option maxRecDepth 20000 in
theorem ggX5_place_X1_floor : GoodIn wsX5_place wsX1_floor := goodIn_r _ [12, 13, 14, 61, 62, 63, 64, 65, 66, 67] (by decide +kernel) (by decide +kernel)
set_option maxRecDepth 20000 in
theorem gX5_place_X1_floor : GoodIn wsX5_place (wsV RX5 66 RX1 yX1_floor wsX1_floor) := goodIn_app (goodIn_of _ (by decide +kernel)) ggX5_place_X1_floor
set_option maxRecDepth 20000 in
theorem ggX5_place_X5_fits : GoodIn wsX5_place wsX5_fits := goodIn_r _ [18, 19, 2, 20, 21, 22, 23, 24, 25, 26, 27, 28, 29, 30, 11, 31, 13, 32, 33, 34, 35, 36, 5, 6, 7, 37, 38, 39, 40, 41, 42, 43, 44, 45, 46, 47, 48, 49, 50, 51, 52, 53, 54, 55, 56, 57, 58, 59, 60, 68, 69, 70, 71, 72, 73, 74, 61, 62, 63, 64, 65, 66, 67] (by decide +kernel) (by decide +kernel)
set_option maxRecDepth 20000 in
theorem gX5_place_X5_fits : GoodIn wsX5_place (wsV RX5 164 RX5 yX5_fits wsX5_fits) := goodIn_app (goodIn_of _ (by decide +kernel)) ggX5_place_X5_fits
theorem dX5_place_0 : decode cX5_place 0 = .ok (.iload_n 1, 1) := by decide +kernel
theorem dX5_place_1 : decode cX5_place 1 = .ok (.iconst 0, 1) := by decide +kernel
theorem dX5_place_2 : decode cX5_place 2 = .ok (.bipush 100, 2) := by decide +kernel
theorem dX5_place_4 : decode cX5_place 4 = .ok (.invokestatic 44, 3) := by decide +kernel
theorem dX5_place_7 : decode cX5_place 7 = .ok (.ifCond .eq 6, 3) := by decide +kernel
theorem dX5_place_10 : decode cX5_place 10 = .ok (.bipush (-2), 2) := by decide +kernel
theorem dX5_place_12 : decode cX5_place 12 = .ok (.ireturn, 1) := by decide +kernel
theorem dX5_place_13 : decode cX5_place 13 = .ok (.iload_n 2, 1) := by decide +kernel
theorem dX5_place_14 : decode cX5_place 14 = .ok (.iconst 0, 1) := by decide +kernel
theorem dX5_place_15 : decode cX5_place 15 = .ok (.sipush 1580, 3) := by decide +kernel
theorem dX5_place_18 : decode cX5_place 18 = .ok (.invokestatic 44, 3) := by decide +kernel
theorem dX5_place_21 : decode cX5_place 21 = .ok (.ifCond .eq 6, 3) := by decide +kernel
theorem dX5_place_24 : decode cX5_place 24 = .ok (.ldc 143, 2) := by decide +kernel
theorem dX5_place_26 : decode cX5_place 26 = .ok (.ireturn, 1) := by decide +kernel
theorem dX5_place_27 : decode cX5_place 27 = .ok (.iload_n 2, 1) := by decide +kernel
theorem dX5_place_28 : decode cX5_place 28 = .ok (.istore_n 3, 1) := by decide +kernel
theorem dX5_place_29 : decode cX5_place 29 = .ok (.aload_n 0, 1) := by decide +kernel
theorem dX5_place_30 : decode cX5_place 30 = .ok (.getfield 12, 3) := by decide +kernel
theorem dX5_place_33 : decode cX5_place 33 = .ok (.getfield 161, 3) := by decide +kernel
theorem dX5_place_36 : decode cX5_place 36 = .ok (.istore 4, 2) := by decide +kernel
theorem dX5_place_38 : decode cX5_place 38 = .ok (.iload 4, 2) := by decide +kernel
theorem dX5_place_40 : decode cX5_place 40 = .ok (.aload_n 0, 1) := by decide +kernel
theorem dX5_place_41 : decode cX5_place 41 = .ok (.getfield 12, 3) := by decide +kernel
theorem dX5_place_44 : decode cX5_place 44 = .ok (.invokevirtual 66, 3) := by decide +kernel
theorem dX5_place_47 : decode cX5_place 47 = .ok (.if_icmp .gt 54, 3) := by decide +kernel
theorem dX5_place_50 : decode cX5_place 50 = .ok (.iconst 0, 1) := by decide +kernel
theorem dX5_place_51 : decode cX5_place 51 = .ok (.istore 5, 2) := by decide +kernel
theorem dX5_place_53 : decode cX5_place 53 = .ok (.iload 5, 2) := by decide +kernel
theorem dX5_place_55 : decode cX5_place 55 = .ok (.bipush 50, 2) := by decide +kernel
theorem dX5_place_57 : decode cX5_place 57 = .ok (.if_icmp .gt 38, 3) := by decide +kernel
theorem dX5_place_60 : decode cX5_place 60 = .ok (.aload_n 0, 1) := by decide +kernel
theorem dX5_place_61 : decode cX5_place 61 = .ok (.iload 5, 2) := by decide +kernel
theorem dX5_place_63 : decode cX5_place 63 = .ok (.iload 4, 2) := by decide +kernel
theorem dX5_place_65 : decode cX5_place 65 = .ok (.iload_n 1, 1) := by decide +kernel
theorem dX5_place_66 : decode cX5_place 66 = .ok (.invokevirtual 164, 3) := by decide +kernel
theorem dX5_place_69 : decode cX5_place 69 = .ok (.ifCond .eq 20, 3) := by decide +kernel
theorem dX5_place_72 : decode cX5_place 72 = .ok (.iload_n 3, 1) := by decide +kernel
theorem dX5_place_73 : decode cX5_place 73 = .ok (.ifCond .ne 13, 3) := by decide +kernel
theorem dX5_place_76 : decode cX5_place 76 = .ok (.sipush 1000, 3) := by decide +kernel
theorem dX5_place_79 : decode cX5_place 79 = .ok (.iload 5, 2) := by decide +kernel
theorem dX5_place_81 : decode cX5_place 81 = .ok (.imul, 1) := by decide +kernel
theorem dX5_place_82 : decode cX5_place 82 = .ok (.iload 4, 2) := by decide +kernel
theorem dX5_place_84 : decode cX5_place 84 = .ok (.iadd, 1) := by decide +kernel
theorem dX5_place_85 : decode cX5_place 85 = .ok (.ireturn, 1) := by decide +kernel
theorem dX5_place_86 : decode cX5_place 86 = .ok (.iinc 3 (-1), 3) := by decide +kernel
theorem dX5_place_89 : decode cX5_place 89 = .ok (.iinc 5 1, 3) := by decide +kernel
theorem dX5_place_92 : decode cX5_place 92 = .ok (.goto (-39), 3) := by decide +kernel
theorem dX5_place_95 : decode cX5_place 95 = .ok (.iinc 4 1, 3) := by decide +kernel
theorem dX5_place_98 : decode cX5_place 98 = .ok (.goto (-60), 3) := by decide +kernel
theorem dX5_place_101 : decode cX5_place 101 = .ok (.ldc 143, 2) := by decide +kernel
theorem dX5_place_103 : decode cX5_place 103 = .ok (.ireturn, 1) := by decide +kernel
set_option maxRecDepth 20000 in
theorem ggX5_sheet_X5_noSheet : GoodIn wsX5_sheet wsX5_noSheet := goodIn_r _ [8, 9, 10, 7, 11] (by decide +kernel) (by decide +kernel)
set_option maxRecDepth 20000 in
theorem gX5_sheet_X5_noSheet : GoodIn wsX5_sheet (va_wsS RX5 167 yX5_noSheet wsX5_noSheet) := goodIn_app (goodIn_of _ (by decide +kernel)) ggX5_sheet_X5_noSheet
set_option maxRecDepth 20000 in
theorem ggX5_sheet_X5_found : GoodIn wsX5_sheet wsX5_found := goodIn_r _ [15, 16, 26, 27, 28, 29, 30, 31, 32, 33, 34, 35, 36] (by decide +kernel) (by decide +kernel)
set_option maxRecDepth 20000 in
theorem gX5_sheet_X5_found : GoodIn wsX5_sheet (wsV RX5 101 RX5 yX5_found wsX5_found) := goodIn_app (goodIn_of _ (by decide +kernel)) ggX5_sheet_X5_found
set_option maxRecDepth 20000 in
theorem ggX5_sheet_X5_outside : GoodIn wsX5_sheet wsX5_outside := goodIn_r _ [11] (by decide +kernel) (by decide +kernel)
set_option maxRecDepth 20000 in
theorem gX5_sheet_X5_outside : GoodIn wsX5_sheet (va_wsS RX5 44 yX5_outside wsX5_outside) := goodIn_app (goodIn_of _ (by decide +kernel)) ggX5_sheet_X5_outside
set_option maxRecDepth 20000 in
theorem ggX5_sheet_X2_init : GoodIn wsX5_sheet wsX2_init := goodIn_r _ [19, 20, 21, 22, 23, 24, 25, 37, 38] (by decide +kernel) (by decide +kernel)
set_option maxRecDepth 20000 in
theorem gX5_sheet_X2_init : GoodIn wsX5_sheet (wsX2_init) := ggX5_sheet_X2_init
theorem dX5_sheet_0 : decode cX5_sheet 0 = .ok (.iload_n 1, 1) := by decide +kernel
theorem dX5_sheet_1 : decode cX5_sheet 1 = .ok (.invokestatic 167, 3) := by decide +kernel
theorem dX5_sheet_4 : decode cX5_sheet 4 = .ok (.ifCond .eq 10, 3) := by decide +kernel
theorem dX5_sheet_7 : decode cX5_sheet 7 = .ok (.aload_n 0, 1) := by decide +kernel
theorem dX5_sheet_8 : decode cX5_sheet 8 = .ok (.bipush (-12), 2) := by decide +kernel
theorem dX5_sheet_10 : decode cX5_sheet 10 = .ok (.invokevirtual 101, 3) := by decide +kernel
theorem dX5_sheet_13 : decode cX5_sheet 13 = .ok (.ireturn, 1) := by decide +kernel
theorem dX5_sheet_14 : decode cX5_sheet 14 = .ok (.iload_n 2, 1) := by decide +kernel
theorem dX5_sheet_15 : decode cX5_sheet 15 = .ok (.iconst 0, 1) := by decide +kernel
theorem dX5_sheet_16 : decode cX5_sheet 16 = .ok (.iconst 2, 1) := by decide +kernel
theorem dX5_sheet_17 : decode cX5_sheet 17 = .ok (.invokestatic 44, 3) := by decide +kernel
theorem dX5_sheet_20 : decode cX5_sheet 20 = .ok (.ifCond .ne 9, 3) := by decide +kernel
theorem dX5_sheet_23 : decode cX5_sheet 23 = .ok (.iload_n 3, 1) := by decide +kernel
theorem dX5_sheet_24 : decode cX5_sheet 24 = .ok (.bipush 64, 2) := by decide +kernel
theorem dX5_sheet_26 : decode cX5_sheet 26 = .ok (.if_icmp .le 6, 3) := by decide +kernel
theorem dX5_sheet_29 : decode cX5_sheet 29 = .ok (.bipush (-2), 2) := by decide +kernel
theorem dX5_sheet_31 : decode cX5_sheet 31 = .ok (.ireturn, 1) := by decide +kernel
theorem dX5_sheet_32 : decode cX5_sheet 32 = .ok (.iload_n 3, 1) := by decide +kernel
theorem dX5_sheet_33 : decode cX5_sheet 33 = .ok (.ifCond .ge 10, 3) := by decide +kernel
theorem dX5_sheet_36 : decode cX5_sheet 36 = .ok (.aload_n 0, 1) := by decide +kernel
theorem dX5_sheet_37 : decode cX5_sheet 37 = .ok (.bipush (-14), 2) := by decide +kernel
theorem dX5_sheet_39 : decode cX5_sheet 39 = .ok (.invokevirtual 101, 3) := by decide +kernel
theorem dX5_sheet_42 : decode cX5_sheet 42 = .ok (.ireturn, 1) := by decide +kernel
theorem dX5_sheet_43 : decode cX5_sheet 43 = .ok (.aload_n 0, 1) := by decide +kernel
theorem dX5_sheet_44 : decode cX5_sheet 44 = .ok (.getfield 36, 3) := by decide +kernel
theorem dX5_sheet_47 : decode cX5_sheet 47 = .ok (.iload_n 1, 1) := by decide +kernel
theorem dX5_sheet_48 : decode cX5_sheet 48 = .ok (.new 34, 3) := by decide +kernel
theorem dX5_sheet_51 : decode cX5_sheet 51 = .ok (.dup, 1) := by decide +kernel
theorem dX5_sheet_52 : decode cX5_sheet 52 = .ok (.iload_n 2, 1) := by decide +kernel
theorem dX5_sheet_53 : decode cX5_sheet 53 = .ok (.iload_n 3, 1) := by decide +kernel
theorem dX5_sheet_54 : decode cX5_sheet 54 = .ok (.invokespecial 171, 3) := by decide +kernel
theorem dX5_sheet_57 : decode cX5_sheet 57 = .ok (.aastore, 1) := by decide +kernel
theorem dX5_sheet_58 : decode cX5_sheet 58 = .ok (.iload_n 3, 1) := by decide +kernel
theorem dX5_sheet_59 : decode cX5_sheet 59 = .ok (.ireturn, 1) := by decide +kernel
set_option maxRecDepth 20000 in
theorem ggX5_tear_X5_noSheet : GoodIn wsX5_tear wsX5_noSheet := goodIn_r _ [5, 6, 7, 4, 8] (by decide +kernel) (by decide +kernel)
set_option maxRecDepth 20000 in
theorem gX5_tear_X5_noSheet : GoodIn wsX5_tear (va_wsS RX5 167 yX5_noSheet wsX5_noSheet) := goodIn_app (goodIn_of _ (by decide +kernel)) ggX5_tear_X5_noSheet
set_option maxRecDepth 20000 in
theorem ggX5_tear_X5_found : GoodIn wsX5_tear wsX5_found := goodIn_r _ [12, 13, 14, 15, 16, 17, 18, 19, 20, 21, 22, 23, 24] (by decide +kernel) (by decide +kernel)
set_option maxRecDepth 20000 in
theorem gX5_tear_X5_found : GoodIn wsX5_tear (wsV RX5 101 RX5 yX5_found wsX5_found) := goodIn_app (goodIn_of _ (by decide +kernel)) ggX5_tear_X5_found
theorem dX5_tear_0 : decode cX5_tear 0 = .ok (.iload_n 1, 1) := by decide +kernel
theorem dX5_tear_1 : decode cX5_tear 1 = .ok (.invokestatic 167, 3) := by decide +kernel
theorem dX5_tear_4 : decode cX5_tear 4 = .ok (.ifCond .eq 10, 3) := by decide +kernel
theorem dX5_tear_7 : decode cX5_tear 7 = .ok (.aload_n 0, 1) := by decide +kernel
theorem dX5_tear_8 : decode cX5_tear 8 = .ok (.bipush (-12), 2) := by decide +kernel
theorem dX5_tear_10 : decode cX5_tear 10 = .ok (.invokevirtual 101, 3) := by decide +kernel
theorem dX5_tear_13 : decode cX5_tear 13 = .ok (.ireturn, 1) := by decide +kernel
theorem dX5_tear_14 : decode cX5_tear 14 = .ok (.aload_n 0, 1) := by decide +kernel
theorem dX5_tear_15 : decode cX5_tear 15 = .ok (.getfield 36, 3) := by decide +kernel
theorem dX5_tear_18 : decode cX5_tear 18 = .ok (.iload_n 1, 1) := by decide +kernel
theorem dX5_tear_19 : decode cX5_tear 19 = .ok (.aaload, 1) := by decide +kernel
theorem dX5_tear_20 : decode cX5_tear 20 = .ok (.ifnonnull 7, 3) := by decide +kernel
theorem dX5_tear_23 : decode cX5_tear 23 = .ok (.iconst 1, 1) := by decide +kernel
theorem dX5_tear_24 : decode cX5_tear 24 = .ok (.goto 4, 3) := by decide +kernel
theorem dX5_tear_27 : decode cX5_tear 27 = .ok (.iconst 0, 1) := by decide +kernel
theorem dX5_tear_28 : decode cX5_tear 28 = .ok (.istore_n 2, 1) := by decide +kernel
theorem dX5_tear_29 : decode cX5_tear 29 = .ok (.aload_n 0, 1) := by decide +kernel
theorem dX5_tear_30 : decode cX5_tear 30 = .ok (.getfield 36, 3) := by decide +kernel
theorem dX5_tear_33 : decode cX5_tear 33 = .ok (.iload_n 1, 1) := by decide +kernel
theorem dX5_tear_34 : decode cX5_tear 34 = .ok (.aconst_null, 1) := by decide +kernel
theorem dX5_tear_35 : decode cX5_tear 35 = .ok (.aastore, 1) := by decide +kernel
theorem dX5_tear_36 : decode cX5_tear 36 = .ok (.iload_n 2, 1) := by decide +kernel
theorem dX5_tear_37 : decode cX5_tear 37 = .ok (.ireturn, 1) := by decide +kernel
set_option maxRecDepth 20000 in
theorem ggX5_record_X5_noSheet : GoodIn wsX5_record wsX5_noSheet := goodIn_r _ [6, 7, 8, 5, 9] (by decide +kernel) (by decide +kernel)
set_option maxRecDepth 20000 in
theorem gX5_record_X5_noSheet : GoodIn wsX5_record (va_wsS RX5 167 yX5_noSheet wsX5_noSheet) := goodIn_app (goodIn_of _ (by decide +kernel)) ggX5_record_X5_noSheet
set_option maxRecDepth 20000 in
theorem ggX5_record_X5_found : GoodIn wsX5_record wsX5_found := goodIn_r _ [13, 14, 93, 94, 95, 96, 97, 98, 99, 100, 101, 102, 103] (by decide +kernel) (by decide +kernel)
set_option maxRecDepth 20000 in
theorem gX5_record_X5_found : GoodIn wsX5_record (wsV RX5 101 RX5 yX5_found wsX5_found) := goodIn_app (goodIn_of _ (by decide +kernel)) ggX5_record_X5_found
set_option maxRecDepth 20000 in
theorem ggX5_record_X5_elementNumbered : GoodIn wsX5_record wsX5_elementNumbered := goodIn_r _ [18, 19, 93, 94, 95, 96, 97, 98, 99, 100, 101, 102, 103] (by decide +kernel) (by decide +kernel)
set_option maxRecDepth 20000 in
theorem gX5_record_X5_elementNumbered : GoodIn wsX5_record (wsV RX5 76 RX5 yX5_elementNumbered wsX5_elementNumbered) := goodIn_app (goodIn_of _ (by decide +kernel)) ggX5_record_X5_elementNumbered
set_option maxRecDepth 20000 in
theorem ggX5_record_X5_echoAt : GoodIn wsX5_record wsX5_echoAt := goodIn_r _ [23, 24, 25, 26, 27, 28, 29, 5, 30, 31, 32, 33, 34, 35, 36, 37, 38, 39, 40, 41, 42, 43, 44, 45, 46, 47, 48, 49, 50, 51, 52, 53, 54, 55, 56, 57, 58, 59, 60, 61, 62, 63, 64, 65, 66, 8, 9, 67, 68, 69, 70, 71, 72, 73, 74, 75, 76, 77, 106, 107, 108, 109, 93, 94, 95, 96, 97, 98, 99, 100, 101, 102, 103, 110, 111, 112, 113, 114, 115, 116, 117, 118, 119, 120, 121, 122] (by decide +kernel) (by decide +kernel)
set_option maxRecDepth 20000 in
theorem gX5_record_X5_echoAt : GoodIn wsX5_record (wsV RX5 139 RX5 yX5_echoAt wsX5_echoAt) := goodIn_app (goodIn_of _ (by decide +kernel)) ggX5_record_X5_echoAt
set_option maxRecDepth 20000 in
theorem ggX5_record_X2_nearestTo : GoodIn wsX5_record wsX2_nearestTo := goodIn_r _ [82, 83, 84, 85, 86, 87, 88, 41, 89, 90, 91, 92, 104, 105] (by decide +kernel) (by decide +kernel)
set_option maxRecDepth 20000 in
theorem gX5_record_X2_nearestTo : GoodIn wsX5_record (wsV RX5 175 RX2 yX2_nearestTo wsX2_nearestTo) := goodIn_app (goodIn_of _ (by decide +kernel)) ggX5_record_X2_nearestTo
theorem dX5_record_0 : decode cX5_record 0 = .ok (.iload_n 1, 1) := by decide +kernel
theorem dX5_record_1 : decode cX5_record 1 = .ok (.invokestatic 167, 3) := by decide +kernel
theorem dX5_record_4 : decode cX5_record 4 = .ok (.ifCond .eq 10, 3) := by decide +kernel
theorem dX5_record_7 : decode cX5_record 7 = .ok (.aload_n 0, 1) := by decide +kernel
theorem dX5_record_8 : decode cX5_record 8 = .ok (.bipush (-12), 2) := by decide +kernel
theorem dX5_record_10 : decode cX5_record 10 = .ok (.invokevirtual 101, 3) := by decide +kernel
theorem dX5_record_13 : decode cX5_record 13 = .ok (.ireturn, 1) := by decide +kernel
theorem dX5_record_14 : decode cX5_record 14 = .ok (.aload_n 0, 1) := by decide +kernel
theorem dX5_record_15 : decode cX5_record 15 = .ok (.iload_n 2, 1) := by decide +kernel
theorem dX5_record_16 : decode cX5_record 16 = .ok (.invokevirtual 76, 3) := by decide +kernel
theorem dX5_record_19 : decode cX5_record 19 = .ok (.astore 5, 2) := by decide +kernel
theorem dX5_record_21 : decode cX5_record 21 = .ok (.aload_n 0, 1) := by decide +kernel
theorem dX5_record_22 : decode cX5_record 22 = .ok (.iload_n 3, 1) := by decide +kernel
theorem dX5_record_23 : decode cX5_record 23 = .ok (.invokevirtual 76, 3) := by decide +kernel
theorem dX5_record_26 : decode cX5_record 26 = .ok (.astore 6, 2) := by decide +kernel
theorem dX5_record_28 : decode cX5_record 28 = .ok (.aload 5, 2) := by decide +kernel
theorem dX5_record_30 : decode cX5_record 30 = .ok (.ifnull 8, 3) := by decide +kernel
theorem dX5_record_33 : decode cX5_record 33 = .ok (.aload 6, 2) := by decide +kernel
theorem dX5_record_35 : decode cX5_record 35 = .ok (.ifnonnull 5, 3) := by decide +kernel
theorem dX5_record_38 : decode cX5_record 38 = .ok (.iconst (-1), 1) := by decide +kernel
theorem dX5_record_39 : decode cX5_record 39 = .ok (.ireturn, 1) := by decide +kernel
theorem dX5_record_40 : decode cX5_record 40 = .ok (.aload_n 0, 1) := by decide +kernel
theorem dX5_record_41 : decode cX5_record 41 = .ok (.getfield 36, 3) := by decide +kernel
theorem dX5_record_44 : decode cX5_record 44 = .ok (.iload_n 1, 1) := by decide +kernel
theorem dX5_record_45 : decode cX5_record 45 = .ok (.aaload, 1) := by decide +kernel
theorem dX5_record_46 : decode cX5_record 46 = .ok (.astore 7, 2) := by decide +kernel
theorem dX5_record_48 : decode cX5_record 48 = .ok (.aload 7, 2) := by decide +kernel
theorem dX5_record_50 : decode cX5_record 50 = .ok (.ifnonnull 10, 3) := by decide +kernel
theorem dX5_record_53 : decode cX5_record 53 = .ok (.aload_n 0, 1) := by decide +kernel
theorem dX5_record_54 : decode cX5_record 54 = .ok (.bipush (-11), 2) := by decide +kernel
theorem dX5_record_56 : decode cX5_record 56 = .ok (.invokevirtual 101, 3) := by decide +kernel
theorem dX5_record_59 : decode cX5_record 59 = .ok (.ireturn, 1) := by decide +kernel
theorem dX5_record_60 : decode cX5_record 60 = .ok (.iconst 0, 1) := by decide +kernel
theorem dX5_record_61 : decode cX5_record 61 = .ok (.istore 8, 2) := by decide +kernel
theorem dX5_record_63 : decode cX5_record 63 = .ok (.iload 8, 2) := by decide +kernel
theorem dX5_record_65 : decode cX5_record 65 = .ok (.aload 7, 2) := by decide +kernel
theorem dX5_record_67 : decode cX5_record 67 = .ok (.getfield 172, 3) := by decide +kernel
theorem dX5_record_70 : decode cX5_record 70 = .ok (.arraylength, 1) := by decide +kernel
theorem dX5_record_71 : decode cX5_record 71 = .ok (.if_icmp .ge 38, 3) := by decide +kernel
theorem dX5_record_74 : decode cX5_record 74 = .ok (.aload 7, 2) := by decide +kernel
theorem dX5_record_76 : decode cX5_record 76 = .ok (.getfield 172, 3) := by decide +kernel
theorem dX5_record_79 : decode cX5_record 79 = .ok (.iload 8, 2) := by decide +kernel
theorem dX5_record_81 : decode cX5_record 81 = .ok (.aload 7, 2) := by decide +kernel
theorem dX5_record_83 : decode cX5_record 83 = .ok (.aload_n 0, 1) := by decide +kernel
theorem dX5_record_84 : decode cX5_record 84 = .ok (.aload 5, 2) := by decide +kernel
theorem dX5_record_86 : decode cX5_record 86 = .ok (.aload 6, 2) := by decide +kernel
theorem dX5_record_88 : decode cX5_record 88 = .ok (.iload 4, 2) := by decide +kernel
theorem dX5_record_90 : decode cX5_record 90 = .ok (.i2l, 1) := by decide +kernel
theorem dX5_record_91 : decode cX5_record 91 = .ok (.iload 8, 2) := by decide +kernel
theorem dX5_record_93 : decode cX5_record 93 = .ok (.i2l, 1) := by decide +kernel
theorem dX5_record_94 : decode cX5_record 94 = .ok (.ladd, 1) := by decide +kernel
theorem dX5_record_95 : decode cX5_record 95 = .ok (.invokevirtual 139, 3) := by decide +kernel
theorem dX5_record_98 : decode cX5_record 98 = .ok (.i2l, 1) := by decide +kernel
theorem dX5_record_99 : decode cX5_record 99 = .ok (.invokevirtual 175, 3) := by decide +kernel
theorem dX5_record_102 : decode cX5_record 102 = .ok (.iastore, 1) := by decide +kernel
theorem dX5_record_103 : decode cX5_record 103 = .ok (.iinc 8 1, 3) := by decide +kernel
theorem dX5_record_106 : decode cX5_record 106 = .ok (.goto (-43), 3) := by decide +kernel
theorem dX5_record_109 : decode cX5_record 109 = .ok (.aload 7, 2) := by decide +kernel
theorem dX5_record_111 : decode cX5_record 111 = .ok (.getfield 172, 3) := by decide +kernel
theorem dX5_record_114 : decode cX5_record 114 = .ok (.arraylength, 1) := by decide +kernel
theorem dX5_record_115 : decode cX5_record 115 = .ok (.ireturn, 1) := by decide +kernel
set_option maxRecDepth 20000 in
theorem ggX5_add_X5_noSheet : GoodIn wsX5_add wsX5_noSheet := goodIn_r _ [15, 16, 17, 14, 18] (by decide +kernel) (by decide +kernel)
set_option maxRecDepth 20000 in
theorem gX5_add_X5_noSheet : GoodIn wsX5_add (va_wsS RX5 167 yX5_noSheet wsX5_noSheet) := goodIn_app (goodIn_of _ (by decide +kernel)) ggX5_add_X5_noSheet
set_option maxRecDepth 20000 in
theorem ggX5_add_X5_found : GoodIn wsX5_add wsX5_found := goodIn_r _ [22, 23, 39, 40, 41, 42, 43, 44, 45, 46, 47, 48, 49] (by decide +kernel) (by decide +kernel)
set_option maxRecDepth 20000 in
theorem gX5_add_X5_found : GoodIn wsX5_add (wsV RX5 101 RX5 yX5_found wsX5_found) := goodIn_app (goodIn_of _ (by decide +kernel)) ggX5_add_X5_found
set_option maxRecDepth 20000 in
theorem ggX5_add_X2_nearestTo : GoodIn wsX5_add wsX2_nearestTo := goodIn_r _ [28, 29, 30, 31, 32, 33, 34, 6, 35, 36, 37, 38, 50, 51] (by decide +kernel) (by decide +kernel)
set_option maxRecDepth 20000 in
theorem gX5_add_X2_nearestTo : GoodIn wsX5_add (wsV RX5 175 RX2 yX2_nearestTo wsX2_nearestTo) := goodIn_app (goodIn_of _ (by decide +kernel)) ggX5_add_X2_nearestTo
theorem dX5_add_0 : decode cX5_add 0 = .ok (.iload_n 1, 1) := by decide +kernel
theorem dX5_add_1 : decode cX5_add 1 = .ok (.invokestatic 167, 3) := by decide +kernel
theorem dX5_add_4 : decode cX5_add 4 = .ok (.ifCond .ne 10, 3) := by decide +kernel
theorem dX5_add_7 : decode cX5_add 7 = .ok (.iload_n 2, 1) := by decide +kernel
theorem dX5_add_8 : decode cX5_add 8 = .ok (.invokestatic 167, 3) := by decide +kernel
theorem dX5_add_11 : decode cX5_add 11 = .ok (.ifCond .eq 10, 3) := by decide +kernel
theorem dX5_add_14 : decode cX5_add 14 = .ok (.aload_n 0, 1) := by decide +kernel
theorem dX5_add_15 : decode cX5_add 15 = .ok (.bipush (-12), 2) := by decide +kernel
theorem dX5_add_17 : decode cX5_add 17 = .ok (.invokevirtual 101, 3) := by decide +kernel
theorem dX5_add_20 : decode cX5_add 20 = .ok (.ireturn, 1) := by decide +kernel
theorem dX5_add_21 : decode cX5_add 21 = .ok (.aload_n 0, 1) := by decide +kernel
theorem dX5_add_22 : decode cX5_add 22 = .ok (.getfield 36, 3) := by decide +kernel
theorem dX5_add_25 : decode cX5_add 25 = .ok (.iload_n 1, 1) := by decide +kernel
theorem dX5_add_26 : decode cX5_add 26 = .ok (.aaload, 1) := by decide +kernel
theorem dX5_add_27 : decode cX5_add 27 = .ok (.astore 4, 2) := by decide +kernel
theorem dX5_add_29 : decode cX5_add 29 = .ok (.aload_n 0, 1) := by decide +kernel
theorem dX5_add_30 : decode cX5_add 30 = .ok (.getfield 36, 3) := by decide +kernel
theorem dX5_add_33 : decode cX5_add 33 = .ok (.iload_n 2, 1) := by decide +kernel
theorem dX5_add_34 : decode cX5_add 34 = .ok (.aaload, 1) := by decide +kernel
theorem dX5_add_35 : decode cX5_add 35 = .ok (.astore 5, 2) := by decide +kernel
theorem dX5_add_37 : decode cX5_add 37 = .ok (.aload 4, 2) := by decide +kernel
theorem dX5_add_39 : decode cX5_add 39 = .ok (.ifnull 8, 3) := by decide +kernel
theorem dX5_add_42 : decode cX5_add 42 = .ok (.aload 5, 2) := by decide +kernel
theorem dX5_add_44 : decode cX5_add 44 = .ok (.ifnonnull 10, 3) := by decide +kernel
theorem dX5_add_47 : decode cX5_add 47 = .ok (.aload_n 0, 1) := by decide +kernel
theorem dX5_add_48 : decode cX5_add 48 = .ok (.bipush (-11), 2) := by decide +kernel
theorem dX5_add_50 : decode cX5_add 50 = .ok (.invokevirtual 101, 3) := by decide +kernel
theorem dX5_add_53 : decode cX5_add 53 = .ok (.ireturn, 1) := by decide +kernel
theorem dX5_add_54 : decode cX5_add 54 = .ok (.aload 4, 2) := by decide +kernel
theorem dX5_add_56 : decode cX5_add 56 = .ok (.getfield 172, 3) := by decide +kernel
theorem dX5_add_59 : decode cX5_add 59 = .ok (.arraylength, 1) := by decide +kernel
theorem dX5_add_60 : decode cX5_add 60 = .ok (.aload_n 0, 1) := by decide +kernel
theorem dX5_add_61 : decode cX5_add 61 = .ok (.getfield 40, 3) := by decide +kernel
theorem dX5_add_64 : decode cX5_add 64 = .ok (.arraylength, 1) := by decide +kernel
theorem dX5_add_65 : decode cX5_add 65 = .ok (.invokestatic 179, 3) := by decide +kernel
theorem dX5_add_68 : decode cX5_add 68 = .ok (.istore 6, 2) := by decide +kernel
theorem dX5_add_70 : decode cX5_add 70 = .ok (.aload 4, 2) := by decide +kernel
theorem dX5_add_72 : decode cX5_add 72 = .ok (.getfield 172, 3) := by decide +kernel
theorem dX5_add_75 : decode cX5_add 75 = .ok (.iconst 0, 1) := by decide +kernel
theorem dX5_add_76 : decode cX5_add 76 = .ok (.aload_n 0, 1) := by decide +kernel
theorem dX5_add_77 : decode cX5_add 77 = .ok (.getfield 40, 3) := by decide +kernel
theorem dX5_add_80 : decode cX5_add 80 = .ok (.iconst 0, 1) := by decide +kernel
theorem dX5_add_81 : decode cX5_add 81 = .ok (.iload 6, 2) := by decide +kernel
theorem dX5_add_83 : decode cX5_add 83 = .ok (.invokestatic 182, 3) := by decide +kernel
theorem dX5_add_86 : decode cX5_add 86 = .ok (.iconst 0, 1) := by decide +kernel
theorem dX5_add_87 : decode cX5_add 87 = .ok (.istore 7, 2) := by decide +kernel
theorem dX5_add_89 : decode cX5_add 89 = .ok (.iconst 0, 1) := by decide +kernel
theorem dX5_add_90 : decode cX5_add 90 = .ok (.istore 8, 2) := by decide +kernel
theorem dX5_add_92 : decode cX5_add 92 = .ok (.iload 8, 2) := by decide +kernel
theorem dX5_add_94 : decode cX5_add 94 = .ok (.iload 6, 2) := by decide +kernel
theorem dX5_add_96 : decode cX5_add 96 = .ok (.if_icmp .ge 76, 3) := by decide +kernel
theorem dX5_add_99 : decode cX5_add 99 = .ok (.iload 8, 2) := by decide +kernel
theorem dX5_add_101 : decode cX5_add 101 = .ok (.i2l, 1) := by decide +kernel
theorem dX5_add_102 : decode cX5_add 102 = .ok (.iload_n 3, 1) := by decide +kernel
theorem dX5_add_103 : decode cX5_add 103 = .ok (.i2l, 1) := by decide +kernel
theorem dX5_add_104 : decode cX5_add 104 = .ok (.ladd, 1) := by decide +kernel
theorem dX5_add_105 : decode cX5_add 105 = .ok (.lstore 9, 2) := by decide +kernel
theorem dX5_add_107 : decode cX5_add 107 = .ok (.lload 9, 2) := by decide +kernel
theorem dX5_add_109 : decode cX5_add 109 = .ok (.lconst 0, 1) := by decide +kernel
theorem dX5_add_110 : decode cX5_add 110 = .ok (.lcmp, 1) := by decide +kernel
theorem dX5_add_111 : decode cX5_add 111 = .ok (.ifCond .lt 55, 3) := by decide +kernel
theorem dX5_add_114 : decode cX5_add 114 = .ok (.lload 9, 2) := by decide +kernel
theorem dX5_add_116 : decode cX5_add 116 = .ok (.aload 5, 2) := by decide +kernel
theorem dX5_add_118 : decode cX5_add 118 = .ok (.getfield 172, 3) := by decide +kernel
theorem dX5_add_121 : decode cX5_add 121 = .ok (.arraylength, 1) := by decide +kernel
theorem dX5_add_122 : decode cX5_add 122 = .ok (.i2l, 1) := by decide +kernel
theorem dX5_add_123 : decode cX5_add 123 = .ok (.lcmp, 1) := by decide +kernel
theorem dX5_add_124 : decode cX5_add 124 = .ok (.ifCond .ge 42, 3) := by decide +kernel
theorem dX5_add_127 : decode cX5_add 127 = .ok (.lload 9, 2) := by decide +kernel
theorem dX5_add_129 : decode cX5_add 129 = .ok (.l2i, 1) := by decide +kernel
theorem dX5_add_130 : decode cX5_add 130 = .ok (.istore 11, 2) := by decide +kernel
theorem dX5_add_132 : decode cX5_add 132 = .ok (.aload 5, 2) := by decide +kernel
theorem dX5_add_134 : decode cX5_add 134 = .ok (.getfield 172, 3) := by decide +kernel
theorem dX5_add_137 : decode cX5_add 137 = .ok (.iload 11, 2) := by decide +kernel
theorem dX5_add_139 : decode cX5_add 139 = .ok (.aload 5, 2) := by decide +kernel
theorem dX5_add_141 : decode cX5_add 141 = .ok (.aload 5, 2) := by decide +kernel
theorem dX5_add_143 : decode cX5_add 143 = .ok (.getfield 172, 3) := by decide +kernel
theorem dX5_add_146 : decode cX5_add 146 = .ok (.iload 11, 2) := by decide +kernel
theorem dX5_add_148 : decode cX5_add 148 = .ok (.iaload, 1) := by decide +kernel
theorem dX5_add_149 : decode cX5_add 149 = .ok (.i2l, 1) := by decide +kernel
theorem dX5_add_150 : decode cX5_add 150 = .ok (.aload_n 0, 1) := by decide +kernel
theorem dX5_add_151 : decode cX5_add 151 = .ok (.getfield 40, 3) := by decide +kernel
theorem dX5_add_154 : decode cX5_add 154 = .ok (.iload 8, 2) := by decide +kernel
theorem dX5_add_156 : decode cX5_add 156 = .ok (.iaload, 1) := by decide +kernel
theorem dX5_add_157 : decode cX5_add 157 = .ok (.i2l, 1) := by decide +kernel
theorem dX5_add_158 : decode cX5_add 158 = .ok (.ladd, 1) := by decide +kernel
theorem dX5_add_159 : decode cX5_add 159 = .ok (.invokevirtual 175, 3) := by decide +kernel
theorem dX5_add_162 : decode cX5_add 162 = .ok (.iastore, 1) := by decide +kernel
theorem dX5_add_163 : decode cX5_add 163 = .ok (.iinc 7 1, 3) := by decide +kernel
theorem dX5_add_166 : decode cX5_add 166 = .ok (.iinc 8 1, 3) := by decide +kernel
theorem dX5_add_169 : decode cX5_add 169 = .ok (.goto (-77), 3) := by decide +kernel
theorem dX5_add_172 : decode cX5_add 172 = .ok (.iload 7, 2) := by decide +kernel
theorem dX5_add_174 : decode cX5_add 174 = .ok (.ireturn, 1) := by decide +kernel
set_option maxRecDepth 20000 in
theorem ggX5_copy_X5_noSheet : GoodIn wsX5_copy wsX5_noSheet := goodIn_r _ [11, 12, 13, 10, 14] (by decide +kernel) (by decide +kernel)
set_option maxRecDepth 20000 in
theorem gX5_copy_X5_noSheet : GoodIn wsX5_copy (va_wsS RX5 167 yX5_noSheet wsX5_noSheet) := goodIn_app (goodIn_of _ (by decide +kernel)) ggX5_copy_X5_noSheet
set_option maxRecDepth 20000 in
theorem ggX5_copy_X5_found : GoodIn wsX5_copy wsX5_found := goodIn_r _ [18, 19, 26, 27, 28, 29, 30, 31, 32, 33, 34, 35, 36] (by decide +kernel) (by decide +kernel)
set_option maxRecDepth 20000 in
theorem gX5_copy_X5_found : GoodIn wsX5_copy (wsV RX5 101 RX5 yX5_found wsX5_found) := goodIn_app (goodIn_of _ (by decide +kernel)) ggX5_copy_X5_found
set_option maxRecDepth 20000 in
theorem ggX5_copy_X2_hasRun : GoodIn wsX5_copy wsX2_hasRun := goodIn_r _ [24, 25, 37, 38] (by decide +kernel) (by decide +kernel)
set_option maxRecDepth 20000 in
theorem gX5_copy_X2_hasRun : GoodIn wsX5_copy (wsV RX5 191 RX2 yX2_hasRun wsX2_hasRun) := goodIn_app (goodIn_of _ (by decide +kernel)) ggX5_copy_X2_hasRun
theorem dX5_copy_0 : decode cX5_copy 0 = .ok (.iload_n 1, 1) := by decide +kernel
theorem dX5_copy_1 : decode cX5_copy 1 = .ok (.invokestatic 167, 3) := by decide +kernel
theorem dX5_copy_4 : decode cX5_copy 4 = .ok (.ifCond .ne 10, 3) := by decide +kernel
theorem dX5_copy_7 : decode cX5_copy 7 = .ok (.iload_n 3, 1) := by decide +kernel
theorem dX5_copy_8 : decode cX5_copy 8 = .ok (.invokestatic 167, 3) := by decide +kernel
theorem dX5_copy_11 : decode cX5_copy 11 = .ok (.ifCond .eq 10, 3) := by decide +kernel
theorem dX5_copy_14 : decode cX5_copy 14 = .ok (.aload_n 0, 1) := by decide +kernel
theorem dX5_copy_15 : decode cX5_copy 15 = .ok (.bipush (-12), 2) := by decide +kernel
theorem dX5_copy_17 : decode cX5_copy 17 = .ok (.invokevirtual 101, 3) := by decide +kernel
theorem dX5_copy_20 : decode cX5_copy 20 = .ok (.ireturn, 1) := by decide +kernel
theorem dX5_copy_21 : decode cX5_copy 21 = .ok (.aload_n 0, 1) := by decide +kernel
theorem dX5_copy_22 : decode cX5_copy 22 = .ok (.getfield 36, 3) := by decide +kernel
theorem dX5_copy_25 : decode cX5_copy 25 = .ok (.iload_n 1, 1) := by decide +kernel
theorem dX5_copy_26 : decode cX5_copy 26 = .ok (.aaload, 1) := by decide +kernel
theorem dX5_copy_27 : decode cX5_copy 27 = .ok (.astore 6, 2) := by decide +kernel
theorem dX5_copy_29 : decode cX5_copy 29 = .ok (.aload_n 0, 1) := by decide +kernel
theorem dX5_copy_30 : decode cX5_copy 30 = .ok (.getfield 36, 3) := by decide +kernel
theorem dX5_copy_33 : decode cX5_copy 33 = .ok (.iload_n 3, 1) := by decide +kernel
theorem dX5_copy_34 : decode cX5_copy 34 = .ok (.aaload, 1) := by decide +kernel
theorem dX5_copy_35 : decode cX5_copy 35 = .ok (.astore 7, 2) := by decide +kernel
theorem dX5_copy_37 : decode cX5_copy 37 = .ok (.aload 6, 2) := by decide +kernel
theorem dX5_copy_39 : decode cX5_copy 39 = .ok (.ifnull 8, 3) := by decide +kernel
theorem dX5_copy_42 : decode cX5_copy 42 = .ok (.aload 7, 2) := by decide +kernel
theorem dX5_copy_44 : decode cX5_copy 44 = .ok (.ifnonnull 10, 3) := by decide +kernel
theorem dX5_copy_47 : decode cX5_copy 47 = .ok (.aload_n 0, 1) := by decide +kernel
theorem dX5_copy_48 : decode cX5_copy 48 = .ok (.bipush (-11), 2) := by decide +kernel
theorem dX5_copy_50 : decode cX5_copy 50 = .ok (.invokevirtual 101, 3) := by decide +kernel
theorem dX5_copy_53 : decode cX5_copy 53 = .ok (.ireturn, 1) := by decide +kernel
theorem dX5_copy_54 : decode cX5_copy 54 = .ok (.aload 6, 2) := by decide +kernel
theorem dX5_copy_56 : decode cX5_copy 56 = .ok (.getfield 188, 3) := by decide +kernel
theorem dX5_copy_59 : decode cX5_copy 59 = .ok (.aload 7, 2) := by decide +kernel
theorem dX5_copy_61 : decode cX5_copy 61 = .ok (.getfield 188, 3) := by decide +kernel
theorem dX5_copy_64 : decode cX5_copy 64 = .ok (.if_icmp .eq 10, 3) := by decide +kernel
theorem dX5_copy_67 : decode cX5_copy 67 = .ok (.aload_n 0, 1) := by decide +kernel
theorem dX5_copy_68 : decode cX5_copy 68 = .ok (.bipush (-13), 2) := by decide +kernel
theorem dX5_copy_70 : decode cX5_copy 70 = .ok (.invokevirtual 101, 3) := by decide +kernel
theorem dX5_copy_73 : decode cX5_copy 73 = .ok (.ireturn, 1) := by decide +kernel
theorem dX5_copy_74 : decode cX5_copy 74 = .ok (.iload 5, 2) := by decide +kernel
theorem dX5_copy_76 : decode cX5_copy 76 = .ok (.ifCond .ge 10, 3) := by decide +kernel
theorem dX5_copy_79 : decode cX5_copy 79 = .ok (.aload_n 0, 1) := by decide +kernel
theorem dX5_copy_80 : decode cX5_copy 80 = .ok (.bipush (-14), 2) := by decide +kernel
theorem dX5_copy_82 : decode cX5_copy 82 = .ok (.invokevirtual 101, 3) := by decide +kernel
theorem dX5_copy_85 : decode cX5_copy 85 = .ok (.ireturn, 1) := by decide +kernel
theorem dX5_copy_86 : decode cX5_copy 86 = .ok (.aload 6, 2) := by decide +kernel
theorem dX5_copy_88 : decode cX5_copy 88 = .ok (.iload_n 2, 1) := by decide +kernel
theorem dX5_copy_89 : decode cX5_copy 89 = .ok (.iload 5, 2) := by decide +kernel
theorem dX5_copy_91 : decode cX5_copy 91 = .ok (.invokevirtual 191, 3) := by decide +kernel
theorem dX5_copy_94 : decode cX5_copy 94 = .ok (.ifCond .eq 15, 3) := by decide +kernel
theorem dX5_copy_97 : decode cX5_copy 97 = .ok (.aload 7, 2) := by decide +kernel
theorem dX5_copy_99 : decode cX5_copy 99 = .ok (.iload 4, 2) := by decide +kernel
theorem dX5_copy_101 : decode cX5_copy 101 = .ok (.iload 5, 2) := by decide +kernel
theorem dX5_copy_103 : decode cX5_copy 103 = .ok (.invokevirtual 191, 3) := by decide +kernel
theorem dX5_copy_106 : decode cX5_copy 106 = .ok (.ifCond .ne 10, 3) := by decide +kernel
theorem dX5_copy_109 : decode cX5_copy 109 = .ok (.aload_n 0, 1) := by decide +kernel
theorem dX5_copy_110 : decode cX5_copy 110 = .ok (.bipush (-12), 2) := by decide +kernel
theorem dX5_copy_112 : decode cX5_copy 112 = .ok (.invokevirtual 101, 3) := by decide +kernel
theorem dX5_copy_115 : decode cX5_copy 115 = .ok (.ireturn, 1) := by decide +kernel
theorem dX5_copy_116 : decode cX5_copy 116 = .ok (.aload 6, 2) := by decide +kernel
theorem dX5_copy_118 : decode cX5_copy 118 = .ok (.getfield 172, 3) := by decide +kernel
theorem dX5_copy_121 : decode cX5_copy 121 = .ok (.iload_n 2, 1) := by decide +kernel
theorem dX5_copy_122 : decode cX5_copy 122 = .ok (.aload 7, 2) := by decide +kernel
theorem dX5_copy_124 : decode cX5_copy 124 = .ok (.getfield 172, 3) := by decide +kernel
theorem dX5_copy_127 : decode cX5_copy 127 = .ok (.iload 4, 2) := by decide +kernel
theorem dX5_copy_129 : decode cX5_copy 129 = .ok (.iload 5, 2) := by decide +kernel
theorem dX5_copy_131 : decode cX5_copy 131 = .ok (.invokestatic 182, 3) := by decide +kernel
theorem dX5_copy_134 : decode cX5_copy 134 = .ok (.iload 5, 2) := by decide +kernel
theorem dX5_copy_136 : decode cX5_copy 136 = .ok (.ireturn, 1) := by decide +kernel
set_option maxRecDepth 20000 in
theorem ggX5_at_X5_noSheet : GoodIn wsX5_at wsX5_noSheet := goodIn_r _ [6, 7, 8, 5, 9] (by decide +kernel) (by decide +kernel)
set_option maxRecDepth 20000 in
theorem gX5_at_X5_noSheet : GoodIn wsX5_at (va_wsS RX5 167 yX5_noSheet wsX5_noSheet) := goodIn_app (goodIn_of _ (by decide +kernel)) ggX5_at_X5_noSheet
set_option maxRecDepth 20000 in
theorem ggX5_at_X5_found : GoodIn wsX5_at wsX5_found := goodIn_r _ [13, 14, 15, 16, 17, 18, 19, 20, 21, 22, 23, 24, 25] (by decide +kernel) (by decide +kernel)
set_option maxRecDepth 20000 in
theorem gX5_at_X5_found : GoodIn wsX5_at (wsV RX5 101 RX5 yX5_found wsX5_found) := goodIn_app (goodIn_of _ (by decide +kernel)) ggX5_at_X5_found
theorem dX5_at_0 : decode cX5_at 0 = .ok (.iload_n 1, 1) := by decide +kernel
theorem dX5_at_1 : decode cX5_at 1 = .ok (.invokestatic 167, 3) := by decide +kernel
theorem dX5_at_4 : decode cX5_at 4 = .ok (.ifCond .eq 10, 3) := by decide +kernel
theorem dX5_at_7 : decode cX5_at 7 = .ok (.aload_n 0, 1) := by decide +kernel
theorem dX5_at_8 : decode cX5_at 8 = .ok (.bipush (-12), 2) := by decide +kernel
theorem dX5_at_10 : decode cX5_at 10 = .ok (.invokevirtual 101, 3) := by decide +kernel
theorem dX5_at_13 : decode cX5_at 13 = .ok (.ireturn, 1) := by decide +kernel
theorem dX5_at_14 : decode cX5_at 14 = .ok (.aload_n 0, 1) := by decide +kernel
theorem dX5_at_15 : decode cX5_at 15 = .ok (.getfield 36, 3) := by decide +kernel
theorem dX5_at_18 : decode cX5_at 18 = .ok (.iload_n 1, 1) := by decide +kernel
theorem dX5_at_19 : decode cX5_at 19 = .ok (.aaload, 1) := by decide +kernel
theorem dX5_at_20 : decode cX5_at 20 = .ok (.astore_n 3, 1) := by decide +kernel
theorem dX5_at_21 : decode cX5_at 21 = .ok (.aload_n 3, 1) := by decide +kernel
theorem dX5_at_22 : decode cX5_at 22 = .ok (.ifnonnull 10, 3) := by decide +kernel
theorem dX5_at_25 : decode cX5_at 25 = .ok (.aload_n 0, 1) := by decide +kernel
theorem dX5_at_26 : decode cX5_at 26 = .ok (.bipush (-11), 2) := by decide +kernel
theorem dX5_at_28 : decode cX5_at 28 = .ok (.invokevirtual 101, 3) := by decide +kernel
theorem dX5_at_31 : decode cX5_at 31 = .ok (.ireturn, 1) := by decide +kernel
theorem dX5_at_32 : decode cX5_at 32 = .ok (.iload_n 2, 1) := by decide +kernel
theorem dX5_at_33 : decode cX5_at 33 = .ok (.ifCond .lt 12, 3) := by decide +kernel
theorem dX5_at_36 : decode cX5_at 36 = .ok (.iload_n 2, 1) := by decide +kernel
theorem dX5_at_37 : decode cX5_at 37 = .ok (.aload_n 3, 1) := by decide +kernel
theorem dX5_at_38 : decode cX5_at 38 = .ok (.getfield 172, 3) := by decide +kernel
theorem dX5_at_41 : decode cX5_at 41 = .ok (.arraylength, 1) := by decide +kernel
theorem dX5_at_42 : decode cX5_at 42 = .ok (.if_icmp .lt 10, 3) := by decide +kernel
theorem dX5_at_45 : decode cX5_at 45 = .ok (.aload_n 0, 1) := by decide +kernel
theorem dX5_at_46 : decode cX5_at 46 = .ok (.bipush (-12), 2) := by decide +kernel
theorem dX5_at_48 : decode cX5_at 48 = .ok (.invokevirtual 101, 3) := by decide +kernel
theorem dX5_at_51 : decode cX5_at 51 = .ok (.ireturn, 1) := by decide +kernel
theorem dX5_at_52 : decode cX5_at 52 = .ok (.aload_n 3, 1) := by decide +kernel
theorem dX5_at_53 : decode cX5_at 53 = .ok (.getfield 172, 3) := by decide +kernel
theorem dX5_at_56 : decode cX5_at 56 = .ok (.iload_n 2, 1) := by decide +kernel
theorem dX5_at_57 : decode cX5_at 57 = .ok (.iaload, 1) := by decide +kernel
theorem dX5_at_58 : decode cX5_at 58 = .ok (.ireturn, 1) := by decide +kernel
set_option maxRecDepth 20000 in
theorem ggX5_peak_X5_noSheet : GoodIn wsX5_peak wsX5_noSheet := goodIn_r _ [12, 13, 14, 11, 15] (by decide +kernel) (by decide +kernel)
set_option maxRecDepth 20000 in
theorem gX5_peak_X5_noSheet : GoodIn wsX5_peak (va_wsS RX5 167 yX5_noSheet wsX5_noSheet) := goodIn_app (goodIn_of _ (by decide +kernel)) ggX5_peak_X5_noSheet
set_option maxRecDepth 20000 in
theorem ggX5_peak_X5_found : GoodIn wsX5_peak wsX5_found := goodIn_r _ [19, 20, 21, 22, 23, 24, 25, 26, 27, 28, 29, 30, 31] (by decide +kernel) (by decide +kernel)
set_option maxRecDepth 20000 in
theorem gX5_peak_X5_found : GoodIn wsX5_peak (wsV RX5 101 RX5 yX5_found wsX5_found) := goodIn_app (goodIn_of _ (by decide +kernel)) ggX5_peak_X5_found
theorem dX5_peak_0 : decode cX5_peak 0 = .ok (.iload_n 1, 1) := by decide +kernel
theorem dX5_peak_1 : decode cX5_peak 1 = .ok (.invokestatic 167, 3) := by decide +kernel
theorem dX5_peak_4 : decode cX5_peak 4 = .ok (.ifCond .eq 10, 3) := by decide +kernel
theorem dX5_peak_7 : decode cX5_peak 7 = .ok (.aload_n 0, 1) := by decide +kernel
theorem dX5_peak_8 : decode cX5_peak 8 = .ok (.bipush (-12), 2) := by decide +kernel
theorem dX5_peak_10 : decode cX5_peak 10 = .ok (.invokevirtual 101, 3) := by decide +kernel
theorem dX5_peak_13 : decode cX5_peak 13 = .ok (.ireturn, 1) := by decide +kernel
theorem dX5_peak_14 : decode cX5_peak 14 = .ok (.aload_n 0, 1) := by decide +kernel
theorem dX5_peak_15 : decode cX5_peak 15 = .ok (.getfield 36, 3) := by decide +kernel
theorem dX5_peak_18 : decode cX5_peak 18 = .ok (.iload_n 1, 1) := by decide +kernel
theorem dX5_peak_19 : decode cX5_peak 19 = .ok (.aaload, 1) := by decide +kernel
theorem dX5_peak_20 : decode cX5_peak 20 = .ok (.astore_n 2, 1) := by decide +kernel
theorem dX5_peak_21 : decode cX5_peak 21 = .ok (.aload_n 2, 1) := by decide +kernel
theorem dX5_peak_22 : decode cX5_peak 22 = .ok (.ifnonnull 10, 3) := by decide +kernel
theorem dX5_peak_25 : decode cX5_peak 25 = .ok (.aload_n 0, 1) := by decide +kernel
theorem dX5_peak_26 : decode cX5_peak 26 = .ok (.bipush (-11), 2) := by decide +kernel
theorem dX5_peak_28 : decode cX5_peak 28 = .ok (.invokevirtual 101, 3) := by decide +kernel
theorem dX5_peak_31 : decode cX5_peak 31 = .ok (.ireturn, 1) := by decide +kernel
theorem dX5_peak_32 : decode cX5_peak 32 = .ok (.ldc 143, 2) := by decide +kernel
theorem dX5_peak_34 : decode cX5_peak 34 = .ok (.istore_n 3, 1) := by decide +kernel
theorem dX5_peak_35 : decode cX5_peak 35 = .ok (.ldc2_w 194, 3) := by decide +kernel
theorem dX5_peak_38 : decode cX5_peak 38 = .ok (.lstore 4, 2) := by decide +kernel
theorem dX5_peak_40 : decode cX5_peak 40 = .ok (.iconst 0, 1) := by decide +kernel
theorem dX5_peak_41 : decode cX5_peak 41 = .ok (.istore 6, 2) := by decide +kernel
theorem dX5_peak_43 : decode cX5_peak 43 = .ok (.iload 6, 2) := by decide +kernel
theorem dX5_peak_45 : decode cX5_peak 45 = .ok (.aload_n 2, 1) := by decide +kernel
theorem dX5_peak_46 : decode cX5_peak 46 = .ok (.getfield 172, 3) := by decide +kernel
theorem dX5_peak_49 : decode cX5_peak 49 = .ok (.arraylength, 1) := by decide +kernel
theorem dX5_peak_50 : decode cX5_peak 50 = .ok (.if_icmp .ge 37, 3) := by decide +kernel
theorem dX5_peak_53 : decode cX5_peak 53 = .ok (.aload_n 2, 1) := by decide +kernel
theorem dX5_peak_54 : decode cX5_peak 54 = .ok (.getfield 172, 3) := by decide +kernel
theorem dX5_peak_57 : decode cX5_peak 57 = .ok (.iload 6, 2) := by decide +kernel
theorem dX5_peak_59 : decode cX5_peak 59 = .ok (.iaload, 1) := by decide +kernel
theorem dX5_peak_60 : decode cX5_peak 60 = .ok (.i2l, 1) := by decide +kernel
theorem dX5_peak_61 : decode cX5_peak 61 = .ok (.invokestatic 196, 3) := by decide +kernel
theorem dX5_peak_64 : decode cX5_peak 64 = .ok (.lstore 7, 2) := by decide +kernel
theorem dX5_peak_66 : decode cX5_peak 66 = .ok (.lload 7, 2) := by decide +kernel
theorem dX5_peak_68 : decode cX5_peak 68 = .ok (.lload 4, 2) := by decide +kernel
theorem dX5_peak_70 : decode cX5_peak 70 = .ok (.lcmp, 1) := by decide +kernel
theorem dX5_peak_71 : decode cX5_peak 71 = .ok (.ifCond .le 10, 3) := by decide +kernel
theorem dX5_peak_74 : decode cX5_peak 74 = .ok (.lload 7, 2) := by decide +kernel
theorem dX5_peak_76 : decode cX5_peak 76 = .ok (.lstore 4, 2) := by decide +kernel
theorem dX5_peak_78 : decode cX5_peak 78 = .ok (.iload 6, 2) := by decide +kernel
theorem dX5_peak_80 : decode cX5_peak 80 = .ok (.istore_n 3, 1) := by decide +kernel
theorem dX5_peak_81 : decode cX5_peak 81 = .ok (.iinc 6 1, 3) := by decide +kernel
theorem dX5_peak_84 : decode cX5_peak 84 = .ok (.goto (-41), 3) := by decide +kernel
theorem dX5_peak_87 : decode cX5_peak 87 = .ok (.iload_n 3, 1) := by decide +kernel
theorem dX5_peak_88 : decode cX5_peak 88 = .ok (.ireturn, 1) := by decide +kernel
set_option maxRecDepth 20000 in
theorem ggX5_total_X5_countWorking : GoodIn wsX5_total wsX5_countWorking := goodIn_r _ [11, 12, 13, 26, 27, 28, 29, 30, 31, 32, 33, 34, 35, 36, 37, 38, 39, 40] (by decide +kernel) (by decide +kernel)
set_option maxRecDepth 20000 in
theorem gX5_total_X5_countWorking : GoodIn wsX5_total (wsV RX5 83 RX5 yX5_countWorking wsX5_countWorking) := goodIn_app (goodIn_of _ (by decide +kernel)) ggX5_total_X5_countWorking
set_option maxRecDepth 20000 in
theorem ggX5_total_X5_countSheets : GoodIn wsX5_total wsX5_countSheets := goodIn_r _ [17, 18, 26, 27, 28, 29, 30, 31, 32, 33, 34, 35, 36] (by decide +kernel) (by decide +kernel)
set_option maxRecDepth 20000 in
theorem gX5_total_X5_countSheets : GoodIn wsX5_total (wsV RX5 202 RX5 yX5_countSheets wsX5_countSheets) := goodIn_app (goodIn_of _ (by decide +kernel)) ggX5_total_X5_countSheets
set_option maxRecDepth 20000 in
theorem ggX5_total_X1_floor : GoodIn wsX5_total wsX1_floor := goodIn_r _ [23, 24, 25, 41, 42, 43, 44, 45, 46, 47] (by decide +kernel) (by decide +kernel)
set_option maxRecDepth 20000 in
theorem gX5_total_X1_floor : GoodIn wsX5_total (wsV RX5 66 RX1 yX1_floor wsX1_floor) := goodIn_app (goodIn_of _ (by decide +kernel)) ggX5_total_X1_floor
theorem dX5_total_0 : decode cX5_total 0 = .ok (.iload_n 1, 1) := by decide +kernel
theorem dX5_total_1 : decode cX5_total 1 = .ok (.tableswitch 98 0 7 #[47, 52, 57, 62, 67, 72, 77, 85], 47) := by decide +kernel
theorem dX5_total_48 : decode cX5_total 48 = .ok (.aload_n 0, 1) := by decide +kernel
theorem dX5_total_49 : decode cX5_total 49 = .ok (.getfield 70, 3) := by decide +kernel
theorem dX5_total_52 : decode cX5_total 52 = .ok (.ireturn, 1) := by decide +kernel
theorem dX5_total_53 : decode cX5_total 53 = .ok (.aload_n 0, 1) := by decide +kernel
theorem dX5_total_54 : decode cX5_total 54 = .ok (.invokevirtual 83, 3) := by decide +kernel
theorem dX5_total_57 : decode cX5_total 57 = .ok (.ireturn, 1) := by decide +kernel
theorem dX5_total_58 : decode cX5_total 58 = .ok (.aload_n 0, 1) := by decide +kernel
theorem dX5_total_59 : decode cX5_total 59 = .ok (.getfield 90, 3) := by decide +kernel
theorem dX5_total_62 : decode cX5_total 62 = .ok (.ireturn, 1) := by decide +kernel
theorem dX5_total_63 : decode cX5_total 63 = .ok (.aload_n 0, 1) := by decide +kernel
theorem dX5_total_64 : decode cX5_total 64 = .ok (.getfield 155, 3) := by decide +kernel
theorem dX5_total_67 : decode cX5_total 67 = .ok (.ireturn, 1) := by decide +kernel
theorem dX5_total_68 : decode cX5_total 68 = .ok (.aload_n 0, 1) := by decide +kernel
theorem dX5_total_69 : decode cX5_total 69 = .ok (.getfield 199, 3) := by decide +kernel
theorem dX5_total_72 : decode cX5_total 72 = .ok (.ireturn, 1) := by decide +kernel
theorem dX5_total_73 : decode cX5_total 73 = .ok (.aload_n 0, 1) := by decide +kernel
theorem dX5_total_74 : decode cX5_total 74 = .ok (.invokevirtual 202, 3) := by decide +kernel
theorem dX5_total_77 : decode cX5_total 77 = .ok (.ireturn, 1) := by decide +kernel
theorem dX5_total_78 : decode cX5_total 78 = .ok (.aload_n 0, 1) := by decide +kernel
theorem dX5_total_79 : decode cX5_total 79 = .ok (.getfield 12, 3) := by decide +kernel
theorem dX5_total_82 : decode cX5_total 82 = .ok (.invokevirtual 66, 3) := by decide +kernel
theorem dX5_total_85 : decode cX5_total 85 = .ok (.ireturn, 1) := by decide +kernel
theorem dX5_total_86 : decode cX5_total 86 = .ok (.aload_n 0, 1) := by decide +kernel
theorem dX5_total_87 : decode cX5_total 87 = .ok (.getfield 62, 3) := by decide +kernel
theorem dX5_total_90 : decode cX5_total 90 = .ok (.ifCond .eq 7, 3) := by decide +kernel
theorem dX5_total_93 : decode cX5_total 93 = .ok (.iconst 1, 1) := by decide +kernel
theorem dX5_total_94 : decode cX5_total 94 = .ok (.goto 4, 3) := by decide +kernel
theorem dX5_total_97 : decode cX5_total 97 = .ok (.iconst 0, 1) := by decide +kernel
theorem dX5_total_98 : decode cX5_total 98 = .ok (.ireturn, 1) := by decide +kernel
theorem dX5_total_99 : decode cX5_total 99 = .ok (.bipush (-2), 2) := by decide +kernel
theorem dX5_total_101 : decode cX5_total 101 = .ok (.ireturn, 1) := by decide +kernel
theorem dX5_outside_0 : decode cX5_outside 0 = .ok (.iload_n 0, 1) := by decide +kernel
theorem dX5_outside_1 : decode cX5_outside 1 = .ok (.iload_n 1, 1) := by decide +kernel
theorem dX5_outside_2 : decode cX5_outside 2 = .ok (.if_icmp .lt 8, 3) := by decide +kernel
theorem dX5_outside_5 : decode cX5_outside 5 = .ok (.iload_n 0, 1) := by decide +kernel
theorem dX5_outside_6 : decode cX5_outside 6 = .ok (.iload_n 2, 1) := by decide +kernel
theorem dX5_outside_7 : decode cX5_outside 7 = .ok (.if_icmp .le 7, 3) := by decide +kernel
theorem dX5_outside_10 : decode cX5_outside 10 = .ok (.iconst 1, 1) := by decide +kernel
theorem dX5_outside_11 : decode cX5_outside 11 = .ok (.goto 4, 3) := by decide +kernel
theorem dX5_outside_14 : decode cX5_outside 14 = .ok (.iconst 0, 1) := by decide +kernel
theorem dX5_outside_15 : decode cX5_outside 15 = .ok (.ireturn, 1) := by decide +kernel
set_option maxRecDepth 20000 in
theorem ggX5_noSheet_X5_outside : GoodIn wsX5_noSheet wsX5_outside := goodIn_r _ [4] (by decide +kernel) (by decide +kernel)
set_option maxRecDepth 20000 in
theorem gX5_noSheet_X5_outside : GoodIn wsX5_noSheet (va_wsS RX5 44 yX5_outside wsX5_outside) := goodIn_app (goodIn_of _ (by decide +kernel)) ggX5_noSheet_X5_outside
theorem dX5_noSheet_0 : decode cX5_noSheet 0 = .ok (.iload_n 0, 1) := by decide +kernel
theorem dX5_noSheet_1 : decode cX5_noSheet 1 = .ok (.iconst 0, 1) := by decide +kernel
theorem dX5_noSheet_2 : decode cX5_noSheet 2 = .ok (.iconst 5, 1) := by decide +kernel
theorem dX5_noSheet_3 : decode cX5_noSheet 3 = .ok (.invokestatic 44, 3) := by decide +kernel
theorem dX5_noSheet_6 : decode cX5_noSheet 6 = .ok (.ireturn, 1) := by decide +kernel
theorem dX5_found_0 : decode cX5_found 0 = .ok (.aload_n 0, 1) := by decide +kernel
theorem dX5_found_1 : decode cX5_found 1 = .ok (.dup, 1) := by decide +kernel
theorem dX5_found_2 : decode cX5_found 2 = .ok (.getfield 199, 3) := by decide +kernel
theorem dX5_found_5 : decode cX5_found 5 = .ok (.iconst 1, 1) := by decide +kernel
theorem dX5_found_6 : decode cX5_found 6 = .ok (.iadd, 1) := by decide +kernel
theorem dX5_found_7 : decode cX5_found 7 = .ok (.putfield 199, 3) := by decide +kernel
theorem dX5_found_10 : decode cX5_found 10 = .ok (.iload_n 1, 1) := by decide +kernel
theorem dX5_found_11 : decode cX5_found 11 = .ok (.ireturn, 1) := by decide +kernel
theorem dX5_elementNumbered_0 : decode cX5_elementNumbered 0 = .ok (.iload_n 1, 1) := by decide +kernel
theorem dX5_elementNumbered_1 : decode cX5_elementNumbered 1 = .ok (.ifCond .lt 12, 3) := by decide +kernel
theorem dX5_elementNumbered_4 : decode cX5_elementNumbered 4 = .ok (.iload_n 1, 1) := by decide +kernel
theorem dX5_elementNumbered_5 : decode cX5_elementNumbered 5 = .ok (.aload_n 0, 1) := by decide +kernel
theorem dX5_elementNumbered_6 : decode cX5_elementNumbered 6 = .ok (.getfield 18, 3) := by decide +kernel
theorem dX5_elementNumbered_9 : decode cX5_elementNumbered 9 = .ok (.arraylength, 1) := by decide +kernel
theorem dX5_elementNumbered_10 : decode cX5_elementNumbered 10 = .ok (.if_icmp .lt 7, 3) := by decide +kernel
theorem dX5_elementNumbered_13 : decode cX5_elementNumbered 13 = .ok (.aconst_null, 1) := by decide +kernel
theorem dX5_elementNumbered_14 : decode cX5_elementNumbered 14 = .ok (.goto 9, 3) := by decide +kernel
theorem dX5_elementNumbered_17 : decode cX5_elementNumbered 17 = .ok (.aload_n 0, 1) := by decide +kernel
theorem dX5_elementNumbered_18 : decode cX5_elementNumbered 18 = .ok (.getfield 18, 3) := by decide +kernel
theorem dX5_elementNumbered_21 : decode cX5_elementNumbered 21 = .ok (.iload_n 1, 1) := by decide +kernel
theorem dX5_elementNumbered_22 : decode cX5_elementNumbered 22 = .ok (.aaload, 1) := by decide +kernel
theorem dX5_elementNumbered_23 : decode cX5_elementNumbered 23 = .ok (.areturn, 1) := by decide +kernel
theorem dX5_targetNumbered_0 : decode cX5_targetNumbered 0 = .ok (.iload_n 1, 1) := by decide +kernel
theorem dX5_targetNumbered_1 : decode cX5_targetNumbered 1 = .ok (.ifCond .lt 12, 3) := by decide +kernel
theorem dX5_targetNumbered_4 : decode cX5_targetNumbered 4 = .ok (.iload_n 1, 1) := by decide +kernel
theorem dX5_targetNumbered_5 : decode cX5_targetNumbered 5 = .ok (.aload_n 0, 1) := by decide +kernel
theorem dX5_targetNumbered_6 : decode cX5_targetNumbered 6 = .ok (.getfield 24, 3) := by decide +kernel
theorem dX5_targetNumbered_9 : decode cX5_targetNumbered 9 = .ok (.arraylength, 1) := by decide +kernel
theorem dX5_targetNumbered_10 : decode cX5_targetNumbered 10 = .ok (.if_icmp .lt 7, 3) := by decide +kernel
theorem dX5_targetNumbered_13 : decode cX5_targetNumbered 13 = .ok (.aconst_null, 1) := by decide +kernel
theorem dX5_targetNumbered_14 : decode cX5_targetNumbered 14 = .ok (.goto 9, 3) := by decide +kernel
theorem dX5_targetNumbered_17 : decode cX5_targetNumbered 17 = .ok (.aload_n 0, 1) := by decide +kernel
theorem dX5_targetNumbered_18 : decode cX5_targetNumbered 18 = .ok (.getfield 24, 3) := by decide +kernel
theorem dX5_targetNumbered_21 : decode cX5_targetNumbered 21 = .ok (.iload_n 1, 1) := by decide +kernel
theorem dX5_targetNumbered_22 : decode cX5_targetNumbered 22 = .ok (.aaload, 1) := by decide +kernel
theorem dX5_targetNumbered_23 : decode cX5_targetNumbered 23 = .ok (.areturn, 1) := by decide +kernel
set_option maxRecDepth 20000 in
theorem ggX5_newTarget_X3_init : GoodIn wsX5_newTarget wsX3_init := goodIn_r _ [6, 7, 8, 9, 10, 11, 12, 13, 14, 15, 16, 17, 18, 19, 20, 21, 22, 23, 24, 25, 26] (by decide +kernel) (by decide +kernel)
set_option maxRecDepth 20000 in
theorem gX5_newTarget_X3_init : GoodIn wsX5_newTarget (wsX3_init) := ggX5_newTarget_X3_init
theorem dX5_newTarget_0 : decode cX5_newTarget 0 = .ok (.iload_n 0, 1) := by decide +kernel
theorem dX5_newTarget_1 : decode cX5_newTarget 1 = .ok (.lookupswitch 55 #[(0, 27), (1, 41)], 27) := by decide +kernel
theorem dX5_newTarget_28 : decode cX5_newTarget 28 = .ok (.new 22, 3) := by decide +kernel
theorem dX5_newTarget_31 : decode cX5_newTarget 31 = .ok (.dup, 1) := by decide +kernel
theorem dX5_newTarget_32 : decode cX5_newTarget 32 = .ok (.iconst 0, 1) := by decide +kernel
theorem dX5_newTarget_33 : decode cX5_newTarget 33 = .ok (.iload_n 1, 1) := by decide +kernel
theorem dX5_newTarget_34 : decode cX5_newTarget 34 = .ok (.iload_n 1, 1) := by decide +kernel
theorem dX5_newTarget_35 : decode cX5_newTarget 35 = .ok (.iload_n 3, 1) := by decide +kernel
theorem dX5_newTarget_36 : decode cX5_newTarget 36 = .ok (.iload 4, 2) := by decide +kernel
theorem dX5_newTarget_38 : decode cX5_newTarget 38 = .ok (.invokespecial 205, 3) := by decide +kernel
theorem dX5_newTarget_41 : decode cX5_newTarget 41 = .ok (.areturn, 1) := by decide +kernel
theorem dX5_newTarget_42 : decode cX5_newTarget 42 = .ok (.new 22, 3) := by decide +kernel
theorem dX5_newTarget_45 : decode cX5_newTarget 45 = .ok (.dup, 1) := by decide +kernel
theorem dX5_newTarget_46 : decode cX5_newTarget 46 = .ok (.iconst 1, 1) := by decide +kernel
theorem dX5_newTarget_47 : decode cX5_newTarget 47 = .ok (.iload_n 1, 1) := by decide +kernel
theorem dX5_newTarget_48 : decode cX5_newTarget 48 = .ok (.iload_n 2, 1) := by decide +kernel
theorem dX5_newTarget_49 : decode cX5_newTarget 49 = .ok (.iload_n 3, 1) := by decide +kernel
theorem dX5_newTarget_50 : decode cX5_newTarget 50 = .ok (.iload 4, 2) := by decide +kernel
theorem dX5_newTarget_52 : decode cX5_newTarget 52 = .ok (.invokespecial 205, 3) := by decide +kernel
theorem dX5_newTarget_55 : decode cX5_newTarget 55 = .ok (.areturn, 1) := by decide +kernel
theorem dX5_newTarget_56 : decode cX5_newTarget 56 = .ok (.new 22, 3) := by decide +kernel
theorem dX5_newTarget_59 : decode cX5_newTarget 59 = .ok (.dup, 1) := by decide +kernel
theorem dX5_newTarget_60 : decode cX5_newTarget 60 = .ok (.iconst 2, 1) := by decide +kernel
theorem dX5_newTarget_61 : decode cX5_newTarget 61 = .ok (.iconst 0, 1) := by decide +kernel
theorem dX5_newTarget_62 : decode cX5_newTarget 62 = .ok (.bipush 50, 2) := by decide +kernel
theorem dX5_newTarget_64 : decode cX5_newTarget 64 = .ok (.iconst 0, 1) := by decide +kernel
theorem dX5_newTarget_65 : decode cX5_newTarget 65 = .ok (.iload 4, 2) := by decide +kernel
theorem dX5_newTarget_67 : decode cX5_newTarget 67 = .ok (.invokespecial 205, 3) := by decide +kernel
theorem dX5_newTarget_70 : decode cX5_newTarget 70 = .ok (.areturn, 1) := by decide +kernel
set_option maxRecDepth 20000 in
theorem ggX5_depthOf_X1_floor : GoodIn wsX5_depthOf wsX1_floor := goodIn_r _ [8, 9, 10, 28, 29, 30, 31, 32, 33, 34] (by decide +kernel) (by decide +kernel)
set_option maxRecDepth 20000 in
theorem gX5_depthOf_X1_floor : GoodIn wsX5_depthOf (wsV RX5 66 RX1 yX1_floor wsX1_floor) := goodIn_app (goodIn_of _ (by decide +kernel)) ggX5_depthOf_X1_floor
theorem dX5_depthOf_0 : decode cX5_depthOf 0 = .ok (.aload_n 1, 1) := by decide +kernel
theorem dX5_depthOf_1 : decode cX5_depthOf 1 = .ok (.getfield 48, 3) := by decide +kernel
theorem dX5_depthOf_4 : decode cX5_depthOf 4 = .ok (.iconst 2, 1) := by decide +kernel
theorem dX5_depthOf_5 : decode cX5_depthOf 5 = .ok (.if_icmp .ne 13, 3) := by decide +kernel
theorem dX5_depthOf_8 : decode cX5_depthOf 8 = .ok (.aload_n 0, 1) := by decide +kernel
theorem dX5_depthOf_9 : decode cX5_depthOf 9 = .ok (.getfield 12, 3) := by decide +kernel
theorem dX5_depthOf_12 : decode cX5_depthOf 12 = .ok (.invokevirtual 66, 3) := by decide +kernel
theorem dX5_depthOf_15 : decode cX5_depthOf 15 = .ok (.goto 7, 3) := by decide +kernel
theorem dX5_depthOf_18 : decode cX5_depthOf 18 = .ok (.aload_n 1, 1) := by decide +kernel
theorem dX5_depthOf_19 : decode cX5_depthOf 19 = .ok (.getfield 52, 3) := by decide +kernel
theorem dX5_depthOf_22 : decode cX5_depthOf 22 = .ok (.ireturn, 1) := by decide +kernel
theorem dX5_countWorking_0 : decode cX5_countWorking 0 = .ok (.iconst 0, 1) := by decide +kernel
theorem dX5_countWorking_1 : decode cX5_countWorking 1 = .ok (.istore_n 1, 1) := by decide +kernel
theorem dX5_countWorking_2 : decode cX5_countWorking 2 = .ok (.aload_n 0, 1) := by decide +kernel
theorem dX5_countWorking_3 : decode cX5_countWorking 3 = .ok (.getfield 18, 3) := by decide +kernel
theorem dX5_countWorking_6 : decode cX5_countWorking 6 = .ok (.astore_n 2, 1) := by decide +kernel
theorem dX5_countWorking_7 : decode cX5_countWorking 7 = .ok (.aload_n 2, 1) := by decide +kernel
theorem dX5_countWorking_8 : decode cX5_countWorking 8 = .ok (.arraylength, 1) := by decide +kernel
theorem dX5_countWorking_9 : decode cX5_countWorking 9 = .ok (.istore_n 3, 1) := by decide +kernel
theorem dX5_countWorking_10 : decode cX5_countWorking 10 = .ok (.iconst 0, 1) := by decide +kernel
theorem dX5_countWorking_11 : decode cX5_countWorking 11 = .ok (.istore 4, 2) := by decide +kernel
theorem dX5_countWorking_13 : decode cX5_countWorking 13 = .ok (.iload 4, 2) := by decide +kernel
theorem dX5_countWorking_15 : decode cX5_countWorking 15 = .ok (.iload_n 3, 1) := by decide +kernel
theorem dX5_countWorking_16 : decode cX5_countWorking 16 = .ok (.if_icmp .ge 31, 3) := by decide +kernel
theorem dX5_countWorking_19 : decode cX5_countWorking 19 = .ok (.aload_n 2, 1) := by decide +kernel
theorem dX5_countWorking_20 : decode cX5_countWorking 20 = .ok (.iload 4, 2) := by decide +kernel
theorem dX5_countWorking_22 : decode cX5_countWorking 22 = .ok (.aaload, 1) := by decide +kernel
theorem dX5_countWorking_23 : decode cX5_countWorking 23 = .ok (.astore 5, 2) := by decide +kernel
theorem dX5_countWorking_25 : decode cX5_countWorking 25 = .ok (.aload 5, 2) := by decide +kernel
theorem dX5_countWorking_27 : decode cX5_countWorking 27 = .ok (.ifnull 14, 3) := by decide +kernel
theorem dX5_countWorking_30 : decode cX5_countWorking 30 = .ok (.aload 5, 2) := by decide +kernel
theorem dX5_countWorking_32 : decode cX5_countWorking 32 = .ok (.getfield 80, 3) := by decide +kernel
theorem dX5_countWorking_35 : decode cX5_countWorking 35 = .ok (.ifCond .eq 6, 3) := by decide +kernel
theorem dX5_countWorking_38 : decode cX5_countWorking 38 = .ok (.iinc 1 1, 3) := by decide +kernel
theorem dX5_countWorking_41 : decode cX5_countWorking 41 = .ok (.iinc 4 1, 3) := by decide +kernel
theorem dX5_countWorking_44 : decode cX5_countWorking 44 = .ok (.goto (-31), 3) := by decide +kernel
theorem dX5_countWorking_47 : decode cX5_countWorking 47 = .ok (.iload_n 1, 1) := by decide +kernel
theorem dX5_countWorking_48 : decode cX5_countWorking 48 = .ok (.ireturn, 1) := by decide +kernel
theorem dX5_countSheets_0 : decode cX5_countSheets 0 = .ok (.iconst 0, 1) := by decide +kernel
theorem dX5_countSheets_1 : decode cX5_countSheets 1 = .ok (.istore_n 1, 1) := by decide +kernel
theorem dX5_countSheets_2 : decode cX5_countSheets 2 = .ok (.aload_n 0, 1) := by decide +kernel
theorem dX5_countSheets_3 : decode cX5_countSheets 3 = .ok (.getfield 36, 3) := by decide +kernel
theorem dX5_countSheets_6 : decode cX5_countSheets 6 = .ok (.astore_n 2, 1) := by decide +kernel
theorem dX5_countSheets_7 : decode cX5_countSheets 7 = .ok (.aload_n 2, 1) := by decide +kernel
theorem dX5_countSheets_8 : decode cX5_countSheets 8 = .ok (.arraylength, 1) := by decide +kernel
theorem dX5_countSheets_9 : decode cX5_countSheets 9 = .ok (.istore_n 3, 1) := by decide +kernel
theorem dX5_countSheets_10 : decode cX5_countSheets 10 = .ok (.iconst 0, 1) := by decide +kernel
theorem dX5_countSheets_11 : decode cX5_countSheets 11 = .ok (.istore 4, 2) := by decide +kernel
theorem dX5_countSheets_13 : decode cX5_countSheets 13 = .ok (.iload 4, 2) := by decide +kernel
theorem dX5_countSheets_15 : decode cX5_countSheets 15 = .ok (.iload_n 3, 1) := by decide +kernel
theorem dX5_countSheets_16 : decode cX5_countSheets 16 = .ok (.if_icmp .ge 23, 3) := by decide +kernel
theorem dX5_countSheets_19 : decode cX5_countSheets 19 = .ok (.aload_n 2, 1) := by decide +kernel
theorem dX5_countSheets_20 : decode cX5_countSheets 20 = .ok (.iload 4, 2) := by decide +kernel
theorem dX5_countSheets_22 : decode cX5_countSheets 22 = .ok (.aaload, 1) := by decide +kernel
theorem dX5_countSheets_23 : decode cX5_countSheets 23 = .ok (.astore 5, 2) := by decide +kernel
theorem dX5_countSheets_25 : decode cX5_countSheets 25 = .ok (.aload 5, 2) := by decide +kernel
theorem dX5_countSheets_27 : decode cX5_countSheets 27 = .ok (.ifnull 6, 3) := by decide +kernel
theorem dX5_countSheets_30 : decode cX5_countSheets 30 = .ok (.iinc 1 1, 3) := by decide +kernel
theorem dX5_countSheets_33 : decode cX5_countSheets 33 = .ok (.iinc 4 1, 3) := by decide +kernel
theorem dX5_countSheets_36 : decode cX5_countSheets 36 = .ok (.goto (-23), 3) := by decide +kernel
theorem dX5_countSheets_39 : decode cX5_countSheets 39 = .ok (.iload_n 1, 1) := by decide +kernel
theorem dX5_countSheets_40 : decode cX5_countSheets 40 = .ok (.ireturn, 1) := by decide +kernel
set_option maxRecDepth 20000 in
theorem ggX5_echoTimeBy_X5_depthOf : GoodIn wsX5_echoTimeBy wsX5_depthOf := goodIn_r _ [17, 18, 7, 19, 20, 21, 22, 23, 24, 25, 26, 55, 56, 57, 58, 59, 60, 61, 62, 63, 64, 65, 66, 67, 68, 69, 70, 71, 72, 73, 74, 75, 76, 77, 78] (by decide +kernel) (by decide +kernel)
set_option maxRecDepth 20000 in
theorem gX5_echoTimeBy_X5_depthOf : GoodIn wsX5_echoTimeBy (wsV RX5 111 RX5 yX5_depthOf wsX5_depthOf) := goodIn_app (goodIn_of _ (by decide +kernel)) ggX5_echoTimeBy_X5_depthOf
set_option maxRecDepth 20000 in
theorem ggX5_echoTimeBy_X1_timeTo : GoodIn wsX5_echoTimeBy wsX1_timeTo := goodIn_r _ [30, 25, 31, 32, 11, 33, 34, 35, 36, 37, 38, 16, 39, 40, 41, 42, 23, 43, 44, 45, 46, 47, 10, 12, 48, 49, 50, 72, 73, 74, 75, 76, 77, 78] (by decide +kernel) (by decide +kernel)
set_option maxRecDepth 20000 in
theorem gX5_echoTimeBy_X1_timeTo : GoodIn wsX5_echoTimeBy (wsV RX5 119 RX1 yX1_timeTo wsX1_timeTo) := goodIn_app (goodIn_of _ (by decide +kernel)) ggX5_echoTimeBy_X1_timeTo
theorem dX5_echoTimeBy_0 : decode cX5_echoTimeBy 0 = .ok (.aload_n 1, 1) := by decide +kernel
theorem dX5_echoTimeBy_1 : decode cX5_echoTimeBy 1 = .ok (.getfield 208, 3) := by decide +kernel
theorem dX5_echoTimeBy_4 : decode cX5_echoTimeBy 4 = .ok (.bipush 8, 2) := by decide +kernel
theorem dX5_echoTimeBy_6 : decode cX5_echoTimeBy 6 = .ok (.imul, 1) := by decide +kernel
theorem dX5_echoTimeBy_7 : decode cX5_echoTimeBy 7 = .ok (.aload_n 2, 1) := by decide +kernel
theorem dX5_echoTimeBy_8 : decode cX5_echoTimeBy 8 = .ok (.getfield 208, 3) := by decide +kernel
theorem dX5_echoTimeBy_11 : decode cX5_echoTimeBy 11 = .ok (.iadd, 1) := by decide +kernel
theorem dX5_echoTimeBy_12 : decode cX5_echoTimeBy 12 = .ok (.istore 4, 2) := by decide +kernel
theorem dX5_echoTimeBy_14 : decode cX5_echoTimeBy 14 = .ok (.iload 4, 2) := by decide +kernel
theorem dX5_echoTimeBy_16 : decode cX5_echoTimeBy 16 = .ok (.ifCond .lt 13, 3) := by decide +kernel
theorem dX5_echoTimeBy_19 : decode cX5_echoTimeBy 19 = .ok (.iload 4, 2) := by decide +kernel
theorem dX5_echoTimeBy_21 : decode cX5_echoTimeBy 21 = .ok (.aload_n 3, 1) := by decide +kernel
theorem dX5_echoTimeBy_22 : decode cX5_echoTimeBy 22 = .ok (.getfield 211, 3) := by decide +kernel
theorem dX5_echoTimeBy_25 : decode cX5_echoTimeBy 25 = .ok (.arraylength, 1) := by decide +kernel
theorem dX5_echoTimeBy_26 : decode cX5_echoTimeBy 26 = .ok (.if_icmp .lt 6, 3) := by decide +kernel
theorem dX5_echoTimeBy_29 : decode cX5_echoTimeBy 29 = .ok (.ldc 143, 2) := by decide +kernel
theorem dX5_echoTimeBy_31 : decode cX5_echoTimeBy 31 = .ok (.ireturn, 1) := by decide +kernel
theorem dX5_echoTimeBy_32 : decode cX5_echoTimeBy 32 = .ok (.aload_n 3, 1) := by decide +kernel
theorem dX5_echoTimeBy_33 : decode cX5_echoTimeBy 33 = .ok (.getfield 211, 3) := by decide +kernel
theorem dX5_echoTimeBy_36 : decode cX5_echoTimeBy 36 = .ok (.iload 4, 2) := by decide +kernel
theorem dX5_echoTimeBy_38 : decode cX5_echoTimeBy 38 = .ok (.iaload, 1) := by decide +kernel
theorem dX5_echoTimeBy_39 : decode cX5_echoTimeBy 39 = .ok (.ifCond .ge 82, 3) := by decide +kernel
theorem dX5_echoTimeBy_42 : decode cX5_echoTimeBy 42 = .ok (.aload_n 0, 1) := by decide +kernel
theorem dX5_echoTimeBy_43 : decode cX5_echoTimeBy 43 = .ok (.aload_n 3, 1) := by decide +kernel
theorem dX5_echoTimeBy_44 : decode cX5_echoTimeBy 44 = .ok (.invokevirtual 111, 3) := by decide +kernel
theorem dX5_echoTimeBy_47 : decode cX5_echoTimeBy 47 = .ok (.istore 5, 2) := by decide +kernel
theorem dX5_echoTimeBy_49 : decode cX5_echoTimeBy 49 = .ok (.ldc 130, 2) := by decide +kernel
theorem dX5_echoTimeBy_51 : decode cX5_echoTimeBy 51 = .ok (.istore 6, 2) := by decide +kernel
theorem dX5_echoTimeBy_53 : decode cX5_echoTimeBy 53 = .ok (.aload_n 3, 1) := by decide +kernel
theorem dX5_echoTimeBy_54 : decode cX5_echoTimeBy 54 = .ok (.getfield 108, 3) := by decide +kernel
theorem dX5_echoTimeBy_57 : decode cX5_echoTimeBy 57 = .ok (.istore 7, 2) := by decide +kernel
theorem dX5_echoTimeBy_59 : decode cX5_echoTimeBy 59 = .ok (.iload 7, 2) := by decide +kernel
theorem dX5_echoTimeBy_61 : decode cX5_echoTimeBy 61 = .ok (.aload_n 3, 1) := by decide +kernel
theorem dX5_echoTimeBy_62 : decode cX5_echoTimeBy 62 = .ok (.getfield 115, 3) := by decide +kernel
theorem dX5_echoTimeBy_65 : decode cX5_echoTimeBy 65 = .ok (.if_icmp .gt 47, 3) := by decide +kernel
theorem dX5_echoTimeBy_68 : decode cX5_echoTimeBy 68 = .ok (.iload 6, 2) := by decide +kernel
theorem dX5_echoTimeBy_70 : decode cX5_echoTimeBy 70 = .ok (.aload_n 0, 1) := by decide +kernel
theorem dX5_echoTimeBy_71 : decode cX5_echoTimeBy 71 = .ok (.getfield 12, 3) := by decide +kernel
theorem dX5_echoTimeBy_74 : decode cX5_echoTimeBy 74 = .ok (.aload_n 1, 1) := by decide +kernel
theorem dX5_echoTimeBy_75 : decode cX5_echoTimeBy 75 = .ok (.getfield 118, 3) := by decide +kernel
theorem dX5_echoTimeBy_78 : decode cX5_echoTimeBy 78 = .ok (.iload 7, 2) := by decide +kernel
theorem dX5_echoTimeBy_80 : decode cX5_echoTimeBy 80 = .ok (.iload 5, 2) := by decide +kernel
theorem dX5_echoTimeBy_82 : decode cX5_echoTimeBy 82 = .ok (.invokevirtual 119, 3) := by decide +kernel
theorem dX5_echoTimeBy_85 : decode cX5_echoTimeBy 85 = .ok (.aload_n 0, 1) := by decide +kernel
theorem dX5_echoTimeBy_86 : decode cX5_echoTimeBy 86 = .ok (.getfield 12, 3) := by decide +kernel
theorem dX5_echoTimeBy_89 : decode cX5_echoTimeBy 89 = .ok (.aload_n 2, 1) := by decide +kernel
theorem dX5_echoTimeBy_90 : decode cX5_echoTimeBy 90 = .ok (.getfield 118, 3) := by decide +kernel
theorem dX5_echoTimeBy_93 : decode cX5_echoTimeBy 93 = .ok (.iload 7, 2) := by decide +kernel
theorem dX5_echoTimeBy_95 : decode cX5_echoTimeBy 95 = .ok (.iload 5, 2) := by decide +kernel
theorem dX5_echoTimeBy_97 : decode cX5_echoTimeBy 97 = .ok (.invokevirtual 119, 3) := by decide +kernel
theorem dX5_echoTimeBy_100 : decode cX5_echoTimeBy 100 = .ok (.iadd, 1) := by decide +kernel
theorem dX5_echoTimeBy_101 : decode cX5_echoTimeBy 101 = .ok (.invokestatic 179, 3) := by decide +kernel
theorem dX5_echoTimeBy_104 : decode cX5_echoTimeBy 104 = .ok (.istore 6, 2) := by decide +kernel
theorem dX5_echoTimeBy_106 : decode cX5_echoTimeBy 106 = .ok (.iinc 7 1, 3) := by decide +kernel
theorem dX5_echoTimeBy_109 : decode cX5_echoTimeBy 109 = .ok (.goto (-50), 3) := by decide +kernel
theorem dX5_echoTimeBy_112 : decode cX5_echoTimeBy 112 = .ok (.aload_n 3, 1) := by decide +kernel
theorem dX5_echoTimeBy_113 : decode cX5_echoTimeBy 113 = .ok (.getfield 211, 3) := by decide +kernel
theorem dX5_echoTimeBy_116 : decode cX5_echoTimeBy 116 = .ok (.iload 4, 2) := by decide +kernel
theorem dX5_echoTimeBy_118 : decode cX5_echoTimeBy 118 = .ok (.iload 6, 2) := by decide +kernel
theorem dX5_echoTimeBy_120 : decode cX5_echoTimeBy 120 = .ok (.iastore, 1) := by decide +kernel
theorem dX5_echoTimeBy_121 : decode cX5_echoTimeBy 121 = .ok (.aload_n 3, 1) := by decide +kernel
theorem dX5_echoTimeBy_122 : decode cX5_echoTimeBy 122 = .ok (.getfield 211, 3) := by decide +kernel
theorem dX5_echoTimeBy_125 : decode cX5_echoTimeBy 125 = .ok (.iload 4, 2) := by decide +kernel
theorem dX5_echoTimeBy_127 : decode cX5_echoTimeBy 127 = .ok (.iaload, 1) := by decide +kernel
theorem dX5_echoTimeBy_128 : decode cX5_echoTimeBy 128 = .ok (.ireturn, 1) := by decide +kernel
set_option maxRecDepth 20000 in
theorem ggX5_echoAt_X5_echoTimeBy : GoodIn wsX5_echoAt wsX5_echoTimeBy := goodIn_r _ [8, 9, 10, 11, 12, 13, 14, 15, 16, 17, 18, 19, 20, 21, 22, 23, 7, 24, 25, 26, 27, 28, 29, 30, 31, 32, 33, 34, 35, 36, 37, 38, 39, 40, 41, 42, 43, 44, 45, 46, 47, 48, 49, 50, 51, 52, 53, 54, 55, 56, 57, 58, 59, 60, 61, 73, 74, 75, 76, 77, 78, 62, 63, 64, 65, 66, 67, 68, 69, 70, 71, 72, 79, 80, 81, 82, 83, 84, 85] (by decide +kernel) (by decide +kernel)
set_option maxRecDepth 20000 in
theorem gX5_echoAt_X5_echoTimeBy : GoodIn wsX5_echoAt (wsV RX5 126 RX5 yX5_echoTimeBy wsX5_echoTimeBy) := goodIn_app (goodIn_of _ (by decide +kernel)) ggX5_echoAt_X5_echoTimeBy
theorem dX5_echoAt_0 : decode cX5_echoAt 0 = .ok (.iconst 0, 1) := by decide +kernel
theorem dX5_echoAt_1 : decode cX5_echoAt 1 = .ok (.istore 5, 2) := by decide +kernel
theorem dX5_echoAt_3 : decode cX5_echoAt 3 = .ok (.aload_n 1, 1) := by decide +kernel
theorem dX5_echoAt_4 : decode cX5_echoAt 4 = .ok (.getfield 80, 3) := by decide +kernel
theorem dX5_echoAt_7 : decode cX5_echoAt 7 = .ok (.ifCond .eq 79, 3) := by decide +kernel
theorem dX5_echoAt_10 : decode cX5_echoAt 10 = .ok (.aload_n 2, 1) := by decide +kernel
theorem dX5_echoAt_11 : decode cX5_echoAt 11 = .ok (.getfield 80, 3) := by decide +kernel
theorem dX5_echoAt_14 : decode cX5_echoAt 14 = .ok (.ifCond .eq 72, 3) := by decide +kernel
theorem dX5_echoAt_17 : decode cX5_echoAt 17 = .ok (.lload_n 3, 1) := by decide +kernel
theorem dX5_echoAt_18 : decode cX5_echoAt 18 = .ok (.lconst 0, 1) := by decide +kernel
theorem dX5_echoAt_19 : decode cX5_echoAt 19 = .ok (.lcmp, 1) := by decide +kernel
theorem dX5_echoAt_20 : decode cX5_echoAt 20 = .ok (.ifCond .lt 66, 3) := by decide +kernel
theorem dX5_echoAt_23 : decode cX5_echoAt 23 = .ok (.aload_n 0, 1) := by decide +kernel
theorem dX5_echoAt_24 : decode cX5_echoAt 24 = .ok (.getfield 24, 3) := by decide +kernel
theorem dX5_echoAt_27 : decode cX5_echoAt 27 = .ok (.astore 6, 2) := by decide +kernel
theorem dX5_echoAt_29 : decode cX5_echoAt 29 = .ok (.aload 6, 2) := by decide +kernel
theorem dX5_echoAt_31 : decode cX5_echoAt 31 = .ok (.arraylength, 1) := by decide +kernel
theorem dX5_echoAt_32 : decode cX5_echoAt 32 = .ok (.istore 7, 2) := by decide +kernel
theorem dX5_echoAt_34 : decode cX5_echoAt 34 = .ok (.iconst 0, 1) := by decide +kernel
theorem dX5_echoAt_35 : decode cX5_echoAt 35 = .ok (.istore 8, 2) := by decide +kernel
theorem dX5_echoAt_37 : decode cX5_echoAt 37 = .ok (.iload 8, 2) := by decide +kernel
theorem dX5_echoAt_39 : decode cX5_echoAt 39 = .ok (.iload 7, 2) := by decide +kernel
theorem dX5_echoAt_41 : decode cX5_echoAt 41 = .ok (.if_icmp .ge 45, 3) := by decide +kernel
theorem dX5_echoAt_44 : decode cX5_echoAt 44 = .ok (.aload 6, 2) := by decide +kernel
theorem dX5_echoAt_46 : decode cX5_echoAt 46 = .ok (.iload 8, 2) := by decide +kernel
theorem dX5_echoAt_48 : decode cX5_echoAt 48 = .ok (.aaload, 1) := by decide +kernel
theorem dX5_echoAt_49 : decode cX5_echoAt 49 = .ok (.astore 9, 2) := by decide +kernel
theorem dX5_echoAt_51 : decode cX5_echoAt 51 = .ok (.aload 9, 2) := by decide +kernel
theorem dX5_echoAt_53 : decode cX5_echoAt 53 = .ok (.ifnull 27, 3) := by decide +kernel
theorem dX5_echoAt_56 : decode cX5_echoAt 56 = .ok (.aload_n 0, 1) := by decide +kernel
theorem dX5_echoAt_57 : decode cX5_echoAt 57 = .ok (.aload_n 1, 1) := by decide +kernel
theorem dX5_echoAt_58 : decode cX5_echoAt 58 = .ok (.aload_n 2, 1) := by decide +kernel
theorem dX5_echoAt_59 : decode cX5_echoAt 59 = .ok (.aload 9, 2) := by decide +kernel
theorem dX5_echoAt_61 : decode cX5_echoAt 61 = .ok (.invokevirtual 126, 3) := by decide +kernel
theorem dX5_echoAt_64 : decode cX5_echoAt 64 = .ok (.i2l, 1) := by decide +kernel
theorem dX5_echoAt_65 : decode cX5_echoAt 65 = .ok (.lload_n 3, 1) := by decide +kernel
theorem dX5_echoAt_66 : decode cX5_echoAt 66 = .ok (.lcmp, 1) := by decide +kernel
theorem dX5_echoAt_67 : decode cX5_echoAt 67 = .ok (.ifCond .ne 13, 3) := by decide +kernel
theorem dX5_echoAt_70 : decode cX5_echoAt 70 = .ok (.iload 5, 2) := by decide +kernel
theorem dX5_echoAt_72 : decode cX5_echoAt 72 = .ok (.aload 9, 2) := by decide +kernel
theorem dX5_echoAt_74 : decode cX5_echoAt 74 = .ok (.getfield 105, 3) := by decide +kernel
theorem dX5_echoAt_77 : decode cX5_echoAt 77 = .ok (.iadd, 1) := by decide +kernel
theorem dX5_echoAt_78 : decode cX5_echoAt 78 = .ok (.istore 5, 2) := by decide +kernel
theorem dX5_echoAt_80 : decode cX5_echoAt 80 = .ok (.iinc 8 1, 3) := by decide +kernel
theorem dX5_echoAt_83 : decode cX5_echoAt 83 = .ok (.goto (-46), 3) := by decide +kernel
theorem dX5_echoAt_86 : decode cX5_echoAt 86 = .ok (.iload 5, 2) := by decide +kernel
theorem dX5_echoAt_88 : decode cX5_echoAt 88 = .ok (.ireturn, 1) := by decide +kernel
set_option maxRecDepth 20000 in
theorem ggX5_heardBy_X5_echoAt : GoodIn wsX5_heardBy wsX5_echoAt := goodIn_r _ [8, 2, 9, 10, 11, 12, 13, 7, 14, 15, 16, 17, 18, 19, 20, 21, 22, 23, 24, 25, 26, 27, 28, 29, 30, 31, 32, 33, 34, 35, 36, 37, 38, 39, 40, 41, 42, 43, 44, 45, 46, 47, 48, 49, 50, 51, 52, 53, 54, 55, 56, 57, 58, 59, 60, 61, 62, 63, 75, 76, 77, 78, 64, 65, 66, 67, 68, 69, 70, 71, 72, 73, 74, 79, 80, 81, 82, 83, 84, 85, 86, 87, 88, 89, 90, 91] (by decide +kernel) (by decide +kernel)
set_option maxRecDepth 20000 in
theorem gX5_heardBy_X5_echoAt : GoodIn wsX5_heardBy (wsV RX5 139 RX5 yX5_echoAt wsX5_echoAt) := goodIn_app (goodIn_of _ (by decide +kernel)) ggX5_heardBy_X5_echoAt
theorem dX5_heardBy_0 : decode cX5_heardBy 0 = .ok (.iconst 0, 1) := by decide +kernel
theorem dX5_heardBy_1 : decode cX5_heardBy 1 = .ok (.istore 4, 2) := by decide +kernel
theorem dX5_heardBy_3 : decode cX5_heardBy 3 = .ok (.aload_n 0, 1) := by decide +kernel
theorem dX5_heardBy_4 : decode cX5_heardBy 4 = .ok (.getfield 18, 3) := by decide +kernel
theorem dX5_heardBy_7 : decode cX5_heardBy 7 = .ok (.astore 5, 2) := by decide +kernel
theorem dX5_heardBy_9 : decode cX5_heardBy 9 = .ok (.aload 5, 2) := by decide +kernel
theorem dX5_heardBy_11 : decode cX5_heardBy 11 = .ok (.arraylength, 1) := by decide +kernel
theorem dX5_heardBy_12 : decode cX5_heardBy 12 = .ok (.istore 6, 2) := by decide +kernel
theorem dX5_heardBy_14 : decode cX5_heardBy 14 = .ok (.iconst 0, 1) := by decide +kernel
theorem dX5_heardBy_15 : decode cX5_heardBy 15 = .ok (.istore 7, 2) := by decide +kernel
theorem dX5_heardBy_17 : decode cX5_heardBy 17 = .ok (.iload 7, 2) := by decide +kernel
theorem dX5_heardBy_19 : decode cX5_heardBy 19 = .ok (.iload 6, 2) := by decide +kernel
theorem dX5_heardBy_21 : decode cX5_heardBy 21 = .ok (.if_icmp .ge 49, 3) := by decide +kernel
theorem dX5_heardBy_24 : decode cX5_heardBy 24 = .ok (.aload 5, 2) := by decide +kernel
theorem dX5_heardBy_26 : decode cX5_heardBy 26 = .ok (.iload 7, 2) := by decide +kernel
theorem dX5_heardBy_28 : decode cX5_heardBy 28 = .ok (.aaload, 1) := by decide +kernel
theorem dX5_heardBy_29 : decode cX5_heardBy 29 = .ok (.astore 8, 2) := by decide +kernel
theorem dX5_heardBy_31 : decode cX5_heardBy 31 = .ok (.aload 8, 2) := by decide +kernel
theorem dX5_heardBy_33 : decode cX5_heardBy 33 = .ok (.ifnull 31, 3) := by decide +kernel
theorem dX5_heardBy_36 : decode cX5_heardBy 36 = .ok (.aload 8, 2) := by decide +kernel
theorem dX5_heardBy_38 : decode cX5_heardBy 38 = .ok (.getfield 80, 3) := by decide +kernel
theorem dX5_heardBy_41 : decode cX5_heardBy 41 = .ok (.ifCond .eq 23, 3) := by decide +kernel
theorem dX5_heardBy_44 : decode cX5_heardBy 44 = .ok (.iload 4, 2) := by decide +kernel
theorem dX5_heardBy_46 : decode cX5_heardBy 46 = .ok (.aload_n 0, 1) := by decide +kernel
theorem dX5_heardBy_47 : decode cX5_heardBy 47 = .ok (.aload 8, 2) := by decide +kernel
theorem dX5_heardBy_49 : decode cX5_heardBy 49 = .ok (.aload_n 1, 1) := by decide +kernel
theorem dX5_heardBy_50 : decode cX5_heardBy 50 = .ok (.lload_n 2, 1) := by decide +kernel
theorem dX5_heardBy_51 : decode cX5_heardBy 51 = .ok (.aload 8, 2) := by decide +kernel
theorem dX5_heardBy_53 : decode cX5_heardBy 53 = .ok (.getfield 148, 3) := by decide +kernel
theorem dX5_heardBy_56 : decode cX5_heardBy 56 = .ok (.i2l, 1) := by decide +kernel
theorem dX5_heardBy_57 : decode cX5_heardBy 57 = .ok (.lsub, 1) := by decide +kernel
theorem dX5_heardBy_58 : decode cX5_heardBy 58 = .ok (.invokevirtual 139, 3) := by decide +kernel
theorem dX5_heardBy_61 : decode cX5_heardBy 61 = .ok (.iadd, 1) := by decide +kernel
theorem dX5_heardBy_62 : decode cX5_heardBy 62 = .ok (.istore 4, 2) := by decide +kernel
theorem dX5_heardBy_64 : decode cX5_heardBy 64 = .ok (.iinc 7 1, 3) := by decide +kernel
theorem dX5_heardBy_67 : decode cX5_heardBy 67 = .ok (.goto (-50), 3) := by decide +kernel
theorem dX5_heardBy_70 : decode cX5_heardBy 70 = .ok (.iload 4, 2) := by decide +kernel
theorem dX5_heardBy_72 : decode cX5_heardBy 72 = .ok (.ireturn, 1) := by decide +kernel
set_option maxRecDepth 20000 in
theorem ggX5_fits_X1_timeTo : GoodIn wsX5_fits wsX1_timeTo := goodIn_r _ [15, 16, 17, 8, 9, 10, 18, 19, 20, 21, 22, 23, 24, 25, 26, 27, 14, 28, 29, 30, 31, 32, 33, 34, 35, 36, 37, 56, 57, 58, 59, 60, 61, 62] (by decide +kernel) (by decide +kernel)
set_option maxRecDepth 20000 in
theorem gX5_fits_X1_timeTo : GoodIn wsX5_fits (wsV RX5 119 RX1 yX1_timeTo wsX1_timeTo) := goodIn_app (goodIn_of _ (by decide +kernel)) ggX5_fits_X1_timeTo
theorem dX5_fits_0 : decode cX5_fits 0 = .ok (.aload_n 0, 1) := by decide +kernel
theorem dX5_fits_1 : decode cX5_fits 1 = .ok (.getfield 30, 3) := by decide +kernel
theorem dX5_fits_4 : decode cX5_fits 4 = .ok (.astore 4, 2) := by decide +kernel
theorem dX5_fits_6 : decode cX5_fits 6 = .ok (.aload 4, 2) := by decide +kernel
theorem dX5_fits_8 : decode cX5_fits 8 = .ok (.arraylength, 1) := by decide +kernel
theorem dX5_fits_9 : decode cX5_fits 9 = .ok (.istore 5, 2) := by decide +kernel
theorem dX5_fits_11 : decode cX5_fits 11 = .ok (.iconst 0, 1) := by decide +kernel
theorem dX5_fits_12 : decode cX5_fits 12 = .ok (.istore 6, 2) := by decide +kernel
theorem dX5_fits_14 : decode cX5_fits 14 = .ok (.iload 6, 2) := by decide +kernel
theorem dX5_fits_16 : decode cX5_fits 16 = .ok (.iload 5, 2) := by decide +kernel
theorem dX5_fits_18 : decode cX5_fits 18 = .ok (.if_icmp .ge 75, 3) := by decide +kernel
theorem dX5_fits_21 : decode cX5_fits 21 = .ok (.aload 4, 2) := by decide +kernel
theorem dX5_fits_23 : decode cX5_fits 23 = .ok (.iload 6, 2) := by decide +kernel
theorem dX5_fits_25 : decode cX5_fits 25 = .ok (.aaload, 1) := by decide +kernel
theorem dX5_fits_26 : decode cX5_fits 26 = .ok (.astore 7, 2) := by decide +kernel
theorem dX5_fits_28 : decode cX5_fits 28 = .ok (.aload 7, 2) := by decide +kernel
theorem dX5_fits_30 : decode cX5_fits 30 = .ok (.ifnull 57, 3) := by decide +kernel
theorem dX5_fits_33 : decode cX5_fits 33 = .ok (.aload_n 0, 1) := by decide +kernel
theorem dX5_fits_34 : decode cX5_fits 34 = .ok (.getfield 12, 3) := by decide +kernel
theorem dX5_fits_37 : decode cX5_fits 37 = .ok (.aload 7, 2) := by decide +kernel
theorem dX5_fits_39 : decode cX5_fits 39 = .ok (.getfield 214, 3) := by decide +kernel
theorem dX5_fits_42 : decode cX5_fits 42 = .ok (.getfield 118, 3) := by decide +kernel
theorem dX5_fits_45 : decode cX5_fits 45 = .ok (.iload_n 1, 1) := by decide +kernel
theorem dX5_fits_46 : decode cX5_fits 46 = .ok (.iload_n 2, 1) := by decide +kernel
theorem dX5_fits_47 : decode cX5_fits 47 = .ok (.invokevirtual 119, 3) := by decide +kernel
theorem dX5_fits_50 : decode cX5_fits 50 = .ok (.aload_n 0, 1) := by decide +kernel
theorem dX5_fits_51 : decode cX5_fits 51 = .ok (.getfield 12, 3) := by decide +kernel
theorem dX5_fits_54 : decode cX5_fits 54 = .ok (.aload 7, 2) := by decide +kernel
theorem dX5_fits_56 : decode cX5_fits 56 = .ok (.getfield 218, 3) := by decide +kernel
theorem dX5_fits_59 : decode cX5_fits 59 = .ok (.getfield 118, 3) := by decide +kernel
theorem dX5_fits_62 : decode cX5_fits 62 = .ok (.iload_n 1, 1) := by decide +kernel
theorem dX5_fits_63 : decode cX5_fits 63 = .ok (.iload_n 2, 1) := by decide +kernel
theorem dX5_fits_64 : decode cX5_fits 64 = .ok (.invokevirtual 119, 3) := by decide +kernel
theorem dX5_fits_67 : decode cX5_fits 67 = .ok (.iadd, 1) := by decide +kernel
theorem dX5_fits_68 : decode cX5_fits 68 = .ok (.istore 8, 2) := by decide +kernel
theorem dX5_fits_70 : decode cX5_fits 70 = .ok (.iload 8, 2) := by decide +kernel
theorem dX5_fits_72 : decode cX5_fits 72 = .ok (.aload 7, 2) := by decide +kernel
theorem dX5_fits_74 : decode cX5_fits 74 = .ok (.getfield 221, 3) := by decide +kernel
theorem dX5_fits_77 : decode cX5_fits 77 = .ok (.isub, 1) := by decide +kernel
theorem dX5_fits_78 : decode cX5_fits 78 = .ok (.invokestatic 134, 3) := by decide +kernel
theorem dX5_fits_81 : decode cX5_fits 81 = .ok (.iload_n 3, 1) := by decide +kernel
theorem dX5_fits_82 : decode cX5_fits 82 = .ok (.if_icmp .le 5, 3) := by decide +kernel
theorem dX5_fits_85 : decode cX5_fits 85 = .ok (.iconst 0, 1) := by decide +kernel
theorem dX5_fits_86 : decode cX5_fits 86 = .ok (.ireturn, 1) := by decide +kernel
theorem dX5_fits_87 : decode cX5_fits 87 = .ok (.iinc 6 1, 3) := by decide +kernel
theorem dX5_fits_90 : decode cX5_fits 90 = .ok (.goto (-76), 3) := by decide +kernel
theorem dX5_fits_93 : decode cX5_fits 93 = .ok (.iconst 1, 1) := by decide +kernel
theorem dX5_fits_94 : decode cX5_fits 94 = .ok (.ireturn, 1) := by decide +kernel
