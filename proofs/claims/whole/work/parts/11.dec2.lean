theorem dX9_init_0 : decode cX9_init 0 = .ok (.aload_n 0, 1) := by decide +kernel
theorem dX9_init_1 : decode cX9_init 1 = .ok (.invokespecial 1, 3) := by decide +kernel
theorem dX9_init_4 : decode cX9_init 4 = .ok (.aload_n 0, 1) := by decide +kernel
theorem dX9_init_5 : decode cX9_init 5 = .ok (.iconst 1, 1) := by decide +kernel
theorem dX9_init_6 : decode cX9_init 6 = .ok (.putfield 7, 3) := by decide +kernel
theorem dX9_init_9 : decode cX9_init 9 = .ok (.aload_n 0, 1) := by decide +kernel
theorem dX9_init_10 : decode cX9_init 10 = .ok (.bipush 16, 2) := by decide +kernel
theorem dX9_init_12 : decode cX9_init 12 = .ok (.newarray .int, 2) := by decide +kernel
theorem dX9_init_14 : decode cX9_init 14 = .ok (.putfield 13, 3) := by decide +kernel
theorem dX9_init_17 : decode cX9_init 17 = .ok (.aload_n 0, 1) := by decide +kernel
theorem dX9_init_18 : decode cX9_init 18 = .ok (.sipush 512, 3) := by decide +kernel
theorem dX9_init_21 : decode cX9_init 21 = .ok (.newarray .int, 2) := by decide +kernel
theorem dX9_init_23 : decode cX9_init 23 = .ok (.putfield 17, 3) := by decide +kernel
theorem dX9_init_26 : decode cX9_init 26 = .ok (.aload_n 0, 1) := by decide +kernel
theorem dX9_init_27 : decode cX9_init 27 = .ok (.bipush 16, 2) := by decide +kernel
theorem dX9_init_29 : decode cX9_init 29 = .ok (.newarray .int, 2) := by decide +kernel
theorem dX9_init_31 : decode cX9_init 31 = .ok (.putfield 20, 3) := by decide +kernel
theorem dX9_init_34 : decode cX9_init 34 = .ok (.aload_n 0, 1) := by decide +kernel
theorem dX9_init_35 : decode cX9_init 35 = .ok (.bipush 16, 2) := by decide +kernel
theorem dX9_init_37 : decode cX9_init 37 = .ok (.newarray .int, 2) := by decide +kernel
theorem dX9_init_39 : decode cX9_init 39 = .ok (.putfield 23, 3) := by decide +kernel
theorem dX9_init_42 : decode cX9_init 42 = .ok (.aload_n 0, 1) := by decide +kernel
theorem dX9_init_43 : decode cX9_init 43 = .ok (.bipush 16, 2) := by decide +kernel
theorem dX9_init_45 : decode cX9_init 45 = .ok (.newarray .int, 2) := by decide +kernel
theorem dX9_init_47 : decode cX9_init 47 = .ok (.putfield 26, 3) := by decide +kernel
theorem dX9_init_50 : decode cX9_init 50 = .ok (.aload_n 0, 1) := by decide +kernel
theorem dX9_init_51 : decode cX9_init 51 = .ok (.bipush 16, 2) := by decide +kernel
theorem dX9_init_53 : decode cX9_init 53 = .ok (.newarray .int, 2) := by decide +kernel
theorem dX9_init_55 : decode cX9_init 55 = .ok (.putfield 29, 3) := by decide +kernel
theorem dX9_init_58 : decode cX9_init 58 = .ok (.aload_n 0, 1) := by decide +kernel
theorem dX9_init_59 : decode cX9_init 59 = .ok (.bipush 16, 2) := by decide +kernel
theorem dX9_init_61 : decode cX9_init 61 = .ok (.newarray .int, 2) := by decide +kernel
theorem dX9_init_63 : decode cX9_init 63 = .ok (.putfield 32, 3) := by decide +kernel
theorem dX9_init_66 : decode cX9_init 66 = .ok (.aload_n 0, 1) := by decide +kernel
theorem dX9_init_67 : decode cX9_init 67 = .ok (.bipush 16, 2) := by decide +kernel
theorem dX9_init_69 : decode cX9_init 69 = .ok (.newarray .int, 2) := by decide +kernel
theorem dX9_init_71 : decode cX9_init 71 = .ok (.putfield 35, 3) := by decide +kernel
theorem dX9_init_74 : decode cX9_init 74 = .ok (.aload_n 0, 1) := by decide +kernel
theorem dX9_init_75 : decode cX9_init 75 = .ok (.bipush 6, 2) := by decide +kernel
theorem dX9_init_77 : decode cX9_init 77 = .ok (.newarray .int, 2) := by decide +kernel
theorem dX9_init_79 : decode cX9_init 79 = .ok (.putfield 38, 3) := by decide +kernel
theorem dX9_init_82 : decode cX9_init 82 = .ok (.aload_n 0, 1) := by decide +kernel
theorem dX9_init_83 : decode cX9_init 83 = .ok (.bipush 6, 2) := by decide +kernel
theorem dX9_init_85 : decode cX9_init 85 = .ok (.newarray .int, 2) := by decide +kernel
theorem dX9_init_87 : decode cX9_init 87 = .ok (.putfield 41, 3) := by decide +kernel
theorem dX9_init_90 : decode cX9_init 90 = .ok (.aload_n 0, 1) := by decide +kernel
theorem dX9_init_91 : decode cX9_init 91 = .ok (.iconst 2, 1) := by decide +kernel
theorem dX9_init_92 : decode cX9_init 92 = .ok (.putfield 44, 3) := by decide +kernel
theorem dX9_init_95 : decode cX9_init 95 = .ok (.aload_n 0, 1) := by decide +kernel
theorem dX9_init_96 : decode cX9_init 96 = .ok (.iconst 1, 1) := by decide +kernel
theorem dX9_init_97 : decode cX9_init 97 = .ok (.putfield 47, 3) := by decide +kernel
theorem dX9_init_100 : decode cX9_init 100 = .ok (.aload_n 0, 1) := by decide +kernel
theorem dX9_init_101 : decode cX9_init 101 = .ok (.bipush 8, 2) := by decide +kernel
theorem dX9_init_103 : decode cX9_init 103 = .ok (.newarray .int, 2) := by decide +kernel
theorem dX9_init_105 : decode cX9_init 105 = .ok (.putfield 50, 3) := by decide +kernel
theorem dX9_init_108 : decode cX9_init 108 = .ok (.aload_n 0, 1) := by decide +kernel
theorem dX9_init_109 : decode cX9_init 109 = .ok (.bipush 16, 2) := by decide +kernel
theorem dX9_init_111 : decode cX9_init 111 = .ok (.newarray .boolean, 2) := by decide +kernel
theorem dX9_init_113 : decode cX9_init 113 = .ok (.putfield 53, 3) := by decide +kernel
theorem dX9_init_116 : decode cX9_init 116 = .ok (.aload_n 0, 1) := by decide +kernel
theorem dX9_init_117 : decode cX9_init 117 = .ok (.bipush 96, 2) := by decide +kernel
theorem dX9_init_119 : decode cX9_init 119 = .ok (.newarray .int, 2) := by decide +kernel
theorem dX9_init_121 : decode cX9_init 121 = .ok (.putfield 57, 3) := by decide +kernel
theorem dX9_init_124 : decode cX9_init 124 = .ok (.aload_n 0, 1) := by decide +kernel
theorem dX9_init_125 : decode cX9_init 125 = .ok (.bipush 96, 2) := by decide +kernel
theorem dX9_init_127 : decode cX9_init 127 = .ok (.newarray .int, 2) := by decide +kernel
theorem dX9_init_129 : decode cX9_init 129 = .ok (.putfield 60, 3) := by decide +kernel
theorem dX9_init_132 : decode cX9_init 132 = .ok (.aload_n 0, 1) := by decide +kernel
theorem dX9_init_133 : decode cX9_init 133 = .ok (.bipush 16, 2) := by decide +kernel
theorem dX9_init_135 : decode cX9_init 135 = .ok (.newarray .int, 2) := by decide +kernel
theorem dX9_init_137 : decode cX9_init 137 = .ok (.putfield 63, 3) := by decide +kernel
theorem dX9_init_140 : decode cX9_init 140 = .ok (.aload_n 0, 1) := by decide +kernel
theorem dX9_init_141 : decode cX9_init 141 = .ok (.bipush 6, 2) := by decide +kernel
theorem dX9_init_143 : decode cX9_init 143 = .ok (.newarray .int, 2) := by decide +kernel
theorem dX9_init_145 : decode cX9_init 145 = .ok (.putfield 66, 3) := by decide +kernel
theorem dX9_init_148 : decode cX9_init 148 = .ok (.aload_n 0, 1) := by decide +kernel
theorem dX9_init_149 : decode cX9_init 149 = .ok (.bipush 6, 2) := by decide +kernel
theorem dX9_init_151 : decode cX9_init 151 = .ok (.newarray .int, 2) := by decide +kernel
theorem dX9_init_153 : decode cX9_init 153 = .ok (.putfield 69, 3) := by decide +kernel
theorem dX9_init_156 : decode cX9_init 156 = .ok (.aload_n 0, 1) := by decide +kernel
theorem dX9_init_157 : decode cX9_init 157 = .ok (.bipush 6, 2) := by decide +kernel
theorem dX9_init_159 : decode cX9_init 159 = .ok (.newarray .int, 2) := by decide +kernel
theorem dX9_init_161 : decode cX9_init 161 = .ok (.putfield 72, 3) := by decide +kernel
theorem dX9_init_164 : decode cX9_init 164 = .ok (.aload_n 0, 1) := by decide +kernel
theorem dX9_init_165 : decode cX9_init 165 = .ok (.bipush 6, 2) := by decide +kernel
theorem dX9_init_167 : decode cX9_init 167 = .ok (.newarray .int, 2) := by decide +kernel
theorem dX9_init_169 : decode cX9_init 169 = .ok (.putfield 75, 3) := by decide +kernel
theorem dX9_init_172 : decode cX9_init 172 = .ok (.aload_n 0, 1) := by decide +kernel
theorem dX9_init_173 : decode cX9_init 173 = .ok (.sipush 300, 3) := by decide +kernel
theorem dX9_init_176 : decode cX9_init 176 = .ok (.newarray .int, 2) := by decide +kernel
theorem dX9_init_178 : decode cX9_init 178 = .ok (.putfield 78, 3) := by decide +kernel
theorem dX9_init_181 : decode cX9_init 181 = .ok (.aload_n 0, 1) := by decide +kernel
theorem dX9_init_182 : decode cX9_init 182 = .ok (.sipush 1800, 3) := by decide +kernel
theorem dX9_init_185 : decode cX9_init 185 = .ok (.newarray .int, 2) := by decide +kernel
theorem dX9_init_187 : decode cX9_init 187 = .ok (.putfield 81, 3) := by decide +kernel
theorem dX9_init_190 : decode cX9_init 190 = .ok (.aload_n 0, 1) := by decide +kernel
theorem dX9_init_191 : decode cX9_init 191 = .ok (.bipush 6, 2) := by decide +kernel
theorem dX9_init_193 : decode cX9_init 193 = .ok (.newarray .int, 2) := by decide +kernel
theorem dX9_init_195 : decode cX9_init 195 = .ok (.putfield 84, 3) := by decide +kernel
theorem dX9_init_198 : decode cX9_init 198 = .ok (.return_, 1) := by decide +kernel
theorem dX9_thrown_0 : decode cX9_thrown 0 = .ok (.aload_n 0, 1) := by decide +kernel
theorem dX9_thrown_1 : decode cX9_thrown 1 = .ok (.getfield 87, 3) := by decide +kernel
theorem dX9_thrown_4 : decode cX9_thrown 4 = .ok (.ireturn, 1) := by decide +kernel
theorem dX9_fail_0 : decode cX9_fail 0 = .ok (.aload_n 0, 1) := by decide +kernel
theorem dX9_fail_1 : decode cX9_fail 1 = .ok (.iload_n 1, 1) := by decide +kernel
theorem dX9_fail_2 : decode cX9_fail 2 = .ok (.putfield 87, 3) := by decide +kernel
theorem dX9_fail_5 : decode cX9_fail 5 = .ok (.iconst 0, 1) := by decide +kernel
theorem dX9_fail_6 : decode cX9_fail 6 = .ok (.ireturn, 1) := by decide +kernel
theorem dX9_isBlock_0 : decode cX9_isBlock 0 = .ok (.iload_n 1, 1) := by decide +kernel
theorem dX9_isBlock_1 : decode cX9_isBlock 1 = .ok (.ifCond .lt 15, 3) := by decide +kernel
theorem dX9_isBlock_4 : decode cX9_isBlock 4 = .ok (.iload_n 1, 1) := by decide +kernel
theorem dX9_isBlock_5 : decode cX9_isBlock 5 = .ok (.aload_n 0, 1) := by decide +kernel
theorem dX9_isBlock_6 : decode cX9_isBlock 6 = .ok (.getfield 7, 3) := by decide +kernel
theorem dX9_isBlock_9 : decode cX9_isBlock 9 = .ok (.if_icmp .ge 7, 3) := by decide +kernel
theorem dX9_isBlock_12 : decode cX9_isBlock 12 = .ok (.iconst 1, 1) := by decide +kernel
theorem dX9_isBlock_13 : decode cX9_isBlock 13 = .ok (.goto 4, 3) := by decide +kernel
theorem dX9_isBlock_16 : decode cX9_isBlock 16 = .ok (.iconst 0, 1) := by decide +kernel
theorem dX9_isBlock_17 : decode cX9_isBlock 17 = .ok (.ireturn, 1) := by decide +kernel
theorem dX9_isVariable_0 : decode cX9_isVariable 0 = .ok (.iload_n 0, 1) := by decide +kernel
theorem dX9_isVariable_1 : decode cX9_isVariable 1 = .ok (.ifCond .lt 13, 3) := by decide +kernel
theorem dX9_isVariable_4 : decode cX9_isVariable 4 = .ok (.iload_n 0, 1) := by decide +kernel
theorem dX9_isVariable_5 : decode cX9_isVariable 5 = .ok (.bipush 6, 2) := by decide +kernel
theorem dX9_isVariable_7 : decode cX9_isVariable 7 = .ok (.if_icmp .ge 7, 3) := by decide +kernel
theorem dX9_isVariable_10 : decode cX9_isVariable 10 = .ok (.iconst 1, 1) := by decide +kernel
theorem dX9_isVariable_11 : decode cX9_isVariable 11 = .ok (.goto 4, 3) := by decide +kernel
theorem dX9_isVariable_14 : decode cX9_isVariable 14 = .ok (.iconst 0, 1) := by decide +kernel
theorem dX9_isVariable_15 : decode cX9_isVariable 15 = .ok (.ireturn, 1) := by decide +kernel
theorem dX9_isRange_0 : decode cX9_isRange 0 = .ok (.iload_n 0, 1) := by decide +kernel
theorem dX9_isRange_1 : decode cX9_isRange 1 = .ok (.ldc 90, 2) := by decide +kernel
theorem dX9_isRange_3 : decode cX9_isRange 3 = .ok (.if_icmp .lt 18, 3) := by decide +kernel
theorem dX9_isRange_6 : decode cX9_isRange 6 = .ok (.iload_n 1, 1) := by decide +kernel
theorem dX9_isRange_7 : decode cX9_isRange 7 = .ok (.ldc 91, 2) := by decide +kernel
theorem dX9_isRange_9 : decode cX9_isRange 9 = .ok (.if_icmp .gt 12, 3) := by decide +kernel
theorem dX9_isRange_12 : decode cX9_isRange 12 = .ok (.iload_n 0, 1) := by decide +kernel
theorem dX9_isRange_13 : decode cX9_isRange 13 = .ok (.iload_n 1, 1) := by decide +kernel
theorem dX9_isRange_14 : decode cX9_isRange 14 = .ok (.if_icmp .gt 7, 3) := by decide +kernel
theorem dX9_isRange_17 : decode cX9_isRange 17 = .ok (.iconst 1, 1) := by decide +kernel
theorem dX9_isRange_18 : decode cX9_isRange 18 = .ok (.goto 4, 3) := by decide +kernel
theorem dX9_isRange_21 : decode cX9_isRange 21 = .ok (.iconst 0, 1) := by decide +kernel
theorem dX9_isRange_22 : decode cX9_isRange 22 = .ok (.ireturn, 1) := by decide +kernel
set_option maxRecDepth 20000 in
theorem ggX9_addBlock_X9_fail : GoodIn wsX9_addBlock wsX9_fail := goodIn_r _ [10, 1, 11, 12, 13, 14, 15, 16, 17, 18, 19, 20, 21, 22, 23, 24, 25, 26, 27, 28, 29, 30, 31, 32, 33, 34, 35, 36, 37, 38, 39, 40, 41] (by decide +kernel) (by decide +kernel)
set_option maxRecDepth 20000 in
theorem gX9_addBlock_X9_fail : GoodIn wsX9_addBlock (wsV RX9 92 RX9 yX9_fail wsX9_fail) := goodIn_app (goodIn_of _ (by decide +kernel)) ggX9_addBlock_X9_fail
theorem dX9_addBlock_0 : decode cX9_addBlock 0 = .ok (.aload_n 0, 1) := by decide +kernel
theorem dX9_addBlock_1 : decode cX9_addBlock 1 = .ok (.iconst 0, 1) := by decide +kernel
theorem dX9_addBlock_2 : decode cX9_addBlock 2 = .ok (.putfield 87, 3) := by decide +kernel
theorem dX9_addBlock_5 : decode cX9_addBlock 5 = .ok (.aload_n 0, 1) := by decide +kernel
theorem dX9_addBlock_6 : decode cX9_addBlock 6 = .ok (.getfield 7, 3) := by decide +kernel
theorem dX9_addBlock_9 : decode cX9_addBlock 9 = .ok (.bipush 16, 2) := by decide +kernel
theorem dX9_addBlock_11 : decode cX9_addBlock 11 = .ok (.if_icmp .ne 9, 3) := by decide +kernel
theorem dX9_addBlock_14 : decode cX9_addBlock 14 = .ok (.aload_n 0, 1) := by decide +kernel
theorem dX9_addBlock_15 : decode cX9_addBlock 15 = .ok (.iconst 1, 1) := by decide +kernel
theorem dX9_addBlock_16 : decode cX9_addBlock 16 = .ok (.invokevirtual 92, 3) := by decide +kernel
theorem dX9_addBlock_19 : decode cX9_addBlock 19 = .ok (.ireturn, 1) := by decide +kernel
theorem dX9_addBlock_20 : decode cX9_addBlock 20 = .ok (.aload_n 0, 1) := by decide +kernel
theorem dX9_addBlock_21 : decode cX9_addBlock 21 = .ok (.getfield 13, 3) := by decide +kernel
theorem dX9_addBlock_24 : decode cX9_addBlock 24 = .ok (.aload_n 0, 1) := by decide +kernel
theorem dX9_addBlock_25 : decode cX9_addBlock 25 = .ok (.getfield 7, 3) := by decide +kernel
theorem dX9_addBlock_28 : decode cX9_addBlock 28 = .ok (.iconst 0, 1) := by decide +kernel
theorem dX9_addBlock_29 : decode cX9_addBlock 29 = .ok (.iastore, 1) := by decide +kernel
theorem dX9_addBlock_30 : decode cX9_addBlock 30 = .ok (.aload_n 0, 1) := by decide +kernel
theorem dX9_addBlock_31 : decode cX9_addBlock 31 = .ok (.getfield 20, 3) := by decide +kernel
theorem dX9_addBlock_34 : decode cX9_addBlock 34 = .ok (.aload_n 0, 1) := by decide +kernel
theorem dX9_addBlock_35 : decode cX9_addBlock 35 = .ok (.getfield 7, 3) := by decide +kernel
theorem dX9_addBlock_38 : decode cX9_addBlock 38 = .ok (.iconst 0, 1) := by decide +kernel
theorem dX9_addBlock_39 : decode cX9_addBlock 39 = .ok (.iastore, 1) := by decide +kernel
theorem dX9_addBlock_40 : decode cX9_addBlock 40 = .ok (.aload_n 0, 1) := by decide +kernel
theorem dX9_addBlock_41 : decode cX9_addBlock 41 = .ok (.dup, 1) := by decide +kernel
theorem dX9_addBlock_42 : decode cX9_addBlock 42 = .ok (.getfield 7, 3) := by decide +kernel
theorem dX9_addBlock_45 : decode cX9_addBlock 45 = .ok (.iconst 1, 1) := by decide +kernel
theorem dX9_addBlock_46 : decode cX9_addBlock 46 = .ok (.iadd, 1) := by decide +kernel
theorem dX9_addBlock_47 : decode cX9_addBlock 47 = .ok (.putfield 7, 3) := by decide +kernel
theorem dX9_addBlock_50 : decode cX9_addBlock 50 = .ok (.aload_n 0, 1) := by decide +kernel
theorem dX9_addBlock_51 : decode cX9_addBlock 51 = .ok (.iconst 0, 1) := by decide +kernel
theorem dX9_addBlock_52 : decode cX9_addBlock 52 = .ok (.putfield 96, 3) := by decide +kernel
theorem dX9_addBlock_55 : decode cX9_addBlock 55 = .ok (.aload_n 0, 1) := by decide +kernel
theorem dX9_addBlock_56 : decode cX9_addBlock 56 = .ok (.getfield 7, 3) := by decide +kernel
theorem dX9_addBlock_59 : decode cX9_addBlock 59 = .ok (.iconst 1, 1) := by decide +kernel
theorem dX9_addBlock_60 : decode cX9_addBlock 60 = .ok (.isub, 1) := by decide +kernel
theorem dX9_addBlock_61 : decode cX9_addBlock 61 = .ok (.ireturn, 1) := by decide +kernel
set_option maxRecDepth 20000 in
theorem ggX9_setInitial_X9_isVariable : GoodIn wsX9_setInitial wsX9_isVariable := goodIn_r _ [8] (by decide +kernel) (by decide +kernel)
set_option maxRecDepth 20000 in
theorem gX9_setInitial_X9_isVariable : GoodIn wsX9_setInitial (va_wsS RX9 100 yX9_isVariable wsX9_isVariable) := goodIn_app (goodIn_of _ (by decide +kernel)) ggX9_setInitial_X9_isVariable
set_option maxRecDepth 20000 in
theorem ggX9_setInitial_X9_fail : GoodIn wsX9_setInitial wsX9_fail := goodIn_r _ [12, 1, 18, 19, 20, 21, 22, 23, 24, 25, 26, 27, 28, 29, 30, 31, 32, 33, 34, 35, 36, 37, 38, 39, 40, 41, 42, 43, 44, 45, 46, 47, 48] (by decide +kernel) (by decide +kernel)
set_option maxRecDepth 20000 in
theorem gX9_setInitial_X9_fail : GoodIn wsX9_setInitial (wsV RX9 92 RX9 yX9_fail wsX9_fail) := goodIn_app (goodIn_of _ (by decide +kernel)) ggX9_setInitial_X9_fail
set_option maxRecDepth 20000 in
theorem ggX9_setInitial_X9_isRange : GoodIn wsX9_setInitial wsX9_isRange := goodIn_r _ [15, 16, 17] (by decide +kernel) (by decide +kernel)
set_option maxRecDepth 20000 in
theorem gX9_setInitial_X9_isRange : GoodIn wsX9_setInitial (va_wsS RX9 104 yX9_isRange wsX9_isRange) := goodIn_app (goodIn_of _ (by decide +kernel)) ggX9_setInitial_X9_isRange
theorem dX9_setInitial_0 : decode cX9_setInitial 0 = .ok (.aload_n 0, 1) := by decide +kernel
theorem dX9_setInitial_1 : decode cX9_setInitial 1 = .ok (.iconst 0, 1) := by decide +kernel
theorem dX9_setInitial_2 : decode cX9_setInitial 2 = .ok (.putfield 87, 3) := by decide +kernel
theorem dX9_setInitial_5 : decode cX9_setInitial 5 = .ok (.iload_n 1, 1) := by decide +kernel
theorem dX9_setInitial_6 : decode cX9_setInitial 6 = .ok (.invokestatic 100, 3) := by decide +kernel
theorem dX9_setInitial_9 : decode cX9_setInitial 9 = .ok (.ifCond .ne 17, 3) := by decide +kernel
theorem dX9_setInitial_12 : decode cX9_setInitial 12 = .ok (.aload_n 0, 1) := by decide +kernel
theorem dX9_setInitial_13 : decode cX9_setInitial 13 = .ok (.iconst 1, 1) := by decide +kernel
theorem dX9_setInitial_14 : decode cX9_setInitial 14 = .ok (.invokevirtual 92, 3) := by decide +kernel
theorem dX9_setInitial_17 : decode cX9_setInitial 17 = .ok (.ifCond .eq 7, 3) := by decide +kernel
theorem dX9_setInitial_20 : decode cX9_setInitial 20 = .ok (.iconst 1, 1) := by decide +kernel
theorem dX9_setInitial_21 : decode cX9_setInitial 21 = .ok (.goto 4, 3) := by decide +kernel
theorem dX9_setInitial_24 : decode cX9_setInitial 24 = .ok (.iconst 0, 1) := by decide +kernel
theorem dX9_setInitial_25 : decode cX9_setInitial 25 = .ok (.ireturn, 1) := by decide +kernel
theorem dX9_setInitial_26 : decode cX9_setInitial 26 = .ok (.iload_n 2, 1) := by decide +kernel
theorem dX9_setInitial_27 : decode cX9_setInitial 27 = .ok (.iload_n 3, 1) := by decide +kernel
theorem dX9_setInitial_28 : decode cX9_setInitial 28 = .ok (.invokestatic 104, 3) := by decide +kernel
theorem dX9_setInitial_31 : decode cX9_setInitial 31 = .ok (.ifCond .ne 17, 3) := by decide +kernel
theorem dX9_setInitial_34 : decode cX9_setInitial 34 = .ok (.aload_n 0, 1) := by decide +kernel
theorem dX9_setInitial_35 : decode cX9_setInitial 35 = .ok (.iconst 2, 1) := by decide +kernel
theorem dX9_setInitial_36 : decode cX9_setInitial 36 = .ok (.invokevirtual 92, 3) := by decide +kernel
theorem dX9_setInitial_39 : decode cX9_setInitial 39 = .ok (.ifCond .eq 7, 3) := by decide +kernel
theorem dX9_setInitial_42 : decode cX9_setInitial 42 = .ok (.iconst 1, 1) := by decide +kernel
theorem dX9_setInitial_43 : decode cX9_setInitial 43 = .ok (.goto 4, 3) := by decide +kernel
theorem dX9_setInitial_46 : decode cX9_setInitial 46 = .ok (.iconst 0, 1) := by decide +kernel
theorem dX9_setInitial_47 : decode cX9_setInitial 47 = .ok (.ireturn, 1) := by decide +kernel
theorem dX9_setInitial_48 : decode cX9_setInitial 48 = .ok (.aload_n 0, 1) := by decide +kernel
theorem dX9_setInitial_49 : decode cX9_setInitial 49 = .ok (.getfield 38, 3) := by decide +kernel
theorem dX9_setInitial_52 : decode cX9_setInitial 52 = .ok (.iload_n 1, 1) := by decide +kernel
theorem dX9_setInitial_53 : decode cX9_setInitial 53 = .ok (.iaload, 1) := by decide +kernel
theorem dX9_setInitial_54 : decode cX9_setInitial 54 = .ok (.iload_n 2, 1) := by decide +kernel
theorem dX9_setInitial_55 : decode cX9_setInitial 55 = .ok (.if_icmp .ne 13, 3) := by decide +kernel
theorem dX9_setInitial_58 : decode cX9_setInitial 58 = .ok (.aload_n 0, 1) := by decide +kernel
theorem dX9_setInitial_59 : decode cX9_setInitial 59 = .ok (.getfield 41, 3) := by decide +kernel
theorem dX9_setInitial_62 : decode cX9_setInitial 62 = .ok (.iload_n 1, 1) := by decide +kernel
theorem dX9_setInitial_63 : decode cX9_setInitial 63 = .ok (.iaload, 1) := by decide +kernel
theorem dX9_setInitial_64 : decode cX9_setInitial 64 = .ok (.iload_n 3, 1) := by decide +kernel
theorem dX9_setInitial_65 : decode cX9_setInitial 65 = .ok (.if_icmp .eq 7, 3) := by decide +kernel
theorem dX9_setInitial_68 : decode cX9_setInitial 68 = .ok (.iconst 1, 1) := by decide +kernel
theorem dX9_setInitial_69 : decode cX9_setInitial 69 = .ok (.goto 4, 3) := by decide +kernel
theorem dX9_setInitial_72 : decode cX9_setInitial 72 = .ok (.iconst 0, 1) := by decide +kernel
theorem dX9_setInitial_73 : decode cX9_setInitial 73 = .ok (.istore 4, 2) := by decide +kernel
theorem dX9_setInitial_75 : decode cX9_setInitial 75 = .ok (.aload_n 0, 1) := by decide +kernel
theorem dX9_setInitial_76 : decode cX9_setInitial 76 = .ok (.getfield 38, 3) := by decide +kernel
theorem dX9_setInitial_79 : decode cX9_setInitial 79 = .ok (.iload_n 1, 1) := by decide +kernel
theorem dX9_setInitial_80 : decode cX9_setInitial 80 = .ok (.iload_n 2, 1) := by decide +kernel
theorem dX9_setInitial_81 : decode cX9_setInitial 81 = .ok (.iastore, 1) := by decide +kernel
theorem dX9_setInitial_82 : decode cX9_setInitial 82 = .ok (.aload_n 0, 1) := by decide +kernel
theorem dX9_setInitial_83 : decode cX9_setInitial 83 = .ok (.getfield 41, 3) := by decide +kernel
theorem dX9_setInitial_86 : decode cX9_setInitial 86 = .ok (.iload_n 1, 1) := by decide +kernel
theorem dX9_setInitial_87 : decode cX9_setInitial 87 = .ok (.iload_n 3, 1) := by decide +kernel
theorem dX9_setInitial_88 : decode cX9_setInitial 88 = .ok (.iastore, 1) := by decide +kernel
theorem dX9_setInitial_89 : decode cX9_setInitial 89 = .ok (.aload_n 0, 1) := by decide +kernel
theorem dX9_setInitial_90 : decode cX9_setInitial 90 = .ok (.iconst 0, 1) := by decide +kernel
theorem dX9_setInitial_91 : decode cX9_setInitial 91 = .ok (.putfield 96, 3) := by decide +kernel
theorem dX9_setInitial_94 : decode cX9_setInitial 94 = .ok (.iload 4, 2) := by decide +kernel
theorem dX9_setInitial_96 : decode cX9_setInitial 96 = .ok (.ireturn, 1) := by decide +kernel
theorem dX9_append_0 : decode cX9_append 0 = .ok (.iconst 4, 1) := by decide +kernel
theorem dX9_append_1 : decode cX9_append 1 = .ok (.bipush 8, 2) := by decide +kernel
theorem dX9_append_3 : decode cX9_append 3 = .ok (.iload_n 1, 1) := by decide +kernel
theorem dX9_append_4 : decode cX9_append 4 = .ok (.imul, 1) := by decide +kernel
theorem dX9_append_5 : decode cX9_append 5 = .ok (.aload_n 0, 1) := by decide +kernel
theorem dX9_append_6 : decode cX9_append 6 = .ok (.getfield 13, 3) := by decide +kernel
theorem dX9_append_9 : decode cX9_append 9 = .ok (.iload_n 1, 1) := by decide +kernel
theorem dX9_append_10 : decode cX9_append 10 = .ok (.iaload, 1) := by decide +kernel
theorem dX9_append_11 : decode cX9_append 11 = .ok (.iadd, 1) := by decide +kernel
theorem dX9_append_12 : decode cX9_append 12 = .ok (.imul, 1) := by decide +kernel
theorem dX9_append_13 : decode cX9_append 13 = .ok (.istore 6, 2) := by decide +kernel
theorem dX9_append_15 : decode cX9_append 15 = .ok (.aload_n 0, 1) := by decide +kernel
theorem dX9_append_16 : decode cX9_append 16 = .ok (.getfield 17, 3) := by decide +kernel
theorem dX9_append_19 : decode cX9_append 19 = .ok (.iload 6, 2) := by decide +kernel
theorem dX9_append_21 : decode cX9_append 21 = .ok (.iload_n 2, 1) := by decide +kernel
theorem dX9_append_22 : decode cX9_append 22 = .ok (.iastore, 1) := by decide +kernel
theorem dX9_append_23 : decode cX9_append 23 = .ok (.aload_n 0, 1) := by decide +kernel
theorem dX9_append_24 : decode cX9_append 24 = .ok (.getfield 17, 3) := by decide +kernel
theorem dX9_append_27 : decode cX9_append 27 = .ok (.iload 6, 2) := by decide +kernel
theorem dX9_append_29 : decode cX9_append 29 = .ok (.iconst 1, 1) := by decide +kernel
theorem dX9_append_30 : decode cX9_append 30 = .ok (.iadd, 1) := by decide +kernel
theorem dX9_append_31 : decode cX9_append 31 = .ok (.iload_n 3, 1) := by decide +kernel
theorem dX9_append_32 : decode cX9_append 32 = .ok (.iastore, 1) := by decide +kernel
theorem dX9_append_33 : decode cX9_append 33 = .ok (.aload_n 0, 1) := by decide +kernel
theorem dX9_append_34 : decode cX9_append 34 = .ok (.getfield 17, 3) := by decide +kernel
theorem dX9_append_37 : decode cX9_append 37 = .ok (.iload 6, 2) := by decide +kernel
theorem dX9_append_39 : decode cX9_append 39 = .ok (.iconst 2, 1) := by decide +kernel
theorem dX9_append_40 : decode cX9_append 40 = .ok (.iadd, 1) := by decide +kernel
theorem dX9_append_41 : decode cX9_append 41 = .ok (.iload 4, 2) := by decide +kernel
theorem dX9_append_43 : decode cX9_append 43 = .ok (.iastore, 1) := by decide +kernel
theorem dX9_append_44 : decode cX9_append 44 = .ok (.aload_n 0, 1) := by decide +kernel
theorem dX9_append_45 : decode cX9_append 45 = .ok (.getfield 17, 3) := by decide +kernel
theorem dX9_append_48 : decode cX9_append 48 = .ok (.iload 6, 2) := by decide +kernel
theorem dX9_append_50 : decode cX9_append 50 = .ok (.iconst 3, 1) := by decide +kernel
theorem dX9_append_51 : decode cX9_append 51 = .ok (.iadd, 1) := by decide +kernel
theorem dX9_append_52 : decode cX9_append 52 = .ok (.iload 5, 2) := by decide +kernel
theorem dX9_append_54 : decode cX9_append 54 = .ok (.iastore, 1) := by decide +kernel
theorem dX9_append_55 : decode cX9_append 55 = .ok (.aload_n 0, 1) := by decide +kernel
theorem dX9_append_56 : decode cX9_append 56 = .ok (.getfield 13, 3) := by decide +kernel
theorem dX9_append_59 : decode cX9_append 59 = .ok (.iload_n 1, 1) := by decide +kernel
theorem dX9_append_60 : decode cX9_append 60 = .ok (.dup2, 1) := by decide +kernel
theorem dX9_append_61 : decode cX9_append 61 = .ok (.iaload, 1) := by decide +kernel
theorem dX9_append_62 : decode cX9_append 62 = .ok (.iconst 1, 1) := by decide +kernel
theorem dX9_append_63 : decode cX9_append 63 = .ok (.iadd, 1) := by decide +kernel
theorem dX9_append_64 : decode cX9_append 64 = .ok (.iastore, 1) := by decide +kernel
theorem dX9_append_65 : decode cX9_append 65 = .ok (.aload_n 0, 1) := by decide +kernel
theorem dX9_append_66 : decode cX9_append 66 = .ok (.iconst 0, 1) := by decide +kernel
theorem dX9_append_67 : decode cX9_append 67 = .ok (.putfield 96, 3) := by decide +kernel
theorem dX9_append_70 : decode cX9_append 70 = .ok (.aload_n 0, 1) := by decide +kernel
theorem dX9_append_71 : decode cX9_append 71 = .ok (.getfield 13, 3) := by decide +kernel
theorem dX9_append_74 : decode cX9_append 74 = .ok (.iload_n 1, 1) := by decide +kernel
theorem dX9_append_75 : decode cX9_append 75 = .ok (.iaload, 1) := by decide +kernel
theorem dX9_append_76 : decode cX9_append 76 = .ok (.ireturn, 1) := by decide +kernel
set_option maxRecDepth 20000 in
theorem ggX9_input_X9_isBlock : GoodIn wsX9_input wsX9_isBlock := goodIn_r _ [7, 8, 27, 28, 29, 30, 31, 32, 33, 34, 35, 36, 37, 38, 39, 40, 41, 42, 43, 44, 45, 46, 47, 48, 49, 50, 51, 52, 53, 54, 55, 56, 57] (by decide +kernel) (by decide +kernel)
set_option maxRecDepth 20000 in
theorem gX9_input_X9_isBlock : GoodIn wsX9_input (wsV RX9 108 RX9 yX9_isBlock wsX9_isBlock) := goodIn_app (goodIn_of _ (by decide +kernel)) ggX9_input_X9_isBlock
set_option maxRecDepth 20000 in
theorem ggX9_input_X9_isVariable : GoodIn wsX9_input wsX9_isVariable := goodIn_r _ [11] (by decide +kernel) (by decide +kernel)
set_option maxRecDepth 20000 in
theorem gX9_input_X9_isVariable : GoodIn wsX9_input (va_wsS RX9 100 yX9_isVariable wsX9_isVariable) := goodIn_app (goodIn_of _ (by decide +kernel)) ggX9_input_X9_isVariable
set_option maxRecDepth 20000 in
theorem ggX9_input_X9_fail : GoodIn wsX9_input wsX9_fail := goodIn_r _ [15, 1, 27, 28, 29, 30, 31, 32, 33, 34, 35, 36, 37, 38, 39, 40, 41, 42, 43, 44, 45, 46, 47, 48, 49, 50, 51, 52, 53, 54, 55, 56, 57] (by decide +kernel) (by decide +kernel)
set_option maxRecDepth 20000 in
theorem gX9_input_X9_fail : GoodIn wsX9_input (wsV RX9 92 RX9 yX9_fail wsX9_fail) := goodIn_app (goodIn_of _ (by decide +kernel)) ggX9_input_X9_fail
set_option maxRecDepth 20000 in
theorem ggX9_input_X9_isRange : GoodIn wsX9_input wsX9_isRange := goodIn_r _ [18, 19, 20] (by decide +kernel) (by decide +kernel)
set_option maxRecDepth 20000 in
theorem gX9_input_X9_isRange : GoodIn wsX9_input (va_wsS RX9 104 yX9_isRange wsX9_isRange) := goodIn_app (goodIn_of _ (by decide +kernel)) ggX9_input_X9_isRange
set_option maxRecDepth 20000 in
theorem ggX9_input_X9_append : GoodIn wsX9_input wsX9_append := goodIn_r _ [24, 2, 25, 26, 27, 28, 29, 30, 31, 32, 33, 34, 35, 36, 37, 38, 39, 40, 41, 42, 43, 44, 45, 46, 47, 48, 49, 50, 51, 52, 53, 54, 55, 56, 57] (by decide +kernel) (by decide +kernel)
set_option maxRecDepth 20000 in
theorem gX9_input_X9_append : GoodIn wsX9_input (wsV RX9 111 RX9 yX9_append wsX9_append) := goodIn_app (goodIn_of _ (by decide +kernel)) ggX9_input_X9_append
theorem dX9_input_0 : decode cX9_input 0 = .ok (.aload_n 0, 1) := by decide +kernel
theorem dX9_input_1 : decode cX9_input 1 = .ok (.iconst 0, 1) := by decide +kernel
theorem dX9_input_2 : decode cX9_input 2 = .ok (.putfield 87, 3) := by decide +kernel
theorem dX9_input_5 : decode cX9_input 5 = .ok (.aload_n 0, 1) := by decide +kernel
theorem dX9_input_6 : decode cX9_input 6 = .ok (.iload_n 1, 1) := by decide +kernel
theorem dX9_input_7 : decode cX9_input 7 = .ok (.invokevirtual 108, 3) := by decide +kernel
theorem dX9_input_10 : decode cX9_input 10 = .ok (.ifCond .eq 10, 3) := by decide +kernel
theorem dX9_input_13 : decode cX9_input 13 = .ok (.iload_n 2, 1) := by decide +kernel
theorem dX9_input_14 : decode cX9_input 14 = .ok (.invokestatic 100, 3) := by decide +kernel
theorem dX9_input_17 : decode cX9_input 17 = .ok (.ifCond .ne 9, 3) := by decide +kernel
theorem dX9_input_20 : decode cX9_input 20 = .ok (.aload_n 0, 1) := by decide +kernel
theorem dX9_input_21 : decode cX9_input 21 = .ok (.iconst 1, 1) := by decide +kernel
theorem dX9_input_22 : decode cX9_input 22 = .ok (.invokevirtual 92, 3) := by decide +kernel
theorem dX9_input_25 : decode cX9_input 25 = .ok (.ireturn, 1) := by decide +kernel
theorem dX9_input_26 : decode cX9_input 26 = .ok (.iload_n 3, 1) := by decide +kernel
theorem dX9_input_27 : decode cX9_input 27 = .ok (.iload 4, 2) := by decide +kernel
theorem dX9_input_29 : decode cX9_input 29 = .ok (.invokestatic 104, 3) := by decide +kernel
theorem dX9_input_32 : decode cX9_input 32 = .ok (.ifCond .ne 9, 3) := by decide +kernel
theorem dX9_input_35 : decode cX9_input 35 = .ok (.aload_n 0, 1) := by decide +kernel
theorem dX9_input_36 : decode cX9_input 36 = .ok (.iconst 2, 1) := by decide +kernel
theorem dX9_input_37 : decode cX9_input 37 = .ok (.invokevirtual 92, 3) := by decide +kernel
theorem dX9_input_40 : decode cX9_input 40 = .ok (.ireturn, 1) := by decide +kernel
theorem dX9_input_41 : decode cX9_input 41 = .ok (.aload_n 0, 1) := by decide +kernel
theorem dX9_input_42 : decode cX9_input 42 = .ok (.getfield 13, 3) := by decide +kernel
theorem dX9_input_45 : decode cX9_input 45 = .ok (.iload_n 1, 1) := by decide +kernel
theorem dX9_input_46 : decode cX9_input 46 = .ok (.iaload, 1) := by decide +kernel
theorem dX9_input_47 : decode cX9_input 47 = .ok (.bipush 8, 2) := by decide +kernel
theorem dX9_input_49 : decode cX9_input 49 = .ok (.if_icmp .ne 11, 3) := by decide +kernel
theorem dX9_input_52 : decode cX9_input 52 = .ok (.aload_n 0, 1) := by decide +kernel
theorem dX9_input_53 : decode cX9_input 53 = .ok (.iconst 3, 1) := by decide +kernel
theorem dX9_input_54 : decode cX9_input 54 = .ok (.invokevirtual 92, 3) := by decide +kernel
theorem dX9_input_57 : decode cX9_input 57 = .ok (.goto 25, 3) := by decide +kernel
theorem dX9_input_60 : decode cX9_input 60 = .ok (.aload_n 0, 1) := by decide +kernel
theorem dX9_input_61 : decode cX9_input 61 = .ok (.iload_n 1, 1) := by decide +kernel
theorem dX9_input_62 : decode cX9_input 62 = .ok (.iload_n 3, 1) := by decide +kernel
theorem dX9_input_63 : decode cX9_input 63 = .ok (.iload 4, 2) := by decide +kernel
theorem dX9_input_65 : decode cX9_input 65 = .ok (.if_icmp .ne 8, 3) := by decide +kernel
theorem dX9_input_68 : decode cX9_input 68 = .ok (.bipush 6, 2) := by decide +kernel
theorem dX9_input_70 : decode cX9_input 70 = .ok (.goto 5, 3) := by decide +kernel
theorem dX9_input_73 : decode cX9_input 73 = .ok (.bipush 7, 2) := by decide +kernel
theorem dX9_input_75 : decode cX9_input 75 = .ok (.iload_n 2, 1) := by decide +kernel
theorem dX9_input_76 : decode cX9_input 76 = .ok (.iload_n 3, 1) := by decide +kernel
theorem dX9_input_77 : decode cX9_input 77 = .ok (.iload 4, 2) := by decide +kernel
theorem dX9_input_79 : decode cX9_input 79 = .ok (.invokevirtual 111, 3) := by decide +kernel
theorem dX9_input_82 : decode cX9_input 82 = .ok (.ireturn, 1) := by decide +kernel
set_option maxRecDepth 20000 in
theorem ggX9_compute_X9_isBlock : GoodIn wsX9_compute wsX9_isBlock := goodIn_r _ [7, 8, 22, 23, 24, 25, 26, 27, 28, 29, 30, 31, 32, 33, 34, 35, 36, 37, 38, 39, 40, 41, 42, 43, 44, 45, 46, 47, 48, 49, 50, 51, 52] (by decide +kernel) (by decide +kernel)
set_option maxRecDepth 20000 in
theorem gX9_compute_X9_isBlock : GoodIn wsX9_compute (wsV RX9 108 RX9 yX9_isBlock wsX9_isBlock) := goodIn_app (goodIn_of _ (by decide +kernel)) ggX9_compute_X9_isBlock
set_option maxRecDepth 20000 in
theorem ggX9_compute_X9_isVariable : GoodIn wsX9_compute wsX9_isVariable := goodIn_r _ [11] (by decide +kernel) (by decide +kernel)
set_option maxRecDepth 20000 in
theorem gX9_compute_X9_isVariable : GoodIn wsX9_compute (va_wsS RX9 100 yX9_isVariable wsX9_isVariable) := goodIn_app (goodIn_of _ (by decide +kernel)) ggX9_compute_X9_isVariable
set_option maxRecDepth 20000 in
theorem ggX9_compute_X9_fail : GoodIn wsX9_compute wsX9_fail := goodIn_r _ [15, 1, 22, 23, 24, 25, 26, 27, 28, 29, 30, 31, 32, 33, 34, 35, 36, 37, 38, 39, 40, 41, 42, 43, 44, 45, 46, 47, 48, 49, 50, 51, 52] (by decide +kernel) (by decide +kernel)
set_option maxRecDepth 20000 in
theorem gX9_compute_X9_fail : GoodIn wsX9_compute (wsV RX9 92 RX9 yX9_fail wsX9_fail) := goodIn_app (goodIn_of _ (by decide +kernel)) ggX9_compute_X9_fail
set_option maxRecDepth 20000 in
theorem ggX9_compute_X9_append : GoodIn wsX9_compute wsX9_append := goodIn_r _ [19, 2, 20, 21, 22, 23, 24, 25, 26, 27, 28, 29, 30, 31, 32, 33, 34, 35, 36, 37, 38, 39, 40, 41, 42, 43, 44, 45, 46, 47, 48, 49, 50, 51, 52] (by decide +kernel) (by decide +kernel)
set_option maxRecDepth 20000 in
theorem gX9_compute_X9_append : GoodIn wsX9_compute (wsV RX9 111 RX9 yX9_append wsX9_append) := goodIn_app (goodIn_of _ (by decide +kernel)) ggX9_compute_X9_append
theorem dX9_compute_0 : decode cX9_compute 0 = .ok (.aload_n 0, 1) := by decide +kernel
theorem dX9_compute_1 : decode cX9_compute 1 = .ok (.iconst 0, 1) := by decide +kernel
theorem dX9_compute_2 : decode cX9_compute 2 = .ok (.putfield 87, 3) := by decide +kernel
theorem dX9_compute_5 : decode cX9_compute 5 = .ok (.aload_n 0, 1) := by decide +kernel
theorem dX9_compute_6 : decode cX9_compute 6 = .ok (.iload_n 1, 1) := by decide +kernel
theorem dX9_compute_7 : decode cX9_compute 7 = .ok (.invokevirtual 108, 3) := by decide +kernel
theorem dX9_compute_10 : decode cX9_compute 10 = .ok (.ifCond .eq 26, 3) := by decide +kernel
theorem dX9_compute_13 : decode cX9_compute 13 = .ok (.iload_n 3, 1) := by decide +kernel
theorem dX9_compute_14 : decode cX9_compute 14 = .ok (.invokestatic 100, 3) := by decide +kernel
theorem dX9_compute_17 : decode cX9_compute 17 = .ok (.ifCond .eq 19, 3) := by decide +kernel
theorem dX9_compute_20 : decode cX9_compute 20 = .ok (.iload 4, 2) := by decide +kernel
theorem dX9_compute_22 : decode cX9_compute 22 = .ok (.invokestatic 100, 3) := by decide +kernel
theorem dX9_compute_25 : decode cX9_compute 25 = .ok (.ifCond .eq 11, 3) := by decide +kernel
theorem dX9_compute_28 : decode cX9_compute 28 = .ok (.iload 5, 2) := by decide +kernel
theorem dX9_compute_30 : decode cX9_compute 30 = .ok (.invokestatic 100, 3) := by decide +kernel
theorem dX9_compute_33 : decode cX9_compute 33 = .ok (.ifCond .ne 9, 3) := by decide +kernel
theorem dX9_compute_36 : decode cX9_compute 36 = .ok (.aload_n 0, 1) := by decide +kernel
theorem dX9_compute_37 : decode cX9_compute 37 = .ok (.iconst 1, 1) := by decide +kernel
theorem dX9_compute_38 : decode cX9_compute 38 = .ok (.invokevirtual 92, 3) := by decide +kernel
theorem dX9_compute_41 : decode cX9_compute 41 = .ok (.ireturn, 1) := by decide +kernel
theorem dX9_compute_42 : decode cX9_compute 42 = .ok (.iload_n 2, 1) := by decide +kernel
theorem dX9_compute_43 : decode cX9_compute 43 = .ok (.ifCond .lt 8, 3) := by decide +kernel
theorem dX9_compute_46 : decode cX9_compute 46 = .ok (.iload_n 2, 1) := by decide +kernel
theorem dX9_compute_47 : decode cX9_compute 47 = .ok (.iconst 5, 1) := by decide +kernel
theorem dX9_compute_48 : decode cX9_compute 48 = .ok (.if_icmp .le 9, 3) := by decide +kernel
theorem dX9_compute_51 : decode cX9_compute 51 = .ok (.aload_n 0, 1) := by decide +kernel
theorem dX9_compute_52 : decode cX9_compute 52 = .ok (.iconst 2, 1) := by decide +kernel
theorem dX9_compute_53 : decode cX9_compute 53 = .ok (.invokevirtual 92, 3) := by decide +kernel
theorem dX9_compute_56 : decode cX9_compute 56 = .ok (.ireturn, 1) := by decide +kernel
theorem dX9_compute_57 : decode cX9_compute 57 = .ok (.aload_n 0, 1) := by decide +kernel
theorem dX9_compute_58 : decode cX9_compute 58 = .ok (.getfield 13, 3) := by decide +kernel
theorem dX9_compute_61 : decode cX9_compute 61 = .ok (.iload_n 1, 1) := by decide +kernel
theorem dX9_compute_62 : decode cX9_compute 62 = .ok (.iaload, 1) := by decide +kernel
theorem dX9_compute_63 : decode cX9_compute 63 = .ok (.bipush 8, 2) := by decide +kernel
theorem dX9_compute_65 : decode cX9_compute 65 = .ok (.if_icmp .ne 11, 3) := by decide +kernel
theorem dX9_compute_68 : decode cX9_compute 68 = .ok (.aload_n 0, 1) := by decide +kernel
theorem dX9_compute_69 : decode cX9_compute 69 = .ok (.iconst 3, 1) := by decide +kernel
theorem dX9_compute_70 : decode cX9_compute 70 = .ok (.invokevirtual 92, 3) := by decide +kernel
theorem dX9_compute_73 : decode cX9_compute 73 = .ok (.goto 14, 3) := by decide +kernel
theorem dX9_compute_76 : decode cX9_compute 76 = .ok (.aload_n 0, 1) := by decide +kernel
theorem dX9_compute_77 : decode cX9_compute 77 = .ok (.iload_n 1, 1) := by decide +kernel
theorem dX9_compute_78 : decode cX9_compute 78 = .ok (.iload_n 2, 1) := by decide +kernel
theorem dX9_compute_79 : decode cX9_compute 79 = .ok (.iload_n 3, 1) := by decide +kernel
theorem dX9_compute_80 : decode cX9_compute 80 = .ok (.iload 4, 2) := by decide +kernel
theorem dX9_compute_82 : decode cX9_compute 82 = .ok (.iload 5, 2) := by decide +kernel
theorem dX9_compute_84 : decode cX9_compute 84 = .ok (.invokevirtual 111, 3) := by decide +kernel
theorem dX9_compute_87 : decode cX9_compute 87 = .ok (.ireturn, 1) := by decide +kernel
theorem dX9_end_0 : decode cX9_end 0 = .ok (.aload_n 0, 1) := by decide +kernel
theorem dX9_end_1 : decode cX9_end 1 = .ok (.getfield 20, 3) := by decide +kernel
theorem dX9_end_4 : decode cX9_end 4 = .ok (.iload_n 1, 1) := by decide +kernel
theorem dX9_end_5 : decode cX9_end 5 = .ok (.iaload, 1) := by decide +kernel
theorem dX9_end_6 : decode cX9_end 6 = .ok (.istore 5, 2) := by decide +kernel
theorem dX9_end_8 : decode cX9_end 8 = .ok (.aload_n 0, 1) := by decide +kernel
theorem dX9_end_9 : decode cX9_end 9 = .ok (.getfield 20, 3) := by decide +kernel
theorem dX9_end_12 : decode cX9_end 12 = .ok (.iload_n 1, 1) := by decide +kernel
theorem dX9_end_13 : decode cX9_end 13 = .ok (.iload_n 2, 1) := by decide +kernel
theorem dX9_end_14 : decode cX9_end 14 = .ok (.iastore, 1) := by decide +kernel
theorem dX9_end_15 : decode cX9_end 15 = .ok (.aload_n 0, 1) := by decide +kernel
theorem dX9_end_16 : decode cX9_end 16 = .ok (.getfield 23, 3) := by decide +kernel
theorem dX9_end_19 : decode cX9_end 19 = .ok (.iload_n 1, 1) := by decide +kernel
theorem dX9_end_20 : decode cX9_end 20 = .ok (.iload_n 3, 1) := by decide +kernel
theorem dX9_end_21 : decode cX9_end 21 = .ok (.iastore, 1) := by decide +kernel
theorem dX9_end_22 : decode cX9_end 22 = .ok (.aload_n 0, 1) := by decide +kernel
theorem dX9_end_23 : decode cX9_end 23 = .ok (.getfield 26, 3) := by decide +kernel
theorem dX9_end_26 : decode cX9_end 26 = .ok (.iload_n 1, 1) := by decide +kernel
theorem dX9_end_27 : decode cX9_end 27 = .ok (.iload 4, 2) := by decide +kernel
theorem dX9_end_29 : decode cX9_end 29 = .ok (.iastore, 1) := by decide +kernel
theorem dX9_end_30 : decode cX9_end 30 = .ok (.aload_n 0, 1) := by decide +kernel
theorem dX9_end_31 : decode cX9_end 31 = .ok (.iconst 0, 1) := by decide +kernel
theorem dX9_end_32 : decode cX9_end 32 = .ok (.putfield 96, 3) := by decide +kernel
theorem dX9_end_35 : decode cX9_end 35 = .ok (.iload 5, 2) := by decide +kernel
theorem dX9_end_37 : decode cX9_end 37 = .ok (.ireturn, 1) := by decide +kernel
set_option maxRecDepth 20000 in
theorem ggX9_jump_X9_isBlock : GoodIn wsX9_jump wsX9_isBlock := goodIn_r _ [6, 7, 20, 21, 22, 23, 24, 25, 26, 27, 28, 29, 30, 31, 32, 33, 34, 35, 36, 37, 38, 39, 40, 41, 42, 43, 44, 45, 46, 47, 48, 49, 50] (by decide +kernel) (by decide +kernel)
set_option maxRecDepth 20000 in
theorem gX9_jump_X9_isBlock : GoodIn wsX9_jump (wsV RX9 108 RX9 yX9_isBlock wsX9_isBlock) := goodIn_app (goodIn_of _ (by decide +kernel)) ggX9_jump_X9_isBlock
set_option maxRecDepth 20000 in
theorem ggX9_jump_X9_end : GoodIn wsX9_jump wsX9_end := goodIn_r _ [11, 12, 13, 14, 15, 20, 21, 22, 23, 24, 25, 26, 27, 28, 29, 30, 31, 32, 33, 34, 35, 36, 37, 38, 39, 40, 41, 42, 43, 44, 45, 46, 47, 48, 49, 50] (by decide +kernel) (by decide +kernel)
set_option maxRecDepth 20000 in
theorem gX9_jump_X9_end : GoodIn wsX9_jump (wsV RX9 115 RX9 yX9_end wsX9_end) := goodIn_app (goodIn_of _ (by decide +kernel)) ggX9_jump_X9_end
set_option maxRecDepth 20000 in
theorem ggX9_jump_X9_fail : GoodIn wsX9_jump wsX9_fail := goodIn_r _ [19, 1, 20, 21, 22, 23, 24, 25, 26, 27, 28, 29, 30, 31, 32, 33, 34, 35, 36, 37, 38, 39, 40, 41, 42, 43, 44, 45, 46, 47, 48, 49, 50] (by decide +kernel) (by decide +kernel)
set_option maxRecDepth 20000 in
theorem gX9_jump_X9_fail : GoodIn wsX9_jump (wsV RX9 92 RX9 yX9_fail wsX9_fail) := goodIn_app (goodIn_of _ (by decide +kernel)) ggX9_jump_X9_fail
theorem dX9_jump_0 : decode cX9_jump 0 = .ok (.aload_n 0, 1) := by decide +kernel
theorem dX9_jump_1 : decode cX9_jump 1 = .ok (.iconst 0, 1) := by decide +kernel
theorem dX9_jump_2 : decode cX9_jump 2 = .ok (.putfield 87, 3) := by decide +kernel
theorem dX9_jump_5 : decode cX9_jump 5 = .ok (.aload_n 0, 1) := by decide +kernel
theorem dX9_jump_6 : decode cX9_jump 6 = .ok (.iload_n 1, 1) := by decide +kernel
theorem dX9_jump_7 : decode cX9_jump 7 = .ok (.invokevirtual 108, 3) := by decide +kernel
theorem dX9_jump_10 : decode cX9_jump 10 = .ok (.ifCond .eq 22, 3) := by decide +kernel
theorem dX9_jump_13 : decode cX9_jump 13 = .ok (.aload_n 0, 1) := by decide +kernel
theorem dX9_jump_14 : decode cX9_jump 14 = .ok (.iload_n 2, 1) := by decide +kernel
theorem dX9_jump_15 : decode cX9_jump 15 = .ok (.invokevirtual 108, 3) := by decide +kernel
theorem dX9_jump_18 : decode cX9_jump 18 = .ok (.ifCond .eq 14, 3) := by decide +kernel
theorem dX9_jump_21 : decode cX9_jump 21 = .ok (.aload_n 0, 1) := by decide +kernel
theorem dX9_jump_22 : decode cX9_jump 22 = .ok (.iload_n 1, 1) := by decide +kernel
theorem dX9_jump_23 : decode cX9_jump 23 = .ok (.iconst 1, 1) := by decide +kernel
theorem dX9_jump_24 : decode cX9_jump 24 = .ok (.iload_n 2, 1) := by decide +kernel
theorem dX9_jump_25 : decode cX9_jump 25 = .ok (.iconst (-1), 1) := by decide +kernel
theorem dX9_jump_26 : decode cX9_jump 26 = .ok (.invokevirtual 115, 3) := by decide +kernel
theorem dX9_jump_29 : decode cX9_jump 29 = .ok (.goto 8, 3) := by decide +kernel
theorem dX9_jump_32 : decode cX9_jump 32 = .ok (.aload_n 0, 1) := by decide +kernel
theorem dX9_jump_33 : decode cX9_jump 33 = .ok (.iconst 1, 1) := by decide +kernel
theorem dX9_jump_34 : decode cX9_jump 34 = .ok (.invokevirtual 92, 3) := by decide +kernel
theorem dX9_jump_37 : decode cX9_jump 37 = .ok (.ireturn, 1) := by decide +kernel
set_option maxRecDepth 20000 in
theorem ggX9_branch_X9_isBlock : GoodIn wsX9_branch wsX9_isBlock := goodIn_r _ [9, 10, 26, 27, 28, 29, 30, 31, 32, 33, 34, 35, 36, 37, 38, 39, 40, 41, 42, 43, 44, 45, 46, 47, 48, 49, 50, 51, 52, 53, 54, 55, 56] (by decide +kernel) (by decide +kernel)
set_option maxRecDepth 20000 in
theorem gX9_branch_X9_isBlock : GoodIn wsX9_branch (wsV RX9 108 RX9 yX9_isBlock wsX9_isBlock) := goodIn_app (goodIn_of _ (by decide +kernel)) ggX9_branch_X9_isBlock
set_option maxRecDepth 20000 in
theorem ggX9_branch_X9_isVariable : GoodIn wsX9_branch wsX9_isVariable := goodIn_r _ [13] (by decide +kernel) (by decide +kernel)
set_option maxRecDepth 20000 in
theorem gX9_branch_X9_isVariable : GoodIn wsX9_branch (va_wsS RX9 100 yX9_isVariable wsX9_isVariable) := goodIn_app (goodIn_of _ (by decide +kernel)) ggX9_branch_X9_isVariable
set_option maxRecDepth 20000 in
theorem ggX9_branch_X9_fail : GoodIn wsX9_branch wsX9_fail := goodIn_r _ [17, 1, 26, 27, 28, 29, 30, 31, 32, 33, 34, 35, 36, 37, 38, 39, 40, 41, 42, 43, 44, 45, 46, 47, 48, 49, 50, 51, 52, 53, 54, 55, 56] (by decide +kernel) (by decide +kernel)
set_option maxRecDepth 20000 in
theorem gX9_branch_X9_fail : GoodIn wsX9_branch (wsV RX9 92 RX9 yX9_fail wsX9_fail) := goodIn_app (goodIn_of _ (by decide +kernel)) ggX9_branch_X9_fail
set_option maxRecDepth 20000 in
theorem ggX9_branch_X9_end : GoodIn wsX9_branch wsX9_end := goodIn_r _ [21, 22, 23, 24, 25, 26, 27, 28, 29, 30, 31, 32, 33, 34, 35, 36, 37, 38, 39, 40, 41, 42, 43, 44, 45, 46, 47, 48, 49, 50, 51, 52, 53, 54, 55, 56] (by decide +kernel) (by decide +kernel)
set_option maxRecDepth 20000 in
theorem gX9_branch_X9_end : GoodIn wsX9_branch (wsV RX9 115 RX9 yX9_end wsX9_end) := goodIn_app (goodIn_of _ (by decide +kernel)) ggX9_branch_X9_end
theorem dX9_branch_0 : decode cX9_branch 0 = .ok (.aload_n 0, 1) := by decide +kernel
theorem dX9_branch_1 : decode cX9_branch 1 = .ok (.iconst 0, 1) := by decide +kernel
theorem dX9_branch_2 : decode cX9_branch 2 = .ok (.putfield 87, 3) := by decide +kernel
theorem dX9_branch_5 : decode cX9_branch 5 = .ok (.aload_n 0, 1) := by decide +kernel
theorem dX9_branch_6 : decode cX9_branch 6 = .ok (.iload_n 1, 1) := by decide +kernel
theorem dX9_branch_7 : decode cX9_branch 7 = .ok (.invokevirtual 108, 3) := by decide +kernel
theorem dX9_branch_10 : decode cX9_branch 10 = .ok (.ifCond .eq 36, 3) := by decide +kernel
theorem dX9_branch_13 : decode cX9_branch 13 = .ok (.iload_n 2, 1) := by decide +kernel
theorem dX9_branch_14 : decode cX9_branch 14 = .ok (.invokestatic 100, 3) := by decide +kernel
theorem dX9_branch_17 : decode cX9_branch 17 = .ok (.ifCond .eq 29, 3) := by decide +kernel
theorem dX9_branch_20 : decode cX9_branch 20 = .ok (.iload 4, 2) := by decide +kernel
theorem dX9_branch_22 : decode cX9_branch 22 = .ok (.invokestatic 100, 3) := by decide +kernel
theorem dX9_branch_25 : decode cX9_branch 25 = .ok (.ifCond .eq 21, 3) := by decide +kernel
theorem dX9_branch_28 : decode cX9_branch 28 = .ok (.aload_n 0, 1) := by decide +kernel
theorem dX9_branch_29 : decode cX9_branch 29 = .ok (.iload 5, 2) := by decide +kernel
theorem dX9_branch_31 : decode cX9_branch 31 = .ok (.invokevirtual 108, 3) := by decide +kernel
theorem dX9_branch_34 : decode cX9_branch 34 = .ok (.ifCond .eq 12, 3) := by decide +kernel
theorem dX9_branch_37 : decode cX9_branch 37 = .ok (.aload_n 0, 1) := by decide +kernel
theorem dX9_branch_38 : decode cX9_branch 38 = .ok (.iload 6, 2) := by decide +kernel
theorem dX9_branch_40 : decode cX9_branch 40 = .ok (.invokevirtual 108, 3) := by decide +kernel
theorem dX9_branch_43 : decode cX9_branch 43 = .ok (.ifCond .ne 9, 3) := by decide +kernel
theorem dX9_branch_46 : decode cX9_branch 46 = .ok (.aload_n 0, 1) := by decide +kernel
theorem dX9_branch_47 : decode cX9_branch 47 = .ok (.iconst 1, 1) := by decide +kernel
theorem dX9_branch_48 : decode cX9_branch 48 = .ok (.invokevirtual 92, 3) := by decide +kernel
theorem dX9_branch_51 : decode cX9_branch 51 = .ok (.ireturn, 1) := by decide +kernel
theorem dX9_branch_52 : decode cX9_branch 52 = .ok (.iload_n 3, 1) := by decide +kernel
theorem dX9_branch_53 : decode cX9_branch 53 = .ok (.ifCond .lt 8, 3) := by decide +kernel
theorem dX9_branch_56 : decode cX9_branch 56 = .ok (.iload_n 3, 1) := by decide +kernel
theorem dX9_branch_57 : decode cX9_branch 57 = .ok (.iconst 3, 1) := by decide +kernel
theorem dX9_branch_58 : decode cX9_branch 58 = .ok (.if_icmp .le 9, 3) := by decide +kernel
theorem dX9_branch_61 : decode cX9_branch 61 = .ok (.aload_n 0, 1) := by decide +kernel
theorem dX9_branch_62 : decode cX9_branch 62 = .ok (.iconst 2, 1) := by decide +kernel
theorem dX9_branch_63 : decode cX9_branch 63 = .ok (.invokevirtual 92, 3) := by decide +kernel
theorem dX9_branch_66 : decode cX9_branch 66 = .ok (.ireturn, 1) := by decide +kernel
theorem dX9_branch_67 : decode cX9_branch 67 = .ok (.aload_n 0, 1) := by decide +kernel
theorem dX9_branch_68 : decode cX9_branch 68 = .ok (.getfield 29, 3) := by decide +kernel
theorem dX9_branch_71 : decode cX9_branch 71 = .ok (.iload_n 1, 1) := by decide +kernel
theorem dX9_branch_72 : decode cX9_branch 72 = .ok (.iload_n 2, 1) := by decide +kernel
theorem dX9_branch_73 : decode cX9_branch 73 = .ok (.iastore, 1) := by decide +kernel
theorem dX9_branch_74 : decode cX9_branch 74 = .ok (.aload_n 0, 1) := by decide +kernel
theorem dX9_branch_75 : decode cX9_branch 75 = .ok (.getfield 32, 3) := by decide +kernel
theorem dX9_branch_78 : decode cX9_branch 78 = .ok (.iload_n 1, 1) := by decide +kernel
theorem dX9_branch_79 : decode cX9_branch 79 = .ok (.iload 4, 2) := by decide +kernel
theorem dX9_branch_81 : decode cX9_branch 81 = .ok (.iastore, 1) := by decide +kernel
theorem dX9_branch_82 : decode cX9_branch 82 = .ok (.aload_n 0, 1) := by decide +kernel
theorem dX9_branch_83 : decode cX9_branch 83 = .ok (.getfield 35, 3) := by decide +kernel
theorem dX9_branch_86 : decode cX9_branch 86 = .ok (.iload_n 1, 1) := by decide +kernel
theorem dX9_branch_87 : decode cX9_branch 87 = .ok (.iload_n 3, 1) := by decide +kernel
theorem dX9_branch_88 : decode cX9_branch 88 = .ok (.iastore, 1) := by decide +kernel
theorem dX9_branch_89 : decode cX9_branch 89 = .ok (.aload_n 0, 1) := by decide +kernel
theorem dX9_branch_90 : decode cX9_branch 90 = .ok (.iload_n 1, 1) := by decide +kernel
theorem dX9_branch_91 : decode cX9_branch 91 = .ok (.iconst 2, 1) := by decide +kernel
theorem dX9_branch_92 : decode cX9_branch 92 = .ok (.iload 5, 2) := by decide +kernel
theorem dX9_branch_94 : decode cX9_branch 94 = .ok (.iload 6, 2) := by decide +kernel
theorem dX9_branch_96 : decode cX9_branch 96 = .ok (.invokevirtual 115, 3) := by decide +kernel
theorem dX9_branch_99 : decode cX9_branch 99 = .ok (.ireturn, 1) := by decide +kernel
set_option maxRecDepth 20000 in
theorem ggX9_clear_X9_isBlock : GoodIn wsX9_clear wsX9_isBlock := goodIn_r _ [7, 8, 21, 22, 23, 24, 25, 26, 27, 28, 29, 30, 31, 32, 33, 34, 35, 36, 37, 38, 39, 40, 41, 42, 43, 44, 45, 46, 47, 48, 49, 50, 51] (by decide +kernel) (by decide +kernel)
set_option maxRecDepth 20000 in
theorem gX9_clear_X9_isBlock : GoodIn wsX9_clear (wsV RX9 108 RX9 yX9_isBlock wsX9_isBlock) := goodIn_app (goodIn_of _ (by decide +kernel)) ggX9_clear_X9_isBlock
set_option maxRecDepth 20000 in
theorem ggX9_clear_X9_fail : GoodIn wsX9_clear wsX9_fail := goodIn_r _ [12, 1, 21, 22, 23, 24, 25, 26, 27, 28, 29, 30, 31, 32, 33, 34, 35, 36, 37, 38, 39, 40, 41, 42, 43, 44, 45, 46, 47, 48, 49, 50, 51] (by decide +kernel) (by decide +kernel)
set_option maxRecDepth 20000 in
theorem gX9_clear_X9_fail : GoodIn wsX9_clear (wsV RX9 92 RX9 yX9_fail wsX9_fail) := goodIn_app (goodIn_of _ (by decide +kernel)) ggX9_clear_X9_fail
set_option maxRecDepth 20000 in
theorem ggX9_clear_X9_end : GoodIn wsX9_clear wsX9_end := goodIn_r _ [16, 17, 18, 19, 20, 21, 22, 23, 24, 25, 26, 27, 28, 29, 30, 31, 32, 33, 34, 35, 36, 37, 38, 39, 40, 41, 42, 43, 44, 45, 46, 47, 48, 49, 50, 51] (by decide +kernel) (by decide +kernel)
set_option maxRecDepth 20000 in
theorem gX9_clear_X9_end : GoodIn wsX9_clear (wsV RX9 115 RX9 yX9_end wsX9_end) := goodIn_app (goodIn_of _ (by decide +kernel)) ggX9_clear_X9_end
theorem dX9_clear_0 : decode cX9_clear 0 = .ok (.aload_n 0, 1) := by decide +kernel
theorem dX9_clear_1 : decode cX9_clear 1 = .ok (.iconst 0, 1) := by decide +kernel
theorem dX9_clear_2 : decode cX9_clear 2 = .ok (.putfield 87, 3) := by decide +kernel
theorem dX9_clear_5 : decode cX9_clear 5 = .ok (.aload_n 0, 1) := by decide +kernel
theorem dX9_clear_6 : decode cX9_clear 6 = .ok (.iload_n 1, 1) := by decide +kernel
theorem dX9_clear_7 : decode cX9_clear 7 = .ok (.invokevirtual 108, 3) := by decide +kernel
theorem dX9_clear_10 : decode cX9_clear 10 = .ok (.ifCond .ne 9, 3) := by decide +kernel
theorem dX9_clear_13 : decode cX9_clear 13 = .ok (.aload_n 0, 1) := by decide +kernel
theorem dX9_clear_14 : decode cX9_clear 14 = .ok (.iconst 1, 1) := by decide +kernel
theorem dX9_clear_15 : decode cX9_clear 15 = .ok (.invokevirtual 92, 3) := by decide +kernel
theorem dX9_clear_18 : decode cX9_clear 18 = .ok (.ireturn, 1) := by decide +kernel
theorem dX9_clear_19 : decode cX9_clear 19 = .ok (.aload_n 0, 1) := by decide +kernel
theorem dX9_clear_20 : decode cX9_clear 20 = .ok (.getfield 13, 3) := by decide +kernel
theorem dX9_clear_23 : decode cX9_clear 23 = .ok (.iload_n 1, 1) := by decide +kernel
theorem dX9_clear_24 : decode cX9_clear 24 = .ok (.iaload, 1) := by decide +kernel
theorem dX9_clear_25 : decode cX9_clear 25 = .ok (.istore_n 2, 1) := by decide +kernel
theorem dX9_clear_26 : decode cX9_clear 26 = .ok (.aload_n 0, 1) := by decide +kernel
theorem dX9_clear_27 : decode cX9_clear 27 = .ok (.getfield 13, 3) := by decide +kernel
theorem dX9_clear_30 : decode cX9_clear 30 = .ok (.iload_n 1, 1) := by decide +kernel
theorem dX9_clear_31 : decode cX9_clear 31 = .ok (.iconst 0, 1) := by decide +kernel
theorem dX9_clear_32 : decode cX9_clear 32 = .ok (.iastore, 1) := by decide +kernel
theorem dX9_clear_33 : decode cX9_clear 33 = .ok (.aload_n 0, 1) := by decide +kernel
theorem dX9_clear_34 : decode cX9_clear 34 = .ok (.iload_n 1, 1) := by decide +kernel
theorem dX9_clear_35 : decode cX9_clear 35 = .ok (.iconst 0, 1) := by decide +kernel
theorem dX9_clear_36 : decode cX9_clear 36 = .ok (.iconst (-1), 1) := by decide +kernel
theorem dX9_clear_37 : decode cX9_clear 37 = .ok (.iconst (-1), 1) := by decide +kernel
theorem dX9_clear_38 : decode cX9_clear 38 = .ok (.invokevirtual 115, 3) := by decide +kernel
theorem dX9_clear_41 : decode cX9_clear 41 = .ok (.pop, 1) := by decide +kernel
theorem dX9_clear_42 : decode cX9_clear 42 = .ok (.iload_n 2, 1) := by decide +kernel
theorem dX9_clear_43 : decode cX9_clear 43 = .ok (.ireturn, 1) := by decide +kernel
theorem dX9_blockCount_0 : decode cX9_blockCount 0 = .ok (.aload_n 0, 1) := by decide +kernel
theorem dX9_blockCount_1 : decode cX9_blockCount 1 = .ok (.iconst 0, 1) := by decide +kernel
theorem dX9_blockCount_2 : decode cX9_blockCount 2 = .ok (.putfield 87, 3) := by decide +kernel
theorem dX9_blockCount_5 : decode cX9_blockCount 5 = .ok (.aload_n 0, 1) := by decide +kernel
theorem dX9_blockCount_6 : decode cX9_blockCount 6 = .ok (.getfield 7, 3) := by decide +kernel
theorem dX9_blockCount_9 : decode cX9_blockCount 9 = .ok (.ireturn, 1) := by decide +kernel
set_option maxRecDepth 20000 in
theorem ggX9_setEffort_X9_fail : GoodIn wsX9_setEffort wsX9_fail := goodIn_r _ [9, 1, 10, 11, 12, 13, 14, 15, 16, 17, 18, 19, 20, 21, 22, 23, 24, 25, 26, 27, 28, 29, 30, 31, 32, 33, 34, 35, 36, 37, 38, 39, 40] (by decide +kernel) (by decide +kernel)
set_option maxRecDepth 20000 in
theorem gX9_setEffort_X9_fail : GoodIn wsX9_setEffort (wsV RX9 92 RX9 yX9_fail wsX9_fail) := goodIn_app (goodIn_of _ (by decide +kernel)) ggX9_setEffort_X9_fail
theorem dX9_setEffort_0 : decode cX9_setEffort 0 = .ok (.aload_n 0, 1) := by decide +kernel
theorem dX9_setEffort_1 : decode cX9_setEffort 1 = .ok (.iconst 0, 1) := by decide +kernel
theorem dX9_setEffort_2 : decode cX9_setEffort 2 = .ok (.putfield 87, 3) := by decide +kernel
theorem dX9_setEffort_5 : decode cX9_setEffort 5 = .ok (.iload_n 1, 1) := by decide +kernel
theorem dX9_setEffort_6 : decode cX9_setEffort 6 = .ok (.ifCond .lt 18, 3) := by decide +kernel
theorem dX9_setEffort_9 : decode cX9_setEffort 9 = .ok (.iload_n 1, 1) := by decide +kernel
theorem dX9_setEffort_10 : decode cX9_setEffort 10 = .ok (.bipush 10, 2) := by decide +kernel
theorem dX9_setEffort_12 : decode cX9_setEffort 12 = .ok (.if_icmp .gt 12, 3) := by decide +kernel
theorem dX9_setEffort_15 : decode cX9_setEffort 15 = .ok (.iload_n 2, 1) := by decide +kernel
theorem dX9_setEffort_16 : decode cX9_setEffort 16 = .ok (.ifCond .lt 8, 3) := by decide +kernel
theorem dX9_setEffort_19 : decode cX9_setEffort 19 = .ok (.iload_n 2, 1) := by decide +kernel
theorem dX9_setEffort_20 : decode cX9_setEffort 20 = .ok (.iconst 5, 1) := by decide +kernel
theorem dX9_setEffort_21 : decode cX9_setEffort 21 = .ok (.if_icmp .le 17, 3) := by decide +kernel
theorem dX9_setEffort_24 : decode cX9_setEffort 24 = .ok (.aload_n 0, 1) := by decide +kernel
theorem dX9_setEffort_25 : decode cX9_setEffort 25 = .ok (.iconst 1, 1) := by decide +kernel
theorem dX9_setEffort_26 : decode cX9_setEffort 26 = .ok (.invokevirtual 92, 3) := by decide +kernel
theorem dX9_setEffort_29 : decode cX9_setEffort 29 = .ok (.ifCond .eq 7, 3) := by decide +kernel
theorem dX9_setEffort_32 : decode cX9_setEffort 32 = .ok (.iconst 1, 1) := by decide +kernel
theorem dX9_setEffort_33 : decode cX9_setEffort 33 = .ok (.goto 4, 3) := by decide +kernel
theorem dX9_setEffort_36 : decode cX9_setEffort 36 = .ok (.iconst 0, 1) := by decide +kernel
theorem dX9_setEffort_37 : decode cX9_setEffort 37 = .ok (.ireturn, 1) := by decide +kernel
theorem dX9_setEffort_38 : decode cX9_setEffort 38 = .ok (.aload_n 0, 1) := by decide +kernel
theorem dX9_setEffort_39 : decode cX9_setEffort 39 = .ok (.getfield 44, 3) := by decide +kernel
theorem dX9_setEffort_42 : decode cX9_setEffort 42 = .ok (.iload_n 1, 1) := by decide +kernel
theorem dX9_setEffort_43 : decode cX9_setEffort 43 = .ok (.if_icmp .ne 11, 3) := by decide +kernel
theorem dX9_setEffort_46 : decode cX9_setEffort 46 = .ok (.aload_n 0, 1) := by decide +kernel
theorem dX9_setEffort_47 : decode cX9_setEffort 47 = .ok (.getfield 47, 3) := by decide +kernel
theorem dX9_setEffort_50 : decode cX9_setEffort 50 = .ok (.iload_n 2, 1) := by decide +kernel
theorem dX9_setEffort_51 : decode cX9_setEffort 51 = .ok (.if_icmp .eq 7, 3) := by decide +kernel
theorem dX9_setEffort_54 : decode cX9_setEffort 54 = .ok (.iconst 1, 1) := by decide +kernel
theorem dX9_setEffort_55 : decode cX9_setEffort 55 = .ok (.goto 4, 3) := by decide +kernel
theorem dX9_setEffort_58 : decode cX9_setEffort 58 = .ok (.iconst 0, 1) := by decide +kernel
theorem dX9_setEffort_59 : decode cX9_setEffort 59 = .ok (.istore_n 3, 1) := by decide +kernel
theorem dX9_setEffort_60 : decode cX9_setEffort 60 = .ok (.aload_n 0, 1) := by decide +kernel
theorem dX9_setEffort_61 : decode cX9_setEffort 61 = .ok (.iload_n 1, 1) := by decide +kernel
theorem dX9_setEffort_62 : decode cX9_setEffort 62 = .ok (.putfield 44, 3) := by decide +kernel
theorem dX9_setEffort_65 : decode cX9_setEffort 65 = .ok (.aload_n 0, 1) := by decide +kernel
theorem dX9_setEffort_66 : decode cX9_setEffort 66 = .ok (.iload_n 2, 1) := by decide +kernel
theorem dX9_setEffort_67 : decode cX9_setEffort 67 = .ok (.putfield 47, 3) := by decide +kernel
theorem dX9_setEffort_70 : decode cX9_setEffort 70 = .ok (.aload_n 0, 1) := by decide +kernel
theorem dX9_setEffort_71 : decode cX9_setEffort 71 = .ok (.iconst 0, 1) := by decide +kernel
theorem dX9_setEffort_72 : decode cX9_setEffort 72 = .ok (.putfield 96, 3) := by decide +kernel
theorem dX9_setEffort_75 : decode cX9_setEffort 75 = .ok (.iload_n 3, 1) := by decide +kernel
theorem dX9_setEffort_76 : decode cX9_setEffort 76 = .ok (.ireturn, 1) := by decide +kernel
set_option maxRecDepth 20000 in
theorem ggX9_addThreshold_X9_fail : GoodIn wsX9_addThreshold wsX9_fail := goodIn_r _ [11, 1, 12, 13, 14, 15, 16, 17, 18, 19, 20, 21, 22, 23, 24, 25, 26, 27, 28, 29, 30, 31, 32, 33, 34, 35, 36, 37, 38, 39, 40, 41, 42] (by decide +kernel) (by decide +kernel)
set_option maxRecDepth 20000 in
theorem gX9_addThreshold_X9_fail : GoodIn wsX9_addThreshold (wsV RX9 92 RX9 yX9_fail wsX9_fail) := goodIn_app (goodIn_of _ (by decide +kernel)) ggX9_addThreshold_X9_fail
theorem dX9_addThreshold_0 : decode cX9_addThreshold 0 = .ok (.aload_n 0, 1) := by decide +kernel
theorem dX9_addThreshold_1 : decode cX9_addThreshold 1 = .ok (.iconst 0, 1) := by decide +kernel
theorem dX9_addThreshold_2 : decode cX9_addThreshold 2 = .ok (.putfield 87, 3) := by decide +kernel
theorem dX9_addThreshold_5 : decode cX9_addThreshold 5 = .ok (.iload_n 1, 1) := by decide +kernel
theorem dX9_addThreshold_6 : decode cX9_addThreshold 6 = .ok (.ldc 90, 2) := by decide +kernel
theorem dX9_addThreshold_8 : decode cX9_addThreshold 8 = .ok (.if_icmp .le 9, 3) := by decide +kernel
theorem dX9_addThreshold_11 : decode cX9_addThreshold 11 = .ok (.iload_n 1, 1) := by decide +kernel
theorem dX9_addThreshold_12 : decode cX9_addThreshold 12 = .ok (.ldc 91, 2) := by decide +kernel
theorem dX9_addThreshold_14 : decode cX9_addThreshold 14 = .ok (.if_icmp .lt 9, 3) := by decide +kernel
theorem dX9_addThreshold_17 : decode cX9_addThreshold 17 = .ok (.aload_n 0, 1) := by decide +kernel
theorem dX9_addThreshold_18 : decode cX9_addThreshold 18 = .ok (.iconst 1, 1) := by decide +kernel
theorem dX9_addThreshold_19 : decode cX9_addThreshold 19 = .ok (.invokevirtual 92, 3) := by decide +kernel
theorem dX9_addThreshold_22 : decode cX9_addThreshold 22 = .ok (.ireturn, 1) := by decide +kernel
theorem dX9_addThreshold_23 : decode cX9_addThreshold 23 = .ok (.aload_n 0, 1) := by decide +kernel
theorem dX9_addThreshold_24 : decode cX9_addThreshold 24 = .ok (.getfield 119, 3) := by decide +kernel
theorem dX9_addThreshold_27 : decode cX9_addThreshold 27 = .ok (.bipush 8, 2) := by decide +kernel
theorem dX9_addThreshold_29 : decode cX9_addThreshold 29 = .ok (.if_icmp .ne 9, 3) := by decide +kernel
theorem dX9_addThreshold_32 : decode cX9_addThreshold 32 = .ok (.aload_n 0, 1) := by decide +kernel
theorem dX9_addThreshold_33 : decode cX9_addThreshold 33 = .ok (.iconst 2, 1) := by decide +kernel
theorem dX9_addThreshold_34 : decode cX9_addThreshold 34 = .ok (.invokevirtual 92, 3) := by decide +kernel
theorem dX9_addThreshold_37 : decode cX9_addThreshold 37 = .ok (.ireturn, 1) := by decide +kernel
theorem dX9_addThreshold_38 : decode cX9_addThreshold 38 = .ok (.iconst 1, 1) := by decide +kernel
theorem dX9_addThreshold_39 : decode cX9_addThreshold 39 = .ok (.istore_n 2, 1) := by decide +kernel
theorem dX9_addThreshold_40 : decode cX9_addThreshold 40 = .ok (.iconst 0, 1) := by decide +kernel
theorem dX9_addThreshold_41 : decode cX9_addThreshold 41 = .ok (.istore_n 3, 1) := by decide +kernel
theorem dX9_addThreshold_42 : decode cX9_addThreshold 42 = .ok (.iload_n 3, 1) := by decide +kernel
theorem dX9_addThreshold_43 : decode cX9_addThreshold 43 = .ok (.aload_n 0, 1) := by decide +kernel
theorem dX9_addThreshold_44 : decode cX9_addThreshold 44 = .ok (.getfield 119, 3) := by decide +kernel
theorem dX9_addThreshold_47 : decode cX9_addThreshold 47 = .ok (.if_icmp .ge 29, 3) := by decide +kernel
theorem dX9_addThreshold_50 : decode cX9_addThreshold 50 = .ok (.iload_n 2, 1) := by decide +kernel
theorem dX9_addThreshold_51 : decode cX9_addThreshold 51 = .ok (.ifCond .eq 17, 3) := by decide +kernel
theorem dX9_addThreshold_54 : decode cX9_addThreshold 54 = .ok (.aload_n 0, 1) := by decide +kernel
theorem dX9_addThreshold_55 : decode cX9_addThreshold 55 = .ok (.getfield 50, 3) := by decide +kernel
theorem dX9_addThreshold_58 : decode cX9_addThreshold 58 = .ok (.iload_n 3, 1) := by decide +kernel
theorem dX9_addThreshold_59 : decode cX9_addThreshold 59 = .ok (.iaload, 1) := by decide +kernel
theorem dX9_addThreshold_60 : decode cX9_addThreshold 60 = .ok (.iload_n 1, 1) := by decide +kernel
theorem dX9_addThreshold_61 : decode cX9_addThreshold 61 = .ok (.if_icmp .eq 7, 3) := by decide +kernel
theorem dX9_addThreshold_64 : decode cX9_addThreshold 64 = .ok (.iconst 1, 1) := by decide +kernel
theorem dX9_addThreshold_65 : decode cX9_addThreshold 65 = .ok (.goto 4, 3) := by decide +kernel
theorem dX9_addThreshold_68 : decode cX9_addThreshold 68 = .ok (.iconst 0, 1) := by decide +kernel
theorem dX9_addThreshold_69 : decode cX9_addThreshold 69 = .ok (.istore_n 2, 1) := by decide +kernel
theorem dX9_addThreshold_70 : decode cX9_addThreshold 70 = .ok (.iinc 3 1, 3) := by decide +kernel
theorem dX9_addThreshold_73 : decode cX9_addThreshold 73 = .ok (.goto (-31), 3) := by decide +kernel
theorem dX9_addThreshold_76 : decode cX9_addThreshold 76 = .ok (.aload_n 0, 1) := by decide +kernel
theorem dX9_addThreshold_77 : decode cX9_addThreshold 77 = .ok (.getfield 50, 3) := by decide +kernel
theorem dX9_addThreshold_80 : decode cX9_addThreshold 80 = .ok (.aload_n 0, 1) := by decide +kernel
theorem dX9_addThreshold_81 : decode cX9_addThreshold 81 = .ok (.getfield 119, 3) := by decide +kernel
theorem dX9_addThreshold_84 : decode cX9_addThreshold 84 = .ok (.iload_n 1, 1) := by decide +kernel
theorem dX9_addThreshold_85 : decode cX9_addThreshold 85 = .ok (.iastore, 1) := by decide +kernel
theorem dX9_addThreshold_86 : decode cX9_addThreshold 86 = .ok (.aload_n 0, 1) := by decide +kernel
theorem dX9_addThreshold_87 : decode cX9_addThreshold 87 = .ok (.dup, 1) := by decide +kernel
theorem dX9_addThreshold_88 : decode cX9_addThreshold 88 = .ok (.getfield 119, 3) := by decide +kernel
theorem dX9_addThreshold_91 : decode cX9_addThreshold 91 = .ok (.iload_n 2, 1) := by decide +kernel
theorem dX9_addThreshold_92 : decode cX9_addThreshold 92 = .ok (.ifCond .eq 7, 3) := by decide +kernel
theorem dX9_addThreshold_95 : decode cX9_addThreshold 95 = .ok (.iconst 1, 1) := by decide +kernel
theorem dX9_addThreshold_96 : decode cX9_addThreshold 96 = .ok (.goto 4, 3) := by decide +kernel
theorem dX9_addThreshold_99 : decode cX9_addThreshold 99 = .ok (.iconst 0, 1) := by decide +kernel
theorem dX9_addThreshold_100 : decode cX9_addThreshold 100 = .ok (.iadd, 1) := by decide +kernel
theorem dX9_addThreshold_101 : decode cX9_addThreshold 101 = .ok (.putfield 119, 3) := by decide +kernel
theorem dX9_addThreshold_104 : decode cX9_addThreshold 104 = .ok (.aload_n 0, 1) := by decide +kernel
theorem dX9_addThreshold_105 : decode cX9_addThreshold 105 = .ok (.iconst 0, 1) := by decide +kernel
theorem dX9_addThreshold_106 : decode cX9_addThreshold 106 = .ok (.putfield 96, 3) := by decide +kernel
theorem dX9_addThreshold_109 : decode cX9_addThreshold 109 = .ok (.aload_n 0, 1) := by decide +kernel
theorem dX9_addThreshold_110 : decode cX9_addThreshold 110 = .ok (.getfield 119, 3) := by decide +kernel
theorem dX9_addThreshold_113 : decode cX9_addThreshold 113 = .ok (.ireturn, 1) := by decide +kernel
theorem dX9_limited_0 : decode cX9_limited 0 = .ok (.ldc2_w 122, 3) := by decide +kernel
theorem dX9_limited_3 : decode cX9_limited 3 = .ok (.ldc2_w 124, 3) := by decide +kernel
theorem dX9_limited_6 : decode cX9_limited 6 = .ok (.lload_n 0, 1) := by decide +kernel
theorem dX9_limited_7 : decode cX9_limited 7 = .ok (.invokestatic 126, 3) := by decide +kernel
theorem dX9_limited_10 : decode cX9_limited 10 = .ok (.invokestatic 132, 3) := by decide +kernel
theorem dX9_limited_13 : decode cX9_limited 13 = .ok (.l2i, 1) := by decide +kernel
theorem dX9_limited_14 : decode cX9_limited 14 = .ok (.ireturn, 1) := by decide +kernel
set_option maxRecDepth 20000 in
theorem ggX9_set_X9_limited : GoodIn wsX9_set wsX9_limited := goodIn_r _ [6, 7, 8, 9, 10, 11, 12, 13, 14, 15] (by decide +kernel) (by decide +kernel)
set_option maxRecDepth 20000 in
theorem gX9_set_X9_limited : GoodIn wsX9_set (va_wsS RX9 135 yX9_limited wsX9_limited) := goodIn_app (goodIn_of _ (by decide +kernel)) ggX9_set_X9_limited
theorem dX9_set_0 : decode cX9_set 0 = .ok (.aload_n 0, 1) := by decide +kernel
theorem dX9_set_1 : decode cX9_set 1 = .ok (.getfield 66, 3) := by decide +kernel
theorem dX9_set_4 : decode cX9_set 4 = .ok (.iload_n 1, 1) := by decide +kernel
theorem dX9_set_5 : decode cX9_set 5 = .ok (.lload_n 2, 1) := by decide +kernel
theorem dX9_set_6 : decode cX9_set 6 = .ok (.invokestatic 135, 3) := by decide +kernel
theorem dX9_set_9 : decode cX9_set 9 = .ok (.iastore, 1) := by decide +kernel
theorem dX9_set_10 : decode cX9_set 10 = .ok (.aload_n 0, 1) := by decide +kernel
theorem dX9_set_11 : decode cX9_set 11 = .ok (.getfield 69, 3) := by decide +kernel
theorem dX9_set_14 : decode cX9_set 14 = .ok (.iload_n 1, 1) := by decide +kernel
theorem dX9_set_15 : decode cX9_set 15 = .ok (.lload 4, 2) := by decide +kernel
theorem dX9_set_17 : decode cX9_set 17 = .ok (.invokestatic 135, 3) := by decide +kernel
theorem dX9_set_20 : decode cX9_set 20 = .ok (.iastore, 1) := by decide +kernel
theorem dX9_set_21 : decode cX9_set 21 = .ok (.return_, 1) := by decide +kernel
set_option maxRecDepth 20000 in
theorem ggX9_product_X9_set : GoodIn wsX9_product wsX9_set := goodIn_r _ [14, 1, 2, 15, 16, 13, 17, 18, 19, 3, 4, 5, 6, 7, 8, 9, 20, 21, 22, 23, 24, 25, 26, 27, 28, 29, 30, 31, 32, 33, 34, 35, 36, 37, 38, 39, 40, 41, 42, 43, 44, 45, 46, 47, 48, 49, 50] (by decide +kernel) (by decide +kernel)
set_option maxRecDepth 20000 in
theorem gX9_product_X9_set : GoodIn wsX9_product (wsV RX9 139 RX9 yX9_set wsX9_set) := goodIn_app (goodIn_of _ (by decide +kernel)) ggX9_product_X9_set
theorem dX9_product_0 : decode cX9_product 0 = .ok (.aload_n 0, 1) := by decide +kernel
theorem dX9_product_1 : decode cX9_product 1 = .ok (.getfield 66, 3) := by decide +kernel
theorem dX9_product_4 : decode cX9_product 4 = .ok (.iload_n 2, 1) := by decide +kernel
theorem dX9_product_5 : decode cX9_product 5 = .ok (.iaload, 1) := by decide +kernel
theorem dX9_product_6 : decode cX9_product 6 = .ok (.i2l, 1) := by decide +kernel
theorem dX9_product_7 : decode cX9_product 7 = .ok (.aload_n 0, 1) := by decide +kernel
theorem dX9_product_8 : decode cX9_product 8 = .ok (.getfield 66, 3) := by decide +kernel
theorem dX9_product_11 : decode cX9_product 11 = .ok (.iload_n 3, 1) := by decide +kernel
theorem dX9_product_12 : decode cX9_product 12 = .ok (.iaload, 1) := by decide +kernel
theorem dX9_product_13 : decode cX9_product 13 = .ok (.i2l, 1) := by decide +kernel
theorem dX9_product_14 : decode cX9_product 14 = .ok (.lmul, 1) := by decide +kernel
theorem dX9_product_15 : decode cX9_product 15 = .ok (.lstore 4, 2) := by decide +kernel
theorem dX9_product_17 : decode cX9_product 17 = .ok (.aload_n 0, 1) := by decide +kernel
theorem dX9_product_18 : decode cX9_product 18 = .ok (.getfield 66, 3) := by decide +kernel
theorem dX9_product_21 : decode cX9_product 21 = .ok (.iload_n 2, 1) := by decide +kernel
theorem dX9_product_22 : decode cX9_product 22 = .ok (.iaload, 1) := by decide +kernel
theorem dX9_product_23 : decode cX9_product 23 = .ok (.i2l, 1) := by decide +kernel
theorem dX9_product_24 : decode cX9_product 24 = .ok (.aload_n 0, 1) := by decide +kernel
theorem dX9_product_25 : decode cX9_product 25 = .ok (.getfield 69, 3) := by decide +kernel
theorem dX9_product_28 : decode cX9_product 28 = .ok (.iload_n 3, 1) := by decide +kernel
theorem dX9_product_29 : decode cX9_product 29 = .ok (.iaload, 1) := by decide +kernel
theorem dX9_product_30 : decode cX9_product 30 = .ok (.i2l, 1) := by decide +kernel
theorem dX9_product_31 : decode cX9_product 31 = .ok (.lmul, 1) := by decide +kernel
theorem dX9_product_32 : decode cX9_product 32 = .ok (.lstore 6, 2) := by decide +kernel
theorem dX9_product_34 : decode cX9_product 34 = .ok (.aload_n 0, 1) := by decide +kernel
theorem dX9_product_35 : decode cX9_product 35 = .ok (.getfield 69, 3) := by decide +kernel
theorem dX9_product_38 : decode cX9_product 38 = .ok (.iload_n 2, 1) := by decide +kernel
theorem dX9_product_39 : decode cX9_product 39 = .ok (.iaload, 1) := by decide +kernel
theorem dX9_product_40 : decode cX9_product 40 = .ok (.i2l, 1) := by decide +kernel
theorem dX9_product_41 : decode cX9_product 41 = .ok (.aload_n 0, 1) := by decide +kernel
theorem dX9_product_42 : decode cX9_product 42 = .ok (.getfield 66, 3) := by decide +kernel
theorem dX9_product_45 : decode cX9_product 45 = .ok (.iload_n 3, 1) := by decide +kernel
theorem dX9_product_46 : decode cX9_product 46 = .ok (.iaload, 1) := by decide +kernel
theorem dX9_product_47 : decode cX9_product 47 = .ok (.i2l, 1) := by decide +kernel
theorem dX9_product_48 : decode cX9_product 48 = .ok (.lmul, 1) := by decide +kernel
theorem dX9_product_49 : decode cX9_product 49 = .ok (.lstore 8, 2) := by decide +kernel
theorem dX9_product_51 : decode cX9_product 51 = .ok (.aload_n 0, 1) := by decide +kernel
theorem dX9_product_52 : decode cX9_product 52 = .ok (.getfield 69, 3) := by decide +kernel
theorem dX9_product_55 : decode cX9_product 55 = .ok (.iload_n 2, 1) := by decide +kernel
theorem dX9_product_56 : decode cX9_product 56 = .ok (.iaload, 1) := by decide +kernel
theorem dX9_product_57 : decode cX9_product 57 = .ok (.i2l, 1) := by decide +kernel
theorem dX9_product_58 : decode cX9_product 58 = .ok (.aload_n 0, 1) := by decide +kernel
theorem dX9_product_59 : decode cX9_product 59 = .ok (.getfield 69, 3) := by decide +kernel
theorem dX9_product_62 : decode cX9_product 62 = .ok (.iload_n 3, 1) := by decide +kernel
theorem dX9_product_63 : decode cX9_product 63 = .ok (.iaload, 1) := by decide +kernel
theorem dX9_product_64 : decode cX9_product 64 = .ok (.i2l, 1) := by decide +kernel
theorem dX9_product_65 : decode cX9_product 65 = .ok (.lmul, 1) := by decide +kernel
theorem dX9_product_66 : decode cX9_product 66 = .ok (.lstore 10, 2) := by decide +kernel
theorem dX9_product_68 : decode cX9_product 68 = .ok (.aload_n 0, 1) := by decide +kernel
theorem dX9_product_69 : decode cX9_product 69 = .ok (.iload_n 1, 1) := by decide +kernel
theorem dX9_product_70 : decode cX9_product 70 = .ok (.lload 4, 2) := by decide +kernel
theorem dX9_product_72 : decode cX9_product 72 = .ok (.lload 6, 2) := by decide +kernel
theorem dX9_product_74 : decode cX9_product 74 = .ok (.invokestatic 126, 3) := by decide +kernel
theorem dX9_product_77 : decode cX9_product 77 = .ok (.lload 8, 2) := by decide +kernel
theorem dX9_product_79 : decode cX9_product 79 = .ok (.lload 10, 2) := by decide +kernel
theorem dX9_product_81 : decode cX9_product 81 = .ok (.invokestatic 126, 3) := by decide +kernel
theorem dX9_product_84 : decode cX9_product 84 = .ok (.invokestatic 126, 3) := by decide +kernel
theorem dX9_product_87 : decode cX9_product 87 = .ok (.lload 4, 2) := by decide +kernel
theorem dX9_product_89 : decode cX9_product 89 = .ok (.lload 6, 2) := by decide +kernel
theorem dX9_product_91 : decode cX9_product 91 = .ok (.invokestatic 132, 3) := by decide +kernel
theorem dX9_product_94 : decode cX9_product 94 = .ok (.lload 8, 2) := by decide +kernel
theorem dX9_product_96 : decode cX9_product 96 = .ok (.lload 10, 2) := by decide +kernel
theorem dX9_product_98 : decode cX9_product 98 = .ok (.invokestatic 132, 3) := by decide +kernel
theorem dX9_product_101 : decode cX9_product 101 = .ok (.invokestatic 132, 3) := by decide +kernel
theorem dX9_product_104 : decode cX9_product 104 = .ok (.invokevirtual 139, 3) := by decide +kernel
theorem dX9_product_107 : decode cX9_product 107 = .ok (.return_, 1) := by decide +kernel
set_option maxRecDepth 20000 in
theorem ggX9_apply_X9_set : GoodIn wsX9_apply wsX9_set := goodIn_r _ [15, 2, 3, 16, 17, 14, 18, 19, 20, 21, 22, 6, 23, 24, 25, 26, 31, 32, 33, 34, 35, 36, 37, 38, 39, 40, 41, 42, 43, 44, 45, 46, 47, 48, 49, 50, 51, 52, 53, 54, 55, 56, 57, 58, 59, 60, 61] (by decide +kernel) (by decide +kernel)
set_option maxRecDepth 20000 in
theorem gX9_apply_X9_set : GoodIn wsX9_apply (wsV RX9 139 RX9 yX9_set wsX9_set) := goodIn_app (goodIn_of _ (by decide +kernel)) ggX9_apply_X9_set
set_option maxRecDepth 20000 in
theorem ggX9_apply_X9_product : GoodIn wsX9_apply wsX9_product := goodIn_r _ [30, 2, 3, 21, 22, 6, 23, 24, 25, 26, 11, 12, 13, 14, 15, 16, 17, 18, 19, 20, 31, 32, 33, 34, 35, 36, 37, 38, 39, 40, 41, 42, 43, 44, 45, 46, 47, 48, 49, 50, 51, 52, 53, 54, 55, 56, 57, 58, 59, 60, 61] (by decide +kernel) (by decide +kernel)
set_option maxRecDepth 20000 in
theorem gX9_apply_X9_product : GoodIn wsX9_apply (wsV RX9 143 RX9 yX9_product wsX9_product) := goodIn_app (goodIn_of _ (by decide +kernel)) ggX9_apply_X9_product
theorem dX9_apply_0 : decode cX9_apply 0 = .ok (.aload_n 0, 1) := by decide +kernel
theorem dX9_apply_1 : decode cX9_apply 1 = .ok (.getfield 17, 3) := by decide +kernel
theorem dX9_apply_4 : decode cX9_apply 4 = .ok (.iload_n 1, 1) := by decide +kernel
theorem dX9_apply_5 : decode cX9_apply 5 = .ok (.iconst 1, 1) := by decide +kernel
theorem dX9_apply_6 : decode cX9_apply 6 = .ok (.iadd, 1) := by decide +kernel
theorem dX9_apply_7 : decode cX9_apply 7 = .ok (.iaload, 1) := by decide +kernel
theorem dX9_apply_8 : decode cX9_apply 8 = .ok (.istore_n 2, 1) := by decide +kernel
theorem dX9_apply_9 : decode cX9_apply 9 = .ok (.aload_n 0, 1) := by decide +kernel
theorem dX9_apply_10 : decode cX9_apply 10 = .ok (.getfield 17, 3) := by decide +kernel
theorem dX9_apply_13 : decode cX9_apply 13 = .ok (.iload_n 1, 1) := by decide +kernel
theorem dX9_apply_14 : decode cX9_apply 14 = .ok (.iconst 2, 1) := by decide +kernel
theorem dX9_apply_15 : decode cX9_apply 15 = .ok (.iadd, 1) := by decide +kernel
theorem dX9_apply_16 : decode cX9_apply 16 = .ok (.iaload, 1) := by decide +kernel
theorem dX9_apply_17 : decode cX9_apply 17 = .ok (.istore_n 3, 1) := by decide +kernel
theorem dX9_apply_18 : decode cX9_apply 18 = .ok (.aload_n 0, 1) := by decide +kernel
theorem dX9_apply_19 : decode cX9_apply 19 = .ok (.getfield 17, 3) := by decide +kernel
theorem dX9_apply_22 : decode cX9_apply 22 = .ok (.iload_n 1, 1) := by decide +kernel
theorem dX9_apply_23 : decode cX9_apply 23 = .ok (.iconst 3, 1) := by decide +kernel
theorem dX9_apply_24 : decode cX9_apply 24 = .ok (.iadd, 1) := by decide +kernel
theorem dX9_apply_25 : decode cX9_apply 25 = .ok (.iaload, 1) := by decide +kernel
theorem dX9_apply_26 : decode cX9_apply 26 = .ok (.istore 4, 2) := by decide +kernel
theorem dX9_apply_28 : decode cX9_apply 28 = .ok (.aload_n 0, 1) := by decide +kernel
theorem dX9_apply_29 : decode cX9_apply 29 = .ok (.getfield 17, 3) := by decide +kernel
theorem dX9_apply_32 : decode cX9_apply 32 = .ok (.iload_n 1, 1) := by decide +kernel
theorem dX9_apply_33 : decode cX9_apply 33 = .ok (.iaload, 1) := by decide +kernel
theorem dX9_apply_34 : decode cX9_apply 34 = .ok (.tableswitch 235 0 5 #[38, 60, 100, 140, 151, 193], 38) := by decide +kernel
theorem dX9_apply_72 : decode cX9_apply 72 = .ok (.aload_n 0, 1) := by decide +kernel
theorem dX9_apply_73 : decode cX9_apply 73 = .ok (.iload_n 2, 1) := by decide +kernel
theorem dX9_apply_74 : decode cX9_apply 74 = .ok (.aload_n 0, 1) := by decide +kernel
theorem dX9_apply_75 : decode cX9_apply 75 = .ok (.getfield 66, 3) := by decide +kernel
theorem dX9_apply_78 : decode cX9_apply 78 = .ok (.iload_n 3, 1) := by decide +kernel
theorem dX9_apply_79 : decode cX9_apply 79 = .ok (.iaload, 1) := by decide +kernel
theorem dX9_apply_80 : decode cX9_apply 80 = .ok (.i2l, 1) := by decide +kernel
theorem dX9_apply_81 : decode cX9_apply 81 = .ok (.aload_n 0, 1) := by decide +kernel
theorem dX9_apply_82 : decode cX9_apply 82 = .ok (.getfield 69, 3) := by decide +kernel
theorem dX9_apply_85 : decode cX9_apply 85 = .ok (.iload_n 3, 1) := by decide +kernel
theorem dX9_apply_86 : decode cX9_apply 86 = .ok (.iaload, 1) := by decide +kernel
theorem dX9_apply_87 : decode cX9_apply 87 = .ok (.i2l, 1) := by decide +kernel
theorem dX9_apply_88 : decode cX9_apply 88 = .ok (.invokevirtual 139, 3) := by decide +kernel
theorem dX9_apply_91 : decode cX9_apply 91 = .ok (.goto 188, 3) := by decide +kernel
theorem dX9_apply_94 : decode cX9_apply 94 = .ok (.aload_n 0, 1) := by decide +kernel
theorem dX9_apply_95 : decode cX9_apply 95 = .ok (.iload_n 2, 1) := by decide +kernel
theorem dX9_apply_96 : decode cX9_apply 96 = .ok (.aload_n 0, 1) := by decide +kernel
theorem dX9_apply_97 : decode cX9_apply 97 = .ok (.getfield 66, 3) := by decide +kernel
theorem dX9_apply_100 : decode cX9_apply 100 = .ok (.iload_n 3, 1) := by decide +kernel
theorem dX9_apply_101 : decode cX9_apply 101 = .ok (.iaload, 1) := by decide +kernel
theorem dX9_apply_102 : decode cX9_apply 102 = .ok (.i2l, 1) := by decide +kernel
theorem dX9_apply_103 : decode cX9_apply 103 = .ok (.aload_n 0, 1) := by decide +kernel
theorem dX9_apply_104 : decode cX9_apply 104 = .ok (.getfield 66, 3) := by decide +kernel
theorem dX9_apply_107 : decode cX9_apply 107 = .ok (.iload 4, 2) := by decide +kernel
theorem dX9_apply_109 : decode cX9_apply 109 = .ok (.iaload, 1) := by decide +kernel
theorem dX9_apply_110 : decode cX9_apply 110 = .ok (.i2l, 1) := by decide +kernel
theorem dX9_apply_111 : decode cX9_apply 111 = .ok (.ladd, 1) := by decide +kernel
theorem dX9_apply_112 : decode cX9_apply 112 = .ok (.aload_n 0, 1) := by decide +kernel
theorem dX9_apply_113 : decode cX9_apply 113 = .ok (.getfield 69, 3) := by decide +kernel
theorem dX9_apply_116 : decode cX9_apply 116 = .ok (.iload_n 3, 1) := by decide +kernel
theorem dX9_apply_117 : decode cX9_apply 117 = .ok (.iaload, 1) := by decide +kernel
theorem dX9_apply_118 : decode cX9_apply 118 = .ok (.i2l, 1) := by decide +kernel
theorem dX9_apply_119 : decode cX9_apply 119 = .ok (.aload_n 0, 1) := by decide +kernel
theorem dX9_apply_120 : decode cX9_apply 120 = .ok (.getfield 69, 3) := by decide +kernel
theorem dX9_apply_123 : decode cX9_apply 123 = .ok (.iload 4, 2) := by decide +kernel
theorem dX9_apply_125 : decode cX9_apply 125 = .ok (.iaload, 1) := by decide +kernel
theorem dX9_apply_126 : decode cX9_apply 126 = .ok (.i2l, 1) := by decide +kernel
theorem dX9_apply_127 : decode cX9_apply 127 = .ok (.ladd, 1) := by decide +kernel
theorem dX9_apply_128 : decode cX9_apply 128 = .ok (.invokevirtual 139, 3) := by decide +kernel
theorem dX9_apply_131 : decode cX9_apply 131 = .ok (.goto 148, 3) := by decide +kernel
theorem dX9_apply_134 : decode cX9_apply 134 = .ok (.aload_n 0, 1) := by decide +kernel
theorem dX9_apply_135 : decode cX9_apply 135 = .ok (.iload_n 2, 1) := by decide +kernel
theorem dX9_apply_136 : decode cX9_apply 136 = .ok (.aload_n 0, 1) := by decide +kernel
theorem dX9_apply_137 : decode cX9_apply 137 = .ok (.getfield 66, 3) := by decide +kernel
theorem dX9_apply_140 : decode cX9_apply 140 = .ok (.iload_n 3, 1) := by decide +kernel
theorem dX9_apply_141 : decode cX9_apply 141 = .ok (.iaload, 1) := by decide +kernel
theorem dX9_apply_142 : decode cX9_apply 142 = .ok (.i2l, 1) := by decide +kernel
theorem dX9_apply_143 : decode cX9_apply 143 = .ok (.aload_n 0, 1) := by decide +kernel
theorem dX9_apply_144 : decode cX9_apply 144 = .ok (.getfield 69, 3) := by decide +kernel
theorem dX9_apply_147 : decode cX9_apply 147 = .ok (.iload 4, 2) := by decide +kernel
theorem dX9_apply_149 : decode cX9_apply 149 = .ok (.iaload, 1) := by decide +kernel
theorem dX9_apply_150 : decode cX9_apply 150 = .ok (.i2l, 1) := by decide +kernel
theorem dX9_apply_151 : decode cX9_apply 151 = .ok (.lsub, 1) := by decide +kernel
theorem dX9_apply_152 : decode cX9_apply 152 = .ok (.aload_n 0, 1) := by decide +kernel
theorem dX9_apply_153 : decode cX9_apply 153 = .ok (.getfield 69, 3) := by decide +kernel
theorem dX9_apply_156 : decode cX9_apply 156 = .ok (.iload_n 3, 1) := by decide +kernel
theorem dX9_apply_157 : decode cX9_apply 157 = .ok (.iaload, 1) := by decide +kernel
theorem dX9_apply_158 : decode cX9_apply 158 = .ok (.i2l, 1) := by decide +kernel
theorem dX9_apply_159 : decode cX9_apply 159 = .ok (.aload_n 0, 1) := by decide +kernel
theorem dX9_apply_160 : decode cX9_apply 160 = .ok (.getfield 66, 3) := by decide +kernel
theorem dX9_apply_163 : decode cX9_apply 163 = .ok (.iload 4, 2) := by decide +kernel
theorem dX9_apply_165 : decode cX9_apply 165 = .ok (.iaload, 1) := by decide +kernel
theorem dX9_apply_166 : decode cX9_apply 166 = .ok (.i2l, 1) := by decide +kernel
theorem dX9_apply_167 : decode cX9_apply 167 = .ok (.lsub, 1) := by decide +kernel
theorem dX9_apply_168 : decode cX9_apply 168 = .ok (.invokevirtual 139, 3) := by decide +kernel
theorem dX9_apply_171 : decode cX9_apply 171 = .ok (.goto 108, 3) := by decide +kernel
theorem dX9_apply_174 : decode cX9_apply 174 = .ok (.aload_n 0, 1) := by decide +kernel
theorem dX9_apply_175 : decode cX9_apply 175 = .ok (.iload_n 2, 1) := by decide +kernel
theorem dX9_apply_176 : decode cX9_apply 176 = .ok (.iload_n 3, 1) := by decide +kernel
theorem dX9_apply_177 : decode cX9_apply 177 = .ok (.iload 4, 2) := by decide +kernel
theorem dX9_apply_179 : decode cX9_apply 179 = .ok (.invokevirtual 143, 3) := by decide +kernel
theorem dX9_apply_182 : decode cX9_apply 182 = .ok (.goto 97, 3) := by decide +kernel
theorem dX9_apply_185 : decode cX9_apply 185 = .ok (.aload_n 0, 1) := by decide +kernel
theorem dX9_apply_186 : decode cX9_apply 186 = .ok (.iload_n 2, 1) := by decide +kernel
theorem dX9_apply_187 : decode cX9_apply 187 = .ok (.aload_n 0, 1) := by decide +kernel
theorem dX9_apply_188 : decode cX9_apply 188 = .ok (.getfield 66, 3) := by decide +kernel
theorem dX9_apply_191 : decode cX9_apply 191 = .ok (.iload_n 3, 1) := by decide +kernel
theorem dX9_apply_192 : decode cX9_apply 192 = .ok (.iaload, 1) := by decide +kernel
theorem dX9_apply_193 : decode cX9_apply 193 = .ok (.aload_n 0, 1) := by decide +kernel
theorem dX9_apply_194 : decode cX9_apply 194 = .ok (.getfield 66, 3) := by decide +kernel
theorem dX9_apply_197 : decode cX9_apply 197 = .ok (.iload 4, 2) := by decide +kernel
theorem dX9_apply_199 : decode cX9_apply 199 = .ok (.iaload, 1) := by decide +kernel
theorem dX9_apply_200 : decode cX9_apply 200 = .ok (.invokestatic 147, 3) := by decide +kernel
theorem dX9_apply_203 : decode cX9_apply 203 = .ok (.i2l, 1) := by decide +kernel
theorem dX9_apply_204 : decode cX9_apply 204 = .ok (.aload_n 0, 1) := by decide +kernel
theorem dX9_apply_205 : decode cX9_apply 205 = .ok (.getfield 69, 3) := by decide +kernel
theorem dX9_apply_208 : decode cX9_apply 208 = .ok (.iload_n 3, 1) := by decide +kernel
theorem dX9_apply_209 : decode cX9_apply 209 = .ok (.iaload, 1) := by decide +kernel
theorem dX9_apply_210 : decode cX9_apply 210 = .ok (.aload_n 0, 1) := by decide +kernel
theorem dX9_apply_211 : decode cX9_apply 211 = .ok (.getfield 69, 3) := by decide +kernel
theorem dX9_apply_214 : decode cX9_apply 214 = .ok (.iload 4, 2) := by decide +kernel
theorem dX9_apply_216 : decode cX9_apply 216 = .ok (.iaload, 1) := by decide +kernel
theorem dX9_apply_217 : decode cX9_apply 217 = .ok (.invokestatic 147, 3) := by decide +kernel
theorem dX9_apply_220 : decode cX9_apply 220 = .ok (.i2l, 1) := by decide +kernel
theorem dX9_apply_221 : decode cX9_apply 221 = .ok (.invokevirtual 139, 3) := by decide +kernel
theorem dX9_apply_224 : decode cX9_apply 224 = .ok (.goto 55, 3) := by decide +kernel
theorem dX9_apply_227 : decode cX9_apply 227 = .ok (.aload_n 0, 1) := by decide +kernel
theorem dX9_apply_228 : decode cX9_apply 228 = .ok (.iload_n 2, 1) := by decide +kernel
theorem dX9_apply_229 : decode cX9_apply 229 = .ok (.aload_n 0, 1) := by decide +kernel
theorem dX9_apply_230 : decode cX9_apply 230 = .ok (.getfield 66, 3) := by decide +kernel
theorem dX9_apply_233 : decode cX9_apply 233 = .ok (.iload_n 3, 1) := by decide +kernel
theorem dX9_apply_234 : decode cX9_apply 234 = .ok (.iaload, 1) := by decide +kernel
theorem dX9_apply_235 : decode cX9_apply 235 = .ok (.aload_n 0, 1) := by decide +kernel
theorem dX9_apply_236 : decode cX9_apply 236 = .ok (.getfield 66, 3) := by decide +kernel
theorem dX9_apply_239 : decode cX9_apply 239 = .ok (.iload 4, 2) := by decide +kernel
theorem dX9_apply_241 : decode cX9_apply 241 = .ok (.iaload, 1) := by decide +kernel
theorem dX9_apply_242 : decode cX9_apply 242 = .ok (.invokestatic 150, 3) := by decide +kernel
theorem dX9_apply_245 : decode cX9_apply 245 = .ok (.i2l, 1) := by decide +kernel
theorem dX9_apply_246 : decode cX9_apply 246 = .ok (.aload_n 0, 1) := by decide +kernel
theorem dX9_apply_247 : decode cX9_apply 247 = .ok (.getfield 69, 3) := by decide +kernel
theorem dX9_apply_250 : decode cX9_apply 250 = .ok (.iload_n 3, 1) := by decide +kernel
theorem dX9_apply_251 : decode cX9_apply 251 = .ok (.iaload, 1) := by decide +kernel
theorem dX9_apply_252 : decode cX9_apply 252 = .ok (.aload_n 0, 1) := by decide +kernel
theorem dX9_apply_253 : decode cX9_apply 253 = .ok (.getfield 69, 3) := by decide +kernel
theorem dX9_apply_256 : decode cX9_apply 256 = .ok (.iload 4, 2) := by decide +kernel
theorem dX9_apply_258 : decode cX9_apply 258 = .ok (.iaload, 1) := by decide +kernel
theorem dX9_apply_259 : decode cX9_apply 259 = .ok (.invokestatic 150, 3) := by decide +kernel
theorem dX9_apply_262 : decode cX9_apply 262 = .ok (.i2l, 1) := by decide +kernel
theorem dX9_apply_263 : decode cX9_apply 263 = .ok (.invokevirtual 139, 3) := by decide +kernel
theorem dX9_apply_266 : decode cX9_apply 266 = .ok (.goto 13, 3) := by decide +kernel
theorem dX9_apply_269 : decode cX9_apply 269 = .ok (.aload_n 0, 1) := by decide +kernel
theorem dX9_apply_270 : decode cX9_apply 270 = .ok (.iload_n 2, 1) := by decide +kernel
theorem dX9_apply_271 : decode cX9_apply 271 = .ok (.iload_n 3, 1) := by decide +kernel
theorem dX9_apply_272 : decode cX9_apply 272 = .ok (.i2l, 1) := by decide +kernel
theorem dX9_apply_273 : decode cX9_apply 273 = .ok (.iload 4, 2) := by decide +kernel
theorem dX9_apply_275 : decode cX9_apply 275 = .ok (.i2l, 1) := by decide +kernel
theorem dX9_apply_276 : decode cX9_apply 276 = .ok (.invokevirtual 139, 3) := by decide +kernel
theorem dX9_apply_279 : decode cX9_apply 279 = .ok (.return_, 1) := by decide +kernel
set_option maxRecDepth 20000 in
theorem ggX9_leave_X9_apply : GoodIn wsX9_leave wsX9_apply := goodIn_r _ [10, 11, 1, 3, 12, 13, 14, 15, 16, 17, 18, 19, 20, 21, 9, 22, 23, 24, 25, 26, 27, 28, 29, 30, 31, 32, 33, 34, 35, 36, 37, 38, 39, 40, 41, 42, 43, 44, 45, 46, 47, 48, 49, 50, 51, 52, 53, 54, 55, 56, 57, 58, 59, 60, 61, 62, 63, 64, 65, 66, 67, 68] (by decide +kernel) (by decide +kernel)
set_option maxRecDepth 20000 in
theorem gX9_leave_X9_apply : GoodIn wsX9_leave (wsV RX9 152 RX9 yX9_apply wsX9_apply) := goodIn_app (goodIn_of _ (by decide +kernel)) ggX9_leave_X9_apply
theorem dX9_leave_0 : decode cX9_leave 0 = .ok (.iconst 0, 1) := by decide +kernel
theorem dX9_leave_1 : decode cX9_leave 1 = .ok (.istore_n 2, 1) := by decide +kernel
theorem dX9_leave_2 : decode cX9_leave 2 = .ok (.iload_n 2, 1) := by decide +kernel
theorem dX9_leave_3 : decode cX9_leave 3 = .ok (.bipush 6, 2) := by decide +kernel
theorem dX9_leave_5 : decode cX9_leave 5 = .ok (.if_icmp .ge 43, 3) := by decide +kernel
theorem dX9_leave_8 : decode cX9_leave 8 = .ok (.aload_n 0, 1) := by decide +kernel
theorem dX9_leave_9 : decode cX9_leave 9 = .ok (.getfield 66, 3) := by decide +kernel
theorem dX9_leave_12 : decode cX9_leave 12 = .ok (.iload_n 2, 1) := by decide +kernel
theorem dX9_leave_13 : decode cX9_leave 13 = .ok (.aload_n 0, 1) := by decide +kernel
theorem dX9_leave_14 : decode cX9_leave 14 = .ok (.getfield 57, 3) := by decide +kernel
theorem dX9_leave_17 : decode cX9_leave 17 = .ok (.bipush 6, 2) := by decide +kernel
theorem dX9_leave_19 : decode cX9_leave 19 = .ok (.iload_n 1, 1) := by decide +kernel
theorem dX9_leave_20 : decode cX9_leave 20 = .ok (.imul, 1) := by decide +kernel
theorem dX9_leave_21 : decode cX9_leave 21 = .ok (.iload_n 2, 1) := by decide +kernel
theorem dX9_leave_22 : decode cX9_leave 22 = .ok (.iadd, 1) := by decide +kernel
theorem dX9_leave_23 : decode cX9_leave 23 = .ok (.iaload, 1) := by decide +kernel
theorem dX9_leave_24 : decode cX9_leave 24 = .ok (.iastore, 1) := by decide +kernel
theorem dX9_leave_25 : decode cX9_leave 25 = .ok (.aload_n 0, 1) := by decide +kernel
theorem dX9_leave_26 : decode cX9_leave 26 = .ok (.getfield 69, 3) := by decide +kernel
theorem dX9_leave_29 : decode cX9_leave 29 = .ok (.iload_n 2, 1) := by decide +kernel
theorem dX9_leave_30 : decode cX9_leave 30 = .ok (.aload_n 0, 1) := by decide +kernel
theorem dX9_leave_31 : decode cX9_leave 31 = .ok (.getfield 60, 3) := by decide +kernel
theorem dX9_leave_34 : decode cX9_leave 34 = .ok (.bipush 6, 2) := by decide +kernel
theorem dX9_leave_36 : decode cX9_leave 36 = .ok (.iload_n 1, 1) := by decide +kernel
theorem dX9_leave_37 : decode cX9_leave 37 = .ok (.imul, 1) := by decide +kernel
theorem dX9_leave_38 : decode cX9_leave 38 = .ok (.iload_n 2, 1) := by decide +kernel
theorem dX9_leave_39 : decode cX9_leave 39 = .ok (.iadd, 1) := by decide +kernel
theorem dX9_leave_40 : decode cX9_leave 40 = .ok (.iaload, 1) := by decide +kernel
theorem dX9_leave_41 : decode cX9_leave 41 = .ok (.iastore, 1) := by decide +kernel
theorem dX9_leave_42 : decode cX9_leave 42 = .ok (.iinc 2 1, 3) := by decide +kernel
theorem dX9_leave_45 : decode cX9_leave 45 = .ok (.goto (-43), 3) := by decide +kernel
theorem dX9_leave_48 : decode cX9_leave 48 = .ok (.iconst 0, 1) := by decide +kernel
theorem dX9_leave_49 : decode cX9_leave 49 = .ok (.istore_n 2, 1) := by decide +kernel
theorem dX9_leave_50 : decode cX9_leave 50 = .ok (.iload_n 2, 1) := by decide +kernel
theorem dX9_leave_51 : decode cX9_leave 51 = .ok (.aload_n 0, 1) := by decide +kernel
theorem dX9_leave_52 : decode cX9_leave 52 = .ok (.getfield 13, 3) := by decide +kernel
theorem dX9_leave_55 : decode cX9_leave 55 = .ok (.iload_n 1, 1) := by decide +kernel
theorem dX9_leave_56 : decode cX9_leave 56 = .ok (.iaload, 1) := by decide +kernel
theorem dX9_leave_57 : decode cX9_leave 57 = .ok (.if_icmp .ge 21, 3) := by decide +kernel
theorem dX9_leave_60 : decode cX9_leave 60 = .ok (.aload_n 0, 1) := by decide +kernel
theorem dX9_leave_61 : decode cX9_leave 61 = .ok (.iconst 4, 1) := by decide +kernel
theorem dX9_leave_62 : decode cX9_leave 62 = .ok (.bipush 8, 2) := by decide +kernel
theorem dX9_leave_64 : decode cX9_leave 64 = .ok (.iload_n 1, 1) := by decide +kernel
theorem dX9_leave_65 : decode cX9_leave 65 = .ok (.imul, 1) := by decide +kernel
theorem dX9_leave_66 : decode cX9_leave 66 = .ok (.iload_n 2, 1) := by decide +kernel
theorem dX9_leave_67 : decode cX9_leave 67 = .ok (.iadd, 1) := by decide +kernel
theorem dX9_leave_68 : decode cX9_leave 68 = .ok (.imul, 1) := by decide +kernel
theorem dX9_leave_69 : decode cX9_leave 69 = .ok (.invokevirtual 152, 3) := by decide +kernel
theorem dX9_leave_72 : decode cX9_leave 72 = .ok (.iinc 2 1, 3) := by decide +kernel
theorem dX9_leave_75 : decode cX9_leave 75 = .ok (.goto (-25), 3) := by decide +kernel
theorem dX9_leave_78 : decode cX9_leave 78 = .ok (.return_, 1) := by decide +kernel
theorem dX9_opposite_0 : decode cX9_opposite 0 = .ok (.iload_n 0, 1) := by decide +kernel
theorem dX9_opposite_1 : decode cX9_opposite 1 = .ok (.ifCond .ne 7, 3) := by decide +kernel
theorem dX9_opposite_4 : decode cX9_opposite 4 = .ok (.iconst 4, 1) := by decide +kernel
theorem dX9_opposite_5 : decode cX9_opposite 5 = .ok (.goto 22, 3) := by decide +kernel
theorem dX9_opposite_8 : decode cX9_opposite 8 = .ok (.iload_n 0, 1) := by decide +kernel
theorem dX9_opposite_9 : decode cX9_opposite 9 = .ok (.iconst 1, 1) := by decide +kernel
theorem dX9_opposite_10 : decode cX9_opposite 10 = .ok (.if_icmp .ne 7, 3) := by decide +kernel
theorem dX9_opposite_13 : decode cX9_opposite 13 = .ok (.iconst 5, 1) := by decide +kernel
theorem dX9_opposite_14 : decode cX9_opposite 14 = .ok (.goto 13, 3) := by decide +kernel
theorem dX9_opposite_17 : decode cX9_opposite 17 = .ok (.iload_n 0, 1) := by decide +kernel
theorem dX9_opposite_18 : decode cX9_opposite 18 = .ok (.iconst 2, 1) := by decide +kernel
theorem dX9_opposite_19 : decode cX9_opposite 19 = .ok (.if_icmp .ne 7, 3) := by decide +kernel
theorem dX9_opposite_22 : decode cX9_opposite 22 = .ok (.iconst 3, 1) := by decide +kernel
theorem dX9_opposite_23 : decode cX9_opposite 23 = .ok (.goto 4, 3) := by decide +kernel
theorem dX9_opposite_26 : decode cX9_opposite 26 = .ok (.iconst 2, 1) := by decide +kernel
theorem dX9_opposite_27 : decode cX9_opposite 27 = .ok (.ireturn, 1) := by decide +kernel
theorem dX9_refine_0 : decode cX9_refine 0 = .ok (.aload_n 0, 1) := by decide +kernel
theorem dX9_refine_1 : decode cX9_refine 1 = .ok (.getfield 66, 3) := by decide +kernel
theorem dX9_refine_4 : decode cX9_refine 4 = .ok (.iload_n 1, 1) := by decide +kernel
theorem dX9_refine_5 : decode cX9_refine 5 = .ok (.iaload, 1) := by decide +kernel
theorem dX9_refine_6 : decode cX9_refine 6 = .ok (.istore 4, 2) := by decide +kernel
theorem dX9_refine_8 : decode cX9_refine 8 = .ok (.aload_n 0, 1) := by decide +kernel
theorem dX9_refine_9 : decode cX9_refine 9 = .ok (.getfield 69, 3) := by decide +kernel
theorem dX9_refine_12 : decode cX9_refine 12 = .ok (.iload_n 1, 1) := by decide +kernel
theorem dX9_refine_13 : decode cX9_refine 13 = .ok (.iaload, 1) := by decide +kernel
theorem dX9_refine_14 : decode cX9_refine 14 = .ok (.istore 5, 2) := by decide +kernel
theorem dX9_refine_16 : decode cX9_refine 16 = .ok (.aload_n 0, 1) := by decide +kernel
theorem dX9_refine_17 : decode cX9_refine 17 = .ok (.getfield 66, 3) := by decide +kernel
theorem dX9_refine_20 : decode cX9_refine 20 = .ok (.iload_n 3, 1) := by decide +kernel
theorem dX9_refine_21 : decode cX9_refine 21 = .ok (.iaload, 1) := by decide +kernel
theorem dX9_refine_22 : decode cX9_refine 22 = .ok (.istore 6, 2) := by decide +kernel
theorem dX9_refine_24 : decode cX9_refine 24 = .ok (.aload_n 0, 1) := by decide +kernel
theorem dX9_refine_25 : decode cX9_refine 25 = .ok (.getfield 69, 3) := by decide +kernel
theorem dX9_refine_28 : decode cX9_refine 28 = .ok (.iload_n 3, 1) := by decide +kernel
theorem dX9_refine_29 : decode cX9_refine 29 = .ok (.iaload, 1) := by decide +kernel
theorem dX9_refine_30 : decode cX9_refine 30 = .ok (.istore 7, 2) := by decide +kernel
theorem dX9_refine_32 : decode cX9_refine 32 = .ok (.iload_n 2, 1) := by decide +kernel
theorem dX9_refine_33 : decode cX9_refine 33 = .ok (.iconst 3, 1) := by decide +kernel
theorem dX9_refine_34 : decode cX9_refine 34 = .ok (.if_icmp .ge 51, 3) := by decide +kernel
theorem dX9_refine_37 : decode cX9_refine 37 = .ok (.aload_n 0, 1) := by decide +kernel
theorem dX9_refine_38 : decode cX9_refine 38 = .ok (.getfield 69, 3) := by decide +kernel
theorem dX9_refine_41 : decode cX9_refine 41 = .ok (.iload_n 1, 1) := by decide +kernel
theorem dX9_refine_42 : decode cX9_refine 42 = .ok (.iload 5, 2) := by decide +kernel
theorem dX9_refine_44 : decode cX9_refine 44 = .ok (.iload_n 2, 1) := by decide +kernel
theorem dX9_refine_45 : decode cX9_refine 45 = .ok (.ifCond .ne 10, 3) := by decide +kernel
theorem dX9_refine_48 : decode cX9_refine 48 = .ok (.iload 7, 2) := by decide +kernel
theorem dX9_refine_50 : decode cX9_refine 50 = .ok (.iconst 1, 1) := by decide +kernel
theorem dX9_refine_51 : decode cX9_refine 51 = .ok (.isub, 1) := by decide +kernel
theorem dX9_refine_52 : decode cX9_refine 52 = .ok (.goto 5, 3) := by decide +kernel
theorem dX9_refine_55 : decode cX9_refine 55 = .ok (.iload 7, 2) := by decide +kernel
theorem dX9_refine_57 : decode cX9_refine 57 = .ok (.invokestatic 147, 3) := by decide +kernel
theorem dX9_refine_60 : decode cX9_refine 60 = .ok (.iastore, 1) := by decide +kernel
theorem dX9_refine_61 : decode cX9_refine 61 = .ok (.aload_n 0, 1) := by decide +kernel
theorem dX9_refine_62 : decode cX9_refine 62 = .ok (.getfield 66, 3) := by decide +kernel
theorem dX9_refine_65 : decode cX9_refine 65 = .ok (.iload_n 3, 1) := by decide +kernel
theorem dX9_refine_66 : decode cX9_refine 66 = .ok (.iload 6, 2) := by decide +kernel
theorem dX9_refine_68 : decode cX9_refine 68 = .ok (.iload_n 2, 1) := by decide +kernel
theorem dX9_refine_69 : decode cX9_refine 69 = .ok (.ifCond .ne 10, 3) := by decide +kernel
theorem dX9_refine_72 : decode cX9_refine 72 = .ok (.iload 4, 2) := by decide +kernel
theorem dX9_refine_74 : decode cX9_refine 74 = .ok (.iconst 1, 1) := by decide +kernel
theorem dX9_refine_75 : decode cX9_refine 75 = .ok (.iadd, 1) := by decide +kernel
theorem dX9_refine_76 : decode cX9_refine 76 = .ok (.goto 5, 3) := by decide +kernel
theorem dX9_refine_79 : decode cX9_refine 79 = .ok (.iload 4, 2) := by decide +kernel
theorem dX9_refine_81 : decode cX9_refine 81 = .ok (.invokestatic 150, 3) := by decide +kernel
theorem dX9_refine_84 : decode cX9_refine 84 = .ok (.iastore, 1) := by decide +kernel
theorem dX9_refine_85 : decode cX9_refine 85 = .ok (.iload_n 2, 1) := by decide +kernel
theorem dX9_refine_86 : decode cX9_refine 86 = .ok (.iconst 2, 1) := by decide +kernel
theorem dX9_refine_87 : decode cX9_refine 87 = .ok (.if_icmp .eq 8, 3) := by decide +kernel
theorem dX9_refine_90 : decode cX9_refine 90 = .ok (.iload_n 2, 1) := by decide +kernel
theorem dX9_refine_91 : decode cX9_refine 91 = .ok (.iconst 3, 1) := by decide +kernel
theorem dX9_refine_92 : decode cX9_refine 92 = .ok (.if_icmp .le 53, 3) := by decide +kernel
theorem dX9_refine_95 : decode cX9_refine 95 = .ok (.aload_n 0, 1) := by decide +kernel
theorem dX9_refine_96 : decode cX9_refine 96 = .ok (.getfield 66, 3) := by decide +kernel
theorem dX9_refine_99 : decode cX9_refine 99 = .ok (.iload_n 1, 1) := by decide +kernel
theorem dX9_refine_100 : decode cX9_refine 100 = .ok (.iload 4, 2) := by decide +kernel
theorem dX9_refine_102 : decode cX9_refine 102 = .ok (.iload_n 2, 1) := by decide +kernel
theorem dX9_refine_103 : decode cX9_refine 103 = .ok (.iconst 5, 1) := by decide +kernel
theorem dX9_refine_104 : decode cX9_refine 104 = .ok (.if_icmp .ne 10, 3) := by decide +kernel
theorem dX9_refine_107 : decode cX9_refine 107 = .ok (.iload 6, 2) := by decide +kernel
theorem dX9_refine_109 : decode cX9_refine 109 = .ok (.iconst 1, 1) := by decide +kernel
theorem dX9_refine_110 : decode cX9_refine 110 = .ok (.iadd, 1) := by decide +kernel
theorem dX9_refine_111 : decode cX9_refine 111 = .ok (.goto 5, 3) := by decide +kernel
theorem dX9_refine_114 : decode cX9_refine 114 = .ok (.iload 6, 2) := by decide +kernel
theorem dX9_refine_116 : decode cX9_refine 116 = .ok (.invokestatic 150, 3) := by decide +kernel
theorem dX9_refine_119 : decode cX9_refine 119 = .ok (.iastore, 1) := by decide +kernel
theorem dX9_refine_120 : decode cX9_refine 120 = .ok (.aload_n 0, 1) := by decide +kernel
theorem dX9_refine_121 : decode cX9_refine 121 = .ok (.getfield 69, 3) := by decide +kernel
theorem dX9_refine_124 : decode cX9_refine 124 = .ok (.iload_n 3, 1) := by decide +kernel
theorem dX9_refine_125 : decode cX9_refine 125 = .ok (.iload 7, 2) := by decide +kernel
theorem dX9_refine_127 : decode cX9_refine 127 = .ok (.iload_n 2, 1) := by decide +kernel
theorem dX9_refine_128 : decode cX9_refine 128 = .ok (.iconst 5, 1) := by decide +kernel
theorem dX9_refine_129 : decode cX9_refine 129 = .ok (.if_icmp .ne 10, 3) := by decide +kernel
theorem dX9_refine_132 : decode cX9_refine 132 = .ok (.iload 5, 2) := by decide +kernel
theorem dX9_refine_134 : decode cX9_refine 134 = .ok (.iconst 1, 1) := by decide +kernel
theorem dX9_refine_135 : decode cX9_refine 135 = .ok (.isub, 1) := by decide +kernel
theorem dX9_refine_136 : decode cX9_refine 136 = .ok (.goto 5, 3) := by decide +kernel
theorem dX9_refine_139 : decode cX9_refine 139 = .ok (.iload 5, 2) := by decide +kernel
theorem dX9_refine_141 : decode cX9_refine 141 = .ok (.invokestatic 147, 3) := by decide +kernel
theorem dX9_refine_144 : decode cX9_refine 144 = .ok (.iastore, 1) := by decide +kernel
theorem dX9_refine_145 : decode cX9_refine 145 = .ok (.iload_n 2, 1) := by decide +kernel
theorem dX9_refine_146 : decode cX9_refine 146 = .ok (.iconst 3, 1) := by decide +kernel
theorem dX9_refine_147 : decode cX9_refine 147 = .ok (.if_icmp .eq 4, 3) := by decide +kernel
theorem dX9_refine_150 : decode cX9_refine 150 = .ok (.return_, 1) := by decide +kernel
theorem dX9_refine_151 : decode cX9_refine 151 = .ok (.iload 6, 2) := by decide +kernel
theorem dX9_refine_153 : decode cX9_refine 153 = .ok (.iload 7, 2) := by decide +kernel
theorem dX9_refine_155 : decode cX9_refine 155 = .ok (.if_icmp .ne 45, 3) := by decide +kernel
theorem dX9_refine_158 : decode cX9_refine 158 = .ok (.aload_n 0, 1) := by decide +kernel
theorem dX9_refine_159 : decode cX9_refine 159 = .ok (.getfield 66, 3) := by decide +kernel
theorem dX9_refine_162 : decode cX9_refine 162 = .ok (.iload_n 1, 1) := by decide +kernel
theorem dX9_refine_163 : decode cX9_refine 163 = .ok (.dup2, 1) := by decide +kernel
theorem dX9_refine_164 : decode cX9_refine 164 = .ok (.iaload, 1) := by decide +kernel
theorem dX9_refine_165 : decode cX9_refine 165 = .ok (.iload 4, 2) := by decide +kernel
theorem dX9_refine_167 : decode cX9_refine 167 = .ok (.iload 6, 2) := by decide +kernel
theorem dX9_refine_169 : decode cX9_refine 169 = .ok (.if_icmp .ne 7, 3) := by decide +kernel
theorem dX9_refine_172 : decode cX9_refine 172 = .ok (.iconst 1, 1) := by decide +kernel
theorem dX9_refine_173 : decode cX9_refine 173 = .ok (.goto 4, 3) := by decide +kernel
theorem dX9_refine_176 : decode cX9_refine 176 = .ok (.iconst 0, 1) := by decide +kernel
theorem dX9_refine_177 : decode cX9_refine 177 = .ok (.iadd, 1) := by decide +kernel
theorem dX9_refine_178 : decode cX9_refine 178 = .ok (.iastore, 1) := by decide +kernel
theorem dX9_refine_179 : decode cX9_refine 179 = .ok (.aload_n 0, 1) := by decide +kernel
theorem dX9_refine_180 : decode cX9_refine 180 = .ok (.getfield 69, 3) := by decide +kernel
theorem dX9_refine_183 : decode cX9_refine 183 = .ok (.iload_n 1, 1) := by decide +kernel
theorem dX9_refine_184 : decode cX9_refine 184 = .ok (.dup2, 1) := by decide +kernel
theorem dX9_refine_185 : decode cX9_refine 185 = .ok (.iaload, 1) := by decide +kernel
theorem dX9_refine_186 : decode cX9_refine 186 = .ok (.iload 5, 2) := by decide +kernel
theorem dX9_refine_188 : decode cX9_refine 188 = .ok (.iload 6, 2) := by decide +kernel
theorem dX9_refine_190 : decode cX9_refine 190 = .ok (.if_icmp .ne 7, 3) := by decide +kernel
theorem dX9_refine_193 : decode cX9_refine 193 = .ok (.iconst 1, 1) := by decide +kernel
theorem dX9_refine_194 : decode cX9_refine 194 = .ok (.goto 4, 3) := by decide +kernel
theorem dX9_refine_197 : decode cX9_refine 197 = .ok (.iconst 0, 1) := by decide +kernel
theorem dX9_refine_198 : decode cX9_refine 198 = .ok (.isub, 1) := by decide +kernel
theorem dX9_refine_199 : decode cX9_refine 199 = .ok (.iastore, 1) := by decide +kernel
theorem dX9_refine_200 : decode cX9_refine 200 = .ok (.iload 4, 2) := by decide +kernel
theorem dX9_refine_202 : decode cX9_refine 202 = .ok (.iload 5, 2) := by decide +kernel
theorem dX9_refine_204 : decode cX9_refine 204 = .ok (.if_icmp .ne 45, 3) := by decide +kernel
theorem dX9_refine_207 : decode cX9_refine 207 = .ok (.aload_n 0, 1) := by decide +kernel
theorem dX9_refine_208 : decode cX9_refine 208 = .ok (.getfield 66, 3) := by decide +kernel
theorem dX9_refine_211 : decode cX9_refine 211 = .ok (.iload_n 3, 1) := by decide +kernel
theorem dX9_refine_212 : decode cX9_refine 212 = .ok (.dup2, 1) := by decide +kernel
theorem dX9_refine_213 : decode cX9_refine 213 = .ok (.iaload, 1) := by decide +kernel
theorem dX9_refine_214 : decode cX9_refine 214 = .ok (.iload 6, 2) := by decide +kernel
theorem dX9_refine_216 : decode cX9_refine 216 = .ok (.iload 4, 2) := by decide +kernel
theorem dX9_refine_218 : decode cX9_refine 218 = .ok (.if_icmp .ne 7, 3) := by decide +kernel
theorem dX9_refine_221 : decode cX9_refine 221 = .ok (.iconst 1, 1) := by decide +kernel
theorem dX9_refine_222 : decode cX9_refine 222 = .ok (.goto 4, 3) := by decide +kernel
theorem dX9_refine_225 : decode cX9_refine 225 = .ok (.iconst 0, 1) := by decide +kernel
theorem dX9_refine_226 : decode cX9_refine 226 = .ok (.iadd, 1) := by decide +kernel
theorem dX9_refine_227 : decode cX9_refine 227 = .ok (.iastore, 1) := by decide +kernel
theorem dX9_refine_228 : decode cX9_refine 228 = .ok (.aload_n 0, 1) := by decide +kernel
theorem dX9_refine_229 : decode cX9_refine 229 = .ok (.getfield 69, 3) := by decide +kernel
theorem dX9_refine_232 : decode cX9_refine 232 = .ok (.iload_n 3, 1) := by decide +kernel
theorem dX9_refine_233 : decode cX9_refine 233 = .ok (.dup2, 1) := by decide +kernel
theorem dX9_refine_234 : decode cX9_refine 234 = .ok (.iaload, 1) := by decide +kernel
theorem dX9_refine_235 : decode cX9_refine 235 = .ok (.iload 7, 2) := by decide +kernel
theorem dX9_refine_237 : decode cX9_refine 237 = .ok (.iload 4, 2) := by decide +kernel
theorem dX9_refine_239 : decode cX9_refine 239 = .ok (.if_icmp .ne 7, 3) := by decide +kernel
theorem dX9_refine_242 : decode cX9_refine 242 = .ok (.iconst 1, 1) := by decide +kernel
theorem dX9_refine_243 : decode cX9_refine 243 = .ok (.goto 4, 3) := by decide +kernel
theorem dX9_refine_246 : decode cX9_refine 246 = .ok (.iconst 0, 1) := by decide +kernel
theorem dX9_refine_247 : decode cX9_refine 247 = .ok (.isub, 1) := by decide +kernel
theorem dX9_refine_248 : decode cX9_refine 248 = .ok (.iastore, 1) := by decide +kernel
theorem dX9_refine_249 : decode cX9_refine 249 = .ok (.return_, 1) := by decide +kernel
set_option maxRecDepth 20000 in
theorem ggX9_reach_X9_leave : GoodIn wsX9_reach wsX9_leave := goodIn_r _ [12, 6, 13, 7, 14, 15, 16, 17, 18, 11, 19, 20, 21, 22, 23, 24, 25, 26, 27, 28, 29, 30, 31, 32, 33, 34, 35, 36, 37, 38, 39, 40, 41, 42, 43, 44, 45, 46, 54, 55, 56, 57, 58, 59, 60, 61, 62, 63, 64, 65, 66, 67, 68, 69, 70, 71, 72, 73, 74, 75, 76, 77, 78, 79, 80, 81, 82, 83, 84] (by decide +kernel) (by decide +kernel)
set_option maxRecDepth 20000 in
theorem gX9_reach_X9_leave : GoodIn wsX9_reach (wsV RX9 156 RX9 yX9_leave wsX9_leave) := goodIn_app (goodIn_of _ (by decide +kernel)) ggX9_reach_X9_leave
set_option maxRecDepth 20000 in
theorem ggX9_reach_X9_opposite : GoodIn wsX9_reach wsX9_opposite := goodIn_r _ [49] (by decide +kernel) (by decide +kernel)
set_option maxRecDepth 20000 in
theorem gX9_reach_X9_opposite : GoodIn wsX9_reach (va_wsS RX9 159 yX9_opposite wsX9_opposite) := goodIn_app (goodIn_of _ (by decide +kernel)) ggX9_reach_X9_opposite
set_option maxRecDepth 20000 in
theorem ggX9_reach_X9_refine : GoodIn wsX9_reach wsX9_refine := goodIn_r _ [53, 6, 7, 21, 22, 23, 24, 25, 26, 27, 54, 55, 56, 57, 58, 59, 60, 61, 62, 63, 64, 65, 66, 67, 68, 69, 70, 71, 72, 73, 74, 75, 76, 77, 78, 79, 80, 81, 82, 83, 84] (by decide +kernel) (by decide +kernel)
set_option maxRecDepth 20000 in
theorem gX9_reach_X9_refine : GoodIn wsX9_reach (wsV RX9 162 RX9 yX9_refine wsX9_refine) := goodIn_app (goodIn_of _ (by decide +kernel)) ggX9_reach_X9_refine
theorem dX9_reach_0 : decode cX9_reach 0 = .ok (.aload_n 0, 1) := by decide +kernel
theorem dX9_reach_1 : decode cX9_reach 1 = .ok (.getfield 53, 3) := by decide +kernel
theorem dX9_reach_4 : decode cX9_reach 4 = .ok (.iload_n 1, 1) := by decide +kernel
theorem dX9_reach_5 : decode cX9_reach 5 = .ok (.baload, 1) := by decide +kernel
theorem dX9_reach_6 : decode cX9_reach 6 = .ok (.ifCond .ne 5, 3) := by decide +kernel
theorem dX9_reach_9 : decode cX9_reach 9 = .ok (.iconst 0, 1) := by decide +kernel
theorem dX9_reach_10 : decode cX9_reach 10 = .ok (.ireturn, 1) := by decide +kernel
theorem dX9_reach_11 : decode cX9_reach 11 = .ok (.aload_n 0, 1) := by decide +kernel
theorem dX9_reach_12 : decode cX9_reach 12 = .ok (.iload_n 1, 1) := by decide +kernel
theorem dX9_reach_13 : decode cX9_reach 13 = .ok (.invokevirtual 156, 3) := by decide +kernel
theorem dX9_reach_16 : decode cX9_reach 16 = .ok (.aload_n 0, 1) := by decide +kernel
theorem dX9_reach_17 : decode cX9_reach 17 = .ok (.getfield 20, 3) := by decide +kernel
theorem dX9_reach_20 : decode cX9_reach 20 = .ok (.iload_n 1, 1) := by decide +kernel
theorem dX9_reach_21 : decode cX9_reach 21 = .ok (.iaload, 1) := by decide +kernel
theorem dX9_reach_22 : decode cX9_reach 22 = .ok (.iconst 2, 1) := by decide +kernel
theorem dX9_reach_23 : decode cX9_reach 23 = .ok (.if_icmp .ge 5, 3) := by decide +kernel
theorem dX9_reach_26 : decode cX9_reach 26 = .ok (.iconst 1, 1) := by decide +kernel
theorem dX9_reach_27 : decode cX9_reach 27 = .ok (.ireturn, 1) := by decide +kernel
theorem dX9_reach_28 : decode cX9_reach 28 = .ok (.aload_n 0, 1) := by decide +kernel
theorem dX9_reach_29 : decode cX9_reach 29 = .ok (.getfield 29, 3) := by decide +kernel
theorem dX9_reach_32 : decode cX9_reach 32 = .ok (.iload_n 1, 1) := by decide +kernel
theorem dX9_reach_33 : decode cX9_reach 33 = .ok (.iaload, 1) := by decide +kernel
theorem dX9_reach_34 : decode cX9_reach 34 = .ok (.istore_n 3, 1) := by decide +kernel
theorem dX9_reach_35 : decode cX9_reach 35 = .ok (.aload_n 0, 1) := by decide +kernel
theorem dX9_reach_36 : decode cX9_reach 36 = .ok (.getfield 32, 3) := by decide +kernel
theorem dX9_reach_39 : decode cX9_reach 39 = .ok (.iload_n 1, 1) := by decide +kernel
theorem dX9_reach_40 : decode cX9_reach 40 = .ok (.iaload, 1) := by decide +kernel
theorem dX9_reach_41 : decode cX9_reach 41 = .ok (.istore 4, 2) := by decide +kernel
theorem dX9_reach_43 : decode cX9_reach 43 = .ok (.iload_n 2, 1) := by decide +kernel
theorem dX9_reach_44 : decode cX9_reach 44 = .ok (.ifCond .ne 12, 3) := by decide +kernel
theorem dX9_reach_47 : decode cX9_reach 47 = .ok (.aload_n 0, 1) := by decide +kernel
theorem dX9_reach_48 : decode cX9_reach 48 = .ok (.getfield 35, 3) := by decide +kernel
theorem dX9_reach_51 : decode cX9_reach 51 = .ok (.iload_n 1, 1) := by decide +kernel
theorem dX9_reach_52 : decode cX9_reach 52 = .ok (.iaload, 1) := by decide +kernel
theorem dX9_reach_53 : decode cX9_reach 53 = .ok (.goto 12, 3) := by decide +kernel
theorem dX9_reach_56 : decode cX9_reach 56 = .ok (.aload_n 0, 1) := by decide +kernel
theorem dX9_reach_57 : decode cX9_reach 57 = .ok (.getfield 35, 3) := by decide +kernel
theorem dX9_reach_60 : decode cX9_reach 60 = .ok (.iload_n 1, 1) := by decide +kernel
theorem dX9_reach_61 : decode cX9_reach 61 = .ok (.iaload, 1) := by decide +kernel
theorem dX9_reach_62 : decode cX9_reach 62 = .ok (.invokestatic 159, 3) := by decide +kernel
theorem dX9_reach_65 : decode cX9_reach 65 = .ok (.istore 5, 2) := by decide +kernel
theorem dX9_reach_67 : decode cX9_reach 67 = .ok (.iload_n 3, 1) := by decide +kernel
theorem dX9_reach_68 : decode cX9_reach 68 = .ok (.iload 4, 2) := by decide +kernel
theorem dX9_reach_70 : decode cX9_reach 70 = .ok (.if_icmp .ne 27, 3) := by decide +kernel
theorem dX9_reach_73 : decode cX9_reach 73 = .ok (.iload 5, 2) := by decide +kernel
theorem dX9_reach_75 : decode cX9_reach 75 = .ok (.iconst 1, 1) := by decide +kernel
theorem dX9_reach_76 : decode cX9_reach 76 = .ok (.if_icmp .eq 15, 3) := by decide +kernel
theorem dX9_reach_79 : decode cX9_reach 79 = .ok (.iload 5, 2) := by decide +kernel
theorem dX9_reach_81 : decode cX9_reach 81 = .ok (.iconst 2, 1) := by decide +kernel
theorem dX9_reach_82 : decode cX9_reach 82 = .ok (.if_icmp .eq 9, 3) := by decide +kernel
theorem dX9_reach_85 : decode cX9_reach 85 = .ok (.iload 5, 2) := by decide +kernel
theorem dX9_reach_87 : decode cX9_reach 87 = .ok (.iconst 4, 1) := by decide +kernel
theorem dX9_reach_88 : decode cX9_reach 88 = .ok (.if_icmp .ne 7, 3) := by decide +kernel
theorem dX9_reach_91 : decode cX9_reach 91 = .ok (.iconst 1, 1) := by decide +kernel
theorem dX9_reach_92 : decode cX9_reach 92 = .ok (.goto 4, 3) := by decide +kernel
theorem dX9_reach_95 : decode cX9_reach 95 = .ok (.iconst 0, 1) := by decide +kernel
theorem dX9_reach_96 : decode cX9_reach 96 = .ok (.ireturn, 1) := by decide +kernel
theorem dX9_reach_97 : decode cX9_reach 97 = .ok (.aload_n 0, 1) := by decide +kernel
theorem dX9_reach_98 : decode cX9_reach 98 = .ok (.iload_n 3, 1) := by decide +kernel
theorem dX9_reach_99 : decode cX9_reach 99 = .ok (.iload 5, 2) := by decide +kernel
theorem dX9_reach_101 : decode cX9_reach 101 = .ok (.iload 4, 2) := by decide +kernel
theorem dX9_reach_103 : decode cX9_reach 103 = .ok (.invokevirtual 162, 3) := by decide +kernel
theorem dX9_reach_106 : decode cX9_reach 106 = .ok (.aload_n 0, 1) := by decide +kernel
theorem dX9_reach_107 : decode cX9_reach 107 = .ok (.getfield 66, 3) := by decide +kernel
theorem dX9_reach_110 : decode cX9_reach 110 = .ok (.iload_n 3, 1) := by decide +kernel
theorem dX9_reach_111 : decode cX9_reach 111 = .ok (.iaload, 1) := by decide +kernel
theorem dX9_reach_112 : decode cX9_reach 112 = .ok (.aload_n 0, 1) := by decide +kernel
theorem dX9_reach_113 : decode cX9_reach 113 = .ok (.getfield 69, 3) := by decide +kernel
theorem dX9_reach_116 : decode cX9_reach 116 = .ok (.iload_n 3, 1) := by decide +kernel
theorem dX9_reach_117 : decode cX9_reach 117 = .ok (.iaload, 1) := by decide +kernel
theorem dX9_reach_118 : decode cX9_reach 118 = .ok (.if_icmp .gt 24, 3) := by decide +kernel
theorem dX9_reach_121 : decode cX9_reach 121 = .ok (.aload_n 0, 1) := by decide +kernel
theorem dX9_reach_122 : decode cX9_reach 122 = .ok (.getfield 66, 3) := by decide +kernel
theorem dX9_reach_125 : decode cX9_reach 125 = .ok (.iload 4, 2) := by decide +kernel
theorem dX9_reach_127 : decode cX9_reach 127 = .ok (.iaload, 1) := by decide +kernel
theorem dX9_reach_128 : decode cX9_reach 128 = .ok (.aload_n 0, 1) := by decide +kernel
theorem dX9_reach_129 : decode cX9_reach 129 = .ok (.getfield 69, 3) := by decide +kernel
theorem dX9_reach_132 : decode cX9_reach 132 = .ok (.iload 4, 2) := by decide +kernel
theorem dX9_reach_134 : decode cX9_reach 134 = .ok (.iaload, 1) := by decide +kernel
theorem dX9_reach_135 : decode cX9_reach 135 = .ok (.if_icmp .gt 7, 3) := by decide +kernel
theorem dX9_reach_138 : decode cX9_reach 138 = .ok (.iconst 1, 1) := by decide +kernel
theorem dX9_reach_139 : decode cX9_reach 139 = .ok (.goto 4, 3) := by decide +kernel
theorem dX9_reach_142 : decode cX9_reach 142 = .ok (.iconst 0, 1) := by decide +kernel
theorem dX9_reach_143 : decode cX9_reach 143 = .ok (.ireturn, 1) := by decide +kernel
theorem dX9_join_0 : decode cX9_join 0 = .ok (.iconst 0, 1) := by decide +kernel
theorem dX9_join_1 : decode cX9_join 1 = .ok (.istore_n 1, 1) := by decide +kernel
theorem dX9_join_2 : decode cX9_join 2 = .ok (.iload_n 1, 1) := by decide +kernel
theorem dX9_join_3 : decode cX9_join 3 = .ok (.bipush 6, 2) := by decide +kernel
theorem dX9_join_5 : decode cX9_join 5 = .ok (.if_icmp .ge 83, 3) := by decide +kernel
theorem dX9_join_8 : decode cX9_join 8 = .ok (.aload_n 0, 1) := by decide +kernel
theorem dX9_join_9 : decode cX9_join 9 = .ok (.getfield 72, 3) := by decide +kernel
theorem dX9_join_12 : decode cX9_join 12 = .ok (.iload_n 1, 1) := by decide +kernel
theorem dX9_join_13 : decode cX9_join 13 = .ok (.aload_n 0, 1) := by decide +kernel
theorem dX9_join_14 : decode cX9_join 14 = .ok (.getfield 165, 3) := by decide +kernel
theorem dX9_join_17 : decode cX9_join 17 = .ok (.ifCond .eq 21, 3) := by decide +kernel
theorem dX9_join_20 : decode cX9_join 20 = .ok (.aload_n 0, 1) := by decide +kernel
theorem dX9_join_21 : decode cX9_join 21 = .ok (.getfield 72, 3) := by decide +kernel
theorem dX9_join_24 : decode cX9_join 24 = .ok (.iload_n 1, 1) := by decide +kernel
theorem dX9_join_25 : decode cX9_join 25 = .ok (.iaload, 1) := by decide +kernel
theorem dX9_join_26 : decode cX9_join 26 = .ok (.aload_n 0, 1) := by decide +kernel
theorem dX9_join_27 : decode cX9_join 27 = .ok (.getfield 66, 3) := by decide +kernel
theorem dX9_join_30 : decode cX9_join 30 = .ok (.iload_n 1, 1) := by decide +kernel
theorem dX9_join_31 : decode cX9_join 31 = .ok (.iaload, 1) := by decide +kernel
theorem dX9_join_32 : decode cX9_join 32 = .ok (.invokestatic 147, 3) := by decide +kernel
theorem dX9_join_35 : decode cX9_join 35 = .ok (.goto 9, 3) := by decide +kernel
theorem dX9_join_38 : decode cX9_join 38 = .ok (.aload_n 0, 1) := by decide +kernel
theorem dX9_join_39 : decode cX9_join 39 = .ok (.getfield 66, 3) := by decide +kernel
theorem dX9_join_42 : decode cX9_join 42 = .ok (.iload_n 1, 1) := by decide +kernel
theorem dX9_join_43 : decode cX9_join 43 = .ok (.iaload, 1) := by decide +kernel
theorem dX9_join_44 : decode cX9_join 44 = .ok (.iastore, 1) := by decide +kernel
theorem dX9_join_45 : decode cX9_join 45 = .ok (.aload_n 0, 1) := by decide +kernel
theorem dX9_join_46 : decode cX9_join 46 = .ok (.getfield 75, 3) := by decide +kernel
theorem dX9_join_49 : decode cX9_join 49 = .ok (.iload_n 1, 1) := by decide +kernel
theorem dX9_join_50 : decode cX9_join 50 = .ok (.aload_n 0, 1) := by decide +kernel
theorem dX9_join_51 : decode cX9_join 51 = .ok (.getfield 165, 3) := by decide +kernel
theorem dX9_join_54 : decode cX9_join 54 = .ok (.ifCond .eq 21, 3) := by decide +kernel
theorem dX9_join_57 : decode cX9_join 57 = .ok (.aload_n 0, 1) := by decide +kernel
theorem dX9_join_58 : decode cX9_join 58 = .ok (.getfield 75, 3) := by decide +kernel
theorem dX9_join_61 : decode cX9_join 61 = .ok (.iload_n 1, 1) := by decide +kernel
theorem dX9_join_62 : decode cX9_join 62 = .ok (.iaload, 1) := by decide +kernel
theorem dX9_join_63 : decode cX9_join 63 = .ok (.aload_n 0, 1) := by decide +kernel
theorem dX9_join_64 : decode cX9_join 64 = .ok (.getfield 69, 3) := by decide +kernel
theorem dX9_join_67 : decode cX9_join 67 = .ok (.iload_n 1, 1) := by decide +kernel
theorem dX9_join_68 : decode cX9_join 68 = .ok (.iaload, 1) := by decide +kernel
theorem dX9_join_69 : decode cX9_join 69 = .ok (.invokestatic 150, 3) := by decide +kernel
theorem dX9_join_72 : decode cX9_join 72 = .ok (.goto 9, 3) := by decide +kernel
theorem dX9_join_75 : decode cX9_join 75 = .ok (.aload_n 0, 1) := by decide +kernel
theorem dX9_join_76 : decode cX9_join 76 = .ok (.getfield 69, 3) := by decide +kernel
theorem dX9_join_79 : decode cX9_join 79 = .ok (.iload_n 1, 1) := by decide +kernel
theorem dX9_join_80 : decode cX9_join 80 = .ok (.iaload, 1) := by decide +kernel
theorem dX9_join_81 : decode cX9_join 81 = .ok (.iastore, 1) := by decide +kernel
theorem dX9_join_82 : decode cX9_join 82 = .ok (.iinc 1 1, 3) := by decide +kernel
theorem dX9_join_85 : decode cX9_join 85 = .ok (.goto (-83), 3) := by decide +kernel
theorem dX9_join_88 : decode cX9_join 88 = .ok (.aload_n 0, 1) := by decide +kernel
theorem dX9_join_89 : decode cX9_join 89 = .ok (.iconst 1, 1) := by decide +kernel
theorem dX9_join_90 : decode cX9_join 90 = .ok (.putfield 165, 3) := by decide +kernel
theorem dX9_join_93 : decode cX9_join 93 = .ok (.return_, 1) := by decide +kernel
set_option maxRecDepth 20000 in
theorem ggX9_gather_X9_reach : GoodIn wsX9_gather wsX9_reach := goodIn_r _ [14, 15, 3, 16, 17, 18, 6, 8, 19, 20, 21, 13, 22, 23, 24, 25, 26, 27, 28, 29, 30, 31, 32, 33, 34, 35, 36, 37, 38, 39, 40, 41, 42, 43, 44, 45, 46, 47, 48, 49, 50, 51, 52, 53, 54, 55, 56, 57, 58, 59, 60, 61, 62, 63, 70, 71, 72, 73, 74, 75, 76, 77, 78, 79, 80, 81, 82, 83, 84, 85, 86, 87, 88, 89, 90, 91, 92, 93, 94, 95, 96, 97, 98, 99, 100] (by decide +kernel) (by decide +kernel)
set_option maxRecDepth 20000 in
theorem gX9_gather_X9_reach : GoodIn wsX9_gather (wsV RX9 168 RX9 yX9_reach wsX9_reach) := goodIn_app (goodIn_of _ (by decide +kernel)) ggX9_gather_X9_reach
set_option maxRecDepth 20000 in
theorem ggX9_gather_X9_join : GoodIn wsX9_gather wsX9_join := goodIn_r _ [67, 68, 1, 6, 31, 32, 33, 34, 69, 8, 35, 36, 37, 70, 71, 72, 73, 74, 75, 76, 77, 78, 79, 80, 81, 82, 83, 84, 85, 86, 87, 88, 89, 90, 91, 92, 93, 94, 95, 96, 97, 98, 99, 100] (by decide +kernel) (by decide +kernel)
set_option maxRecDepth 20000 in
theorem gX9_gather_X9_join : GoodIn wsX9_gather (wsV RX9 171 RX9 yX9_join wsX9_join) := goodIn_app (goodIn_of _ (by decide +kernel)) ggX9_gather_X9_join
theorem dX9_gather_0 : decode cX9_gather 0 = .ok (.aload_n 0, 1) := by decide +kernel
theorem dX9_gather_1 : decode cX9_gather 1 = .ok (.iconst 0, 1) := by decide +kernel
theorem dX9_gather_2 : decode cX9_gather 2 = .ok (.putfield 165, 3) := by decide +kernel
theorem dX9_gather_5 : decode cX9_gather 5 = .ok (.iconst 0, 1) := by decide +kernel
theorem dX9_gather_6 : decode cX9_gather 6 = .ok (.istore_n 2, 1) := by decide +kernel
theorem dX9_gather_7 : decode cX9_gather 7 = .ok (.iload_n 2, 1) := by decide +kernel
theorem dX9_gather_8 : decode cX9_gather 8 = .ok (.aload_n 0, 1) := by decide +kernel
theorem dX9_gather_9 : decode cX9_gather 9 = .ok (.getfield 7, 3) := by decide +kernel
theorem dX9_gather_12 : decode cX9_gather 12 = .ok (.if_icmp .ge 63, 3) := by decide +kernel
theorem dX9_gather_15 : decode cX9_gather 15 = .ok (.iconst 0, 1) := by decide +kernel
theorem dX9_gather_16 : decode cX9_gather 16 = .ok (.istore_n 3, 1) := by decide +kernel
theorem dX9_gather_17 : decode cX9_gather 17 = .ok (.iload_n 3, 1) := by decide +kernel
theorem dX9_gather_18 : decode cX9_gather 18 = .ok (.aload_n 0, 1) := by decide +kernel
theorem dX9_gather_19 : decode cX9_gather 19 = .ok (.getfield 20, 3) := by decide +kernel
theorem dX9_gather_22 : decode cX9_gather 22 = .ok (.iload_n 2, 1) := by decide +kernel
theorem dX9_gather_23 : decode cX9_gather 23 = .ok (.iaload, 1) := by decide +kernel
theorem dX9_gather_24 : decode cX9_gather 24 = .ok (.if_icmp .ge 45, 3) := by decide +kernel
theorem dX9_gather_27 : decode cX9_gather 27 = .ok (.iload_n 3, 1) := by decide +kernel
theorem dX9_gather_28 : decode cX9_gather 28 = .ok (.ifCond .ne 12, 3) := by decide +kernel
theorem dX9_gather_31 : decode cX9_gather 31 = .ok (.aload_n 0, 1) := by decide +kernel
theorem dX9_gather_32 : decode cX9_gather 32 = .ok (.getfield 23, 3) := by decide +kernel
theorem dX9_gather_35 : decode cX9_gather 35 = .ok (.iload_n 2, 1) := by decide +kernel
theorem dX9_gather_36 : decode cX9_gather 36 = .ok (.iaload, 1) := by decide +kernel
theorem dX9_gather_37 : decode cX9_gather 37 = .ok (.goto 9, 3) := by decide +kernel
theorem dX9_gather_40 : decode cX9_gather 40 = .ok (.aload_n 0, 1) := by decide +kernel
theorem dX9_gather_41 : decode cX9_gather 41 = .ok (.getfield 26, 3) := by decide +kernel
theorem dX9_gather_44 : decode cX9_gather 44 = .ok (.iload_n 2, 1) := by decide +kernel
theorem dX9_gather_45 : decode cX9_gather 45 = .ok (.iaload, 1) := by decide +kernel
theorem dX9_gather_46 : decode cX9_gather 46 = .ok (.iload_n 1, 1) := by decide +kernel
theorem dX9_gather_47 : decode cX9_gather 47 = .ok (.if_icmp .ne 16, 3) := by decide +kernel
theorem dX9_gather_50 : decode cX9_gather 50 = .ok (.aload_n 0, 1) := by decide +kernel
theorem dX9_gather_51 : decode cX9_gather 51 = .ok (.iload_n 2, 1) := by decide +kernel
theorem dX9_gather_52 : decode cX9_gather 52 = .ok (.iload_n 3, 1) := by decide +kernel
theorem dX9_gather_53 : decode cX9_gather 53 = .ok (.invokevirtual 168, 3) := by decide +kernel
theorem dX9_gather_56 : decode cX9_gather 56 = .ok (.ifCond .eq 7, 3) := by decide +kernel
theorem dX9_gather_59 : decode cX9_gather 59 = .ok (.aload_n 0, 1) := by decide +kernel
theorem dX9_gather_60 : decode cX9_gather 60 = .ok (.invokevirtual 171, 3) := by decide +kernel
theorem dX9_gather_63 : decode cX9_gather 63 = .ok (.iinc 3 1, 3) := by decide +kernel
theorem dX9_gather_66 : decode cX9_gather 66 = .ok (.goto (-49), 3) := by decide +kernel
theorem dX9_gather_69 : decode cX9_gather 69 = .ok (.iinc 2 1, 3) := by decide +kernel
theorem dX9_gather_72 : decode cX9_gather 72 = .ok (.goto (-65), 3) := by decide +kernel
theorem dX9_gather_75 : decode cX9_gather 75 = .ok (.iload_n 1, 1) := by decide +kernel
theorem dX9_gather_76 : decode cX9_gather 76 = .ok (.ifCond .eq 4, 3) := by decide +kernel
theorem dX9_gather_79 : decode cX9_gather 79 = .ok (.return_, 1) := by decide +kernel
theorem dX9_gather_80 : decode cX9_gather 80 = .ok (.iconst 0, 1) := by decide +kernel
theorem dX9_gather_81 : decode cX9_gather 81 = .ok (.istore_n 2, 1) := by decide +kernel
theorem dX9_gather_82 : decode cX9_gather 82 = .ok (.iload_n 2, 1) := by decide +kernel
theorem dX9_gather_83 : decode cX9_gather 83 = .ok (.bipush 6, 2) := by decide +kernel
theorem dX9_gather_85 : decode cX9_gather 85 = .ok (.if_icmp .ge 33, 3) := by decide +kernel
theorem dX9_gather_88 : decode cX9_gather 88 = .ok (.aload_n 0, 1) := by decide +kernel
theorem dX9_gather_89 : decode cX9_gather 89 = .ok (.getfield 66, 3) := by decide +kernel
theorem dX9_gather_92 : decode cX9_gather 92 = .ok (.iload_n 2, 1) := by decide +kernel
theorem dX9_gather_93 : decode cX9_gather 93 = .ok (.aload_n 0, 1) := by decide +kernel
theorem dX9_gather_94 : decode cX9_gather 94 = .ok (.getfield 38, 3) := by decide +kernel
theorem dX9_gather_97 : decode cX9_gather 97 = .ok (.iload_n 2, 1) := by decide +kernel
theorem dX9_gather_98 : decode cX9_gather 98 = .ok (.iaload, 1) := by decide +kernel
theorem dX9_gather_99 : decode cX9_gather 99 = .ok (.iastore, 1) := by decide +kernel
theorem dX9_gather_100 : decode cX9_gather 100 = .ok (.aload_n 0, 1) := by decide +kernel
theorem dX9_gather_101 : decode cX9_gather 101 = .ok (.getfield 69, 3) := by decide +kernel
theorem dX9_gather_104 : decode cX9_gather 104 = .ok (.iload_n 2, 1) := by decide +kernel
theorem dX9_gather_105 : decode cX9_gather 105 = .ok (.aload_n 0, 1) := by decide +kernel
theorem dX9_gather_106 : decode cX9_gather 106 = .ok (.getfield 41, 3) := by decide +kernel
theorem dX9_gather_109 : decode cX9_gather 109 = .ok (.iload_n 2, 1) := by decide +kernel
theorem dX9_gather_110 : decode cX9_gather 110 = .ok (.iaload, 1) := by decide +kernel
theorem dX9_gather_111 : decode cX9_gather 111 = .ok (.iastore, 1) := by decide +kernel
theorem dX9_gather_112 : decode cX9_gather 112 = .ok (.iinc 2 1, 3) := by decide +kernel
theorem dX9_gather_115 : decode cX9_gather 115 = .ok (.goto (-33), 3) := by decide +kernel
theorem dX9_gather_118 : decode cX9_gather 118 = .ok (.aload_n 0, 1) := by decide +kernel
theorem dX9_gather_119 : decode cX9_gather 119 = .ok (.invokevirtual 171, 3) := by decide +kernel
theorem dX9_gather_122 : decode cX9_gather 122 = .ok (.return_, 1) := by decide +kernel
theorem dX9_below_0 : decode cX9_below 0 = .ok (.ldc 90, 2) := by decide +kernel
theorem dX9_below_2 : decode cX9_below 2 = .ok (.istore_n 2, 1) := by decide +kernel
theorem dX9_below_3 : decode cX9_below 3 = .ok (.iconst 0, 1) := by decide +kernel
theorem dX9_below_4 : decode cX9_below 4 = .ok (.istore_n 3, 1) := by decide +kernel
theorem dX9_below_5 : decode cX9_below 5 = .ok (.iload_n 3, 1) := by decide +kernel
theorem dX9_below_6 : decode cX9_below 6 = .ok (.aload_n 0, 1) := by decide +kernel
theorem dX9_below_7 : decode cX9_below 7 = .ok (.getfield 119, 3) := by decide +kernel
theorem dX9_below_10 : decode cX9_below 10 = .ok (.if_icmp .ge 30, 3) := by decide +kernel
theorem dX9_below_13 : decode cX9_below 13 = .ok (.aload_n 0, 1) := by decide +kernel
theorem dX9_below_14 : decode cX9_below 14 = .ok (.getfield 50, 3) := by decide +kernel
theorem dX9_below_17 : decode cX9_below 17 = .ok (.iload_n 3, 1) := by decide +kernel
theorem dX9_below_18 : decode cX9_below 18 = .ok (.iaload, 1) := by decide +kernel
theorem dX9_below_19 : decode cX9_below 19 = .ok (.iload_n 1, 1) := by decide +kernel
theorem dX9_below_20 : decode cX9_below 20 = .ok (.if_icmp .gt 14, 3) := by decide +kernel
theorem dX9_below_23 : decode cX9_below 23 = .ok (.iload_n 2, 1) := by decide +kernel
theorem dX9_below_24 : decode cX9_below 24 = .ok (.aload_n 0, 1) := by decide +kernel
theorem dX9_below_25 : decode cX9_below 25 = .ok (.getfield 50, 3) := by decide +kernel
theorem dX9_below_28 : decode cX9_below 28 = .ok (.iload_n 3, 1) := by decide +kernel
theorem dX9_below_29 : decode cX9_below 29 = .ok (.iaload, 1) := by decide +kernel
theorem dX9_below_30 : decode cX9_below 30 = .ok (.invokestatic 150, 3) := by decide +kernel
theorem dX9_below_33 : decode cX9_below 33 = .ok (.istore_n 2, 1) := by decide +kernel
theorem dX9_below_34 : decode cX9_below 34 = .ok (.iinc 3 1, 3) := by decide +kernel
theorem dX9_below_37 : decode cX9_below 37 = .ok (.goto (-32), 3) := by decide +kernel
theorem dX9_below_40 : decode cX9_below 40 = .ok (.iload_n 1, 1) := by decide +kernel
theorem dX9_below_41 : decode cX9_below 41 = .ok (.ldc 91, 2) := by decide +kernel
theorem dX9_below_43 : decode cX9_below 43 = .ok (.if_icmp .ne 8, 3) := by decide +kernel
theorem dX9_below_46 : decode cX9_below 46 = .ok (.ldc 91, 2) := by decide +kernel
theorem dX9_below_48 : decode cX9_below 48 = .ok (.goto 4, 3) := by decide +kernel
theorem dX9_below_51 : decode cX9_below 51 = .ok (.iload_n 2, 1) := by decide +kernel
theorem dX9_below_52 : decode cX9_below 52 = .ok (.ireturn, 1) := by decide +kernel
theorem dX9_above_0 : decode cX9_above 0 = .ok (.ldc 91, 2) := by decide +kernel
theorem dX9_above_2 : decode cX9_above 2 = .ok (.istore_n 2, 1) := by decide +kernel
theorem dX9_above_3 : decode cX9_above 3 = .ok (.iconst 0, 1) := by decide +kernel
theorem dX9_above_4 : decode cX9_above 4 = .ok (.istore_n 3, 1) := by decide +kernel
theorem dX9_above_5 : decode cX9_above 5 = .ok (.iload_n 3, 1) := by decide +kernel
theorem dX9_above_6 : decode cX9_above 6 = .ok (.aload_n 0, 1) := by decide +kernel
theorem dX9_above_7 : decode cX9_above 7 = .ok (.getfield 119, 3) := by decide +kernel
theorem dX9_above_10 : decode cX9_above 10 = .ok (.if_icmp .ge 30, 3) := by decide +kernel
theorem dX9_above_13 : decode cX9_above 13 = .ok (.aload_n 0, 1) := by decide +kernel
theorem dX9_above_14 : decode cX9_above 14 = .ok (.getfield 50, 3) := by decide +kernel
theorem dX9_above_17 : decode cX9_above 17 = .ok (.iload_n 3, 1) := by decide +kernel
theorem dX9_above_18 : decode cX9_above 18 = .ok (.iaload, 1) := by decide +kernel
theorem dX9_above_19 : decode cX9_above 19 = .ok (.iload_n 1, 1) := by decide +kernel
theorem dX9_above_20 : decode cX9_above 20 = .ok (.if_icmp .lt 14, 3) := by decide +kernel
theorem dX9_above_23 : decode cX9_above 23 = .ok (.iload_n 2, 1) := by decide +kernel
theorem dX9_above_24 : decode cX9_above 24 = .ok (.aload_n 0, 1) := by decide +kernel
theorem dX9_above_25 : decode cX9_above 25 = .ok (.getfield 50, 3) := by decide +kernel
theorem dX9_above_28 : decode cX9_above 28 = .ok (.iload_n 3, 1) := by decide +kernel
theorem dX9_above_29 : decode cX9_above 29 = .ok (.iaload, 1) := by decide +kernel
theorem dX9_above_30 : decode cX9_above 30 = .ok (.invokestatic 147, 3) := by decide +kernel
theorem dX9_above_33 : decode cX9_above 33 = .ok (.istore_n 2, 1) := by decide +kernel
theorem dX9_above_34 : decode cX9_above 34 = .ok (.iinc 3 1, 3) := by decide +kernel
theorem dX9_above_37 : decode cX9_above 37 = .ok (.goto (-32), 3) := by decide +kernel
theorem dX9_above_40 : decode cX9_above 40 = .ok (.iload_n 1, 1) := by decide +kernel
theorem dX9_above_41 : decode cX9_above 41 = .ok (.ldc 90, 2) := by decide +kernel
theorem dX9_above_43 : decode cX9_above 43 = .ok (.if_icmp .ne 8, 3) := by decide +kernel
theorem dX9_above_46 : decode cX9_above 46 = .ok (.ldc 90, 2) := by decide +kernel
theorem dX9_above_48 : decode cX9_above 48 = .ok (.goto 4, 3) := by decide +kernel
theorem dX9_above_51 : decode cX9_above 51 = .ok (.iload_n 2, 1) := by decide +kernel
theorem dX9_above_52 : decode cX9_above 52 = .ok (.ireturn, 1) := by decide +kernel
set_option maxRecDepth 20000 in
theorem ggX9_look_X9_gather : GoodIn wsX9_look wsX9_gather := goodIn_r _ [20, 1, 21, 22, 23, 24, 25, 26, 27, 28, 29, 30, 31, 19, 32, 2, 33, 34, 35, 36, 37, 38, 39, 3, 9, 40, 41, 42, 43, 44, 45, 5, 6, 7, 8, 11, 12, 13, 46, 47, 48, 49, 50, 51, 52, 53, 54, 55, 56, 57, 58, 59, 60, 61, 62, 63, 64, 65, 66, 67, 68, 69, 70, 71, 72, 73, 74, 75, 4, 10, 88, 89, 90, 91, 92, 93, 94, 95, 96, 97, 98, 99, 100, 101, 102, 103, 104, 105, 106, 107, 108, 109, 110, 111, 112, 113, 114, 115, 116, 117, 118] (by decide +kernel) (by decide +kernel)
set_option maxRecDepth 20000 in
theorem gX9_look_X9_gather : GoodIn wsX9_look (wsV RX9 174 RX9 yX9_gather wsX9_gather) := goodIn_app (goodIn_of _ (by decide +kernel)) ggX9_look_X9_gather
set_option maxRecDepth 20000 in
theorem ggX9_look_X9_below : GoodIn wsX9_look wsX9_below := goodIn_r _ [79, 80, 81, 82, 11, 12, 7, 13, 83, 88, 89, 90, 91, 92, 93, 94, 95, 96, 97, 98, 99, 100, 101, 102, 103, 104, 105, 106, 107, 108, 109, 110, 111, 112, 113, 114, 115, 116, 117, 118] (by decide +kernel) (by decide +kernel)
set_option maxRecDepth 20000 in
theorem gX9_look_X9_below : GoodIn wsX9_look (wsV RX9 177 RX9 yX9_below wsX9_below) := goodIn_app (goodIn_of _ (by decide +kernel)) ggX9_look_X9_below
set_option maxRecDepth 20000 in
theorem ggX9_look_X9_above : GoodIn wsX9_look wsX9_above := goodIn_r _ [87, 83, 81, 82, 5, 6, 7, 8, 80, 88, 89, 90, 91, 92, 93, 94, 95, 96, 97, 98, 99, 100, 101, 102, 103, 104, 105, 106, 107, 108, 109, 110, 111, 112, 113, 114, 115, 116, 117, 118] (by decide +kernel) (by decide +kernel)
set_option maxRecDepth 20000 in
theorem gX9_look_X9_above : GoodIn wsX9_look (wsV RX9 180 RX9 yX9_above wsX9_above) := goodIn_app (goodIn_of _ (by decide +kernel)) ggX9_look_X9_above
theorem dX9_look_0 : decode cX9_look 0 = .ok (.aload_n 0, 1) := by decide +kernel
theorem dX9_look_1 : decode cX9_look 1 = .ok (.iload_n 1, 1) := by decide +kernel
theorem dX9_look_2 : decode cX9_look 2 = .ok (.invokevirtual 174, 3) := by decide +kernel
theorem dX9_look_5 : decode cX9_look 5 = .ok (.aload_n 0, 1) := by decide +kernel
theorem dX9_look_6 : decode cX9_look 6 = .ok (.getfield 165, 3) := by decide +kernel
theorem dX9_look_9 : decode cX9_look 9 = .ok (.ifCond .ne 5, 3) := by decide +kernel
theorem dX9_look_12 : decode cX9_look 12 = .ok (.iconst 0, 1) := by decide +kernel
theorem dX9_look_13 : decode cX9_look 13 = .ok (.ireturn, 1) := by decide +kernel
theorem dX9_look_14 : decode cX9_look 14 = .ok (.aload_n 0, 1) := by decide +kernel
theorem dX9_look_15 : decode cX9_look 15 = .ok (.getfield 53, 3) := by decide +kernel
theorem dX9_look_18 : decode cX9_look 18 = .ok (.iload_n 1, 1) := by decide +kernel
theorem dX9_look_19 : decode cX9_look 19 = .ok (.baload, 1) := by decide +kernel
theorem dX9_look_20 : decode cX9_look 20 = .ok (.ifCond .ne 7, 3) := by decide +kernel
theorem dX9_look_23 : decode cX9_look 23 = .ok (.iconst 1, 1) := by decide +kernel
theorem dX9_look_24 : decode cX9_look 24 = .ok (.goto 4, 3) := by decide +kernel
theorem dX9_look_27 : decode cX9_look 27 = .ok (.iconst 0, 1) := by decide +kernel
theorem dX9_look_28 : decode cX9_look 28 = .ok (.istore_n 2, 1) := by decide +kernel
theorem dX9_look_29 : decode cX9_look 29 = .ok (.iconst 0, 1) := by decide +kernel
theorem dX9_look_30 : decode cX9_look 30 = .ok (.istore_n 3, 1) := by decide +kernel
theorem dX9_look_31 : decode cX9_look 31 = .ok (.iload_n 3, 1) := by decide +kernel
theorem dX9_look_32 : decode cX9_look 32 = .ok (.bipush 6, 2) := by decide +kernel
theorem dX9_look_34 : decode cX9_look 34 = .ok (.if_icmp .ge 220, 3) := by decide +kernel
theorem dX9_look_37 : decode cX9_look 37 = .ok (.bipush 6, 2) := by decide +kernel
theorem dX9_look_39 : decode cX9_look 39 = .ok (.iload_n 1, 1) := by decide +kernel
theorem dX9_look_40 : decode cX9_look 40 = .ok (.imul, 1) := by decide +kernel
theorem dX9_look_41 : decode cX9_look 41 = .ok (.iload_n 3, 1) := by decide +kernel
theorem dX9_look_42 : decode cX9_look 42 = .ok (.iadd, 1) := by decide +kernel
theorem dX9_look_43 : decode cX9_look 43 = .ok (.istore 4, 2) := by decide +kernel
theorem dX9_look_45 : decode cX9_look 45 = .ok (.aload_n 0, 1) := by decide +kernel
theorem dX9_look_46 : decode cX9_look 46 = .ok (.getfield 53, 3) := by decide +kernel
theorem dX9_look_49 : decode cX9_look 49 = .ok (.iload_n 1, 1) := by decide +kernel
theorem dX9_look_50 : decode cX9_look 50 = .ok (.baload, 1) := by decide +kernel
theorem dX9_look_51 : decode cX9_look 51 = .ok (.ifCond .eq 22, 3) := by decide +kernel
theorem dX9_look_54 : decode cX9_look 54 = .ok (.aload_n 0, 1) := by decide +kernel
theorem dX9_look_55 : decode cX9_look 55 = .ok (.getfield 57, 3) := by decide +kernel
theorem dX9_look_58 : decode cX9_look 58 = .ok (.iload 4, 2) := by decide +kernel
theorem dX9_look_60 : decode cX9_look 60 = .ok (.iaload, 1) := by decide +kernel
theorem dX9_look_61 : decode cX9_look 61 = .ok (.aload_n 0, 1) := by decide +kernel
theorem dX9_look_62 : decode cX9_look 62 = .ok (.getfield 72, 3) := by decide +kernel
theorem dX9_look_65 : decode cX9_look 65 = .ok (.iload_n 3, 1) := by decide +kernel
theorem dX9_look_66 : decode cX9_look 66 = .ok (.iaload, 1) := by decide +kernel
theorem dX9_look_67 : decode cX9_look 67 = .ok (.invokestatic 147, 3) := by decide +kernel
theorem dX9_look_70 : decode cX9_look 70 = .ok (.goto 9, 3) := by decide +kernel
theorem dX9_look_73 : decode cX9_look 73 = .ok (.aload_n 0, 1) := by decide +kernel
theorem dX9_look_74 : decode cX9_look 74 = .ok (.getfield 72, 3) := by decide +kernel
theorem dX9_look_77 : decode cX9_look 77 = .ok (.iload_n 3, 1) := by decide +kernel
theorem dX9_look_78 : decode cX9_look 78 = .ok (.iaload, 1) := by decide +kernel
theorem dX9_look_79 : decode cX9_look 79 = .ok (.istore 5, 2) := by decide +kernel
theorem dX9_look_81 : decode cX9_look 81 = .ok (.aload_n 0, 1) := by decide +kernel
theorem dX9_look_82 : decode cX9_look 82 = .ok (.getfield 53, 3) := by decide +kernel
theorem dX9_look_85 : decode cX9_look 85 = .ok (.iload_n 1, 1) := by decide +kernel
theorem dX9_look_86 : decode cX9_look 86 = .ok (.baload, 1) := by decide +kernel
theorem dX9_look_87 : decode cX9_look 87 = .ok (.ifCond .eq 22, 3) := by decide +kernel
theorem dX9_look_90 : decode cX9_look 90 = .ok (.aload_n 0, 1) := by decide +kernel
theorem dX9_look_91 : decode cX9_look 91 = .ok (.getfield 60, 3) := by decide +kernel
theorem dX9_look_94 : decode cX9_look 94 = .ok (.iload 4, 2) := by decide +kernel
theorem dX9_look_96 : decode cX9_look 96 = .ok (.iaload, 1) := by decide +kernel
theorem dX9_look_97 : decode cX9_look 97 = .ok (.aload_n 0, 1) := by decide +kernel
theorem dX9_look_98 : decode cX9_look 98 = .ok (.getfield 75, 3) := by decide +kernel
theorem dX9_look_101 : decode cX9_look 101 = .ok (.iload_n 3, 1) := by decide +kernel
theorem dX9_look_102 : decode cX9_look 102 = .ok (.iaload, 1) := by decide +kernel
theorem dX9_look_103 : decode cX9_look 103 = .ok (.invokestatic 150, 3) := by decide +kernel
theorem dX9_look_106 : decode cX9_look 106 = .ok (.goto 9, 3) := by decide +kernel
theorem dX9_look_109 : decode cX9_look 109 = .ok (.aload_n 0, 1) := by decide +kernel
theorem dX9_look_110 : decode cX9_look 110 = .ok (.getfield 75, 3) := by decide +kernel
theorem dX9_look_113 : decode cX9_look 113 = .ok (.iload_n 3, 1) := by decide +kernel
theorem dX9_look_114 : decode cX9_look 114 = .ok (.iaload, 1) := by decide +kernel
theorem dX9_look_115 : decode cX9_look 115 = .ok (.istore 6, 2) := by decide +kernel
theorem dX9_look_117 : decode cX9_look 117 = .ok (.aload_n 0, 1) := by decide +kernel
theorem dX9_look_118 : decode cX9_look 118 = .ok (.getfield 53, 3) := by decide +kernel
theorem dX9_look_121 : decode cX9_look 121 = .ok (.iload_n 1, 1) := by decide +kernel
theorem dX9_look_122 : decode cX9_look 122 = .ok (.baload, 1) := by decide +kernel
theorem dX9_look_123 : decode cX9_look 123 = .ok (.ifCond .eq 20, 3) := by decide +kernel
theorem dX9_look_126 : decode cX9_look 126 = .ok (.aload_n 0, 1) := by decide +kernel
theorem dX9_look_127 : decode cX9_look 127 = .ok (.getfield 63, 3) := by decide +kernel
theorem dX9_look_130 : decode cX9_look 130 = .ok (.iload_n 1, 1) := by decide +kernel
theorem dX9_look_131 : decode cX9_look 131 = .ok (.iaload, 1) := by decide +kernel
theorem dX9_look_132 : decode cX9_look 132 = .ok (.aload_n 0, 1) := by decide +kernel
theorem dX9_look_133 : decode cX9_look 133 = .ok (.getfield 44, 3) := by decide +kernel
theorem dX9_look_136 : decode cX9_look 136 = .ok (.if_icmp .lt 7, 3) := by decide +kernel
theorem dX9_look_139 : decode cX9_look 139 = .ok (.iconst 1, 1) := by decide +kernel
theorem dX9_look_140 : decode cX9_look 140 = .ok (.goto 4, 3) := by decide +kernel
theorem dX9_look_143 : decode cX9_look 143 = .ok (.iconst 0, 1) := by decide +kernel
theorem dX9_look_144 : decode cX9_look 144 = .ok (.istore 7, 2) := by decide +kernel
theorem dX9_look_146 : decode cX9_look 146 = .ok (.iload 7, 2) := by decide +kernel
theorem dX9_look_148 : decode cX9_look 148 = .ok (.ifCond .eq 23, 3) := by decide +kernel
theorem dX9_look_151 : decode cX9_look 151 = .ok (.iload 5, 2) := by decide +kernel
theorem dX9_look_153 : decode cX9_look 153 = .ok (.aload_n 0, 1) := by decide +kernel
theorem dX9_look_154 : decode cX9_look 154 = .ok (.getfield 57, 3) := by decide +kernel
theorem dX9_look_157 : decode cX9_look 157 = .ok (.iload 4, 2) := by decide +kernel
theorem dX9_look_159 : decode cX9_look 159 = .ok (.iaload, 1) := by decide +kernel
theorem dX9_look_160 : decode cX9_look 160 = .ok (.if_icmp .ge 11, 3) := by decide +kernel
theorem dX9_look_163 : decode cX9_look 163 = .ok (.aload_n 0, 1) := by decide +kernel
theorem dX9_look_164 : decode cX9_look 164 = .ok (.iload 5, 2) := by decide +kernel
theorem dX9_look_166 : decode cX9_look 166 = .ok (.invokevirtual 177, 3) := by decide +kernel
theorem dX9_look_169 : decode cX9_look 169 = .ok (.istore 5, 2) := by decide +kernel
theorem dX9_look_171 : decode cX9_look 171 = .ok (.iload 7, 2) := by decide +kernel
theorem dX9_look_173 : decode cX9_look 173 = .ok (.ifCond .eq 23, 3) := by decide +kernel
theorem dX9_look_176 : decode cX9_look 176 = .ok (.iload 6, 2) := by decide +kernel
theorem dX9_look_178 : decode cX9_look 178 = .ok (.aload_n 0, 1) := by decide +kernel
theorem dX9_look_179 : decode cX9_look 179 = .ok (.getfield 60, 3) := by decide +kernel
theorem dX9_look_182 : decode cX9_look 182 = .ok (.iload 4, 2) := by decide +kernel
theorem dX9_look_184 : decode cX9_look 184 = .ok (.iaload, 1) := by decide +kernel
theorem dX9_look_185 : decode cX9_look 185 = .ok (.if_icmp .le 11, 3) := by decide +kernel
theorem dX9_look_188 : decode cX9_look 188 = .ok (.aload_n 0, 1) := by decide +kernel
theorem dX9_look_189 : decode cX9_look 189 = .ok (.iload 6, 2) := by decide +kernel
theorem dX9_look_191 : decode cX9_look 191 = .ok (.invokevirtual 180, 3) := by decide +kernel
theorem dX9_look_194 : decode cX9_look 194 = .ok (.istore 6, 2) := by decide +kernel
theorem dX9_look_196 : decode cX9_look 196 = .ok (.iload_n 2, 1) := by decide +kernel
theorem dX9_look_197 : decode cX9_look 197 = .ok (.ifCond .ne 27, 3) := by decide +kernel
theorem dX9_look_200 : decode cX9_look 200 = .ok (.iload 5, 2) := by decide +kernel
theorem dX9_look_202 : decode cX9_look 202 = .ok (.aload_n 0, 1) := by decide +kernel
theorem dX9_look_203 : decode cX9_look 203 = .ok (.getfield 57, 3) := by decide +kernel
theorem dX9_look_206 : decode cX9_look 206 = .ok (.iload 4, 2) := by decide +kernel
theorem dX9_look_208 : decode cX9_look 208 = .ok (.iaload, 1) := by decide +kernel
theorem dX9_look_209 : decode cX9_look 209 = .ok (.if_icmp .ne 15, 3) := by decide +kernel
theorem dX9_look_212 : decode cX9_look 212 = .ok (.iload 6, 2) := by decide +kernel
theorem dX9_look_214 : decode cX9_look 214 = .ok (.aload_n 0, 1) := by decide +kernel
theorem dX9_look_215 : decode cX9_look 215 = .ok (.getfield 60, 3) := by decide +kernel
theorem dX9_look_218 : decode cX9_look 218 = .ok (.iload 4, 2) := by decide +kernel
theorem dX9_look_220 : decode cX9_look 220 = .ok (.iaload, 1) := by decide +kernel
theorem dX9_look_221 : decode cX9_look 221 = .ok (.if_icmp .eq 7, 3) := by decide +kernel
theorem dX9_look_224 : decode cX9_look 224 = .ok (.iconst 1, 1) := by decide +kernel
theorem dX9_look_225 : decode cX9_look 225 = .ok (.goto 4, 3) := by decide +kernel
theorem dX9_look_228 : decode cX9_look 228 = .ok (.iconst 0, 1) := by decide +kernel
theorem dX9_look_229 : decode cX9_look 229 = .ok (.istore_n 2, 1) := by decide +kernel
theorem dX9_look_230 : decode cX9_look 230 = .ok (.aload_n 0, 1) := by decide +kernel
theorem dX9_look_231 : decode cX9_look 231 = .ok (.getfield 57, 3) := by decide +kernel
theorem dX9_look_234 : decode cX9_look 234 = .ok (.iload 4, 2) := by decide +kernel
theorem dX9_look_236 : decode cX9_look 236 = .ok (.iload 5, 2) := by decide +kernel
theorem dX9_look_238 : decode cX9_look 238 = .ok (.iastore, 1) := by decide +kernel
theorem dX9_look_239 : decode cX9_look 239 = .ok (.aload_n 0, 1) := by decide +kernel
theorem dX9_look_240 : decode cX9_look 240 = .ok (.getfield 60, 3) := by decide +kernel
theorem dX9_look_243 : decode cX9_look 243 = .ok (.iload 4, 2) := by decide +kernel
theorem dX9_look_245 : decode cX9_look 245 = .ok (.iload 6, 2) := by decide +kernel
theorem dX9_look_247 : decode cX9_look 247 = .ok (.iastore, 1) := by decide +kernel
theorem dX9_look_248 : decode cX9_look 248 = .ok (.iinc 3 1, 3) := by decide +kernel
theorem dX9_look_251 : decode cX9_look 251 = .ok (.goto (-220), 3) := by decide +kernel
theorem dX9_look_254 : decode cX9_look 254 = .ok (.aload_n 0, 1) := by decide +kernel
theorem dX9_look_255 : decode cX9_look 255 = .ok (.getfield 53, 3) := by decide +kernel
theorem dX9_look_258 : decode cX9_look 258 = .ok (.iload_n 1, 1) := by decide +kernel
theorem dX9_look_259 : decode cX9_look 259 = .ok (.iconst 1, 1) := by decide +kernel
theorem dX9_look_260 : decode cX9_look 260 = .ok (.bastore, 1) := by decide +kernel
theorem dX9_look_261 : decode cX9_look 261 = .ok (.aload_n 0, 1) := by decide +kernel
theorem dX9_look_262 : decode cX9_look 262 = .ok (.getfield 63, 3) := by decide +kernel
theorem dX9_look_265 : decode cX9_look 265 = .ok (.iload_n 1, 1) := by decide +kernel
theorem dX9_look_266 : decode cX9_look 266 = .ok (.dup2, 1) := by decide +kernel
theorem dX9_look_267 : decode cX9_look 267 = .ok (.iaload, 1) := by decide +kernel
theorem dX9_look_268 : decode cX9_look 268 = .ok (.iload_n 2, 1) := by decide +kernel
theorem dX9_look_269 : decode cX9_look 269 = .ok (.ifCond .eq 7, 3) := by decide +kernel
theorem dX9_look_272 : decode cX9_look 272 = .ok (.iconst 1, 1) := by decide +kernel
theorem dX9_look_273 : decode cX9_look 273 = .ok (.goto 4, 3) := by decide +kernel
theorem dX9_look_276 : decode cX9_look 276 = .ok (.iconst 0, 1) := by decide +kernel
theorem dX9_look_277 : decode cX9_look 277 = .ok (.iadd, 1) := by decide +kernel
theorem dX9_look_278 : decode cX9_look 278 = .ok (.iastore, 1) := by decide +kernel
theorem dX9_look_279 : decode cX9_look 279 = .ok (.iload_n 2, 1) := by decide +kernel
theorem dX9_look_280 : decode cX9_look 280 = .ok (.ireturn, 1) := by decide +kernel
set_option maxRecDepth 20000 in
theorem ggX9_narrow_X9_gather : GoodIn wsX9_narrow wsX9_gather := goodIn_r _ [18, 2, 19, 20, 21, 22, 23, 24, 25, 26, 27, 28, 29, 17, 30, 1, 31, 32, 33, 34, 35, 36, 37, 3, 9, 38, 39, 40, 41, 42, 43, 11, 12, 7, 13, 5, 6, 8, 44, 45, 46, 47, 48, 49, 50, 51, 52, 53, 54, 55, 56, 57, 58, 59, 60, 61, 62, 63, 64, 65, 66, 67, 68, 69, 70, 71, 72, 73, 4, 10, 74, 75, 76, 77, 78, 79, 80, 81, 82, 83, 84, 85, 86, 87, 88, 89, 90, 91, 92, 93, 94, 95, 96, 97, 98, 99, 100, 101, 102, 103, 104] (by decide +kernel) (by decide +kernel)
set_option maxRecDepth 20000 in
theorem gX9_narrow_X9_gather : GoodIn wsX9_narrow (wsV RX9 174 RX9 yX9_gather wsX9_gather) := goodIn_app (goodIn_of _ (by decide +kernel)) ggX9_narrow_X9_gather
theorem dX9_narrow_0 : decode cX9_narrow 0 = .ok (.aload_n 0, 1) := by decide +kernel
theorem dX9_narrow_1 : decode cX9_narrow 1 = .ok (.getfield 53, 3) := by decide +kernel
theorem dX9_narrow_4 : decode cX9_narrow 4 = .ok (.iload_n 1, 1) := by decide +kernel
theorem dX9_narrow_5 : decode cX9_narrow 5 = .ok (.baload, 1) := by decide +kernel
theorem dX9_narrow_6 : decode cX9_narrow 6 = .ok (.ifCond .ne 4, 3) := by decide +kernel
theorem dX9_narrow_9 : decode cX9_narrow 9 = .ok (.return_, 1) := by decide +kernel
theorem dX9_narrow_10 : decode cX9_narrow 10 = .ok (.aload_n 0, 1) := by decide +kernel
theorem dX9_narrow_11 : decode cX9_narrow 11 = .ok (.iload_n 1, 1) := by decide +kernel
theorem dX9_narrow_12 : decode cX9_narrow 12 = .ok (.invokevirtual 174, 3) := by decide +kernel
theorem dX9_narrow_15 : decode cX9_narrow 15 = .ok (.aload_n 0, 1) := by decide +kernel
theorem dX9_narrow_16 : decode cX9_narrow 16 = .ok (.getfield 53, 3) := by decide +kernel
theorem dX9_narrow_19 : decode cX9_narrow 19 = .ok (.iload_n 1, 1) := by decide +kernel
theorem dX9_narrow_20 : decode cX9_narrow 20 = .ok (.aload_n 0, 1) := by decide +kernel
theorem dX9_narrow_21 : decode cX9_narrow 21 = .ok (.getfield 165, 3) := by decide +kernel
theorem dX9_narrow_24 : decode cX9_narrow 24 = .ok (.bastore, 1) := by decide +kernel
theorem dX9_narrow_25 : decode cX9_narrow 25 = .ok (.iconst 0, 1) := by decide +kernel
theorem dX9_narrow_26 : decode cX9_narrow 26 = .ok (.istore_n 2, 1) := by decide +kernel
theorem dX9_narrow_27 : decode cX9_narrow 27 = .ok (.iload_n 2, 1) := by decide +kernel
theorem dX9_narrow_28 : decode cX9_narrow 28 = .ok (.bipush 6, 2) := by decide +kernel
theorem dX9_narrow_30 : decode cX9_narrow 30 = .ok (.if_icmp .ge 65, 3) := by decide +kernel
theorem dX9_narrow_33 : decode cX9_narrow 33 = .ok (.aload_n 0, 1) := by decide +kernel
theorem dX9_narrow_34 : decode cX9_narrow 34 = .ok (.getfield 165, 3) := by decide +kernel
theorem dX9_narrow_37 : decode cX9_narrow 37 = .ok (.ifCond .eq 58, 3) := by decide +kernel
theorem dX9_narrow_40 : decode cX9_narrow 40 = .ok (.bipush 6, 2) := by decide +kernel
theorem dX9_narrow_42 : decode cX9_narrow 42 = .ok (.iload_n 1, 1) := by decide +kernel
theorem dX9_narrow_43 : decode cX9_narrow 43 = .ok (.imul, 1) := by decide +kernel
theorem dX9_narrow_44 : decode cX9_narrow 44 = .ok (.iload_n 2, 1) := by decide +kernel
theorem dX9_narrow_45 : decode cX9_narrow 45 = .ok (.iadd, 1) := by decide +kernel
theorem dX9_narrow_46 : decode cX9_narrow 46 = .ok (.istore_n 3, 1) := by decide +kernel
theorem dX9_narrow_47 : decode cX9_narrow 47 = .ok (.aload_n 0, 1) := by decide +kernel
theorem dX9_narrow_48 : decode cX9_narrow 48 = .ok (.getfield 57, 3) := by decide +kernel
theorem dX9_narrow_51 : decode cX9_narrow 51 = .ok (.iload_n 3, 1) := by decide +kernel
theorem dX9_narrow_52 : decode cX9_narrow 52 = .ok (.aload_n 0, 1) := by decide +kernel
theorem dX9_narrow_53 : decode cX9_narrow 53 = .ok (.getfield 57, 3) := by decide +kernel
theorem dX9_narrow_56 : decode cX9_narrow 56 = .ok (.iload_n 3, 1) := by decide +kernel
theorem dX9_narrow_57 : decode cX9_narrow 57 = .ok (.iaload, 1) := by decide +kernel
theorem dX9_narrow_58 : decode cX9_narrow 58 = .ok (.aload_n 0, 1) := by decide +kernel
theorem dX9_narrow_59 : decode cX9_narrow 59 = .ok (.getfield 72, 3) := by decide +kernel
theorem dX9_narrow_62 : decode cX9_narrow 62 = .ok (.iload_n 2, 1) := by decide +kernel
theorem dX9_narrow_63 : decode cX9_narrow 63 = .ok (.iaload, 1) := by decide +kernel
theorem dX9_narrow_64 : decode cX9_narrow 64 = .ok (.invokestatic 150, 3) := by decide +kernel
theorem dX9_narrow_67 : decode cX9_narrow 67 = .ok (.iastore, 1) := by decide +kernel
theorem dX9_narrow_68 : decode cX9_narrow 68 = .ok (.aload_n 0, 1) := by decide +kernel
theorem dX9_narrow_69 : decode cX9_narrow 69 = .ok (.getfield 60, 3) := by decide +kernel
theorem dX9_narrow_72 : decode cX9_narrow 72 = .ok (.iload_n 3, 1) := by decide +kernel
theorem dX9_narrow_73 : decode cX9_narrow 73 = .ok (.aload_n 0, 1) := by decide +kernel
theorem dX9_narrow_74 : decode cX9_narrow 74 = .ok (.getfield 60, 3) := by decide +kernel
theorem dX9_narrow_77 : decode cX9_narrow 77 = .ok (.iload_n 3, 1) := by decide +kernel
theorem dX9_narrow_78 : decode cX9_narrow 78 = .ok (.iaload, 1) := by decide +kernel
theorem dX9_narrow_79 : decode cX9_narrow 79 = .ok (.aload_n 0, 1) := by decide +kernel
theorem dX9_narrow_80 : decode cX9_narrow 80 = .ok (.getfield 75, 3) := by decide +kernel
theorem dX9_narrow_83 : decode cX9_narrow 83 = .ok (.iload_n 2, 1) := by decide +kernel
theorem dX9_narrow_84 : decode cX9_narrow 84 = .ok (.iaload, 1) := by decide +kernel
theorem dX9_narrow_85 : decode cX9_narrow 85 = .ok (.invokestatic 147, 3) := by decide +kernel
theorem dX9_narrow_88 : decode cX9_narrow 88 = .ok (.iastore, 1) := by decide +kernel
theorem dX9_narrow_89 : decode cX9_narrow 89 = .ok (.iinc 2 1, 3) := by decide +kernel
theorem dX9_narrow_92 : decode cX9_narrow 92 = .ok (.goto (-65), 3) := by decide +kernel
theorem dX9_narrow_95 : decode cX9_narrow 95 = .ok (.return_, 1) := by decide +kernel
set_option maxRecDepth 20000 in
theorem ggX9_analyze_X9_look : GoodIn wsX9_analyze wsX9_look := goodIn_r _ [11, 12, 3, 13, 14, 15, 16, 17, 18, 19, 20, 21, 22, 23, 4, 24, 25, 26, 27, 10, 28, 5, 29, 30, 31, 32, 33, 34, 35, 36, 37, 38, 39, 40, 41, 42, 43, 44, 45, 46, 47, 48, 49, 50, 51, 52, 53, 54, 55, 56, 57, 58, 59, 60, 61, 62, 63, 64, 65, 66, 67, 68, 69, 70, 71, 72, 73, 74, 75, 76, 77, 78, 79, 80, 81, 82, 83, 84, 85, 86, 87, 88, 89, 90, 91, 92, 93, 94, 99, 100, 101, 102, 103, 104, 105, 106, 107, 108, 109, 110, 111, 112, 113, 114, 115, 116, 117, 118, 119, 120, 121, 122, 123, 124, 125, 126, 127, 128, 129] (by decide +kernel) (by decide +kernel)
set_option maxRecDepth 20000 in
theorem gX9_analyze_X9_look : GoodIn wsX9_analyze (wsV RX9 183 RX9 yX9_look wsX9_look) := goodIn_app (goodIn_of _ (by decide +kernel)) ggX9_analyze_X9_look
set_option maxRecDepth 20000 in
theorem ggX9_analyze_X9_narrow : GoodIn wsX9_analyze wsX9_narrow := goodIn_r _ [98, 3, 12, 13, 14, 21, 22, 17, 23, 19, 20, 15, 16, 18, 25, 26, 27, 10, 28, 5, 29, 30, 31, 32, 33, 34, 35, 36, 37, 38, 39, 40, 41, 42, 43, 44, 45, 46, 47, 48, 49, 50, 51, 52, 53, 54, 55, 56, 57, 58, 59, 60, 61, 62, 63, 64, 65, 66, 67, 68, 69, 70, 71, 72, 73, 74, 75, 76, 77, 78, 79, 80, 81, 82, 99, 100, 101, 102, 103, 104, 105, 106, 107, 108, 109, 110, 111, 112, 113, 114, 115, 116, 117, 118, 119, 120, 121, 122, 123, 124, 125, 126, 127, 128, 129] (by decide +kernel) (by decide +kernel)
set_option maxRecDepth 20000 in
theorem gX9_analyze_X9_narrow : GoodIn wsX9_analyze (wsV RX9 186 RX9 yX9_narrow wsX9_narrow) := goodIn_app (goodIn_of _ (by decide +kernel)) ggX9_analyze_X9_narrow
theorem dX9_analyze_0 : decode cX9_analyze 0 = .ok (.aload_n 0, 1) := by decide +kernel
theorem dX9_analyze_1 : decode cX9_analyze 1 = .ok (.iconst 0, 1) := by decide +kernel
theorem dX9_analyze_2 : decode cX9_analyze 2 = .ok (.putfield 87, 3) := by decide +kernel
theorem dX9_analyze_5 : decode cX9_analyze 5 = .ok (.aload_n 0, 1) := by decide +kernel
theorem dX9_analyze_6 : decode cX9_analyze 6 = .ok (.iconst 1, 1) := by decide +kernel
theorem dX9_analyze_7 : decode cX9_analyze 7 = .ok (.putfield 96, 3) := by decide +kernel
theorem dX9_analyze_10 : decode cX9_analyze 10 = .ok (.iconst 0, 1) := by decide +kernel
theorem dX9_analyze_11 : decode cX9_analyze 11 = .ok (.istore_n 1, 1) := by decide +kernel
theorem dX9_analyze_12 : decode cX9_analyze 12 = .ok (.iload_n 1, 1) := by decide +kernel
theorem dX9_analyze_13 : decode cX9_analyze 13 = .ok (.bipush 16, 2) := by decide +kernel
theorem dX9_analyze_15 : decode cX9_analyze 15 = .ok (.if_icmp .ge 23, 3) := by decide +kernel
theorem dX9_analyze_18 : decode cX9_analyze 18 = .ok (.aload_n 0, 1) := by decide +kernel
theorem dX9_analyze_19 : decode cX9_analyze 19 = .ok (.getfield 53, 3) := by decide +kernel
theorem dX9_analyze_22 : decode cX9_analyze 22 = .ok (.iload_n 1, 1) := by decide +kernel
theorem dX9_analyze_23 : decode cX9_analyze 23 = .ok (.iconst 0, 1) := by decide +kernel
theorem dX9_analyze_24 : decode cX9_analyze 24 = .ok (.bastore, 1) := by decide +kernel
theorem dX9_analyze_25 : decode cX9_analyze 25 = .ok (.aload_n 0, 1) := by decide +kernel
theorem dX9_analyze_26 : decode cX9_analyze 26 = .ok (.getfield 63, 3) := by decide +kernel
theorem dX9_analyze_29 : decode cX9_analyze 29 = .ok (.iload_n 1, 1) := by decide +kernel
theorem dX9_analyze_30 : decode cX9_analyze 30 = .ok (.iconst 0, 1) := by decide +kernel
theorem dX9_analyze_31 : decode cX9_analyze 31 = .ok (.iastore, 1) := by decide +kernel
theorem dX9_analyze_32 : decode cX9_analyze 32 = .ok (.iinc 1 1, 3) := by decide +kernel
theorem dX9_analyze_35 : decode cX9_analyze 35 = .ok (.goto (-23), 3) := by decide +kernel
theorem dX9_analyze_38 : decode cX9_analyze 38 = .ok (.iconst 0, 1) := by decide +kernel
theorem dX9_analyze_39 : decode cX9_analyze 39 = .ok (.istore_n 1, 1) := by decide +kernel
theorem dX9_analyze_40 : decode cX9_analyze 40 = .ok (.iconst 1, 1) := by decide +kernel
theorem dX9_analyze_41 : decode cX9_analyze 41 = .ok (.istore_n 2, 1) := by decide +kernel
theorem dX9_analyze_42 : decode cX9_analyze 42 = .ok (.iload_n 2, 1) := by decide +kernel
theorem dX9_analyze_43 : decode cX9_analyze 43 = .ok (.ifCond .eq 45, 3) := by decide +kernel
theorem dX9_analyze_46 : decode cX9_analyze 46 = .ok (.iconst 0, 1) := by decide +kernel
theorem dX9_analyze_47 : decode cX9_analyze 47 = .ok (.istore_n 2, 1) := by decide +kernel
theorem dX9_analyze_48 : decode cX9_analyze 48 = .ok (.iinc 1 1, 3) := by decide +kernel
theorem dX9_analyze_51 : decode cX9_analyze 51 = .ok (.iconst 0, 1) := by decide +kernel
theorem dX9_analyze_52 : decode cX9_analyze 52 = .ok (.istore_n 3, 1) := by decide +kernel
theorem dX9_analyze_53 : decode cX9_analyze 53 = .ok (.iload_n 3, 1) := by decide +kernel
theorem dX9_analyze_54 : decode cX9_analyze 54 = .ok (.aload_n 0, 1) := by decide +kernel
theorem dX9_analyze_55 : decode cX9_analyze 55 = .ok (.getfield 7, 3) := by decide +kernel
theorem dX9_analyze_58 : decode cX9_analyze 58 = .ok (.if_icmp .ge 27, 3) := by decide +kernel
theorem dX9_analyze_61 : decode cX9_analyze 61 = .ok (.aload_n 0, 1) := by decide +kernel
theorem dX9_analyze_62 : decode cX9_analyze 62 = .ok (.iload_n 3, 1) := by decide +kernel
theorem dX9_analyze_63 : decode cX9_analyze 63 = .ok (.invokevirtual 183, 3) := by decide +kernel
theorem dX9_analyze_66 : decode cX9_analyze 66 = .ok (.ifCond .ne 7, 3) := by decide +kernel
theorem dX9_analyze_69 : decode cX9_analyze 69 = .ok (.iload_n 2, 1) := by decide +kernel
theorem dX9_analyze_70 : decode cX9_analyze 70 = .ok (.ifCond .eq 7, 3) := by decide +kernel
theorem dX9_analyze_73 : decode cX9_analyze 73 = .ok (.iconst 1, 1) := by decide +kernel
theorem dX9_analyze_74 : decode cX9_analyze 74 = .ok (.goto 4, 3) := by decide +kernel
theorem dX9_analyze_77 : decode cX9_analyze 77 = .ok (.iconst 0, 1) := by decide +kernel
theorem dX9_analyze_78 : decode cX9_analyze 78 = .ok (.istore_n 2, 1) := by decide +kernel
theorem dX9_analyze_79 : decode cX9_analyze 79 = .ok (.iinc 3 1, 3) := by decide +kernel
theorem dX9_analyze_82 : decode cX9_analyze 82 = .ok (.goto (-29), 3) := by decide +kernel
theorem dX9_analyze_85 : decode cX9_analyze 85 = .ok (.goto (-43), 3) := by decide +kernel
theorem dX9_analyze_88 : decode cX9_analyze 88 = .ok (.iconst 0, 1) := by decide +kernel
theorem dX9_analyze_89 : decode cX9_analyze 89 = .ok (.istore_n 3, 1) := by decide +kernel
theorem dX9_analyze_90 : decode cX9_analyze 90 = .ok (.iload_n 3, 1) := by decide +kernel
theorem dX9_analyze_91 : decode cX9_analyze 91 = .ok (.aload_n 0, 1) := by decide +kernel
theorem dX9_analyze_92 : decode cX9_analyze 92 = .ok (.getfield 47, 3) := by decide +kernel
theorem dX9_analyze_95 : decode cX9_analyze 95 = .ok (.if_icmp .ge 33, 3) := by decide +kernel
theorem dX9_analyze_98 : decode cX9_analyze 98 = .ok (.iconst 0, 1) := by decide +kernel
theorem dX9_analyze_99 : decode cX9_analyze 99 = .ok (.istore 4, 2) := by decide +kernel
theorem dX9_analyze_101 : decode cX9_analyze 101 = .ok (.iload 4, 2) := by decide +kernel
theorem dX9_analyze_103 : decode cX9_analyze 103 = .ok (.aload_n 0, 1) := by decide +kernel
theorem dX9_analyze_104 : decode cX9_analyze 104 = .ok (.getfield 7, 3) := by decide +kernel
theorem dX9_analyze_107 : decode cX9_analyze 107 = .ok (.if_icmp .ge 15, 3) := by decide +kernel
theorem dX9_analyze_110 : decode cX9_analyze 110 = .ok (.aload_n 0, 1) := by decide +kernel
theorem dX9_analyze_111 : decode cX9_analyze 111 = .ok (.iload 4, 2) := by decide +kernel
theorem dX9_analyze_113 : decode cX9_analyze 113 = .ok (.invokevirtual 186, 3) := by decide +kernel
theorem dX9_analyze_116 : decode cX9_analyze 116 = .ok (.iinc 4 1, 3) := by decide +kernel
theorem dX9_analyze_119 : decode cX9_analyze 119 = .ok (.goto (-18), 3) := by decide +kernel
theorem dX9_analyze_122 : decode cX9_analyze 122 = .ok (.iinc 3 1, 3) := by decide +kernel
theorem dX9_analyze_125 : decode cX9_analyze 125 = .ok (.goto (-35), 3) := by decide +kernel
theorem dX9_analyze_128 : decode cX9_analyze 128 = .ok (.iload_n 1, 1) := by decide +kernel
theorem dX9_analyze_129 : decode cX9_analyze 129 = .ok (.ireturn, 1) := by decide +kernel
theorem dX9_isAnalyzed_0 : decode cX9_isAnalyzed 0 = .ok (.aload_n 0, 1) := by decide +kernel
theorem dX9_isAnalyzed_1 : decode cX9_isAnalyzed 1 = .ok (.iconst 0, 1) := by decide +kernel
theorem dX9_isAnalyzed_2 : decode cX9_isAnalyzed 2 = .ok (.putfield 87, 3) := by decide +kernel
theorem dX9_isAnalyzed_5 : decode cX9_isAnalyzed 5 = .ok (.aload_n 0, 1) := by decide +kernel
theorem dX9_isAnalyzed_6 : decode cX9_isAnalyzed 6 = .ok (.getfield 96, 3) := by decide +kernel
theorem dX9_isAnalyzed_9 : decode cX9_isAnalyzed 9 = .ok (.ireturn, 1) := by decide +kernel
set_option maxRecDepth 20000 in
theorem ggX9_isReachable_X9_isBlock : GoodIn wsX9_isReachable wsX9_isBlock := goodIn_r _ [8, 9, 10, 11, 12, 13, 14, 15, 16, 17, 18, 19, 20, 21, 22, 23, 24, 25, 26, 27, 28, 29, 30, 31, 32, 33, 34, 35, 36, 37, 38, 39, 40] (by decide +kernel) (by decide +kernel)
set_option maxRecDepth 20000 in
theorem gX9_isReachable_X9_isBlock : GoodIn wsX9_isReachable (wsV RX9 108 RX9 yX9_isBlock wsX9_isBlock) := goodIn_app (goodIn_of _ (by decide +kernel)) ggX9_isReachable_X9_isBlock
theorem dX9_isReachable_0 : decode cX9_isReachable 0 = .ok (.aload_n 0, 1) := by decide +kernel
theorem dX9_isReachable_1 : decode cX9_isReachable 1 = .ok (.aload_n 0, 1) := by decide +kernel
theorem dX9_isReachable_2 : decode cX9_isReachable 2 = .ok (.getfield 96, 3) := by decide +kernel
theorem dX9_isReachable_5 : decode cX9_isReachable 5 = .ok (.ifCond .ne 7, 3) := by decide +kernel
theorem dX9_isReachable_8 : decode cX9_isReachable 8 = .ok (.iconst 1, 1) := by decide +kernel
theorem dX9_isReachable_9 : decode cX9_isReachable 9 = .ok (.goto 16, 3) := by decide +kernel
theorem dX9_isReachable_12 : decode cX9_isReachable 12 = .ok (.aload_n 0, 1) := by decide +kernel
theorem dX9_isReachable_13 : decode cX9_isReachable 13 = .ok (.iload_n 1, 1) := by decide +kernel
theorem dX9_isReachable_14 : decode cX9_isReachable 14 = .ok (.invokevirtual 108, 3) := by decide +kernel
theorem dX9_isReachable_17 : decode cX9_isReachable 17 = .ok (.ifCond .ne 7, 3) := by decide +kernel
theorem dX9_isReachable_20 : decode cX9_isReachable 20 = .ok (.iconst 2, 1) := by decide +kernel
theorem dX9_isReachable_21 : decode cX9_isReachable 21 = .ok (.goto 4, 3) := by decide +kernel
theorem dX9_isReachable_24 : decode cX9_isReachable 24 = .ok (.iconst 0, 1) := by decide +kernel
theorem dX9_isReachable_25 : decode cX9_isReachable 25 = .ok (.putfield 87, 3) := by decide +kernel
theorem dX9_isReachable_28 : decode cX9_isReachable 28 = .ok (.aload_n 0, 1) := by decide +kernel
theorem dX9_isReachable_29 : decode cX9_isReachable 29 = .ok (.getfield 87, 3) := by decide +kernel
theorem dX9_isReachable_32 : decode cX9_isReachable 32 = .ok (.ifCond .ne 16, 3) := by decide +kernel
theorem dX9_isReachable_35 : decode cX9_isReachable 35 = .ok (.aload_n 0, 1) := by decide +kernel
theorem dX9_isReachable_36 : decode cX9_isReachable 36 = .ok (.getfield 53, 3) := by decide +kernel
theorem dX9_isReachable_39 : decode cX9_isReachable 39 = .ok (.iload_n 1, 1) := by decide +kernel
theorem dX9_isReachable_40 : decode cX9_isReachable 40 = .ok (.baload, 1) := by decide +kernel
theorem dX9_isReachable_41 : decode cX9_isReachable 41 = .ok (.ifCond .eq 7, 3) := by decide +kernel
theorem dX9_isReachable_44 : decode cX9_isReachable 44 = .ok (.iconst 1, 1) := by decide +kernel
theorem dX9_isReachable_45 : decode cX9_isReachable 45 = .ok (.goto 4, 3) := by decide +kernel
theorem dX9_isReachable_48 : decode cX9_isReachable 48 = .ok (.iconst 0, 1) := by decide +kernel
theorem dX9_isReachable_49 : decode cX9_isReachable 49 = .ok (.ireturn, 1) := by decide +kernel
set_option maxRecDepth 20000 in
theorem ggX9_asks_X9_isBlock : GoodIn wsX9_asks wsX9_isBlock := goodIn_r _ [8, 9, 13, 14, 15, 16, 17, 18, 19, 20, 21, 22, 23, 24, 25, 26, 27, 28, 29, 30, 31, 32, 33, 34, 35, 36, 37, 38, 39, 40, 41, 42, 43] (by decide +kernel) (by decide +kernel)
set_option maxRecDepth 20000 in
theorem gX9_asks_X9_isBlock : GoodIn wsX9_asks (wsV RX9 108 RX9 yX9_isBlock wsX9_isBlock) := goodIn_app (goodIn_of _ (by decide +kernel)) ggX9_asks_X9_isBlock
set_option maxRecDepth 20000 in
theorem ggX9_asks_X9_isVariable : GoodIn wsX9_asks wsX9_isVariable := goodIn_r _ [12] (by decide +kernel) (by decide +kernel)
set_option maxRecDepth 20000 in
theorem gX9_asks_X9_isVariable : GoodIn wsX9_asks (va_wsS RX9 100 yX9_isVariable wsX9_isVariable) := goodIn_app (goodIn_of _ (by decide +kernel)) ggX9_asks_X9_isVariable
theorem dX9_asks_0 : decode cX9_asks 0 = .ok (.aload_n 0, 1) := by decide +kernel
theorem dX9_asks_1 : decode cX9_asks 1 = .ok (.aload_n 0, 1) := by decide +kernel
theorem dX9_asks_2 : decode cX9_asks 2 = .ok (.getfield 96, 3) := by decide +kernel
theorem dX9_asks_5 : decode cX9_asks 5 = .ok (.ifCond .ne 7, 3) := by decide +kernel
theorem dX9_asks_8 : decode cX9_asks 8 = .ok (.iconst 1, 1) := by decide +kernel
theorem dX9_asks_9 : decode cX9_asks 9 = .ok (.goto 36, 3) := by decide +kernel
theorem dX9_asks_12 : decode cX9_asks 12 = .ok (.aload_n 0, 1) := by decide +kernel
theorem dX9_asks_13 : decode cX9_asks 13 = .ok (.iload_n 1, 1) := by decide +kernel
theorem dX9_asks_14 : decode cX9_asks 14 = .ok (.invokevirtual 108, 3) := by decide +kernel
theorem dX9_asks_17 : decode cX9_asks 17 = .ok (.ifCond .eq 10, 3) := by decide +kernel
theorem dX9_asks_20 : decode cX9_asks 20 = .ok (.iload_n 2, 1) := by decide +kernel
theorem dX9_asks_21 : decode cX9_asks 21 = .ok (.invokestatic 100, 3) := by decide +kernel
theorem dX9_asks_24 : decode cX9_asks 24 = .ok (.ifCond .ne 7, 3) := by decide +kernel
theorem dX9_asks_27 : decode cX9_asks 27 = .ok (.iconst 2, 1) := by decide +kernel
theorem dX9_asks_28 : decode cX9_asks 28 = .ok (.goto 17, 3) := by decide +kernel
theorem dX9_asks_31 : decode cX9_asks 31 = .ok (.aload_n 0, 1) := by decide +kernel
theorem dX9_asks_32 : decode cX9_asks 32 = .ok (.getfield 53, 3) := by decide +kernel
theorem dX9_asks_35 : decode cX9_asks 35 = .ok (.iload_n 1, 1) := by decide +kernel
theorem dX9_asks_36 : decode cX9_asks 36 = .ok (.baload, 1) := by decide +kernel
theorem dX9_asks_37 : decode cX9_asks 37 = .ok (.ifCond .ne 7, 3) := by decide +kernel
theorem dX9_asks_40 : decode cX9_asks 40 = .ok (.iconst 3, 1) := by decide +kernel
theorem dX9_asks_41 : decode cX9_asks 41 = .ok (.goto 4, 3) := by decide +kernel
theorem dX9_asks_44 : decode cX9_asks 44 = .ok (.iconst 0, 1) := by decide +kernel
theorem dX9_asks_45 : decode cX9_asks 45 = .ok (.putfield 87, 3) := by decide +kernel
theorem dX9_asks_48 : decode cX9_asks 48 = .ok (.aload_n 0, 1) := by decide +kernel
theorem dX9_asks_49 : decode cX9_asks 49 = .ok (.getfield 87, 3) := by decide +kernel
theorem dX9_asks_52 : decode cX9_asks 52 = .ok (.ifCond .ne 7, 3) := by decide +kernel
theorem dX9_asks_55 : decode cX9_asks 55 = .ok (.iconst 1, 1) := by decide +kernel
theorem dX9_asks_56 : decode cX9_asks 56 = .ok (.goto 4, 3) := by decide +kernel
theorem dX9_asks_59 : decode cX9_asks 59 = .ok (.iconst 0, 1) := by decide +kernel
theorem dX9_asks_60 : decode cX9_asks 60 = .ok (.ireturn, 1) := by decide +kernel
set_option maxRecDepth 20000 in
theorem ggX9_entry_X9_asks : GoodIn wsX9_entry wsX9_asks := goodIn_r _ [7, 8, 9, 10, 11, 12, 13, 6, 14, 15, 16, 17, 18, 19, 20, 21, 22, 23, 24, 25, 26, 27, 28, 29, 30, 31, 32, 33, 34, 35, 36, 37, 38, 39, 40, 41, 42, 43, 44, 45, 46, 47, 48, 49] (by decide +kernel) (by decide +kernel)
set_option maxRecDepth 20000 in
theorem gX9_entry_X9_asks : GoodIn wsX9_entry (wsV RX9 189 RX9 yX9_asks wsX9_asks) := goodIn_app (goodIn_of _ (by decide +kernel)) ggX9_entry_X9_asks
theorem dX9_entry_0 : decode cX9_entry 0 = .ok (.aload_n 0, 1) := by decide +kernel
theorem dX9_entry_1 : decode cX9_entry 1 = .ok (.iload_n 1, 1) := by decide +kernel
theorem dX9_entry_2 : decode cX9_entry 2 = .ok (.iload_n 2, 1) := by decide +kernel
theorem dX9_entry_3 : decode cX9_entry 3 = .ok (.invokevirtual 189, 3) := by decide +kernel
theorem dX9_entry_6 : decode cX9_entry 6 = .ok (.ifCond .ne 5, 3) := by decide +kernel
theorem dX9_entry_9 : decode cX9_entry 9 = .ok (.iconst 0, 1) := by decide +kernel
theorem dX9_entry_10 : decode cX9_entry 10 = .ok (.ireturn, 1) := by decide +kernel
theorem dX9_entry_11 : decode cX9_entry 11 = .ok (.iload_n 3, 1) := by decide +kernel
theorem dX9_entry_12 : decode cX9_entry 12 = .ok (.ifCond .eq 17, 3) := by decide +kernel
theorem dX9_entry_15 : decode cX9_entry 15 = .ok (.aload_n 0, 1) := by decide +kernel
theorem dX9_entry_16 : decode cX9_entry 16 = .ok (.getfield 60, 3) := by decide +kernel
theorem dX9_entry_19 : decode cX9_entry 19 = .ok (.bipush 6, 2) := by decide +kernel
theorem dX9_entry_21 : decode cX9_entry 21 = .ok (.iload_n 1, 1) := by decide +kernel
theorem dX9_entry_22 : decode cX9_entry 22 = .ok (.imul, 1) := by decide +kernel
theorem dX9_entry_23 : decode cX9_entry 23 = .ok (.iload_n 2, 1) := by decide +kernel
theorem dX9_entry_24 : decode cX9_entry 24 = .ok (.iadd, 1) := by decide +kernel
theorem dX9_entry_25 : decode cX9_entry 25 = .ok (.iaload, 1) := by decide +kernel
theorem dX9_entry_26 : decode cX9_entry 26 = .ok (.goto 14, 3) := by decide +kernel
theorem dX9_entry_29 : decode cX9_entry 29 = .ok (.aload_n 0, 1) := by decide +kernel
theorem dX9_entry_30 : decode cX9_entry 30 = .ok (.getfield 57, 3) := by decide +kernel
theorem dX9_entry_33 : decode cX9_entry 33 = .ok (.bipush 6, 2) := by decide +kernel
theorem dX9_entry_35 : decode cX9_entry 35 = .ok (.iload_n 1, 1) := by decide +kernel
theorem dX9_entry_36 : decode cX9_entry 36 = .ok (.imul, 1) := by decide +kernel
theorem dX9_entry_37 : decode cX9_entry 37 = .ok (.iload_n 2, 1) := by decide +kernel
theorem dX9_entry_38 : decode cX9_entry 38 = .ok (.iadd, 1) := by decide +kernel
theorem dX9_entry_39 : decode cX9_entry 39 = .ok (.iaload, 1) := by decide +kernel
theorem dX9_entry_40 : decode cX9_entry 40 = .ok (.ireturn, 1) := by decide +kernel
set_option maxRecDepth 20000 in
theorem ggX9_exit_X9_asks : GoodIn wsX9_exit wsX9_asks := goodIn_r _ [7, 8, 9, 10, 11, 12, 13, 6, 14, 15, 16, 17, 18, 57, 58, 59, 60, 61, 62, 63, 64, 65, 66, 67, 68, 69, 70, 71, 72, 73, 74, 75, 76, 77, 78, 79, 80, 81, 82, 83, 84, 85, 86, 87] (by decide +kernel) (by decide +kernel)
set_option maxRecDepth 20000 in
theorem gX9_exit_X9_asks : GoodIn wsX9_exit (wsV RX9 189 RX9 yX9_asks wsX9_asks) := goodIn_app (goodIn_of _ (by decide +kernel)) ggX9_exit_X9_asks
set_option maxRecDepth 20000 in
theorem ggX9_exit_X9_leave : GoodIn wsX9_exit wsX9_leave := goodIn_r _ [22, 2, 23, 1, 24, 25, 26, 27, 28, 6, 29, 30, 31, 32, 33, 34, 35, 36, 37, 38, 39, 40, 41, 42, 43, 44, 45, 46, 47, 48, 49, 50, 51, 52, 53, 54, 55, 56, 57, 58, 59, 60, 61, 62, 63, 64, 65, 66, 67, 68, 69, 70, 71, 72, 73, 74, 75, 76, 77, 78, 79, 80, 81, 82, 83, 84, 85, 86, 87] (by decide +kernel) (by decide +kernel)
set_option maxRecDepth 20000 in
theorem gX9_exit_X9_leave : GoodIn wsX9_exit (wsV RX9 156 RX9 yX9_leave wsX9_leave) := goodIn_app (goodIn_of _ (by decide +kernel)) ggX9_exit_X9_leave
theorem dX9_exit_0 : decode cX9_exit 0 = .ok (.aload_n 0, 1) := by decide +kernel
theorem dX9_exit_1 : decode cX9_exit 1 = .ok (.iload_n 1, 1) := by decide +kernel
theorem dX9_exit_2 : decode cX9_exit 2 = .ok (.iload_n 2, 1) := by decide +kernel
theorem dX9_exit_3 : decode cX9_exit 3 = .ok (.invokevirtual 189, 3) := by decide +kernel
theorem dX9_exit_6 : decode cX9_exit 6 = .ok (.ifCond .ne 5, 3) := by decide +kernel
theorem dX9_exit_9 : decode cX9_exit 9 = .ok (.iconst 0, 1) := by decide +kernel
theorem dX9_exit_10 : decode cX9_exit 10 = .ok (.ireturn, 1) := by decide +kernel
theorem dX9_exit_11 : decode cX9_exit 11 = .ok (.aload_n 0, 1) := by decide +kernel
theorem dX9_exit_12 : decode cX9_exit 12 = .ok (.iload_n 1, 1) := by decide +kernel
theorem dX9_exit_13 : decode cX9_exit 13 = .ok (.invokevirtual 156, 3) := by decide +kernel
theorem dX9_exit_16 : decode cX9_exit 16 = .ok (.iload_n 3, 1) := by decide +kernel
theorem dX9_exit_17 : decode cX9_exit 17 = .ok (.ifCond .eq 12, 3) := by decide +kernel
theorem dX9_exit_20 : decode cX9_exit 20 = .ok (.aload_n 0, 1) := by decide +kernel
theorem dX9_exit_21 : decode cX9_exit 21 = .ok (.getfield 69, 3) := by decide +kernel
theorem dX9_exit_24 : decode cX9_exit 24 = .ok (.iload_n 2, 1) := by decide +kernel
theorem dX9_exit_25 : decode cX9_exit 25 = .ok (.iaload, 1) := by decide +kernel
theorem dX9_exit_26 : decode cX9_exit 26 = .ok (.goto 9, 3) := by decide +kernel
theorem dX9_exit_29 : decode cX9_exit 29 = .ok (.aload_n 0, 1) := by decide +kernel
theorem dX9_exit_30 : decode cX9_exit 30 = .ok (.getfield 66, 3) := by decide +kernel
theorem dX9_exit_33 : decode cX9_exit 33 = .ok (.iload_n 2, 1) := by decide +kernel
theorem dX9_exit_34 : decode cX9_exit 34 = .ok (.iaload, 1) := by decide +kernel
theorem dX9_exit_35 : decode cX9_exit 35 = .ok (.ireturn, 1) := by decide +kernel
set_option maxRecDepth 20000 in
theorem ggX9_isDead_X9_isBlock : GoodIn wsX9_isDead wsX9_isBlock := goodIn_r _ [8, 9, 65, 66, 67, 68, 69, 70, 71, 72, 73, 74, 75, 76, 77, 78, 79, 80, 81, 82, 83, 84, 85, 86, 87, 88, 89, 90, 91, 92, 93, 94, 95] (by decide +kernel) (by decide +kernel)
set_option maxRecDepth 20000 in
theorem gX9_isDead_X9_isBlock : GoodIn wsX9_isDead (wsV RX9 108 RX9 yX9_isBlock wsX9_isBlock) := goodIn_app (goodIn_of _ (by decide +kernel)) ggX9_isDead_X9_isBlock
set_option maxRecDepth 20000 in
theorem ggX9_isDead_X9_reach : GoodIn wsX9_isDead wsX9_reach := goodIn_r _ [13, 14, 2, 15, 16, 17, 18, 19, 20, 21, 22, 7, 23, 24, 25, 26, 27, 28, 29, 30, 31, 32, 33, 34, 35, 36, 37, 38, 39, 40, 41, 42, 43, 44, 45, 46, 47, 48, 49, 50, 51, 52, 53, 54, 55, 56, 57, 58, 59, 60, 61, 62, 63, 64, 65, 66, 67, 68, 69, 70, 71, 72, 73, 74, 75, 76, 77, 78, 79, 80, 81, 82, 83, 84, 85, 86, 87, 88, 89, 90, 91, 92, 93, 94, 95] (by decide +kernel) (by decide +kernel)
set_option maxRecDepth 20000 in
theorem gX9_isDead_X9_reach : GoodIn wsX9_isDead (wsV RX9 168 RX9 yX9_reach wsX9_reach) := goodIn_app (goodIn_of _ (by decide +kernel)) ggX9_isDead_X9_reach
theorem dX9_isDead_0 : decode cX9_isDead 0 = .ok (.aload_n 0, 1) := by decide +kernel
theorem dX9_isDead_1 : decode cX9_isDead 1 = .ok (.aload_n 0, 1) := by decide +kernel
theorem dX9_isDead_2 : decode cX9_isDead 2 = .ok (.getfield 96, 3) := by decide +kernel
theorem dX9_isDead_5 : decode cX9_isDead 5 = .ok (.ifCond .ne 7, 3) := by decide +kernel
theorem dX9_isDead_8 : decode cX9_isDead 8 = .ok (.iconst 1, 1) := by decide +kernel
theorem dX9_isDead_9 : decode cX9_isDead 9 = .ok (.goto 30, 3) := by decide +kernel
theorem dX9_isDead_12 : decode cX9_isDead 12 = .ok (.aload_n 0, 1) := by decide +kernel
theorem dX9_isDead_13 : decode cX9_isDead 13 = .ok (.iload_n 1, 1) := by decide +kernel
theorem dX9_isDead_14 : decode cX9_isDead 14 = .ok (.invokevirtual 108, 3) := by decide +kernel
theorem dX9_isDead_17 : decode cX9_isDead 17 = .ok (.ifCond .eq 17, 3) := by decide +kernel
theorem dX9_isDead_20 : decode cX9_isDead 20 = .ok (.iload_n 2, 1) := by decide +kernel
theorem dX9_isDead_21 : decode cX9_isDead 21 = .ok (.ifCond .lt 13, 3) := by decide +kernel
theorem dX9_isDead_24 : decode cX9_isDead 24 = .ok (.iload_n 2, 1) := by decide +kernel
theorem dX9_isDead_25 : decode cX9_isDead 25 = .ok (.aload_n 0, 1) := by decide +kernel
theorem dX9_isDead_26 : decode cX9_isDead 26 = .ok (.getfield 20, 3) := by decide +kernel
theorem dX9_isDead_29 : decode cX9_isDead 29 = .ok (.iload_n 1, 1) := by decide +kernel
theorem dX9_isDead_30 : decode cX9_isDead 30 = .ok (.iaload, 1) := by decide +kernel
theorem dX9_isDead_31 : decode cX9_isDead 31 = .ok (.if_icmp .lt 7, 3) := by decide +kernel
theorem dX9_isDead_34 : decode cX9_isDead 34 = .ok (.iconst 2, 1) := by decide +kernel
theorem dX9_isDead_35 : decode cX9_isDead 35 = .ok (.goto 4, 3) := by decide +kernel
theorem dX9_isDead_38 : decode cX9_isDead 38 = .ok (.iconst 0, 1) := by decide +kernel
theorem dX9_isDead_39 : decode cX9_isDead 39 = .ok (.putfield 87, 3) := by decide +kernel
theorem dX9_isDead_42 : decode cX9_isDead 42 = .ok (.aload_n 0, 1) := by decide +kernel
theorem dX9_isDead_43 : decode cX9_isDead 43 = .ok (.getfield 87, 3) := by decide +kernel
theorem dX9_isDead_46 : decode cX9_isDead 46 = .ok (.ifCond .ne 16, 3) := by decide +kernel
theorem dX9_isDead_49 : decode cX9_isDead 49 = .ok (.aload_n 0, 1) := by decide +kernel
theorem dX9_isDead_50 : decode cX9_isDead 50 = .ok (.iload_n 1, 1) := by decide +kernel
theorem dX9_isDead_51 : decode cX9_isDead 51 = .ok (.iload_n 2, 1) := by decide +kernel
theorem dX9_isDead_52 : decode cX9_isDead 52 = .ok (.invokevirtual 168, 3) := by decide +kernel
theorem dX9_isDead_55 : decode cX9_isDead 55 = .ok (.ifCond .ne 7, 3) := by decide +kernel
theorem dX9_isDead_58 : decode cX9_isDead 58 = .ok (.iconst 1, 1) := by decide +kernel
theorem dX9_isDead_59 : decode cX9_isDead 59 = .ok (.goto 4, 3) := by decide +kernel
theorem dX9_isDead_62 : decode cX9_isDead 62 = .ok (.iconst 0, 1) := by decide +kernel
theorem dX9_isDead_63 : decode cX9_isDead 63 = .ok (.ireturn, 1) := by decide +kernel
set_option maxRecDepth 20000 in
theorem ggX9_deadEdges_X9_reach : GoodIn wsX9_deadEdges wsX9_reach := goodIn_r _ [10, 5, 4, 11, 12, 13, 14, 15, 16, 17, 18, 9, 19, 20, 21, 22, 23, 24, 25, 26, 27, 28, 29, 30, 31, 32, 33, 34, 35, 36, 37, 38, 39, 40, 41, 42, 43, 44, 45, 46, 47, 48, 49, 50, 51, 52, 53, 54, 55, 56, 57, 58, 59, 60, 61, 62, 63, 64, 65, 66, 67, 68, 69, 70, 71, 72, 73, 74, 75, 76, 77, 78, 79, 80, 81, 82, 83, 84, 85, 86, 87, 88, 89, 90, 91] (by decide +kernel) (by decide +kernel)
set_option maxRecDepth 20000 in
theorem gX9_deadEdges_X9_reach : GoodIn wsX9_deadEdges (wsV RX9 168 RX9 yX9_reach wsX9_reach) := goodIn_app (goodIn_of _ (by decide +kernel)) ggX9_deadEdges_X9_reach
theorem dX9_deadEdges_0 : decode cX9_deadEdges 0 = .ok (.aload_n 0, 1) := by decide +kernel
theorem dX9_deadEdges_1 : decode cX9_deadEdges 1 = .ok (.aload_n 0, 1) := by decide +kernel
theorem dX9_deadEdges_2 : decode cX9_deadEdges 2 = .ok (.getfield 96, 3) := by decide +kernel
theorem dX9_deadEdges_5 : decode cX9_deadEdges 5 = .ok (.ifCond .eq 7, 3) := by decide +kernel
theorem dX9_deadEdges_8 : decode cX9_deadEdges 8 = .ok (.iconst 0, 1) := by decide +kernel
theorem dX9_deadEdges_9 : decode cX9_deadEdges 9 = .ok (.goto 4, 3) := by decide +kernel
theorem dX9_deadEdges_12 : decode cX9_deadEdges 12 = .ok (.iconst 1, 1) := by decide +kernel
theorem dX9_deadEdges_13 : decode cX9_deadEdges 13 = .ok (.putfield 87, 3) := by decide +kernel
theorem dX9_deadEdges_16 : decode cX9_deadEdges 16 = .ok (.iconst 0, 1) := by decide +kernel
theorem dX9_deadEdges_17 : decode cX9_deadEdges 17 = .ok (.istore_n 1, 1) := by decide +kernel
theorem dX9_deadEdges_18 : decode cX9_deadEdges 18 = .ok (.iconst 0, 1) := by decide +kernel
theorem dX9_deadEdges_19 : decode cX9_deadEdges 19 = .ok (.istore_n 2, 1) := by decide +kernel
theorem dX9_deadEdges_20 : decode cX9_deadEdges 20 = .ok (.iload_n 2, 1) := by decide +kernel
theorem dX9_deadEdges_21 : decode cX9_deadEdges 21 = .ok (.aload_n 0, 1) := by decide +kernel
theorem dX9_deadEdges_22 : decode cX9_deadEdges 22 = .ok (.getfield 7, 3) := by decide +kernel
theorem dX9_deadEdges_25 : decode cX9_deadEdges 25 = .ok (.if_icmp .ge 60, 3) := by decide +kernel
theorem dX9_deadEdges_28 : decode cX9_deadEdges 28 = .ok (.aload_n 0, 1) := by decide +kernel
theorem dX9_deadEdges_29 : decode cX9_deadEdges 29 = .ok (.getfield 87, 3) := by decide +kernel
theorem dX9_deadEdges_32 : decode cX9_deadEdges 32 = .ok (.ifCond .ne 53, 3) := by decide +kernel
theorem dX9_deadEdges_35 : decode cX9_deadEdges 35 = .ok (.iconst 0, 1) := by decide +kernel
theorem dX9_deadEdges_36 : decode cX9_deadEdges 36 = .ok (.istore_n 3, 1) := by decide +kernel
theorem dX9_deadEdges_37 : decode cX9_deadEdges 37 = .ok (.iload_n 3, 1) := by decide +kernel
theorem dX9_deadEdges_38 : decode cX9_deadEdges 38 = .ok (.aload_n 0, 1) := by decide +kernel
theorem dX9_deadEdges_39 : decode cX9_deadEdges 39 = .ok (.getfield 20, 3) := by decide +kernel
theorem dX9_deadEdges_42 : decode cX9_deadEdges 42 = .ok (.iload_n 2, 1) := by decide +kernel
theorem dX9_deadEdges_43 : decode cX9_deadEdges 43 = .ok (.iaload, 1) := by decide +kernel
theorem dX9_deadEdges_44 : decode cX9_deadEdges 44 = .ok (.if_icmp .ge 35, 3) := by decide +kernel
theorem dX9_deadEdges_47 : decode cX9_deadEdges 47 = .ok (.aload_n 0, 1) := by decide +kernel
theorem dX9_deadEdges_48 : decode cX9_deadEdges 48 = .ok (.getfield 53, 3) := by decide +kernel
theorem dX9_deadEdges_51 : decode cX9_deadEdges 51 = .ok (.iload_n 2, 1) := by decide +kernel
theorem dX9_deadEdges_52 : decode cX9_deadEdges 52 = .ok (.baload, 1) := by decide +kernel
theorem dX9_deadEdges_53 : decode cX9_deadEdges 53 = .ok (.ifCond .eq 26, 3) := by decide +kernel
theorem dX9_deadEdges_56 : decode cX9_deadEdges 56 = .ok (.iload_n 1, 1) := by decide +kernel
theorem dX9_deadEdges_57 : decode cX9_deadEdges 57 = .ok (.aload_n 0, 1) := by decide +kernel
theorem dX9_deadEdges_58 : decode cX9_deadEdges 58 = .ok (.iload_n 2, 1) := by decide +kernel
theorem dX9_deadEdges_59 : decode cX9_deadEdges 59 = .ok (.iload_n 3, 1) := by decide +kernel
theorem dX9_deadEdges_60 : decode cX9_deadEdges 60 = .ok (.invokevirtual 168, 3) := by decide +kernel
theorem dX9_deadEdges_63 : decode cX9_deadEdges 63 = .ok (.ifCond .eq 7, 3) := by decide +kernel
theorem dX9_deadEdges_66 : decode cX9_deadEdges 66 = .ok (.iconst 0, 1) := by decide +kernel
theorem dX9_deadEdges_67 : decode cX9_deadEdges 67 = .ok (.goto 4, 3) := by decide +kernel
theorem dX9_deadEdges_70 : decode cX9_deadEdges 70 = .ok (.iconst 1, 1) := by decide +kernel
theorem dX9_deadEdges_71 : decode cX9_deadEdges 71 = .ok (.iadd, 1) := by decide +kernel
theorem dX9_deadEdges_72 : decode cX9_deadEdges 72 = .ok (.istore_n 1, 1) := by decide +kernel
theorem dX9_deadEdges_73 : decode cX9_deadEdges 73 = .ok (.iinc 3 1, 3) := by decide +kernel
theorem dX9_deadEdges_76 : decode cX9_deadEdges 76 = .ok (.goto (-39), 3) := by decide +kernel
theorem dX9_deadEdges_79 : decode cX9_deadEdges 79 = .ok (.iinc 2 1, 3) := by decide +kernel
theorem dX9_deadEdges_82 : decode cX9_deadEdges 82 = .ok (.goto (-62), 3) := by decide +kernel
theorem dX9_deadEdges_85 : decode cX9_deadEdges 85 = .ok (.iload_n 1, 1) := by decide +kernel
theorem dX9_deadEdges_86 : decode cX9_deadEdges 86 = .ok (.ireturn, 1) := by decide +kernel
set_option maxRecDepth 20000 in
theorem ggX9_constants_X9_isBlock : GoodIn wsX9_constants wsX9_isBlock := goodIn_r _ [10, 11, 50, 51, 52, 53, 54, 55, 56, 57, 58, 59, 60, 61, 62, 63, 64, 65, 66, 67, 68, 69, 70, 71, 72, 73, 74, 75, 76, 77, 78, 79, 80] (by decide +kernel) (by decide +kernel)
set_option maxRecDepth 20000 in
theorem gX9_constants_X9_isBlock : GoodIn wsX9_constants (wsV RX9 108 RX9 yX9_isBlock wsX9_isBlock) := goodIn_app (goodIn_of _ (by decide +kernel)) ggX9_constants_X9_isBlock
set_option maxRecDepth 20000 in
theorem ggX9_constants_X9_leave : GoodIn wsX9_constants wsX9_leave := goodIn_r _ [15, 4, 16, 5, 17, 18, 19, 20, 21, 9, 22, 23, 24, 25, 26, 27, 28, 29, 30, 31, 32, 33, 34, 35, 36, 37, 38, 39, 40, 41, 42, 43, 44, 45, 46, 47, 48, 49, 50, 51, 52, 53, 54, 55, 56, 57, 58, 59, 60, 61, 62, 63, 64, 65, 66, 67, 68, 69, 70, 71, 72, 73, 74, 75, 76, 77, 78, 79, 80] (by decide +kernel) (by decide +kernel)
set_option maxRecDepth 20000 in
theorem gX9_constants_X9_leave : GoodIn wsX9_constants (wsV RX9 156 RX9 yX9_leave wsX9_leave) := goodIn_app (goodIn_of _ (by decide +kernel)) ggX9_constants_X9_leave
theorem dX9_constants_0 : decode cX9_constants 0 = .ok (.aload_n 0, 1) := by decide +kernel
theorem dX9_constants_1 : decode cX9_constants 1 = .ok (.aload_n 0, 1) := by decide +kernel
theorem dX9_constants_2 : decode cX9_constants 2 = .ok (.getfield 96, 3) := by decide +kernel
theorem dX9_constants_5 : decode cX9_constants 5 = .ok (.ifCond .ne 7, 3) := by decide +kernel
theorem dX9_constants_8 : decode cX9_constants 8 = .ok (.iconst 1, 1) := by decide +kernel
theorem dX9_constants_9 : decode cX9_constants 9 = .ok (.goto 16, 3) := by decide +kernel
theorem dX9_constants_12 : decode cX9_constants 12 = .ok (.aload_n 0, 1) := by decide +kernel
theorem dX9_constants_13 : decode cX9_constants 13 = .ok (.iload_n 1, 1) := by decide +kernel
theorem dX9_constants_14 : decode cX9_constants 14 = .ok (.invokevirtual 108, 3) := by decide +kernel
theorem dX9_constants_17 : decode cX9_constants 17 = .ok (.ifCond .ne 7, 3) := by decide +kernel
theorem dX9_constants_20 : decode cX9_constants 20 = .ok (.iconst 2, 1) := by decide +kernel
theorem dX9_constants_21 : decode cX9_constants 21 = .ok (.goto 4, 3) := by decide +kernel
theorem dX9_constants_24 : decode cX9_constants 24 = .ok (.iconst 0, 1) := by decide +kernel
theorem dX9_constants_25 : decode cX9_constants 25 = .ok (.putfield 87, 3) := by decide +kernel
theorem dX9_constants_28 : decode cX9_constants 28 = .ok (.aload_n 0, 1) := by decide +kernel
theorem dX9_constants_29 : decode cX9_constants 29 = .ok (.getfield 87, 3) := by decide +kernel
theorem dX9_constants_32 : decode cX9_constants 32 = .ok (.ifCond .ne 12, 3) := by decide +kernel
theorem dX9_constants_35 : decode cX9_constants 35 = .ok (.aload_n 0, 1) := by decide +kernel
theorem dX9_constants_36 : decode cX9_constants 36 = .ok (.getfield 53, 3) := by decide +kernel
theorem dX9_constants_39 : decode cX9_constants 39 = .ok (.iload_n 1, 1) := by decide +kernel
theorem dX9_constants_40 : decode cX9_constants 40 = .ok (.baload, 1) := by decide +kernel
theorem dX9_constants_41 : decode cX9_constants 41 = .ok (.ifCond .ne 5, 3) := by decide +kernel
theorem dX9_constants_44 : decode cX9_constants 44 = .ok (.iconst 0, 1) := by decide +kernel
theorem dX9_constants_45 : decode cX9_constants 45 = .ok (.ireturn, 1) := by decide +kernel
theorem dX9_constants_46 : decode cX9_constants 46 = .ok (.aload_n 0, 1) := by decide +kernel
theorem dX9_constants_47 : decode cX9_constants 47 = .ok (.iload_n 1, 1) := by decide +kernel
theorem dX9_constants_48 : decode cX9_constants 48 = .ok (.invokevirtual 156, 3) := by decide +kernel
theorem dX9_constants_51 : decode cX9_constants 51 = .ok (.iconst 0, 1) := by decide +kernel
theorem dX9_constants_52 : decode cX9_constants 52 = .ok (.istore_n 2, 1) := by decide +kernel
theorem dX9_constants_53 : decode cX9_constants 53 = .ok (.iconst 0, 1) := by decide +kernel
theorem dX9_constants_54 : decode cX9_constants 54 = .ok (.istore_n 3, 1) := by decide +kernel
theorem dX9_constants_55 : decode cX9_constants 55 = .ok (.iload_n 3, 1) := by decide +kernel
theorem dX9_constants_56 : decode cX9_constants 56 = .ok (.bipush 6, 2) := by decide +kernel
theorem dX9_constants_58 : decode cX9_constants 58 = .ok (.if_icmp .ge 32, 3) := by decide +kernel
theorem dX9_constants_61 : decode cX9_constants 61 = .ok (.iload_n 2, 1) := by decide +kernel
theorem dX9_constants_62 : decode cX9_constants 62 = .ok (.aload_n 0, 1) := by decide +kernel
theorem dX9_constants_63 : decode cX9_constants 63 = .ok (.getfield 66, 3) := by decide +kernel
theorem dX9_constants_66 : decode cX9_constants 66 = .ok (.iload_n 3, 1) := by decide +kernel
theorem dX9_constants_67 : decode cX9_constants 67 = .ok (.iaload, 1) := by decide +kernel
theorem dX9_constants_68 : decode cX9_constants 68 = .ok (.aload_n 0, 1) := by decide +kernel
theorem dX9_constants_69 : decode cX9_constants 69 = .ok (.getfield 69, 3) := by decide +kernel
theorem dX9_constants_72 : decode cX9_constants 72 = .ok (.iload_n 3, 1) := by decide +kernel
theorem dX9_constants_73 : decode cX9_constants 73 = .ok (.iaload, 1) := by decide +kernel
theorem dX9_constants_74 : decode cX9_constants 74 = .ok (.if_icmp .ne 7, 3) := by decide +kernel
theorem dX9_constants_77 : decode cX9_constants 77 = .ok (.iconst 1, 1) := by decide +kernel
theorem dX9_constants_78 : decode cX9_constants 78 = .ok (.goto 4, 3) := by decide +kernel
theorem dX9_constants_81 : decode cX9_constants 81 = .ok (.iconst 0, 1) := by decide +kernel
theorem dX9_constants_82 : decode cX9_constants 82 = .ok (.iadd, 1) := by decide +kernel
theorem dX9_constants_83 : decode cX9_constants 83 = .ok (.istore_n 2, 1) := by decide +kernel
theorem dX9_constants_84 : decode cX9_constants 84 = .ok (.iinc 3 1, 3) := by decide +kernel
theorem dX9_constants_87 : decode cX9_constants 87 = .ok (.goto (-32), 3) := by decide +kernel
theorem dX9_constants_90 : decode cX9_constants 90 = .ok (.iload_n 2, 1) := by decide +kernel
theorem dX9_constants_91 : decode cX9_constants 91 = .ok (.ireturn, 1) := by decide +kernel
set_option maxRecDepth 20000 in
theorem ggX9_visits_X9_isBlock : GoodIn wsX9_visits wsX9_isBlock := goodIn_r _ [8, 9, 10, 11, 12, 13, 14, 15, 16, 17, 18, 19, 20, 21, 22, 23, 24, 25, 26, 27, 28, 29, 30, 31, 32, 33, 34, 35, 36, 37, 38, 39, 40] (by decide +kernel) (by decide +kernel)
set_option maxRecDepth 20000 in
theorem gX9_visits_X9_isBlock : GoodIn wsX9_visits (wsV RX9 108 RX9 yX9_isBlock wsX9_isBlock) := goodIn_app (goodIn_of _ (by decide +kernel)) ggX9_visits_X9_isBlock
theorem dX9_visits_0 : decode cX9_visits 0 = .ok (.aload_n 0, 1) := by decide +kernel
theorem dX9_visits_1 : decode cX9_visits 1 = .ok (.aload_n 0, 1) := by decide +kernel
theorem dX9_visits_2 : decode cX9_visits 2 = .ok (.getfield 96, 3) := by decide +kernel
theorem dX9_visits_5 : decode cX9_visits 5 = .ok (.ifCond .ne 7, 3) := by decide +kernel
theorem dX9_visits_8 : decode cX9_visits 8 = .ok (.iconst 1, 1) := by decide +kernel
theorem dX9_visits_9 : decode cX9_visits 9 = .ok (.goto 16, 3) := by decide +kernel
theorem dX9_visits_12 : decode cX9_visits 12 = .ok (.aload_n 0, 1) := by decide +kernel
theorem dX9_visits_13 : decode cX9_visits 13 = .ok (.iload_n 1, 1) := by decide +kernel
theorem dX9_visits_14 : decode cX9_visits 14 = .ok (.invokevirtual 108, 3) := by decide +kernel
theorem dX9_visits_17 : decode cX9_visits 17 = .ok (.ifCond .ne 7, 3) := by decide +kernel
theorem dX9_visits_20 : decode cX9_visits 20 = .ok (.iconst 2, 1) := by decide +kernel
theorem dX9_visits_21 : decode cX9_visits 21 = .ok (.goto 4, 3) := by decide +kernel
theorem dX9_visits_24 : decode cX9_visits 24 = .ok (.iconst 0, 1) := by decide +kernel
theorem dX9_visits_25 : decode cX9_visits 25 = .ok (.putfield 87, 3) := by decide +kernel
theorem dX9_visits_28 : decode cX9_visits 28 = .ok (.aload_n 0, 1) := by decide +kernel
theorem dX9_visits_29 : decode cX9_visits 29 = .ok (.getfield 87, 3) := by decide +kernel
theorem dX9_visits_32 : decode cX9_visits 32 = .ok (.ifCond .ne 12, 3) := by decide +kernel
theorem dX9_visits_35 : decode cX9_visits 35 = .ok (.aload_n 0, 1) := by decide +kernel
theorem dX9_visits_36 : decode cX9_visits 36 = .ok (.getfield 63, 3) := by decide +kernel
theorem dX9_visits_39 : decode cX9_visits 39 = .ok (.iload_n 1, 1) := by decide +kernel
theorem dX9_visits_40 : decode cX9_visits 40 = .ok (.iaload, 1) := by decide +kernel
theorem dX9_visits_41 : decode cX9_visits 41 = .ok (.goto 4, 3) := by decide +kernel
theorem dX9_visits_44 : decode cX9_visits 44 = .ok (.iconst 0, 1) := by decide +kernel
theorem dX9_visits_45 : decode cX9_visits 45 = .ok (.ireturn, 1) := by decide +kernel
theorem dX9_draw_0 : decode cX9_draw 0 = .ok (.iload_n 2, 1) := by decide +kernel
theorem dX9_draw_1 : decode cX9_draw 1 = .ok (.i2l, 1) := by decide +kernel
theorem dX9_draw_2 : decode cX9_draw 2 = .ok (.iload_n 1, 1) := by decide +kernel
theorem dX9_draw_3 : decode cX9_draw 3 = .ok (.i2l, 1) := by decide +kernel
theorem dX9_draw_4 : decode cX9_draw 4 = .ok (.lsub, 1) := by decide +kernel
theorem dX9_draw_5 : decode cX9_draw 5 = .ok (.lconst 1, 1) := by decide +kernel
theorem dX9_draw_6 : decode cX9_draw 6 = .ok (.ladd, 1) := by decide +kernel
theorem dX9_draw_7 : decode cX9_draw 7 = .ok (.lstore_n 3, 1) := by decide +kernel
theorem dX9_draw_8 : decode cX9_draw 8 = .ok (.aload_n 0, 1) := by decide +kernel
theorem dX9_draw_9 : decode cX9_draw 9 = .ok (.getfield 192, 3) := by decide +kernel
theorem dX9_draw_12 : decode cX9_draw 12 = .ok (.lload_n 3, 1) := by decide +kernel
theorem dX9_draw_13 : decode cX9_draw 13 = .ok (.lrem, 1) := by decide +kernel
theorem dX9_draw_14 : decode cX9_draw 14 = .ok (.lstore 5, 2) := by decide +kernel
theorem dX9_draw_16 : decode cX9_draw 16 = .ok (.lload 5, 2) := by decide +kernel
theorem dX9_draw_18 : decode cX9_draw 18 = .ok (.lconst 0, 1) := by decide +kernel
theorem dX9_draw_19 : decode cX9_draw 19 = .ok (.lcmp, 1) := by decide +kernel
theorem dX9_draw_20 : decode cX9_draw 20 = .ok (.ifCond .ge 9, 3) := by decide +kernel
theorem dX9_draw_23 : decode cX9_draw 23 = .ok (.lload 5, 2) := by decide +kernel
theorem dX9_draw_25 : decode cX9_draw 25 = .ok (.lload_n 3, 1) := by decide +kernel
theorem dX9_draw_26 : decode cX9_draw 26 = .ok (.ladd, 1) := by decide +kernel
theorem dX9_draw_27 : decode cX9_draw 27 = .ok (.lstore 5, 2) := by decide +kernel
theorem dX9_draw_29 : decode cX9_draw 29 = .ok (.aload_n 0, 1) := by decide +kernel
theorem dX9_draw_30 : decode cX9_draw 30 = .ok (.aload_n 0, 1) := by decide +kernel
theorem dX9_draw_31 : decode cX9_draw 31 = .ok (.getfield 192, 3) := by decide +kernel
theorem dX9_draw_34 : decode cX9_draw 34 = .ok (.ldc2_w 196, 3) := by decide +kernel
theorem dX9_draw_37 : decode cX9_draw 37 = .ok (.lmul, 1) := by decide +kernel
theorem dX9_draw_38 : decode cX9_draw 38 = .ok (.ldc2_w 198, 3) := by decide +kernel
theorem dX9_draw_41 : decode cX9_draw 41 = .ok (.ladd, 1) := by decide +kernel
theorem dX9_draw_42 : decode cX9_draw 42 = .ok (.putfield 192, 3) := by decide +kernel
theorem dX9_draw_45 : decode cX9_draw 45 = .ok (.iload_n 1, 1) := by decide +kernel
theorem dX9_draw_46 : decode cX9_draw 46 = .ok (.i2l, 1) := by decide +kernel
theorem dX9_draw_47 : decode cX9_draw 47 = .ok (.lload 5, 2) := by decide +kernel
theorem dX9_draw_49 : decode cX9_draw 49 = .ok (.ladd, 1) := by decide +kernel
theorem dX9_draw_50 : decode cX9_draw 50 = .ok (.l2i, 1) := by decide +kernel
theorem dX9_draw_51 : decode cX9_draw 51 = .ok (.ireturn, 1) := by decide +kernel
set_option maxRecDepth 20000 in
theorem ggX9_valueOf_X9_limited : GoodIn wsX9_valueOf wsX9_limited := goodIn_r _ [13, 14, 15, 16, 17, 5, 18, 19, 20, 21] (by decide +kernel) (by decide +kernel)
set_option maxRecDepth 20000 in
theorem gX9_valueOf_X9_limited : GoodIn wsX9_valueOf (va_wsS RX9 135 yX9_limited wsX9_limited) := goodIn_app (goodIn_of _ (by decide +kernel)) ggX9_valueOf_X9_limited
set_option maxRecDepth 20000 in
theorem ggX9_valueOf_X9_draw : GoodIn wsX9_valueOf wsX9_draw := goodIn_r _ [25, 26, 27, 28, 29, 30, 31, 32, 33, 34, 35, 36, 37, 38, 39, 40, 41, 42, 43, 44, 45, 46, 47, 48, 49, 50, 51, 52, 53, 54, 55, 56, 57, 58, 59] (by decide +kernel) (by decide +kernel)
set_option maxRecDepth 20000 in
theorem gX9_valueOf_X9_draw : GoodIn wsX9_valueOf (wsV RX9 200 RX9 yX9_draw wsX9_draw) := goodIn_app (goodIn_of _ (by decide +kernel)) ggX9_valueOf_X9_draw
theorem dX9_valueOf_0 : decode cX9_valueOf 0 = .ok (.aload_n 0, 1) := by decide +kernel
theorem dX9_valueOf_1 : decode cX9_valueOf 1 = .ok (.getfield 17, 3) := by decide +kernel
theorem dX9_valueOf_4 : decode cX9_valueOf 4 = .ok (.iload_n 1, 1) := by decide +kernel
theorem dX9_valueOf_5 : decode cX9_valueOf 5 = .ok (.iconst 2, 1) := by decide +kernel
theorem dX9_valueOf_6 : decode cX9_valueOf 6 = .ok (.iadd, 1) := by decide +kernel
theorem dX9_valueOf_7 : decode cX9_valueOf 7 = .ok (.iaload, 1) := by decide +kernel
theorem dX9_valueOf_8 : decode cX9_valueOf 8 = .ok (.istore_n 2, 1) := by decide +kernel
theorem dX9_valueOf_9 : decode cX9_valueOf 9 = .ok (.aload_n 0, 1) := by decide +kernel
theorem dX9_valueOf_10 : decode cX9_valueOf 10 = .ok (.getfield 17, 3) := by decide +kernel
theorem dX9_valueOf_13 : decode cX9_valueOf 13 = .ok (.iload_n 1, 1) := by decide +kernel
theorem dX9_valueOf_14 : decode cX9_valueOf 14 = .ok (.iconst 3, 1) := by decide +kernel
theorem dX9_valueOf_15 : decode cX9_valueOf 15 = .ok (.iadd, 1) := by decide +kernel
theorem dX9_valueOf_16 : decode cX9_valueOf 16 = .ok (.iaload, 1) := by decide +kernel
theorem dX9_valueOf_17 : decode cX9_valueOf 17 = .ok (.istore_n 3, 1) := by decide +kernel
theorem dX9_valueOf_18 : decode cX9_valueOf 18 = .ok (.aload_n 0, 1) := by decide +kernel
theorem dX9_valueOf_19 : decode cX9_valueOf 19 = .ok (.getfield 17, 3) := by decide +kernel
theorem dX9_valueOf_22 : decode cX9_valueOf 22 = .ok (.iload_n 1, 1) := by decide +kernel
theorem dX9_valueOf_23 : decode cX9_valueOf 23 = .ok (.iaload, 1) := by decide +kernel
theorem dX9_valueOf_24 : decode cX9_valueOf 24 = .ok (.tableswitch 142 0 6 #[44, 51, 70, 89, 108, 124, 140], 44) := by decide +kernel
theorem dX9_valueOf_68 : decode cX9_valueOf 68 = .ok (.aload_n 0, 1) := by decide +kernel
theorem dX9_valueOf_69 : decode cX9_valueOf 69 = .ok (.getfield 84, 3) := by decide +kernel
theorem dX9_valueOf_72 : decode cX9_valueOf 72 = .ok (.iload_n 2, 1) := by decide +kernel
theorem dX9_valueOf_73 : decode cX9_valueOf 73 = .ok (.iaload, 1) := by decide +kernel
theorem dX9_valueOf_74 : decode cX9_valueOf 74 = .ok (.ireturn, 1) := by decide +kernel
theorem dX9_valueOf_75 : decode cX9_valueOf 75 = .ok (.aload_n 0, 1) := by decide +kernel
theorem dX9_valueOf_76 : decode cX9_valueOf 76 = .ok (.getfield 84, 3) := by decide +kernel
theorem dX9_valueOf_79 : decode cX9_valueOf 79 = .ok (.iload_n 2, 1) := by decide +kernel
theorem dX9_valueOf_80 : decode cX9_valueOf 80 = .ok (.iaload, 1) := by decide +kernel
theorem dX9_valueOf_81 : decode cX9_valueOf 81 = .ok (.i2l, 1) := by decide +kernel
theorem dX9_valueOf_82 : decode cX9_valueOf 82 = .ok (.aload_n 0, 1) := by decide +kernel
theorem dX9_valueOf_83 : decode cX9_valueOf 83 = .ok (.getfield 84, 3) := by decide +kernel
theorem dX9_valueOf_86 : decode cX9_valueOf 86 = .ok (.iload_n 3, 1) := by decide +kernel
theorem dX9_valueOf_87 : decode cX9_valueOf 87 = .ok (.iaload, 1) := by decide +kernel
theorem dX9_valueOf_88 : decode cX9_valueOf 88 = .ok (.i2l, 1) := by decide +kernel
theorem dX9_valueOf_89 : decode cX9_valueOf 89 = .ok (.ladd, 1) := by decide +kernel
theorem dX9_valueOf_90 : decode cX9_valueOf 90 = .ok (.invokestatic 135, 3) := by decide +kernel
theorem dX9_valueOf_93 : decode cX9_valueOf 93 = .ok (.ireturn, 1) := by decide +kernel
theorem dX9_valueOf_94 : decode cX9_valueOf 94 = .ok (.aload_n 0, 1) := by decide +kernel
theorem dX9_valueOf_95 : decode cX9_valueOf 95 = .ok (.getfield 84, 3) := by decide +kernel
theorem dX9_valueOf_98 : decode cX9_valueOf 98 = .ok (.iload_n 2, 1) := by decide +kernel
theorem dX9_valueOf_99 : decode cX9_valueOf 99 = .ok (.iaload, 1) := by decide +kernel
theorem dX9_valueOf_100 : decode cX9_valueOf 100 = .ok (.i2l, 1) := by decide +kernel
theorem dX9_valueOf_101 : decode cX9_valueOf 101 = .ok (.aload_n 0, 1) := by decide +kernel
theorem dX9_valueOf_102 : decode cX9_valueOf 102 = .ok (.getfield 84, 3) := by decide +kernel
theorem dX9_valueOf_105 : decode cX9_valueOf 105 = .ok (.iload_n 3, 1) := by decide +kernel
theorem dX9_valueOf_106 : decode cX9_valueOf 106 = .ok (.iaload, 1) := by decide +kernel
theorem dX9_valueOf_107 : decode cX9_valueOf 107 = .ok (.i2l, 1) := by decide +kernel
theorem dX9_valueOf_108 : decode cX9_valueOf 108 = .ok (.lsub, 1) := by decide +kernel
theorem dX9_valueOf_109 : decode cX9_valueOf 109 = .ok (.invokestatic 135, 3) := by decide +kernel
theorem dX9_valueOf_112 : decode cX9_valueOf 112 = .ok (.ireturn, 1) := by decide +kernel
theorem dX9_valueOf_113 : decode cX9_valueOf 113 = .ok (.aload_n 0, 1) := by decide +kernel
theorem dX9_valueOf_114 : decode cX9_valueOf 114 = .ok (.getfield 84, 3) := by decide +kernel
theorem dX9_valueOf_117 : decode cX9_valueOf 117 = .ok (.iload_n 2, 1) := by decide +kernel
theorem dX9_valueOf_118 : decode cX9_valueOf 118 = .ok (.iaload, 1) := by decide +kernel
theorem dX9_valueOf_119 : decode cX9_valueOf 119 = .ok (.i2l, 1) := by decide +kernel
theorem dX9_valueOf_120 : decode cX9_valueOf 120 = .ok (.aload_n 0, 1) := by decide +kernel
theorem dX9_valueOf_121 : decode cX9_valueOf 121 = .ok (.getfield 84, 3) := by decide +kernel
theorem dX9_valueOf_124 : decode cX9_valueOf 124 = .ok (.iload_n 3, 1) := by decide +kernel
theorem dX9_valueOf_125 : decode cX9_valueOf 125 = .ok (.iaload, 1) := by decide +kernel
theorem dX9_valueOf_126 : decode cX9_valueOf 126 = .ok (.i2l, 1) := by decide +kernel
theorem dX9_valueOf_127 : decode cX9_valueOf 127 = .ok (.lmul, 1) := by decide +kernel
theorem dX9_valueOf_128 : decode cX9_valueOf 128 = .ok (.invokestatic 135, 3) := by decide +kernel
theorem dX9_valueOf_131 : decode cX9_valueOf 131 = .ok (.ireturn, 1) := by decide +kernel
theorem dX9_valueOf_132 : decode cX9_valueOf 132 = .ok (.aload_n 0, 1) := by decide +kernel
theorem dX9_valueOf_133 : decode cX9_valueOf 133 = .ok (.getfield 84, 3) := by decide +kernel
theorem dX9_valueOf_136 : decode cX9_valueOf 136 = .ok (.iload_n 2, 1) := by decide +kernel
theorem dX9_valueOf_137 : decode cX9_valueOf 137 = .ok (.iaload, 1) := by decide +kernel
theorem dX9_valueOf_138 : decode cX9_valueOf 138 = .ok (.aload_n 0, 1) := by decide +kernel
theorem dX9_valueOf_139 : decode cX9_valueOf 139 = .ok (.getfield 84, 3) := by decide +kernel
theorem dX9_valueOf_142 : decode cX9_valueOf 142 = .ok (.iload_n 3, 1) := by decide +kernel
theorem dX9_valueOf_143 : decode cX9_valueOf 143 = .ok (.iaload, 1) := by decide +kernel
theorem dX9_valueOf_144 : decode cX9_valueOf 144 = .ok (.invokestatic 147, 3) := by decide +kernel
theorem dX9_valueOf_147 : decode cX9_valueOf 147 = .ok (.ireturn, 1) := by decide +kernel
theorem dX9_valueOf_148 : decode cX9_valueOf 148 = .ok (.aload_n 0, 1) := by decide +kernel
theorem dX9_valueOf_149 : decode cX9_valueOf 149 = .ok (.getfield 84, 3) := by decide +kernel
theorem dX9_valueOf_152 : decode cX9_valueOf 152 = .ok (.iload_n 2, 1) := by decide +kernel
theorem dX9_valueOf_153 : decode cX9_valueOf 153 = .ok (.iaload, 1) := by decide +kernel
theorem dX9_valueOf_154 : decode cX9_valueOf 154 = .ok (.aload_n 0, 1) := by decide +kernel
theorem dX9_valueOf_155 : decode cX9_valueOf 155 = .ok (.getfield 84, 3) := by decide +kernel
theorem dX9_valueOf_158 : decode cX9_valueOf 158 = .ok (.iload_n 3, 1) := by decide +kernel
theorem dX9_valueOf_159 : decode cX9_valueOf 159 = .ok (.iaload, 1) := by decide +kernel
theorem dX9_valueOf_160 : decode cX9_valueOf 160 = .ok (.invokestatic 150, 3) := by decide +kernel
theorem dX9_valueOf_163 : decode cX9_valueOf 163 = .ok (.ireturn, 1) := by decide +kernel
theorem dX9_valueOf_164 : decode cX9_valueOf 164 = .ok (.iload_n 2, 1) := by decide +kernel
theorem dX9_valueOf_165 : decode cX9_valueOf 165 = .ok (.ireturn, 1) := by decide +kernel
theorem dX9_valueOf_166 : decode cX9_valueOf 166 = .ok (.aload_n 0, 1) := by decide +kernel
theorem dX9_valueOf_167 : decode cX9_valueOf 167 = .ok (.iload_n 2, 1) := by decide +kernel
theorem dX9_valueOf_168 : decode cX9_valueOf 168 = .ok (.iload_n 3, 1) := by decide +kernel
theorem dX9_valueOf_169 : decode cX9_valueOf 169 = .ok (.invokevirtual 200, 3) := by decide +kernel
theorem dX9_valueOf_172 : decode cX9_valueOf 172 = .ok (.ireturn, 1) := by decide +kernel
theorem dX9_isTrue_0 : decode cX9_isTrue 0 = .ok (.aload_n 0, 1) := by decide +kernel
theorem dX9_isTrue_1 : decode cX9_isTrue 1 = .ok (.getfield 84, 3) := by decide +kernel
theorem dX9_isTrue_4 : decode cX9_isTrue 4 = .ok (.aload_n 0, 1) := by decide +kernel
theorem dX9_isTrue_5 : decode cX9_isTrue 5 = .ok (.getfield 29, 3) := by decide +kernel
theorem dX9_isTrue_8 : decode cX9_isTrue 8 = .ok (.iload_n 1, 1) := by decide +kernel
theorem dX9_isTrue_9 : decode cX9_isTrue 9 = .ok (.iaload, 1) := by decide +kernel
theorem dX9_isTrue_10 : decode cX9_isTrue 10 = .ok (.iaload, 1) := by decide +kernel
theorem dX9_isTrue_11 : decode cX9_isTrue 11 = .ok (.istore_n 2, 1) := by decide +kernel
theorem dX9_isTrue_12 : decode cX9_isTrue 12 = .ok (.aload_n 0, 1) := by decide +kernel
theorem dX9_isTrue_13 : decode cX9_isTrue 13 = .ok (.getfield 84, 3) := by decide +kernel
theorem dX9_isTrue_16 : decode cX9_isTrue 16 = .ok (.aload_n 0, 1) := by decide +kernel
theorem dX9_isTrue_17 : decode cX9_isTrue 17 = .ok (.getfield 32, 3) := by decide +kernel
theorem dX9_isTrue_20 : decode cX9_isTrue 20 = .ok (.iload_n 1, 1) := by decide +kernel
theorem dX9_isTrue_21 : decode cX9_isTrue 21 = .ok (.iaload, 1) := by decide +kernel
theorem dX9_isTrue_22 : decode cX9_isTrue 22 = .ok (.iaload, 1) := by decide +kernel
theorem dX9_isTrue_23 : decode cX9_isTrue 23 = .ok (.istore_n 3, 1) := by decide +kernel
theorem dX9_isTrue_24 : decode cX9_isTrue 24 = .ok (.aload_n 0, 1) := by decide +kernel
theorem dX9_isTrue_25 : decode cX9_isTrue 25 = .ok (.getfield 35, 3) := by decide +kernel
theorem dX9_isTrue_28 : decode cX9_isTrue 28 = .ok (.iload_n 1, 1) := by decide +kernel
theorem dX9_isTrue_29 : decode cX9_isTrue 29 = .ok (.iaload, 1) := by decide +kernel
theorem dX9_isTrue_30 : decode cX9_isTrue 30 = .ok (.ifCond .ne 16, 3) := by decide +kernel
theorem dX9_isTrue_33 : decode cX9_isTrue 33 = .ok (.iload_n 2, 1) := by decide +kernel
theorem dX9_isTrue_34 : decode cX9_isTrue 34 = .ok (.iload_n 3, 1) := by decide +kernel
theorem dX9_isTrue_35 : decode cX9_isTrue 35 = .ok (.if_icmp .ge 7, 3) := by decide +kernel
theorem dX9_isTrue_38 : decode cX9_isTrue 38 = .ok (.iconst 1, 1) := by decide +kernel
theorem dX9_isTrue_39 : decode cX9_isTrue 39 = .ok (.goto 63, 3) := by decide +kernel
theorem dX9_isTrue_42 : decode cX9_isTrue 42 = .ok (.iconst 0, 1) := by decide +kernel
theorem dX9_isTrue_43 : decode cX9_isTrue 43 = .ok (.goto 59, 3) := by decide +kernel
theorem dX9_isTrue_46 : decode cX9_isTrue 46 = .ok (.aload_n 0, 1) := by decide +kernel
theorem dX9_isTrue_47 : decode cX9_isTrue 47 = .ok (.getfield 35, 3) := by decide +kernel
theorem dX9_isTrue_50 : decode cX9_isTrue 50 = .ok (.iload_n 1, 1) := by decide +kernel
theorem dX9_isTrue_51 : decode cX9_isTrue 51 = .ok (.iaload, 1) := by decide +kernel
theorem dX9_isTrue_52 : decode cX9_isTrue 52 = .ok (.iconst 1, 1) := by decide +kernel
theorem dX9_isTrue_53 : decode cX9_isTrue 53 = .ok (.if_icmp .ne 16, 3) := by decide +kernel
theorem dX9_isTrue_56 : decode cX9_isTrue 56 = .ok (.iload_n 2, 1) := by decide +kernel
theorem dX9_isTrue_57 : decode cX9_isTrue 57 = .ok (.iload_n 3, 1) := by decide +kernel
theorem dX9_isTrue_58 : decode cX9_isTrue 58 = .ok (.if_icmp .gt 7, 3) := by decide +kernel
theorem dX9_isTrue_61 : decode cX9_isTrue 61 = .ok (.iconst 1, 1) := by decide +kernel
theorem dX9_isTrue_62 : decode cX9_isTrue 62 = .ok (.goto 40, 3) := by decide +kernel
theorem dX9_isTrue_65 : decode cX9_isTrue 65 = .ok (.iconst 0, 1) := by decide +kernel
theorem dX9_isTrue_66 : decode cX9_isTrue 66 = .ok (.goto 36, 3) := by decide +kernel
theorem dX9_isTrue_69 : decode cX9_isTrue 69 = .ok (.aload_n 0, 1) := by decide +kernel
theorem dX9_isTrue_70 : decode cX9_isTrue 70 = .ok (.getfield 35, 3) := by decide +kernel
theorem dX9_isTrue_73 : decode cX9_isTrue 73 = .ok (.iload_n 1, 1) := by decide +kernel
theorem dX9_isTrue_74 : decode cX9_isTrue 74 = .ok (.iaload, 1) := by decide +kernel
theorem dX9_isTrue_75 : decode cX9_isTrue 75 = .ok (.iconst 2, 1) := by decide +kernel
theorem dX9_isTrue_76 : decode cX9_isTrue 76 = .ok (.if_icmp .ne 16, 3) := by decide +kernel
theorem dX9_isTrue_79 : decode cX9_isTrue 79 = .ok (.iload_n 2, 1) := by decide +kernel
theorem dX9_isTrue_80 : decode cX9_isTrue 80 = .ok (.iload_n 3, 1) := by decide +kernel
theorem dX9_isTrue_81 : decode cX9_isTrue 81 = .ok (.if_icmp .ne 7, 3) := by decide +kernel
theorem dX9_isTrue_84 : decode cX9_isTrue 84 = .ok (.iconst 1, 1) := by decide +kernel
theorem dX9_isTrue_85 : decode cX9_isTrue 85 = .ok (.goto 17, 3) := by decide +kernel
theorem dX9_isTrue_88 : decode cX9_isTrue 88 = .ok (.iconst 0, 1) := by decide +kernel
theorem dX9_isTrue_89 : decode cX9_isTrue 89 = .ok (.goto 13, 3) := by decide +kernel
theorem dX9_isTrue_92 : decode cX9_isTrue 92 = .ok (.iload_n 2, 1) := by decide +kernel
theorem dX9_isTrue_93 : decode cX9_isTrue 93 = .ok (.iload_n 3, 1) := by decide +kernel
theorem dX9_isTrue_94 : decode cX9_isTrue 94 = .ok (.if_icmp .eq 7, 3) := by decide +kernel
theorem dX9_isTrue_97 : decode cX9_isTrue 97 = .ok (.iconst 1, 1) := by decide +kernel
theorem dX9_isTrue_98 : decode cX9_isTrue 98 = .ok (.goto 4, 3) := by decide +kernel
theorem dX9_isTrue_101 : decode cX9_isTrue 101 = .ok (.iconst 0, 1) := by decide +kernel
theorem dX9_isTrue_102 : decode cX9_isTrue 102 = .ok (.ireturn, 1) := by decide +kernel
set_option maxRecDepth 20000 in
theorem ggX9_run_X9_fail : GoodIn wsX9_run wsX9_fail := goodIn_r _ [18, 1, 54, 55, 56, 57, 58, 59, 60, 61, 62, 63, 64, 65, 66, 67, 68, 69, 70, 71, 72, 73, 74, 75, 76, 77, 78, 79, 80, 81, 82, 83, 84] (by decide +kernel) (by decide +kernel)
set_option maxRecDepth 20000 in
theorem gX9_run_X9_fail : GoodIn wsX9_run (wsV RX9 92 RX9 yX9_fail wsX9_fail) := goodIn_app (goodIn_of _ (by decide +kernel)) ggX9_run_X9_fail
set_option maxRecDepth 20000 in
theorem ggX9_run_X9_draw : GoodIn wsX9_run wsX9_draw := goodIn_r _ [22, 2, 23, 24, 54, 55, 56, 57, 58, 59, 60, 61, 62, 63, 64, 65, 66, 67, 68, 69, 70, 71, 72, 73, 74, 75, 76, 77, 78, 79, 80, 81, 82, 83, 84] (by decide +kernel) (by decide +kernel)
set_option maxRecDepth 20000 in
theorem gX9_run_X9_draw : GoodIn wsX9_run (wsV RX9 200 RX9 yX9_draw wsX9_draw) := goodIn_app (goodIn_of _ (by decide +kernel)) ggX9_run_X9_draw
set_option maxRecDepth 20000 in
theorem ggX9_run_X9_valueOf : GoodIn wsX9_run wsX9_valueOf := goodIn_r _ [28, 10, 3, 29, 30, 31, 32, 33, 34, 35, 36, 37, 17, 38, 39, 40, 41, 42, 43, 44, 45, 46, 19, 20, 21, 22, 2, 23, 24, 54, 55, 56, 57, 58, 59, 60, 61, 62, 63, 64, 65, 66, 67, 68, 69, 70, 71, 72, 73, 74, 75, 76, 77, 78, 79, 80, 81, 82, 83, 84] (by decide +kernel) (by decide +kernel)
set_option maxRecDepth 20000 in
theorem gX9_run_X9_valueOf : GoodIn wsX9_run (wsV RX9 206 RX9 yX9_valueOf wsX9_valueOf) := goodIn_app (goodIn_of _ (by decide +kernel)) ggX9_run_X9_valueOf
set_option maxRecDepth 20000 in
theorem ggX9_run_X9_isTrue : GoodIn wsX9_run wsX9_isTrue := goodIn_r _ [50, 3, 51, 52, 53, 54, 55, 56, 57, 58, 59, 60, 61, 62, 63, 64, 65, 66, 67, 68, 69, 70, 71, 72, 73, 74, 75, 76, 77, 78, 79, 80, 81, 82, 83, 84] (by decide +kernel) (by decide +kernel)
set_option maxRecDepth 20000 in
theorem gX9_run_X9_isTrue : GoodIn wsX9_run (wsV RX9 209 RX9 yX9_isTrue wsX9_isTrue) := goodIn_app (goodIn_of _ (by decide +kernel)) ggX9_run_X9_isTrue
theorem dX9_run_0 : decode cX9_run 0 = .ok (.aload_n 0, 1) := by decide +kernel
theorem dX9_run_1 : decode cX9_run 1 = .ok (.iconst 0, 1) := by decide +kernel
theorem dX9_run_2 : decode cX9_run 2 = .ok (.putfield 87, 3) := by decide +kernel
theorem dX9_run_5 : decode cX9_run 5 = .ok (.iload_n 3, 1) := by decide +kernel
theorem dX9_run_6 : decode cX9_run 6 = .ok (.iconst 1, 1) := by decide +kernel
theorem dX9_run_7 : decode cX9_run 7 = .ok (.if_icmp .lt 10, 3) := by decide +kernel
theorem dX9_run_10 : decode cX9_run 10 = .ok (.iload_n 3, 1) := by decide +kernel
theorem dX9_run_11 : decode cX9_run 11 = .ok (.sipush 300, 3) := by decide +kernel
theorem dX9_run_14 : decode cX9_run 14 = .ok (.if_icmp .le 9, 3) := by decide +kernel
theorem dX9_run_17 : decode cX9_run 17 = .ok (.aload_n 0, 1) := by decide +kernel
theorem dX9_run_18 : decode cX9_run 18 = .ok (.iconst 1, 1) := by decide +kernel
theorem dX9_run_19 : decode cX9_run 19 = .ok (.invokevirtual 92, 3) := by decide +kernel
theorem dX9_run_22 : decode cX9_run 22 = .ok (.ireturn, 1) := by decide +kernel
theorem dX9_run_23 : decode cX9_run 23 = .ok (.aload_n 0, 1) := by decide +kernel
theorem dX9_run_24 : decode cX9_run 24 = .ok (.lload_n 1, 1) := by decide +kernel
theorem dX9_run_25 : decode cX9_run 25 = .ok (.putfield 192, 3) := by decide +kernel
theorem dX9_run_28 : decode cX9_run 28 = .ok (.iconst 0, 1) := by decide +kernel
theorem dX9_run_29 : decode cX9_run 29 = .ok (.istore 4, 2) := by decide +kernel
theorem dX9_run_31 : decode cX9_run 31 = .ok (.iload 4, 2) := by decide +kernel
theorem dX9_run_33 : decode cX9_run 33 = .ok (.bipush 6, 2) := by decide +kernel
theorem dX9_run_35 : decode cX9_run 35 = .ok (.if_icmp .ge 34, 3) := by decide +kernel
theorem dX9_run_38 : decode cX9_run 38 = .ok (.aload_n 0, 1) := by decide +kernel
theorem dX9_run_39 : decode cX9_run 39 = .ok (.getfield 84, 3) := by decide +kernel
theorem dX9_run_42 : decode cX9_run 42 = .ok (.iload 4, 2) := by decide +kernel
theorem dX9_run_44 : decode cX9_run 44 = .ok (.aload_n 0, 1) := by decide +kernel
theorem dX9_run_45 : decode cX9_run 45 = .ok (.aload_n 0, 1) := by decide +kernel
theorem dX9_run_46 : decode cX9_run 46 = .ok (.getfield 38, 3) := by decide +kernel
theorem dX9_run_49 : decode cX9_run 49 = .ok (.iload 4, 2) := by decide +kernel
theorem dX9_run_51 : decode cX9_run 51 = .ok (.iaload, 1) := by decide +kernel
theorem dX9_run_52 : decode cX9_run 52 = .ok (.aload_n 0, 1) := by decide +kernel
theorem dX9_run_53 : decode cX9_run 53 = .ok (.getfield 41, 3) := by decide +kernel
theorem dX9_run_56 : decode cX9_run 56 = .ok (.iload 4, 2) := by decide +kernel
theorem dX9_run_58 : decode cX9_run 58 = .ok (.iaload, 1) := by decide +kernel
theorem dX9_run_59 : decode cX9_run 59 = .ok (.invokevirtual 200, 3) := by decide +kernel
theorem dX9_run_62 : decode cX9_run 62 = .ok (.iastore, 1) := by decide +kernel
theorem dX9_run_63 : decode cX9_run 63 = .ok (.iinc 4 1, 3) := by decide +kernel
theorem dX9_run_66 : decode cX9_run 66 = .ok (.goto (-35), 3) := by decide +kernel
theorem dX9_run_69 : decode cX9_run 69 = .ok (.aload_n 0, 1) := by decide +kernel
theorem dX9_run_70 : decode cX9_run 70 = .ok (.iconst 0, 1) := by decide +kernel
theorem dX9_run_71 : decode cX9_run 71 = .ok (.putfield 203, 3) := by decide +kernel
theorem dX9_run_74 : decode cX9_run 74 = .ok (.iconst 0, 1) := by decide +kernel
theorem dX9_run_75 : decode cX9_run 75 = .ok (.istore 4, 2) := by decide +kernel
theorem dX9_run_77 : decode cX9_run 77 = .ok (.iload 4, 2) := by decide +kernel
theorem dX9_run_79 : decode cX9_run 79 = .ok (.iconst (-1), 1) := by decide +kernel
theorem dX9_run_80 : decode cX9_run 80 = .ok (.if_icmp .eq 179, 3) := by decide +kernel
theorem dX9_run_83 : decode cX9_run 83 = .ok (.aload_n 0, 1) := by decide +kernel
theorem dX9_run_84 : decode cX9_run 84 = .ok (.getfield 203, 3) := by decide +kernel
theorem dX9_run_87 : decode cX9_run 87 = .ok (.iload_n 3, 1) := by decide +kernel
theorem dX9_run_88 : decode cX9_run 88 = .ok (.if_icmp .ge 171, 3) := by decide +kernel
theorem dX9_run_91 : decode cX9_run 91 = .ok (.aload_n 0, 1) := by decide +kernel
theorem dX9_run_92 : decode cX9_run 92 = .ok (.getfield 78, 3) := by decide +kernel
theorem dX9_run_95 : decode cX9_run 95 = .ok (.aload_n 0, 1) := by decide +kernel
theorem dX9_run_96 : decode cX9_run 96 = .ok (.getfield 203, 3) := by decide +kernel
theorem dX9_run_99 : decode cX9_run 99 = .ok (.iload 4, 2) := by decide +kernel
theorem dX9_run_101 : decode cX9_run 101 = .ok (.iastore, 1) := by decide +kernel
theorem dX9_run_102 : decode cX9_run 102 = .ok (.iconst 0, 1) := by decide +kernel
theorem dX9_run_103 : decode cX9_run 103 = .ok (.istore 5, 2) := by decide +kernel
theorem dX9_run_105 : decode cX9_run 105 = .ok (.iload 5, 2) := by decide +kernel
theorem dX9_run_107 : decode cX9_run 107 = .ok (.bipush 6, 2) := by decide +kernel
theorem dX9_run_109 : decode cX9_run 109 = .ok (.if_icmp .ge 31, 3) := by decide +kernel
theorem dX9_run_112 : decode cX9_run 112 = .ok (.aload_n 0, 1) := by decide +kernel
theorem dX9_run_113 : decode cX9_run 113 = .ok (.getfield 81, 3) := by decide +kernel
theorem dX9_run_116 : decode cX9_run 116 = .ok (.bipush 6, 2) := by decide +kernel
theorem dX9_run_118 : decode cX9_run 118 = .ok (.aload_n 0, 1) := by decide +kernel
theorem dX9_run_119 : decode cX9_run 119 = .ok (.getfield 203, 3) := by decide +kernel
theorem dX9_run_122 : decode cX9_run 122 = .ok (.imul, 1) := by decide +kernel
theorem dX9_run_123 : decode cX9_run 123 = .ok (.iload 5, 2) := by decide +kernel
theorem dX9_run_125 : decode cX9_run 125 = .ok (.iadd, 1) := by decide +kernel
theorem dX9_run_126 : decode cX9_run 126 = .ok (.aload_n 0, 1) := by decide +kernel
theorem dX9_run_127 : decode cX9_run 127 = .ok (.getfield 84, 3) := by decide +kernel
theorem dX9_run_130 : decode cX9_run 130 = .ok (.iload 5, 2) := by decide +kernel
theorem dX9_run_132 : decode cX9_run 132 = .ok (.iaload, 1) := by decide +kernel
theorem dX9_run_133 : decode cX9_run 133 = .ok (.iastore, 1) := by decide +kernel
theorem dX9_run_134 : decode cX9_run 134 = .ok (.iinc 5 1, 3) := by decide +kernel
theorem dX9_run_137 : decode cX9_run 137 = .ok (.goto (-32), 3) := by decide +kernel
theorem dX9_run_140 : decode cX9_run 140 = .ok (.aload_n 0, 1) := by decide +kernel
theorem dX9_run_141 : decode cX9_run 141 = .ok (.dup, 1) := by decide +kernel
theorem dX9_run_142 : decode cX9_run 142 = .ok (.getfield 203, 3) := by decide +kernel
theorem dX9_run_145 : decode cX9_run 145 = .ok (.iconst 1, 1) := by decide +kernel
theorem dX9_run_146 : decode cX9_run 146 = .ok (.iadd, 1) := by decide +kernel
theorem dX9_run_147 : decode cX9_run 147 = .ok (.putfield 203, 3) := by decide +kernel
theorem dX9_run_150 : decode cX9_run 150 = .ok (.iconst 0, 1) := by decide +kernel
theorem dX9_run_151 : decode cX9_run 151 = .ok (.istore 5, 2) := by decide +kernel
theorem dX9_run_153 : decode cX9_run 153 = .ok (.iload 5, 2) := by decide +kernel
theorem dX9_run_155 : decode cX9_run 155 = .ok (.aload_n 0, 1) := by decide +kernel
theorem dX9_run_156 : decode cX9_run 156 = .ok (.getfield 13, 3) := by decide +kernel
theorem dX9_run_159 : decode cX9_run 159 = .ok (.iload 4, 2) := by decide +kernel
theorem dX9_run_161 : decode cX9_run 161 = .ok (.iaload, 1) := by decide +kernel
theorem dX9_run_162 : decode cX9_run 162 = .ok (.if_icmp .ge 41, 3) := by decide +kernel
theorem dX9_run_165 : decode cX9_run 165 = .ok (.iconst 4, 1) := by decide +kernel
theorem dX9_run_166 : decode cX9_run 166 = .ok (.bipush 8, 2) := by decide +kernel
theorem dX9_run_168 : decode cX9_run 168 = .ok (.iload 4, 2) := by decide +kernel
theorem dX9_run_170 : decode cX9_run 170 = .ok (.imul, 1) := by decide +kernel
theorem dX9_run_171 : decode cX9_run 171 = .ok (.iload 5, 2) := by decide +kernel
theorem dX9_run_173 : decode cX9_run 173 = .ok (.iadd, 1) := by decide +kernel
theorem dX9_run_174 : decode cX9_run 174 = .ok (.imul, 1) := by decide +kernel
theorem dX9_run_175 : decode cX9_run 175 = .ok (.istore 6, 2) := by decide +kernel
theorem dX9_run_177 : decode cX9_run 177 = .ok (.aload_n 0, 1) := by decide +kernel
theorem dX9_run_178 : decode cX9_run 178 = .ok (.getfield 84, 3) := by decide +kernel
theorem dX9_run_181 : decode cX9_run 181 = .ok (.aload_n 0, 1) := by decide +kernel
theorem dX9_run_182 : decode cX9_run 182 = .ok (.getfield 17, 3) := by decide +kernel
theorem dX9_run_185 : decode cX9_run 185 = .ok (.iload 6, 2) := by decide +kernel
theorem dX9_run_187 : decode cX9_run 187 = .ok (.iconst 1, 1) := by decide +kernel
theorem dX9_run_188 : decode cX9_run 188 = .ok (.iadd, 1) := by decide +kernel
theorem dX9_run_189 : decode cX9_run 189 = .ok (.iaload, 1) := by decide +kernel
theorem dX9_run_190 : decode cX9_run 190 = .ok (.aload_n 0, 1) := by decide +kernel
theorem dX9_run_191 : decode cX9_run 191 = .ok (.iload 6, 2) := by decide +kernel
theorem dX9_run_193 : decode cX9_run 193 = .ok (.invokevirtual 206, 3) := by decide +kernel
theorem dX9_run_196 : decode cX9_run 196 = .ok (.iastore, 1) := by decide +kernel
theorem dX9_run_197 : decode cX9_run 197 = .ok (.iinc 5 1, 3) := by decide +kernel
theorem dX9_run_200 : decode cX9_run 200 = .ok (.goto (-47), 3) := by decide +kernel
theorem dX9_run_203 : decode cX9_run 203 = .ok (.aload_n 0, 1) := by decide +kernel
theorem dX9_run_204 : decode cX9_run 204 = .ok (.getfield 20, 3) := by decide +kernel
theorem dX9_run_207 : decode cX9_run 207 = .ok (.iload 4, 2) := by decide +kernel
theorem dX9_run_209 : decode cX9_run 209 = .ok (.iaload, 1) := by decide +kernel
theorem dX9_run_210 : decode cX9_run 210 = .ok (.ifCond .ne 7, 3) := by decide +kernel
theorem dX9_run_213 : decode cX9_run 213 = .ok (.iconst (-1), 1) := by decide +kernel
theorem dX9_run_214 : decode cX9_run 214 = .ok (.goto 40, 3) := by decide +kernel
theorem dX9_run_217 : decode cX9_run 217 = .ok (.aload_n 0, 1) := by decide +kernel
theorem dX9_run_218 : decode cX9_run 218 = .ok (.getfield 20, 3) := by decide +kernel
theorem dX9_run_221 : decode cX9_run 221 = .ok (.iload 4, 2) := by decide +kernel
theorem dX9_run_223 : decode cX9_run 223 = .ok (.iaload, 1) := by decide +kernel
theorem dX9_run_224 : decode cX9_run 224 = .ok (.iconst 1, 1) := by decide +kernel
theorem dX9_run_225 : decode cX9_run 225 = .ok (.if_icmp .eq 12, 3) := by decide +kernel
theorem dX9_run_228 : decode cX9_run 228 = .ok (.aload_n 0, 1) := by decide +kernel
theorem dX9_run_229 : decode cX9_run 229 = .ok (.iload 4, 2) := by decide +kernel
theorem dX9_run_231 : decode cX9_run 231 = .ok (.invokevirtual 209, 3) := by decide +kernel
theorem dX9_run_234 : decode cX9_run 234 = .ok (.ifCond .eq 13, 3) := by decide +kernel
theorem dX9_run_237 : decode cX9_run 237 = .ok (.aload_n 0, 1) := by decide +kernel
theorem dX9_run_238 : decode cX9_run 238 = .ok (.getfield 23, 3) := by decide +kernel
theorem dX9_run_241 : decode cX9_run 241 = .ok (.iload 4, 2) := by decide +kernel
theorem dX9_run_243 : decode cX9_run 243 = .ok (.iaload, 1) := by decide +kernel
theorem dX9_run_244 : decode cX9_run 244 = .ok (.goto 10, 3) := by decide +kernel
theorem dX9_run_247 : decode cX9_run 247 = .ok (.aload_n 0, 1) := by decide +kernel
theorem dX9_run_248 : decode cX9_run 248 = .ok (.getfield 26, 3) := by decide +kernel
theorem dX9_run_251 : decode cX9_run 251 = .ok (.iload 4, 2) := by decide +kernel
theorem dX9_run_253 : decode cX9_run 253 = .ok (.iaload, 1) := by decide +kernel
theorem dX9_run_254 : decode cX9_run 254 = .ok (.istore 4, 2) := by decide +kernel
theorem dX9_run_256 : decode cX9_run 256 = .ok (.goto (-179), 3) := by decide +kernel
theorem dX9_run_259 : decode cX9_run 259 = .ok (.aload_n 0, 1) := by decide +kernel
theorem dX9_run_260 : decode cX9_run 260 = .ok (.getfield 203, 3) := by decide +kernel
theorem dX9_run_263 : decode cX9_run 263 = .ok (.ireturn, 1) := by decide +kernel
set_option maxRecDepth 20000 in
theorem ggX9_enteredBlock_X9_fail : GoodIn wsX9_enteredBlock wsX9_fail := goodIn_r _ [8, 1, 9, 10, 11, 12, 13, 14, 15, 16, 17, 18, 19, 20, 21, 22, 23, 24, 25, 26, 27, 28, 29, 30, 31, 32, 33, 34, 35, 36, 37, 38, 39] (by decide +kernel) (by decide +kernel)
set_option maxRecDepth 20000 in
theorem gX9_enteredBlock_X9_fail : GoodIn wsX9_enteredBlock (wsV RX9 92 RX9 yX9_fail wsX9_fail) := goodIn_app (goodIn_of _ (by decide +kernel)) ggX9_enteredBlock_X9_fail
theorem dX9_enteredBlock_0 : decode cX9_enteredBlock 0 = .ok (.aload_n 0, 1) := by decide +kernel
theorem dX9_enteredBlock_1 : decode cX9_enteredBlock 1 = .ok (.iconst 0, 1) := by decide +kernel
theorem dX9_enteredBlock_2 : decode cX9_enteredBlock 2 = .ok (.putfield 87, 3) := by decide +kernel
theorem dX9_enteredBlock_5 : decode cX9_enteredBlock 5 = .ok (.iload_n 1, 1) := by decide +kernel
theorem dX9_enteredBlock_6 : decode cX9_enteredBlock 6 = .ok (.ifCond .lt 20, 3) := by decide +kernel
theorem dX9_enteredBlock_9 : decode cX9_enteredBlock 9 = .ok (.iload_n 1, 1) := by decide +kernel
theorem dX9_enteredBlock_10 : decode cX9_enteredBlock 10 = .ok (.aload_n 0, 1) := by decide +kernel
theorem dX9_enteredBlock_11 : decode cX9_enteredBlock 11 = .ok (.getfield 203, 3) := by decide +kernel
theorem dX9_enteredBlock_14 : decode cX9_enteredBlock 14 = .ok (.if_icmp .ge 12, 3) := by decide +kernel
theorem dX9_enteredBlock_17 : decode cX9_enteredBlock 17 = .ok (.aload_n 0, 1) := by decide +kernel
theorem dX9_enteredBlock_18 : decode cX9_enteredBlock 18 = .ok (.getfield 78, 3) := by decide +kernel
theorem dX9_enteredBlock_21 : decode cX9_enteredBlock 21 = .ok (.iload_n 1, 1) := by decide +kernel
theorem dX9_enteredBlock_22 : decode cX9_enteredBlock 22 = .ok (.iaload, 1) := by decide +kernel
theorem dX9_enteredBlock_23 : decode cX9_enteredBlock 23 = .ok (.goto 8, 3) := by decide +kernel
theorem dX9_enteredBlock_26 : decode cX9_enteredBlock 26 = .ok (.aload_n 0, 1) := by decide +kernel
theorem dX9_enteredBlock_27 : decode cX9_enteredBlock 27 = .ok (.iconst 1, 1) := by decide +kernel
theorem dX9_enteredBlock_28 : decode cX9_enteredBlock 28 = .ok (.invokevirtual 92, 3) := by decide +kernel
theorem dX9_enteredBlock_31 : decode cX9_enteredBlock 31 = .ok (.ireturn, 1) := by decide +kernel
set_option maxRecDepth 20000 in
theorem ggX9_enteredWith_X9_isVariable : GoodIn wsX9_enteredWith wsX9_isVariable := goodIn_r _ [7] (by decide +kernel) (by decide +kernel)
set_option maxRecDepth 20000 in
theorem gX9_enteredWith_X9_isVariable : GoodIn wsX9_enteredWith (va_wsS RX9 100 yX9_isVariable wsX9_isVariable) := goodIn_app (goodIn_of _ (by decide +kernel)) ggX9_enteredWith_X9_isVariable
set_option maxRecDepth 20000 in
theorem ggX9_enteredWith_X9_fail : GoodIn wsX9_enteredWith wsX9_fail := goodIn_r _ [11, 1, 12, 13, 14, 15, 16, 17, 18, 19, 20, 21, 22, 23, 24, 25, 26, 27, 28, 29, 30, 31, 32, 33, 34, 35, 36, 37, 38, 39, 40, 41, 42] (by decide +kernel) (by decide +kernel)
set_option maxRecDepth 20000 in
theorem gX9_enteredWith_X9_fail : GoodIn wsX9_enteredWith (wsV RX9 92 RX9 yX9_fail wsX9_fail) := goodIn_app (goodIn_of _ (by decide +kernel)) ggX9_enteredWith_X9_fail
theorem dX9_enteredWith_0 : decode cX9_enteredWith 0 = .ok (.aload_n 0, 1) := by decide +kernel
theorem dX9_enteredWith_1 : decode cX9_enteredWith 1 = .ok (.iconst 0, 1) := by decide +kernel
theorem dX9_enteredWith_2 : decode cX9_enteredWith 2 = .ok (.putfield 87, 3) := by decide +kernel
theorem dX9_enteredWith_5 : decode cX9_enteredWith 5 = .ok (.iload_n 1, 1) := by decide +kernel
theorem dX9_enteredWith_6 : decode cX9_enteredWith 6 = .ok (.ifCond .lt 32, 3) := by decide +kernel
theorem dX9_enteredWith_9 : decode cX9_enteredWith 9 = .ok (.iload_n 1, 1) := by decide +kernel
theorem dX9_enteredWith_10 : decode cX9_enteredWith 10 = .ok (.aload_n 0, 1) := by decide +kernel
theorem dX9_enteredWith_11 : decode cX9_enteredWith 11 = .ok (.getfield 203, 3) := by decide +kernel
theorem dX9_enteredWith_14 : decode cX9_enteredWith 14 = .ok (.if_icmp .ge 24, 3) := by decide +kernel
theorem dX9_enteredWith_17 : decode cX9_enteredWith 17 = .ok (.iload_n 2, 1) := by decide +kernel
theorem dX9_enteredWith_18 : decode cX9_enteredWith 18 = .ok (.invokestatic 100, 3) := by decide +kernel
theorem dX9_enteredWith_21 : decode cX9_enteredWith 21 = .ok (.ifCond .eq 17, 3) := by decide +kernel
theorem dX9_enteredWith_24 : decode cX9_enteredWith 24 = .ok (.aload_n 0, 1) := by decide +kernel
theorem dX9_enteredWith_25 : decode cX9_enteredWith 25 = .ok (.getfield 81, 3) := by decide +kernel
theorem dX9_enteredWith_28 : decode cX9_enteredWith 28 = .ok (.bipush 6, 2) := by decide +kernel
theorem dX9_enteredWith_30 : decode cX9_enteredWith 30 = .ok (.iload_n 1, 1) := by decide +kernel
theorem dX9_enteredWith_31 : decode cX9_enteredWith 31 = .ok (.imul, 1) := by decide +kernel
theorem dX9_enteredWith_32 : decode cX9_enteredWith 32 = .ok (.iload_n 2, 1) := by decide +kernel
theorem dX9_enteredWith_33 : decode cX9_enteredWith 33 = .ok (.iadd, 1) := by decide +kernel
theorem dX9_enteredWith_34 : decode cX9_enteredWith 34 = .ok (.iaload, 1) := by decide +kernel
theorem dX9_enteredWith_35 : decode cX9_enteredWith 35 = .ok (.goto 8, 3) := by decide +kernel
theorem dX9_enteredWith_38 : decode cX9_enteredWith 38 = .ok (.aload_n 0, 1) := by decide +kernel
theorem dX9_enteredWith_39 : decode cX9_enteredWith 39 = .ok (.iconst 1, 1) := by decide +kernel
theorem dX9_enteredWith_40 : decode cX9_enteredWith 40 = .ok (.invokevirtual 92, 3) := by decide +kernel
theorem dX9_enteredWith_43 : decode cX9_enteredWith 43 = .ok (.ireturn, 1) := by decide +kernel
set_option maxRecDepth 20000 in
theorem ggX9_result_X9_isVariable : GoodIn wsX9_result wsX9_isVariable := goodIn_r _ [6] (by decide +kernel) (by decide +kernel)
set_option maxRecDepth 20000 in
theorem gX9_result_X9_isVariable : GoodIn wsX9_result (va_wsS RX9 100 yX9_isVariable wsX9_isVariable) := goodIn_app (goodIn_of _ (by decide +kernel)) ggX9_result_X9_isVariable
set_option maxRecDepth 20000 in
theorem ggX9_result_X9_fail : GoodIn wsX9_result wsX9_fail := goodIn_r _ [10, 1, 11, 12, 13, 14, 15, 16, 17, 18, 19, 20, 21, 22, 23, 24, 25, 26, 27, 28, 29, 30, 31, 32, 33, 34, 35, 36, 37, 38, 39, 40, 41] (by decide +kernel) (by decide +kernel)
set_option maxRecDepth 20000 in
theorem gX9_result_X9_fail : GoodIn wsX9_result (wsV RX9 92 RX9 yX9_fail wsX9_fail) := goodIn_app (goodIn_of _ (by decide +kernel)) ggX9_result_X9_fail
theorem dX9_result_0 : decode cX9_result 0 = .ok (.aload_n 0, 1) := by decide +kernel
theorem dX9_result_1 : decode cX9_result 1 = .ok (.iconst 0, 1) := by decide +kernel
theorem dX9_result_2 : decode cX9_result 2 = .ok (.putfield 87, 3) := by decide +kernel
theorem dX9_result_5 : decode cX9_result 5 = .ok (.iload_n 1, 1) := by decide +kernel
theorem dX9_result_6 : decode cX9_result 6 = .ok (.invokestatic 100, 3) := by decide +kernel
theorem dX9_result_9 : decode cX9_result 9 = .ok (.ifCond .eq 12, 3) := by decide +kernel
theorem dX9_result_12 : decode cX9_result 12 = .ok (.aload_n 0, 1) := by decide +kernel
theorem dX9_result_13 : decode cX9_result 13 = .ok (.getfield 84, 3) := by decide +kernel
theorem dX9_result_16 : decode cX9_result 16 = .ok (.iload_n 1, 1) := by decide +kernel
theorem dX9_result_17 : decode cX9_result 17 = .ok (.iaload, 1) := by decide +kernel
theorem dX9_result_18 : decode cX9_result 18 = .ok (.goto 8, 3) := by decide +kernel
theorem dX9_result_21 : decode cX9_result 21 = .ok (.aload_n 0, 1) := by decide +kernel
theorem dX9_result_22 : decode cX9_result 22 = .ok (.iconst 1, 1) := by decide +kernel
theorem dX9_result_23 : decode cX9_result 23 = .ok (.invokevirtual 92, 3) := by decide +kernel
theorem dX9_result_26 : decode cX9_result 26 = .ok (.ireturn, 1) := by decide +kernel
theorem dX9_digest_0 : decode cX9_digest 0 = .ok (.aload_n 0, 1) := by decide +kernel
theorem dX9_digest_1 : decode cX9_digest 1 = .ok (.iconst 0, 1) := by decide +kernel
theorem dX9_digest_2 : decode cX9_digest 2 = .ok (.putfield 87, 3) := by decide +kernel
theorem dX9_digest_5 : decode cX9_digest 5 = .ok (.ldc2_w 212, 3) := by decide +kernel
theorem dX9_digest_8 : decode cX9_digest 8 = .ok (.aload_n 0, 1) := by decide +kernel
theorem dX9_digest_9 : decode cX9_digest 9 = .ok (.getfield 7, 3) := by decide +kernel
theorem dX9_digest_12 : decode cX9_digest 12 = .ok (.i2l, 1) := by decide +kernel
theorem dX9_digest_13 : decode cX9_digest 13 = .ok (.ladd, 1) := by decide +kernel
theorem dX9_digest_14 : decode cX9_digest 14 = .ok (.lstore_n 1, 1) := by decide +kernel
theorem dX9_digest_15 : decode cX9_digest 15 = .ok (.iconst 0, 1) := by decide +kernel
theorem dX9_digest_16 : decode cX9_digest 16 = .ok (.istore_n 3, 1) := by decide +kernel
theorem dX9_digest_17 : decode cX9_digest 17 = .ok (.iload_n 3, 1) := by decide +kernel
theorem dX9_digest_18 : decode cX9_digest 18 = .ok (.aload_n 0, 1) := by decide +kernel
theorem dX9_digest_19 : decode cX9_digest 19 = .ok (.getfield 7, 3) := by decide +kernel
theorem dX9_digest_22 : decode cX9_digest 22 = .ok (.if_icmp .ge 35, 3) := by decide +kernel
theorem dX9_digest_25 : decode cX9_digest 25 = .ok (.lload_n 1, 1) := by decide +kernel
theorem dX9_digest_26 : decode cX9_digest 26 = .ok (.ldc2_w 214, 3) := by decide +kernel
theorem dX9_digest_29 : decode cX9_digest 29 = .ok (.lmul, 1) := by decide +kernel
theorem dX9_digest_30 : decode cX9_digest 30 = .ok (.aload_n 0, 1) := by decide +kernel
theorem dX9_digest_31 : decode cX9_digest 31 = .ok (.getfield 13, 3) := by decide +kernel
theorem dX9_digest_34 : decode cX9_digest 34 = .ok (.iload_n 3, 1) := by decide +kernel
theorem dX9_digest_35 : decode cX9_digest 35 = .ok (.iaload, 1) := by decide +kernel
theorem dX9_digest_36 : decode cX9_digest 36 = .ok (.i2l, 1) := by decide +kernel
theorem dX9_digest_37 : decode cX9_digest 37 = .ok (.ladd, 1) := by decide +kernel
theorem dX9_digest_38 : decode cX9_digest 38 = .ok (.ldc2_w 214, 3) := by decide +kernel
theorem dX9_digest_41 : decode cX9_digest 41 = .ok (.lmul, 1) := by decide +kernel
theorem dX9_digest_42 : decode cX9_digest 42 = .ok (.aload_n 0, 1) := by decide +kernel
theorem dX9_digest_43 : decode cX9_digest 43 = .ok (.getfield 20, 3) := by decide +kernel
theorem dX9_digest_46 : decode cX9_digest 46 = .ok (.iload_n 3, 1) := by decide +kernel
theorem dX9_digest_47 : decode cX9_digest 47 = .ok (.iaload, 1) := by decide +kernel
theorem dX9_digest_48 : decode cX9_digest 48 = .ok (.i2l, 1) := by decide +kernel
theorem dX9_digest_49 : decode cX9_digest 49 = .ok (.ladd, 1) := by decide +kernel
theorem dX9_digest_50 : decode cX9_digest 50 = .ok (.lstore_n 1, 1) := by decide +kernel
theorem dX9_digest_51 : decode cX9_digest 51 = .ok (.iinc 3 1, 3) := by decide +kernel
theorem dX9_digest_54 : decode cX9_digest 54 = .ok (.goto (-37), 3) := by decide +kernel
theorem dX9_digest_57 : decode cX9_digest 57 = .ok (.lload_n 1, 1) := by decide +kernel
theorem dX9_digest_58 : decode cX9_digest 58 = .ok (.ldc2_w 214, 3) := by decide +kernel
theorem dX9_digest_61 : decode cX9_digest 61 = .ok (.lmul, 1) := by decide +kernel
theorem dX9_digest_62 : decode cX9_digest 62 = .ok (.aload_n 0, 1) := by decide +kernel
theorem dX9_digest_63 : decode cX9_digest 63 = .ok (.getfield 44, 3) := by decide +kernel
theorem dX9_digest_66 : decode cX9_digest 66 = .ok (.i2l, 1) := by decide +kernel
theorem dX9_digest_67 : decode cX9_digest 67 = .ok (.ladd, 1) := by decide +kernel
theorem dX9_digest_68 : decode cX9_digest 68 = .ok (.ldc2_w 214, 3) := by decide +kernel
theorem dX9_digest_71 : decode cX9_digest 71 = .ok (.lmul, 1) := by decide +kernel
theorem dX9_digest_72 : decode cX9_digest 72 = .ok (.aload_n 0, 1) := by decide +kernel
theorem dX9_digest_73 : decode cX9_digest 73 = .ok (.getfield 47, 3) := by decide +kernel
theorem dX9_digest_76 : decode cX9_digest 76 = .ok (.i2l, 1) := by decide +kernel
theorem dX9_digest_77 : decode cX9_digest 77 = .ok (.ladd, 1) := by decide +kernel
theorem dX9_digest_78 : decode cX9_digest 78 = .ok (.ldc2_w 214, 3) := by decide +kernel
theorem dX9_digest_81 : decode cX9_digest 81 = .ok (.lmul, 1) := by decide +kernel
theorem dX9_digest_82 : decode cX9_digest 82 = .ok (.aload_n 0, 1) := by decide +kernel
theorem dX9_digest_83 : decode cX9_digest 83 = .ok (.getfield 119, 3) := by decide +kernel
theorem dX9_digest_86 : decode cX9_digest 86 = .ok (.i2l, 1) := by decide +kernel
theorem dX9_digest_87 : decode cX9_digest 87 = .ok (.ladd, 1) := by decide +kernel
theorem dX9_digest_88 : decode cX9_digest 88 = .ok (.lstore_n 1, 1) := by decide +kernel
theorem dX9_digest_89 : decode cX9_digest 89 = .ok (.iconst 0, 1) := by decide +kernel
theorem dX9_digest_90 : decode cX9_digest 90 = .ok (.istore_n 3, 1) := by decide +kernel
theorem dX9_digest_91 : decode cX9_digest 91 = .ok (.iload_n 3, 1) := by decide +kernel
theorem dX9_digest_92 : decode cX9_digest 92 = .ok (.aload_n 0, 1) := by decide +kernel
theorem dX9_digest_93 : decode cX9_digest 93 = .ok (.getfield 7, 3) := by decide +kernel
theorem dX9_digest_96 : decode cX9_digest 96 = .ok (.if_icmp .ge 93, 3) := by decide +kernel
theorem dX9_digest_99 : decode cX9_digest 99 = .ok (.aload_n 0, 1) := by decide +kernel
theorem dX9_digest_100 : decode cX9_digest 100 = .ok (.getfield 96, 3) := by decide +kernel
theorem dX9_digest_103 : decode cX9_digest 103 = .ok (.ifCond .eq 86, 3) := by decide +kernel
theorem dX9_digest_106 : decode cX9_digest 106 = .ok (.lload_n 1, 1) := by decide +kernel
theorem dX9_digest_107 : decode cX9_digest 107 = .ok (.ldc2_w 214, 3) := by decide +kernel
theorem dX9_digest_110 : decode cX9_digest 110 = .ok (.lmul, 1) := by decide +kernel
theorem dX9_digest_111 : decode cX9_digest 111 = .ok (.aload_n 0, 1) := by decide +kernel
theorem dX9_digest_112 : decode cX9_digest 112 = .ok (.getfield 63, 3) := by decide +kernel
theorem dX9_digest_115 : decode cX9_digest 115 = .ok (.iload_n 3, 1) := by decide +kernel
theorem dX9_digest_116 : decode cX9_digest 116 = .ok (.iaload, 1) := by decide +kernel
theorem dX9_digest_117 : decode cX9_digest 117 = .ok (.i2l, 1) := by decide +kernel
theorem dX9_digest_118 : decode cX9_digest 118 = .ok (.ladd, 1) := by decide +kernel
theorem dX9_digest_119 : decode cX9_digest 119 = .ok (.lstore_n 1, 1) := by decide +kernel
theorem dX9_digest_120 : decode cX9_digest 120 = .ok (.iconst 0, 1) := by decide +kernel
theorem dX9_digest_121 : decode cX9_digest 121 = .ok (.istore 4, 2) := by decide +kernel
theorem dX9_digest_123 : decode cX9_digest 123 = .ok (.iload 4, 2) := by decide +kernel
theorem dX9_digest_125 : decode cX9_digest 125 = .ok (.bipush 6, 2) := by decide +kernel
theorem dX9_digest_127 : decode cX9_digest 127 = .ok (.if_icmp .ge 56, 3) := by decide +kernel
theorem dX9_digest_130 : decode cX9_digest 130 = .ok (.aload_n 0, 1) := by decide +kernel
theorem dX9_digest_131 : decode cX9_digest 131 = .ok (.getfield 53, 3) := by decide +kernel
theorem dX9_digest_134 : decode cX9_digest 134 = .ok (.iload_n 3, 1) := by decide +kernel
theorem dX9_digest_135 : decode cX9_digest 135 = .ok (.baload, 1) := by decide +kernel
theorem dX9_digest_136 : decode cX9_digest 136 = .ok (.ifCond .eq 47, 3) := by decide +kernel
theorem dX9_digest_139 : decode cX9_digest 139 = .ok (.lload_n 1, 1) := by decide +kernel
theorem dX9_digest_140 : decode cX9_digest 140 = .ok (.ldc2_w 214, 3) := by decide +kernel
theorem dX9_digest_143 : decode cX9_digest 143 = .ok (.lmul, 1) := by decide +kernel
theorem dX9_digest_144 : decode cX9_digest 144 = .ok (.aload_n 0, 1) := by decide +kernel
theorem dX9_digest_145 : decode cX9_digest 145 = .ok (.getfield 57, 3) := by decide +kernel
theorem dX9_digest_148 : decode cX9_digest 148 = .ok (.bipush 6, 2) := by decide +kernel
theorem dX9_digest_150 : decode cX9_digest 150 = .ok (.iload_n 3, 1) := by decide +kernel
theorem dX9_digest_151 : decode cX9_digest 151 = .ok (.imul, 1) := by decide +kernel
theorem dX9_digest_152 : decode cX9_digest 152 = .ok (.iload 4, 2) := by decide +kernel
theorem dX9_digest_154 : decode cX9_digest 154 = .ok (.iadd, 1) := by decide +kernel
theorem dX9_digest_155 : decode cX9_digest 155 = .ok (.iaload, 1) := by decide +kernel
theorem dX9_digest_156 : decode cX9_digest 156 = .ok (.i2l, 1) := by decide +kernel
theorem dX9_digest_157 : decode cX9_digest 157 = .ok (.ladd, 1) := by decide +kernel
theorem dX9_digest_158 : decode cX9_digest 158 = .ok (.ldc2_w 214, 3) := by decide +kernel
theorem dX9_digest_161 : decode cX9_digest 161 = .ok (.lmul, 1) := by decide +kernel
theorem dX9_digest_162 : decode cX9_digest 162 = .ok (.aload_n 0, 1) := by decide +kernel
theorem dX9_digest_163 : decode cX9_digest 163 = .ok (.getfield 60, 3) := by decide +kernel
theorem dX9_digest_166 : decode cX9_digest 166 = .ok (.bipush 6, 2) := by decide +kernel
theorem dX9_digest_168 : decode cX9_digest 168 = .ok (.iload_n 3, 1) := by decide +kernel
theorem dX9_digest_169 : decode cX9_digest 169 = .ok (.imul, 1) := by decide +kernel
theorem dX9_digest_170 : decode cX9_digest 170 = .ok (.iload 4, 2) := by decide +kernel
theorem dX9_digest_172 : decode cX9_digest 172 = .ok (.iadd, 1) := by decide +kernel
theorem dX9_digest_173 : decode cX9_digest 173 = .ok (.iaload, 1) := by decide +kernel
theorem dX9_digest_174 : decode cX9_digest 174 = .ok (.i2l, 1) := by decide +kernel
theorem dX9_digest_175 : decode cX9_digest 175 = .ok (.ladd, 1) := by decide +kernel
theorem dX9_digest_176 : decode cX9_digest 176 = .ok (.lstore_n 1, 1) := by decide +kernel
theorem dX9_digest_177 : decode cX9_digest 177 = .ok (.iinc 4 1, 3) := by decide +kernel
theorem dX9_digest_180 : decode cX9_digest 180 = .ok (.goto (-57), 3) := by decide +kernel
theorem dX9_digest_183 : decode cX9_digest 183 = .ok (.iinc 3 1, 3) := by decide +kernel
theorem dX9_digest_186 : decode cX9_digest 186 = .ok (.goto (-95), 3) := by decide +kernel
theorem dX9_digest_189 : decode cX9_digest 189 = .ok (.iconst 0, 1) := by decide +kernel
theorem dX9_digest_190 : decode cX9_digest 190 = .ok (.istore_n 3, 1) := by decide +kernel
theorem dX9_digest_191 : decode cX9_digest 191 = .ok (.iload_n 3, 1) := by decide +kernel
theorem dX9_digest_192 : decode cX9_digest 192 = .ok (.bipush 6, 2) := by decide +kernel
theorem dX9_digest_194 : decode cX9_digest 194 = .ok (.if_icmp .ge 23, 3) := by decide +kernel
theorem dX9_digest_197 : decode cX9_digest 197 = .ok (.lload_n 1, 1) := by decide +kernel
theorem dX9_digest_198 : decode cX9_digest 198 = .ok (.ldc2_w 214, 3) := by decide +kernel
theorem dX9_digest_201 : decode cX9_digest 201 = .ok (.lmul, 1) := by decide +kernel
theorem dX9_digest_202 : decode cX9_digest 202 = .ok (.aload_n 0, 1) := by decide +kernel
theorem dX9_digest_203 : decode cX9_digest 203 = .ok (.getfield 84, 3) := by decide +kernel
theorem dX9_digest_206 : decode cX9_digest 206 = .ok (.iload_n 3, 1) := by decide +kernel
theorem dX9_digest_207 : decode cX9_digest 207 = .ok (.iaload, 1) := by decide +kernel
theorem dX9_digest_208 : decode cX9_digest 208 = .ok (.i2l, 1) := by decide +kernel
theorem dX9_digest_209 : decode cX9_digest 209 = .ok (.ladd, 1) := by decide +kernel
theorem dX9_digest_210 : decode cX9_digest 210 = .ok (.lstore_n 1, 1) := by decide +kernel
theorem dX9_digest_211 : decode cX9_digest 211 = .ok (.iinc 3 1, 3) := by decide +kernel
theorem dX9_digest_214 : decode cX9_digest 214 = .ok (.goto (-23), 3) := by decide +kernel
theorem dX9_digest_217 : decode cX9_digest 217 = .ok (.lload_n 1, 1) := by decide +kernel
theorem dX9_digest_218 : decode cX9_digest 218 = .ok (.lreturn, 1) := by decide +kernel
theorem dJ9_floorMod_f86c9_0 : decode cJ9_floorMod_f86c9 0 = .ok (.lload_n 0, 1) := by decide +kernel
theorem dJ9_floorMod_f86c9_1 : decode cJ9_floorMod_f86c9 1 = .ok (.lload_n 2, 1) := by decide +kernel
theorem dJ9_floorMod_f86c9_2 : decode cJ9_floorMod_f86c9 2 = .ok (.lrem, 1) := by decide +kernel
theorem dJ9_floorMod_f86c9_3 : decode cJ9_floorMod_f86c9 3 = .ok (.lstore 4, 2) := by decide +kernel
theorem dJ9_floorMod_f86c9_5 : decode cJ9_floorMod_f86c9 5 = .ok (.lload_n 0, 1) := by decide +kernel
theorem dJ9_floorMod_f86c9_6 : decode cJ9_floorMod_f86c9 6 = .ok (.lload_n 2, 1) := by decide +kernel
theorem dJ9_floorMod_f86c9_7 : decode cJ9_floorMod_f86c9 7 = .ok (.lxor, 1) := by decide +kernel
theorem dJ9_floorMod_f86c9_8 : decode cJ9_floorMod_f86c9 8 = .ok (.lconst 0, 1) := by decide +kernel
theorem dJ9_floorMod_f86c9_9 : decode cJ9_floorMod_f86c9 9 = .ok (.lcmp, 1) := by decide +kernel
theorem dJ9_floorMod_f86c9_10 : decode cJ9_floorMod_f86c9 10 = .ok (.ifCond .ge 15, 3) := by decide +kernel
theorem dJ9_floorMod_f86c9_13 : decode cJ9_floorMod_f86c9 13 = .ok (.lload 4, 2) := by decide +kernel
theorem dJ9_floorMod_f86c9_15 : decode cJ9_floorMod_f86c9 15 = .ok (.lconst 0, 1) := by decide +kernel
theorem dJ9_floorMod_f86c9_16 : decode cJ9_floorMod_f86c9 16 = .ok (.lcmp, 1) := by decide +kernel
theorem dJ9_floorMod_f86c9_17 : decode cJ9_floorMod_f86c9 17 = .ok (.ifCond .eq 8, 3) := by decide +kernel
theorem dJ9_floorMod_f86c9_20 : decode cJ9_floorMod_f86c9 20 = .ok (.lload 4, 2) := by decide +kernel
theorem dJ9_floorMod_f86c9_22 : decode cJ9_floorMod_f86c9 22 = .ok (.lload_n 2, 1) := by decide +kernel
theorem dJ9_floorMod_f86c9_23 : decode cJ9_floorMod_f86c9 23 = .ok (.ladd, 1) := by decide +kernel
theorem dJ9_floorMod_f86c9_24 : decode cJ9_floorMod_f86c9 24 = .ok (.lreturn, 1) := by decide +kernel
theorem dJ9_floorMod_f86c9_25 : decode cJ9_floorMod_f86c9 25 = .ok (.lload 4, 2) := by decide +kernel
theorem dJ9_floorMod_f86c9_27 : decode cJ9_floorMod_f86c9 27 = .ok (.lreturn, 1) := by decide +kernel
theorem dJ9_max_7cf53_0 : decode cJ9_max_7cf53 0 = .ok (.iload_n 0, 1) := by decide +kernel
theorem dJ9_max_7cf53_1 : decode cJ9_max_7cf53 1 = .ok (.iload_n 1, 1) := by decide +kernel
theorem dJ9_max_7cf53_2 : decode cJ9_max_7cf53 2 = .ok (.if_icmp .lt 7, 3) := by decide +kernel
theorem dJ9_max_7cf53_5 : decode cJ9_max_7cf53 5 = .ok (.iload_n 0, 1) := by decide +kernel
theorem dJ9_max_7cf53_6 : decode cJ9_max_7cf53 6 = .ok (.goto 4, 3) := by decide +kernel
theorem dJ9_max_7cf53_9 : decode cJ9_max_7cf53 9 = .ok (.iload_n 1, 1) := by decide +kernel
theorem dJ9_max_7cf53_10 : decode cJ9_max_7cf53 10 = .ok (.ireturn, 1) := by decide +kernel
theorem dJ9_max_f86c9_0 : decode cJ9_max_f86c9 0 = .ok (.lload_n 0, 1) := by decide +kernel
theorem dJ9_max_f86c9_1 : decode cJ9_max_f86c9 1 = .ok (.lload_n 2, 1) := by decide +kernel
theorem dJ9_max_f86c9_2 : decode cJ9_max_f86c9 2 = .ok (.lcmp, 1) := by decide +kernel
theorem dJ9_max_f86c9_3 : decode cJ9_max_f86c9 3 = .ok (.ifCond .lt 7, 3) := by decide +kernel
theorem dJ9_max_f86c9_6 : decode cJ9_max_f86c9 6 = .ok (.lload_n 0, 1) := by decide +kernel
theorem dJ9_max_f86c9_7 : decode cJ9_max_f86c9 7 = .ok (.goto 4, 3) := by decide +kernel
theorem dJ9_max_f86c9_10 : decode cJ9_max_f86c9 10 = .ok (.lload_n 2, 1) := by decide +kernel
theorem dJ9_max_f86c9_11 : decode cJ9_max_f86c9 11 = .ok (.lreturn, 1) := by decide +kernel
theorem dJ9_min_7cf53_0 : decode cJ9_min_7cf53 0 = .ok (.iload_n 0, 1) := by decide +kernel
theorem dJ9_min_7cf53_1 : decode cJ9_min_7cf53 1 = .ok (.iload_n 1, 1) := by decide +kernel
theorem dJ9_min_7cf53_2 : decode cJ9_min_7cf53 2 = .ok (.if_icmp .gt 7, 3) := by decide +kernel
theorem dJ9_min_7cf53_5 : decode cJ9_min_7cf53 5 = .ok (.iload_n 0, 1) := by decide +kernel
theorem dJ9_min_7cf53_6 : decode cJ9_min_7cf53 6 = .ok (.goto 4, 3) := by decide +kernel
theorem dJ9_min_7cf53_9 : decode cJ9_min_7cf53 9 = .ok (.iload_n 1, 1) := by decide +kernel
theorem dJ9_min_7cf53_10 : decode cJ9_min_7cf53 10 = .ok (.ireturn, 1) := by decide +kernel
theorem dJ9_min_f86c9_0 : decode cJ9_min_f86c9 0 = .ok (.lload_n 0, 1) := by decide +kernel
theorem dJ9_min_f86c9_1 : decode cJ9_min_f86c9 1 = .ok (.lload_n 2, 1) := by decide +kernel
theorem dJ9_min_f86c9_2 : decode cJ9_min_f86c9 2 = .ok (.lcmp, 1) := by decide +kernel
theorem dJ9_min_f86c9_3 : decode cJ9_min_f86c9 3 = .ok (.ifCond .gt 7, 3) := by decide +kernel
theorem dJ9_min_f86c9_6 : decode cJ9_min_f86c9 6 = .ok (.lload_n 0, 1) := by decide +kernel
theorem dJ9_min_f86c9_7 : decode cJ9_min_f86c9 7 = .ok (.goto 4, 3) := by decide +kernel
theorem dJ9_min_f86c9_10 : decode cJ9_min_f86c9 10 = .ok (.lload_n 2, 1) := by decide +kernel
theorem dJ9_min_f86c9_11 : decode cJ9_min_f86c9 11 = .ok (.lreturn, 1) := by decide +kernel
set_option maxRecDepth 20000 in
theorem ggL_addBlock_X8_addBlock : GoodIn wsL_addBlock wsX8_addBlock := goodIn_ca (goodIn_r _ [6, 7, 8, 9, 10, 11, 12, 13, 14, 15, 16, 17, 18, 19] (by decide +kernel) (by decide +kernel)) (goodIn_sub (fun _ h => List.mem_cons_of_mem _ (List.mem_append_right _ h)) (by decide +kernel))
set_option maxRecDepth 20000 in
theorem gL_addBlock_X8_addBlock : GoodIn wsL_addBlock (wsV RL 7 RX8 yX8_addBlock wsX8_addBlock) := goodIn_app (goodIn_of _ (by decide +kernel)) ggL_addBlock_X8_addBlock
theorem dL_addBlock_0 : decode cL_addBlock 0 = .ok (.aload_n 1, 1) := by decide +kernel
theorem dL_addBlock_1 : decode cL_addBlock 1 = .ok (.iconst 0, 1) := by decide +kernel
theorem dL_addBlock_2 : decode cL_addBlock 2 = .ok (.aload_n 0, 1) := by decide +kernel
theorem dL_addBlock_3 : decode cL_addBlock 3 = .ok (.invokevirtual 7, 3) := by decide +kernel
theorem dL_addBlock_6 : decode cL_addBlock 6 = .ok (.i2l, 1) := by decide +kernel
theorem dL_addBlock_7 : decode cL_addBlock 7 = .ok (.lastore, 1) := by decide +kernel
theorem dL_addBlock_8 : decode cL_addBlock 8 = .ok (.goto 6, 3) := by decide +kernel
theorem dL_addBlock_11 : decode cL_addBlock 11 = .ok (.astore_n 2, 1) := by decide +kernel
theorem dL_addBlock_12 : decode cL_addBlock 12 = .ok (.iconst 1, 1) := by decide +kernel
theorem dL_addBlock_13 : decode cL_addBlock 13 = .ok (.ireturn, 1) := by decide +kernel
theorem dL_addBlock_14 : decode cL_addBlock 14 = .ok (.iconst 0, 1) := by decide +kernel
theorem dL_addBlock_15 : decode cL_addBlock 15 = .ok (.ireturn, 1) := by decide +kernel
set_option maxRecDepth 20000 in
theorem ggL_setInitial_X8_setInitial : GoodIn wsL_setInitial wsX8_setInitial := goodIn_ca (goodIn_ca (goodIn_r _ [7, 8, 9, 10, 11, 12, 13, 14, 6, 15, 16, 17, 18, 19, 20, 21, 22, 23, 24, 25, 26, 27, 28, 29, 30, 31, 32, 33, 34, 35, 36, 37, 38, 39, 40, 41, 42] (by decide +kernel) (by decide +kernel)) (goodIn_sub (fun _ h => List.mem_cons_of_mem _ (List.mem_append_left _ (List.mem_append_right _ h))) (by decide +kernel))) (goodIn_sub (fun _ h => List.mem_cons_of_mem _ (List.mem_append_right _ h)) (by decide +kernel))
set_option maxRecDepth 20000 in
theorem gL_setInitial_X8_setInitial : GoodIn wsL_setInitial (wsV RL 15 RX8 yX8_setInitial wsX8_setInitial) := goodIn_app (goodIn_of _ (by decide +kernel)) ggL_setInitial_X8_setInitial
theorem dL_setInitial_0 : decode cL_setInitial 0 = .ok (.aload 4, 2) := by decide +kernel
theorem dL_setInitial_2 : decode cL_setInitial 2 = .ok (.iconst 0, 1) := by decide +kernel
theorem dL_setInitial_3 : decode cL_setInitial 3 = .ok (.aload_n 0, 1) := by decide +kernel
theorem dL_setInitial_4 : decode cL_setInitial 4 = .ok (.iload_n 1, 1) := by decide +kernel
theorem dL_setInitial_5 : decode cL_setInitial 5 = .ok (.iload_n 2, 1) := by decide +kernel
theorem dL_setInitial_6 : decode cL_setInitial 6 = .ok (.iload_n 3, 1) := by decide +kernel
theorem dL_setInitial_7 : decode cL_setInitial 7 = .ok (.invokevirtual 15, 3) := by decide +kernel
theorem dL_setInitial_10 : decode cL_setInitial 10 = .ok (.ifCond .eq 7, 3) := by decide +kernel
theorem dL_setInitial_13 : decode cL_setInitial 13 = .ok (.lconst 1, 1) := by decide +kernel
theorem dL_setInitial_14 : decode cL_setInitial 14 = .ok (.goto 4, 3) := by decide +kernel
theorem dL_setInitial_17 : decode cL_setInitial 17 = .ok (.lconst 0, 1) := by decide +kernel
theorem dL_setInitial_18 : decode cL_setInitial 18 = .ok (.lastore, 1) := by decide +kernel
theorem dL_setInitial_19 : decode cL_setInitial 19 = .ok (.goto 11, 3) := by decide +kernel
theorem dL_setInitial_22 : decode cL_setInitial 22 = .ok (.astore 5, 2) := by decide +kernel
theorem dL_setInitial_24 : decode cL_setInitial 24 = .ok (.iconst 1, 1) := by decide +kernel
theorem dL_setInitial_25 : decode cL_setInitial 25 = .ok (.ireturn, 1) := by decide +kernel
theorem dL_setInitial_26 : decode cL_setInitial 26 = .ok (.astore 5, 2) := by decide +kernel
theorem dL_setInitial_28 : decode cL_setInitial 28 = .ok (.iconst 2, 1) := by decide +kernel
theorem dL_setInitial_29 : decode cL_setInitial 29 = .ok (.ireturn, 1) := by decide +kernel
theorem dL_setInitial_30 : decode cL_setInitial 30 = .ok (.iconst 0, 1) := by decide +kernel
theorem dL_setInitial_31 : decode cL_setInitial 31 = .ok (.ireturn, 1) := by decide +kernel
set_option maxRecDepth 20000 in
theorem ggL_input_X8_input : GoodIn wsL_input wsX8_input := goodIn_ca (goodIn_ca (goodIn_ca (goodIn_r _ [8, 9, 10, 11, 12, 13, 14, 7, 15, 16, 17, 18, 19, 20, 21, 22, 23, 24, 25, 26, 27, 28, 29, 30, 31, 32, 33, 34, 35, 36, 37, 38, 39, 40, 41, 42, 43, 44, 45, 46, 47, 48, 49, 50, 51, 52, 53, 54, 55, 56, 57, 58, 59, 60, 61, 62, 63] (by decide +kernel) (by decide +kernel)) (goodIn_sub (fun _ h => List.mem_cons_of_mem _ (List.mem_append_left _ (List.mem_append_left _ (List.mem_append_right _ h)))) (by decide +kernel))) (goodIn_sub (fun _ h => List.mem_cons_of_mem _ (List.mem_append_left _ (List.mem_append_right _ h))) (by decide +kernel))) (goodIn_sub (fun _ h => List.mem_cons_of_mem _ (List.mem_append_right _ h)) (by decide +kernel))
set_option maxRecDepth 20000 in
theorem gL_input_X8_input : GoodIn wsL_input (wsV RL 23 RX8 yX8_input wsX8_input) := goodIn_app (goodIn_of _ (by decide +kernel)) ggL_input_X8_input
theorem dL_input_0 : decode cL_input 0 = .ok (.aload 5, 2) := by decide +kernel
theorem dL_input_2 : decode cL_input 2 = .ok (.iconst 0, 1) := by decide +kernel
theorem dL_input_3 : decode cL_input 3 = .ok (.aload_n 0, 1) := by decide +kernel
theorem dL_input_4 : decode cL_input 4 = .ok (.iload_n 1, 1) := by decide +kernel
theorem dL_input_5 : decode cL_input 5 = .ok (.iload_n 2, 1) := by decide +kernel
theorem dL_input_6 : decode cL_input 6 = .ok (.iload_n 3, 1) := by decide +kernel
theorem dL_input_7 : decode cL_input 7 = .ok (.iload 4, 2) := by decide +kernel
theorem dL_input_9 : decode cL_input 9 = .ok (.invokevirtual 23, 3) := by decide +kernel
theorem dL_input_12 : decode cL_input 12 = .ok (.i2l, 1) := by decide +kernel
theorem dL_input_13 : decode cL_input 13 = .ok (.lastore, 1) := by decide +kernel
theorem dL_input_14 : decode cL_input 14 = .ok (.goto 15, 3) := by decide +kernel
theorem dL_input_17 : decode cL_input 17 = .ok (.astore 6, 2) := by decide +kernel
theorem dL_input_19 : decode cL_input 19 = .ok (.iconst 1, 1) := by decide +kernel
theorem dL_input_20 : decode cL_input 20 = .ok (.ireturn, 1) := by decide +kernel
theorem dL_input_21 : decode cL_input 21 = .ok (.astore 6, 2) := by decide +kernel
theorem dL_input_23 : decode cL_input 23 = .ok (.iconst 2, 1) := by decide +kernel
theorem dL_input_24 : decode cL_input 24 = .ok (.ireturn, 1) := by decide +kernel
theorem dL_input_25 : decode cL_input 25 = .ok (.astore 6, 2) := by decide +kernel
theorem dL_input_27 : decode cL_input 27 = .ok (.iconst 3, 1) := by decide +kernel
theorem dL_input_28 : decode cL_input 28 = .ok (.ireturn, 1) := by decide +kernel
theorem dL_input_29 : decode cL_input 29 = .ok (.iconst 0, 1) := by decide +kernel
theorem dL_input_30 : decode cL_input 30 = .ok (.ireturn, 1) := by decide +kernel
set_option maxRecDepth 20000 in
theorem ggL_compute_X8_compute : GoodIn wsL_compute wsX8_compute := goodIn_ca (goodIn_ca (goodIn_ca (goodIn_r _ [8, 9, 10, 11, 12, 13, 14, 15, 16, 7, 17, 18, 19, 20, 21, 22, 23, 24, 25, 26, 27, 28, 29, 30, 31, 32, 33, 34, 35, 36, 37, 38, 39, 40, 41, 42, 43, 44, 45, 46, 47, 48, 49, 50, 51, 52, 53, 54, 55, 56, 57, 58] (by decide +kernel) (by decide +kernel)) (goodIn_sub (fun _ h => List.mem_cons_of_mem _ (List.mem_append_left _ (List.mem_append_left _ (List.mem_append_right _ h)))) (by decide +kernel))) (goodIn_sub (fun _ h => List.mem_cons_of_mem _ (List.mem_append_left _ (List.mem_append_right _ h))) (by decide +kernel))) (goodIn_sub (fun _ h => List.mem_cons_of_mem _ (List.mem_append_right _ h)) (by decide +kernel))
set_option maxRecDepth 20000 in
theorem gL_compute_X8_compute : GoodIn wsL_compute (wsV RL 27 RX8 yX8_compute wsX8_compute) := goodIn_app (goodIn_of _ (by decide +kernel)) ggL_compute_X8_compute
theorem dL_compute_0 : decode cL_compute 0 = .ok (.aload 6, 2) := by decide +kernel
theorem dL_compute_2 : decode cL_compute 2 = .ok (.iconst 0, 1) := by decide +kernel
theorem dL_compute_3 : decode cL_compute 3 = .ok (.aload_n 0, 1) := by decide +kernel
theorem dL_compute_4 : decode cL_compute 4 = .ok (.iload_n 1, 1) := by decide +kernel
theorem dL_compute_5 : decode cL_compute 5 = .ok (.iload_n 2, 1) := by decide +kernel
theorem dL_compute_6 : decode cL_compute 6 = .ok (.iload_n 3, 1) := by decide +kernel
theorem dL_compute_7 : decode cL_compute 7 = .ok (.iload 4, 2) := by decide +kernel
theorem dL_compute_9 : decode cL_compute 9 = .ok (.iload 5, 2) := by decide +kernel
theorem dL_compute_11 : decode cL_compute 11 = .ok (.invokevirtual 27, 3) := by decide +kernel
theorem dL_compute_14 : decode cL_compute 14 = .ok (.i2l, 1) := by decide +kernel
theorem dL_compute_15 : decode cL_compute 15 = .ok (.lastore, 1) := by decide +kernel
theorem dL_compute_16 : decode cL_compute 16 = .ok (.goto 15, 3) := by decide +kernel
theorem dL_compute_19 : decode cL_compute 19 = .ok (.astore 7, 2) := by decide +kernel
theorem dL_compute_21 : decode cL_compute 21 = .ok (.iconst 1, 1) := by decide +kernel
theorem dL_compute_22 : decode cL_compute 22 = .ok (.ireturn, 1) := by decide +kernel
theorem dL_compute_23 : decode cL_compute 23 = .ok (.astore 7, 2) := by decide +kernel
theorem dL_compute_25 : decode cL_compute 25 = .ok (.iconst 2, 1) := by decide +kernel
theorem dL_compute_26 : decode cL_compute 26 = .ok (.ireturn, 1) := by decide +kernel
theorem dL_compute_27 : decode cL_compute 27 = .ok (.astore 7, 2) := by decide +kernel
theorem dL_compute_29 : decode cL_compute 29 = .ok (.iconst 3, 1) := by decide +kernel
theorem dL_compute_30 : decode cL_compute 30 = .ok (.ireturn, 1) := by decide +kernel
theorem dL_compute_31 : decode cL_compute 31 = .ok (.iconst 0, 1) := by decide +kernel
theorem dL_compute_32 : decode cL_compute 32 = .ok (.ireturn, 1) := by decide +kernel
set_option maxRecDepth 20000 in
theorem ggL_jump_X8_jump : GoodIn wsL_jump wsX8_jump := goodIn_ca (goodIn_r _ [6, 7, 8, 9, 10, 11, 12, 13, 5, 14, 15, 16, 17, 18, 19, 20, 21, 22, 23, 24, 25, 26, 27, 28, 29, 30, 31, 32, 33, 34, 35, 36, 37, 38, 39, 40, 41, 42] (by decide +kernel) (by decide +kernel)) (goodIn_sub (fun _ h => List.mem_cons_of_mem _ (List.mem_append_right _ h)) (by decide +kernel))
set_option maxRecDepth 20000 in
theorem gL_jump_X8_jump : GoodIn wsL_jump (wsV RL 31 RX8 yX8_jump wsX8_jump) := goodIn_app (goodIn_of _ (by decide +kernel)) ggL_jump_X8_jump
theorem dL_jump_0 : decode cL_jump 0 = .ok (.aload_n 3, 1) := by decide +kernel
theorem dL_jump_1 : decode cL_jump 1 = .ok (.iconst 0, 1) := by decide +kernel
theorem dL_jump_2 : decode cL_jump 2 = .ok (.aload_n 0, 1) := by decide +kernel
theorem dL_jump_3 : decode cL_jump 3 = .ok (.iload_n 1, 1) := by decide +kernel
theorem dL_jump_4 : decode cL_jump 4 = .ok (.iload_n 2, 1) := by decide +kernel
theorem dL_jump_5 : decode cL_jump 5 = .ok (.invokevirtual 31, 3) := by decide +kernel
theorem dL_jump_8 : decode cL_jump 8 = .ok (.i2l, 1) := by decide +kernel
theorem dL_jump_9 : decode cL_jump 9 = .ok (.lastore, 1) := by decide +kernel
theorem dL_jump_10 : decode cL_jump 10 = .ok (.goto 7, 3) := by decide +kernel
theorem dL_jump_13 : decode cL_jump 13 = .ok (.astore 4, 2) := by decide +kernel
theorem dL_jump_15 : decode cL_jump 15 = .ok (.iconst 1, 1) := by decide +kernel
theorem dL_jump_16 : decode cL_jump 16 = .ok (.ireturn, 1) := by decide +kernel
theorem dL_jump_17 : decode cL_jump 17 = .ok (.iconst 0, 1) := by decide +kernel
theorem dL_jump_18 : decode cL_jump 18 = .ok (.ireturn, 1) := by decide +kernel
set_option maxRecDepth 20000 in
theorem ggL_branch_X8_branch : GoodIn wsL_branch wsX8_branch := goodIn_ca (goodIn_ca (goodIn_r _ [7, 8, 9, 10, 11, 12, 13, 14, 15, 16, 6, 17, 18, 19, 20, 21, 22, 23, 24, 25, 26, 27, 28, 29, 30, 31, 32, 33, 34, 35, 36, 37, 38, 39, 40, 41, 42, 43, 44, 45, 46, 47, 48, 49, 50, 51] (by decide +kernel) (by decide +kernel)) (goodIn_sub (fun _ h => List.mem_cons_of_mem _ (List.mem_append_left _ (List.mem_append_right _ h))) (by decide +kernel))) (goodIn_sub (fun _ h => List.mem_cons_of_mem _ (List.mem_append_right _ h)) (by decide +kernel))
set_option maxRecDepth 20000 in
theorem gL_branch_X8_branch : GoodIn wsL_branch (wsV RL 35 RX8 yX8_branch wsX8_branch) := goodIn_app (goodIn_of _ (by decide +kernel)) ggL_branch_X8_branch
theorem dL_branch_0 : decode cL_branch 0 = .ok (.aload 7, 2) := by decide +kernel
theorem dL_branch_2 : decode cL_branch 2 = .ok (.iconst 0, 1) := by decide +kernel
theorem dL_branch_3 : decode cL_branch 3 = .ok (.aload_n 0, 1) := by decide +kernel
theorem dL_branch_4 : decode cL_branch 4 = .ok (.iload_n 1, 1) := by decide +kernel
theorem dL_branch_5 : decode cL_branch 5 = .ok (.iload_n 2, 1) := by decide +kernel
theorem dL_branch_6 : decode cL_branch 6 = .ok (.iload_n 3, 1) := by decide +kernel
theorem dL_branch_7 : decode cL_branch 7 = .ok (.iload 4, 2) := by decide +kernel
theorem dL_branch_9 : decode cL_branch 9 = .ok (.iload 5, 2) := by decide +kernel
theorem dL_branch_11 : decode cL_branch 11 = .ok (.iload 6, 2) := by decide +kernel
theorem dL_branch_13 : decode cL_branch 13 = .ok (.invokevirtual 35, 3) := by decide +kernel
theorem dL_branch_16 : decode cL_branch 16 = .ok (.i2l, 1) := by decide +kernel
theorem dL_branch_17 : decode cL_branch 17 = .ok (.lastore, 1) := by decide +kernel
theorem dL_branch_18 : decode cL_branch 18 = .ok (.goto 11, 3) := by decide +kernel
theorem dL_branch_21 : decode cL_branch 21 = .ok (.astore 8, 2) := by decide +kernel
theorem dL_branch_23 : decode cL_branch 23 = .ok (.iconst 1, 1) := by decide +kernel
theorem dL_branch_24 : decode cL_branch 24 = .ok (.ireturn, 1) := by decide +kernel
theorem dL_branch_25 : decode cL_branch 25 = .ok (.astore 8, 2) := by decide +kernel
theorem dL_branch_27 : decode cL_branch 27 = .ok (.iconst 2, 1) := by decide +kernel
theorem dL_branch_28 : decode cL_branch 28 = .ok (.ireturn, 1) := by decide +kernel
theorem dL_branch_29 : decode cL_branch 29 = .ok (.iconst 0, 1) := by decide +kernel
theorem dL_branch_30 : decode cL_branch 30 = .ok (.ireturn, 1) := by decide +kernel
set_option maxRecDepth 20000 in
theorem ggL_clear_X8_clear : GoodIn wsL_clear wsX8_clear := goodIn_ca (goodIn_r _ [6, 7, 8, 9, 10, 11, 12, 13, 5, 14, 15, 16, 17, 18, 19, 20, 21, 22, 23, 24, 25, 26, 27, 28, 29, 30, 31, 32, 33, 34, 35, 36, 37, 38, 39, 40, 41, 42] (by decide +kernel) (by decide +kernel)) (goodIn_sub (fun _ h => List.mem_cons_of_mem _ (List.mem_append_right _ h)) (by decide +kernel))
set_option maxRecDepth 20000 in
theorem gL_clear_X8_clear : GoodIn wsL_clear (wsV RL 39 RX8 yX8_clear wsX8_clear) := goodIn_app (goodIn_of _ (by decide +kernel)) ggL_clear_X8_clear
theorem dL_clear_0 : decode cL_clear 0 = .ok (.aload_n 2, 1) := by decide +kernel
theorem dL_clear_1 : decode cL_clear 1 = .ok (.iconst 0, 1) := by decide +kernel
theorem dL_clear_2 : decode cL_clear 2 = .ok (.aload_n 0, 1) := by decide +kernel
theorem dL_clear_3 : decode cL_clear 3 = .ok (.iload_n 1, 1) := by decide +kernel
theorem dL_clear_4 : decode cL_clear 4 = .ok (.invokevirtual 39, 3) := by decide +kernel
theorem dL_clear_7 : decode cL_clear 7 = .ok (.i2l, 1) := by decide +kernel
theorem dL_clear_8 : decode cL_clear 8 = .ok (.lastore, 1) := by decide +kernel
theorem dL_clear_9 : decode cL_clear 9 = .ok (.goto 6, 3) := by decide +kernel
theorem dL_clear_12 : decode cL_clear 12 = .ok (.astore_n 3, 1) := by decide +kernel
theorem dL_clear_13 : decode cL_clear 13 = .ok (.iconst 1, 1) := by decide +kernel
theorem dL_clear_14 : decode cL_clear 14 = .ok (.ireturn, 1) := by decide +kernel
theorem dL_clear_15 : decode cL_clear 15 = .ok (.iconst 0, 1) := by decide +kernel
theorem dL_clear_16 : decode cL_clear 16 = .ok (.ireturn, 1) := by decide +kernel
set_option maxRecDepth 20000 in
theorem ggL_setEffort_X8_setEffort : GoodIn wsL_setEffort wsX8_setEffort := goodIn_ca (goodIn_r _ [6, 7, 8, 9, 10, 11, 12, 13, 14, 15, 16, 17, 18, 19, 20, 21] (by decide +kernel) (by decide +kernel)) (goodIn_sub (fun _ h => List.mem_cons_of_mem _ (List.mem_append_right _ h)) (by decide +kernel))
set_option maxRecDepth 20000 in
theorem gL_setEffort_X8_setEffort : GoodIn wsL_setEffort (wsV RL 43 RX8 yX8_setEffort wsX8_setEffort) := goodIn_app (goodIn_of _ (by decide +kernel)) ggL_setEffort_X8_setEffort
theorem dL_setEffort_0 : decode cL_setEffort 0 = .ok (.aload_n 3, 1) := by decide +kernel
theorem dL_setEffort_1 : decode cL_setEffort 1 = .ok (.iconst 0, 1) := by decide +kernel
theorem dL_setEffort_2 : decode cL_setEffort 2 = .ok (.aload_n 0, 1) := by decide +kernel
theorem dL_setEffort_3 : decode cL_setEffort 3 = .ok (.iload_n 1, 1) := by decide +kernel
theorem dL_setEffort_4 : decode cL_setEffort 4 = .ok (.iload_n 2, 1) := by decide +kernel
theorem dL_setEffort_5 : decode cL_setEffort 5 = .ok (.invokevirtual 43, 3) := by decide +kernel
theorem dL_setEffort_8 : decode cL_setEffort 8 = .ok (.ifCond .eq 7, 3) := by decide +kernel
theorem dL_setEffort_11 : decode cL_setEffort 11 = .ok (.lconst 1, 1) := by decide +kernel
theorem dL_setEffort_12 : decode cL_setEffort 12 = .ok (.goto 4, 3) := by decide +kernel
theorem dL_setEffort_15 : decode cL_setEffort 15 = .ok (.lconst 0, 1) := by decide +kernel
theorem dL_setEffort_16 : decode cL_setEffort 16 = .ok (.lastore, 1) := by decide +kernel
theorem dL_setEffort_17 : decode cL_setEffort 17 = .ok (.goto 7, 3) := by decide +kernel
theorem dL_setEffort_20 : decode cL_setEffort 20 = .ok (.astore 4, 2) := by decide +kernel
theorem dL_setEffort_22 : decode cL_setEffort 22 = .ok (.iconst 1, 1) := by decide +kernel
theorem dL_setEffort_23 : decode cL_setEffort 23 = .ok (.ireturn, 1) := by decide +kernel
theorem dL_setEffort_24 : decode cL_setEffort 24 = .ok (.iconst 0, 1) := by decide +kernel
theorem dL_setEffort_25 : decode cL_setEffort 25 = .ok (.ireturn, 1) := by decide +kernel
set_option maxRecDepth 20000 in
theorem ggL_addThreshold_X8_addThreshold : GoodIn wsL_addThreshold wsX8_addThreshold := goodIn_ca (goodIn_ca (goodIn_r _ [7, 8, 9, 10, 11, 12, 13, 14, 15, 16, 17, 18, 19, 20, 21, 22, 23, 24, 25, 26, 27, 28, 29, 30, 31, 32] (by decide +kernel) (by decide +kernel)) (goodIn_sub (fun _ h => List.mem_cons_of_mem _ (List.mem_append_left _ (List.mem_append_right _ h))) (by decide +kernel))) (goodIn_sub (fun _ h => List.mem_cons_of_mem _ (List.mem_append_right _ h)) (by decide +kernel))
set_option maxRecDepth 20000 in
theorem gL_addThreshold_X8_addThreshold : GoodIn wsL_addThreshold (wsV RL 47 RX8 yX8_addThreshold wsX8_addThreshold) := goodIn_app (goodIn_of _ (by decide +kernel)) ggL_addThreshold_X8_addThreshold
theorem dL_addThreshold_0 : decode cL_addThreshold 0 = .ok (.aload_n 2, 1) := by decide +kernel
theorem dL_addThreshold_1 : decode cL_addThreshold 1 = .ok (.iconst 0, 1) := by decide +kernel
theorem dL_addThreshold_2 : decode cL_addThreshold 2 = .ok (.aload_n 0, 1) := by decide +kernel
theorem dL_addThreshold_3 : decode cL_addThreshold 3 = .ok (.iload_n 1, 1) := by decide +kernel
theorem dL_addThreshold_4 : decode cL_addThreshold 4 = .ok (.invokevirtual 47, 3) := by decide +kernel
theorem dL_addThreshold_7 : decode cL_addThreshold 7 = .ok (.i2l, 1) := by decide +kernel
theorem dL_addThreshold_8 : decode cL_addThreshold 8 = .ok (.lastore, 1) := by decide +kernel
theorem dL_addThreshold_9 : decode cL_addThreshold 9 = .ok (.goto 9, 3) := by decide +kernel
theorem dL_addThreshold_12 : decode cL_addThreshold 12 = .ok (.astore_n 3, 1) := by decide +kernel
theorem dL_addThreshold_13 : decode cL_addThreshold 13 = .ok (.iconst 1, 1) := by decide +kernel
theorem dL_addThreshold_14 : decode cL_addThreshold 14 = .ok (.ireturn, 1) := by decide +kernel
theorem dL_addThreshold_15 : decode cL_addThreshold 15 = .ok (.astore_n 3, 1) := by decide +kernel
theorem dL_addThreshold_16 : decode cL_addThreshold 16 = .ok (.iconst 2, 1) := by decide +kernel
theorem dL_addThreshold_17 : decode cL_addThreshold 17 = .ok (.ireturn, 1) := by decide +kernel
theorem dL_addThreshold_18 : decode cL_addThreshold 18 = .ok (.iconst 0, 1) := by decide +kernel
theorem dL_addThreshold_19 : decode cL_addThreshold 19 = .ok (.ireturn, 1) := by decide +kernel
set_option maxRecDepth 20000 in
theorem ggL_isReachable_X8_isReachable : GoodIn wsL_isReachable wsX8_isReachable := goodIn_ca (goodIn_ca (goodIn_r _ [7, 8, 9, 10, 11, 12, 13, 14, 6, 15, 16, 17, 18, 19, 20, 21, 22, 23, 24, 25, 26, 27, 28, 29, 30, 31, 32, 33, 34, 35, 36, 37, 38, 39, 40, 41, 42, 43, 44, 45, 46] (by decide +kernel) (by decide +kernel)) (goodIn_sub (fun _ h => List.mem_cons_of_mem _ (List.mem_append_left _ (List.mem_append_right _ h))) (by decide +kernel))) (goodIn_sub (fun _ h => List.mem_cons_of_mem _ (List.mem_append_right _ h)) (by decide +kernel))
set_option maxRecDepth 20000 in
theorem gL_isReachable_X8_isReachable : GoodIn wsL_isReachable (wsV RL 50 RX8 yX8_isReachable wsX8_isReachable) := goodIn_app (goodIn_of _ (by decide +kernel)) ggL_isReachable_X8_isReachable
theorem dL_isReachable_0 : decode cL_isReachable 0 = .ok (.aload_n 2, 1) := by decide +kernel
theorem dL_isReachable_1 : decode cL_isReachable 1 = .ok (.iconst 0, 1) := by decide +kernel
theorem dL_isReachable_2 : decode cL_isReachable 2 = .ok (.aload_n 0, 1) := by decide +kernel
theorem dL_isReachable_3 : decode cL_isReachable 3 = .ok (.iload_n 1, 1) := by decide +kernel
theorem dL_isReachable_4 : decode cL_isReachable 4 = .ok (.invokevirtual 50, 3) := by decide +kernel
theorem dL_isReachable_7 : decode cL_isReachable 7 = .ok (.ifCond .eq 7, 3) := by decide +kernel
theorem dL_isReachable_10 : decode cL_isReachable 10 = .ok (.lconst 1, 1) := by decide +kernel
theorem dL_isReachable_11 : decode cL_isReachable 11 = .ok (.goto 4, 3) := by decide +kernel
theorem dL_isReachable_14 : decode cL_isReachable 14 = .ok (.lconst 0, 1) := by decide +kernel
theorem dL_isReachable_15 : decode cL_isReachable 15 = .ok (.lastore, 1) := by decide +kernel
theorem dL_isReachable_16 : decode cL_isReachable 16 = .ok (.goto 9, 3) := by decide +kernel
theorem dL_isReachable_19 : decode cL_isReachable 19 = .ok (.astore_n 3, 1) := by decide +kernel
theorem dL_isReachable_20 : decode cL_isReachable 20 = .ok (.iconst 1, 1) := by decide +kernel
theorem dL_isReachable_21 : decode cL_isReachable 21 = .ok (.ireturn, 1) := by decide +kernel
theorem dL_isReachable_22 : decode cL_isReachable 22 = .ok (.astore_n 3, 1) := by decide +kernel
theorem dL_isReachable_23 : decode cL_isReachable 23 = .ok (.iconst 2, 1) := by decide +kernel
theorem dL_isReachable_24 : decode cL_isReachable 24 = .ok (.ireturn, 1) := by decide +kernel
theorem dL_isReachable_25 : decode cL_isReachable 25 = .ok (.iconst 0, 1) := by decide +kernel
theorem dL_isReachable_26 : decode cL_isReachable 26 = .ok (.ireturn, 1) := by decide +kernel
set_option maxRecDepth 20000 in
theorem ggL_entry_X8_entry : GoodIn wsL_entry wsX8_entry := goodIn_ca (goodIn_ca (goodIn_ca (goodIn_r _ [8, 9, 10, 11, 12, 13, 14, 7, 15, 16, 17, 18, 19, 20, 21, 22, 23, 24, 25, 26, 27, 28, 29, 30, 31, 32, 33, 34, 35, 36, 37, 38, 39, 40, 41, 42, 43, 44, 45, 46, 47, 48, 49, 50, 51, 52, 53, 54, 55, 56, 57] (by decide +kernel) (by decide +kernel)) (goodIn_sub (fun _ h => List.mem_cons_of_mem _ (List.mem_append_left _ (List.mem_append_left _ (List.mem_append_right _ h)))) (by decide +kernel))) (goodIn_sub (fun _ h => List.mem_cons_of_mem _ (List.mem_append_left _ (List.mem_append_right _ h))) (by decide +kernel))) (goodIn_sub (fun _ h => List.mem_cons_of_mem _ (List.mem_append_right _ h)) (by decide +kernel))
set_option maxRecDepth 20000 in
theorem gL_entry_X8_entry : GoodIn wsL_entry (wsV RL 54 RX8 yX8_entry wsX8_entry) := goodIn_app (goodIn_of _ (by decide +kernel)) ggL_entry_X8_entry
theorem dL_entry_0 : decode cL_entry 0 = .ok (.aload 4, 2) := by decide +kernel
theorem dL_entry_2 : decode cL_entry 2 = .ok (.iconst 0, 1) := by decide +kernel
theorem dL_entry_3 : decode cL_entry 3 = .ok (.aload_n 0, 1) := by decide +kernel
theorem dL_entry_4 : decode cL_entry 4 = .ok (.iload_n 1, 1) := by decide +kernel
theorem dL_entry_5 : decode cL_entry 5 = .ok (.iload_n 2, 1) := by decide +kernel
theorem dL_entry_6 : decode cL_entry 6 = .ok (.iload_n 3, 1) := by decide +kernel
theorem dL_entry_7 : decode cL_entry 7 = .ok (.invokevirtual 54, 3) := by decide +kernel
theorem dL_entry_10 : decode cL_entry 10 = .ok (.i2l, 1) := by decide +kernel
theorem dL_entry_11 : decode cL_entry 11 = .ok (.lastore, 1) := by decide +kernel
theorem dL_entry_12 : decode cL_entry 12 = .ok (.goto 15, 3) := by decide +kernel
theorem dL_entry_15 : decode cL_entry 15 = .ok (.astore 5, 2) := by decide +kernel
theorem dL_entry_17 : decode cL_entry 17 = .ok (.iconst 1, 1) := by decide +kernel
theorem dL_entry_18 : decode cL_entry 18 = .ok (.ireturn, 1) := by decide +kernel
theorem dL_entry_19 : decode cL_entry 19 = .ok (.astore 5, 2) := by decide +kernel
theorem dL_entry_21 : decode cL_entry 21 = .ok (.iconst 2, 1) := by decide +kernel
theorem dL_entry_22 : decode cL_entry 22 = .ok (.ireturn, 1) := by decide +kernel
theorem dL_entry_23 : decode cL_entry 23 = .ok (.astore 5, 2) := by decide +kernel
theorem dL_entry_25 : decode cL_entry 25 = .ok (.iconst 3, 1) := by decide +kernel
theorem dL_entry_26 : decode cL_entry 26 = .ok (.ireturn, 1) := by decide +kernel
theorem dL_entry_27 : decode cL_entry 27 = .ok (.iconst 0, 1) := by decide +kernel
theorem dL_entry_28 : decode cL_entry 28 = .ok (.ireturn, 1) := by decide +kernel
set_option maxRecDepth 20000 in
theorem ggL_exit_X8_exit : GoodIn wsL_exit wsX8_exit := goodIn_ca (goodIn_ca (goodIn_ca (goodIn_r _ [8, 9, 10, 11, 12, 13, 14, 7, 15, 16, 17, 18, 19, 20, 21, 22, 23, 24, 25, 26, 27, 28, 29, 30, 31, 32, 33, 34, 35, 36, 37, 38, 39, 40, 41, 42, 43, 44, 45, 46, 47, 48, 49, 50, 51, 52, 53, 54, 55, 56, 57] (by decide +kernel) (by decide +kernel)) (goodIn_sub (fun _ h => List.mem_cons_of_mem _ (List.mem_append_left _ (List.mem_append_left _ (List.mem_append_right _ h)))) (by decide +kernel))) (goodIn_sub (fun _ h => List.mem_cons_of_mem _ (List.mem_append_left _ (List.mem_append_right _ h))) (by decide +kernel))) (goodIn_sub (fun _ h => List.mem_cons_of_mem _ (List.mem_append_right _ h)) (by decide +kernel))
set_option maxRecDepth 20000 in
theorem gL_exit_X8_exit : GoodIn wsL_exit (wsV RL 60 RX8 yX8_exit wsX8_exit) := goodIn_app (goodIn_of _ (by decide +kernel)) ggL_exit_X8_exit
theorem dL_exit_0 : decode cL_exit 0 = .ok (.aload 4, 2) := by decide +kernel
theorem dL_exit_2 : decode cL_exit 2 = .ok (.iconst 0, 1) := by decide +kernel
theorem dL_exit_3 : decode cL_exit 3 = .ok (.aload_n 0, 1) := by decide +kernel
theorem dL_exit_4 : decode cL_exit 4 = .ok (.iload_n 1, 1) := by decide +kernel
theorem dL_exit_5 : decode cL_exit 5 = .ok (.iload_n 2, 1) := by decide +kernel
theorem dL_exit_6 : decode cL_exit 6 = .ok (.iload_n 3, 1) := by decide +kernel
theorem dL_exit_7 : decode cL_exit 7 = .ok (.invokevirtual 60, 3) := by decide +kernel
theorem dL_exit_10 : decode cL_exit 10 = .ok (.i2l, 1) := by decide +kernel
theorem dL_exit_11 : decode cL_exit 11 = .ok (.lastore, 1) := by decide +kernel
theorem dL_exit_12 : decode cL_exit 12 = .ok (.goto 15, 3) := by decide +kernel
theorem dL_exit_15 : decode cL_exit 15 = .ok (.astore 5, 2) := by decide +kernel
theorem dL_exit_17 : decode cL_exit 17 = .ok (.iconst 1, 1) := by decide +kernel
theorem dL_exit_18 : decode cL_exit 18 = .ok (.ireturn, 1) := by decide +kernel
theorem dL_exit_19 : decode cL_exit 19 = .ok (.astore 5, 2) := by decide +kernel
theorem dL_exit_21 : decode cL_exit 21 = .ok (.iconst 2, 1) := by decide +kernel
theorem dL_exit_22 : decode cL_exit 22 = .ok (.ireturn, 1) := by decide +kernel
theorem dL_exit_23 : decode cL_exit 23 = .ok (.astore 5, 2) := by decide +kernel
theorem dL_exit_25 : decode cL_exit 25 = .ok (.iconst 3, 1) := by decide +kernel
theorem dL_exit_26 : decode cL_exit 26 = .ok (.ireturn, 1) := by decide +kernel
theorem dL_exit_27 : decode cL_exit 27 = .ok (.iconst 0, 1) := by decide +kernel
theorem dL_exit_28 : decode cL_exit 28 = .ok (.ireturn, 1) := by decide +kernel
set_option maxRecDepth 20000 in
theorem ggL_isDead_X8_isDead : GoodIn wsL_isDead wsX8_isDead := goodIn_ca (goodIn_ca (goodIn_r _ [7, 8, 9, 10, 11, 12, 13, 14, 15, 16, 17, 18, 19, 6, 20, 21, 22, 23, 24, 25, 26, 27, 28, 29, 30, 31, 32, 33, 34, 35, 36, 37, 38, 39, 40, 41, 42, 43, 44, 45, 46, 47, 48, 49, 50, 51, 52, 53, 54, 55, 56, 57, 58] (by decide +kernel) (by decide +kernel)) (goodIn_sub (fun _ h => List.mem_cons_of_mem _ (List.mem_append_left _ (List.mem_append_right _ h))) (by decide +kernel))) (goodIn_sub (fun _ h => List.mem_cons_of_mem _ (List.mem_append_right _ h)) (by decide +kernel))
set_option maxRecDepth 20000 in
theorem gL_isDead_X8_isDead : GoodIn wsL_isDead (wsV RL 63 RX8 yX8_isDead wsX8_isDead) := goodIn_app (goodIn_of _ (by decide +kernel)) ggL_isDead_X8_isDead
theorem dL_isDead_0 : decode cL_isDead 0 = .ok (.aload_n 3, 1) := by decide +kernel
theorem dL_isDead_1 : decode cL_isDead 1 = .ok (.iconst 0, 1) := by decide +kernel
theorem dL_isDead_2 : decode cL_isDead 2 = .ok (.aload_n 0, 1) := by decide +kernel
theorem dL_isDead_3 : decode cL_isDead 3 = .ok (.iload_n 1, 1) := by decide +kernel
theorem dL_isDead_4 : decode cL_isDead 4 = .ok (.iload_n 2, 1) := by decide +kernel
theorem dL_isDead_5 : decode cL_isDead 5 = .ok (.invokevirtual 63, 3) := by decide +kernel
theorem dL_isDead_8 : decode cL_isDead 8 = .ok (.ifCond .eq 7, 3) := by decide +kernel
theorem dL_isDead_11 : decode cL_isDead 11 = .ok (.lconst 1, 1) := by decide +kernel
theorem dL_isDead_12 : decode cL_isDead 12 = .ok (.goto 4, 3) := by decide +kernel
theorem dL_isDead_15 : decode cL_isDead 15 = .ok (.lconst 0, 1) := by decide +kernel
theorem dL_isDead_16 : decode cL_isDead 16 = .ok (.lastore, 1) := by decide +kernel
theorem dL_isDead_17 : decode cL_isDead 17 = .ok (.goto 11, 3) := by decide +kernel
theorem dL_isDead_20 : decode cL_isDead 20 = .ok (.astore 4, 2) := by decide +kernel
theorem dL_isDead_22 : decode cL_isDead 22 = .ok (.iconst 1, 1) := by decide +kernel
theorem dL_isDead_23 : decode cL_isDead 23 = .ok (.ireturn, 1) := by decide +kernel
theorem dL_isDead_24 : decode cL_isDead 24 = .ok (.astore 4, 2) := by decide +kernel
theorem dL_isDead_26 : decode cL_isDead 26 = .ok (.iconst 2, 1) := by decide +kernel
theorem dL_isDead_27 : decode cL_isDead 27 = .ok (.ireturn, 1) := by decide +kernel
theorem dL_isDead_28 : decode cL_isDead 28 = .ok (.iconst 0, 1) := by decide +kernel
theorem dL_isDead_29 : decode cL_isDead 29 = .ok (.ireturn, 1) := by decide +kernel
set_option maxRecDepth 20000 in
theorem ggL_deadEdges_X8_deadEdges : GoodIn wsL_deadEdges wsX8_deadEdges := goodIn_ca (goodIn_r _ [6, 7, 8, 9, 10, 11, 12, 13, 14, 15, 5, 16, 17, 18, 19, 20, 21, 22, 23, 24, 25, 26, 27, 28, 29, 30, 31, 32, 33, 34, 35, 36, 37, 38, 39, 40, 41, 42, 43, 44, 45, 46, 47, 48, 49, 50, 51, 52, 53, 54, 55, 56, 57] (by decide +kernel) (by decide +kernel)) (goodIn_sub (fun _ h => List.mem_cons_of_mem _ (List.mem_append_right _ h)) (by decide +kernel))
set_option maxRecDepth 20000 in
theorem gL_deadEdges_X8_deadEdges : GoodIn wsL_deadEdges (wsV RL 66 RX8 yX8_deadEdges wsX8_deadEdges) := goodIn_app (goodIn_of _ (by decide +kernel)) ggL_deadEdges_X8_deadEdges
theorem dL_deadEdges_0 : decode cL_deadEdges 0 = .ok (.aload_n 1, 1) := by decide +kernel
theorem dL_deadEdges_1 : decode cL_deadEdges 1 = .ok (.iconst 0, 1) := by decide +kernel
theorem dL_deadEdges_2 : decode cL_deadEdges 2 = .ok (.aload_n 0, 1) := by decide +kernel
theorem dL_deadEdges_3 : decode cL_deadEdges 3 = .ok (.invokevirtual 66, 3) := by decide +kernel
theorem dL_deadEdges_6 : decode cL_deadEdges 6 = .ok (.i2l, 1) := by decide +kernel
theorem dL_deadEdges_7 : decode cL_deadEdges 7 = .ok (.lastore, 1) := by decide +kernel
theorem dL_deadEdges_8 : decode cL_deadEdges 8 = .ok (.goto 6, 3) := by decide +kernel
theorem dL_deadEdges_11 : decode cL_deadEdges 11 = .ok (.astore_n 2, 1) := by decide +kernel
theorem dL_deadEdges_12 : decode cL_deadEdges 12 = .ok (.iconst 1, 1) := by decide +kernel
theorem dL_deadEdges_13 : decode cL_deadEdges 13 = .ok (.ireturn, 1) := by decide +kernel
theorem dL_deadEdges_14 : decode cL_deadEdges 14 = .ok (.iconst 0, 1) := by decide +kernel
theorem dL_deadEdges_15 : decode cL_deadEdges 15 = .ok (.ireturn, 1) := by decide +kernel
set_option maxRecDepth 20000 in
theorem ggL_constants_X8_constants : GoodIn wsL_constants wsX8_constants := goodIn_ca (goodIn_ca (goodIn_r _ [7, 8, 9, 10, 11, 12, 13, 6, 14, 15, 16, 17, 18, 19, 20, 21, 22, 23, 24, 25, 26, 27, 28, 29, 30, 31, 32, 33, 34, 35, 36, 37, 38, 39, 40, 41, 42, 43, 44, 45, 46, 47, 48, 49, 50, 51, 52, 53, 54, 55, 56, 57] (by decide +kernel) (by decide +kernel)) (goodIn_sub (fun _ h => List.mem_cons_of_mem _ (List.mem_append_left _ (List.mem_append_right _ h))) (by decide +kernel))) (goodIn_sub (fun _ h => List.mem_cons_of_mem _ (List.mem_append_right _ h)) (by decide +kernel))
set_option maxRecDepth 20000 in
theorem gL_constants_X8_constants : GoodIn wsL_constants (wsV RL 69 RX8 yX8_constants wsX8_constants) := goodIn_app (goodIn_of _ (by decide +kernel)) ggL_constants_X8_constants
theorem dL_constants_0 : decode cL_constants 0 = .ok (.aload_n 2, 1) := by decide +kernel
theorem dL_constants_1 : decode cL_constants 1 = .ok (.iconst 0, 1) := by decide +kernel
theorem dL_constants_2 : decode cL_constants 2 = .ok (.aload_n 0, 1) := by decide +kernel
theorem dL_constants_3 : decode cL_constants 3 = .ok (.iload_n 1, 1) := by decide +kernel
theorem dL_constants_4 : decode cL_constants 4 = .ok (.invokevirtual 69, 3) := by decide +kernel
theorem dL_constants_7 : decode cL_constants 7 = .ok (.i2l, 1) := by decide +kernel
theorem dL_constants_8 : decode cL_constants 8 = .ok (.lastore, 1) := by decide +kernel
theorem dL_constants_9 : decode cL_constants 9 = .ok (.goto 9, 3) := by decide +kernel
theorem dL_constants_12 : decode cL_constants 12 = .ok (.astore_n 3, 1) := by decide +kernel
theorem dL_constants_13 : decode cL_constants 13 = .ok (.iconst 1, 1) := by decide +kernel
theorem dL_constants_14 : decode cL_constants 14 = .ok (.ireturn, 1) := by decide +kernel
theorem dL_constants_15 : decode cL_constants 15 = .ok (.astore_n 3, 1) := by decide +kernel
theorem dL_constants_16 : decode cL_constants 16 = .ok (.iconst 2, 1) := by decide +kernel
theorem dL_constants_17 : decode cL_constants 17 = .ok (.ireturn, 1) := by decide +kernel
theorem dL_constants_18 : decode cL_constants 18 = .ok (.iconst 0, 1) := by decide +kernel
theorem dL_constants_19 : decode cL_constants 19 = .ok (.ireturn, 1) := by decide +kernel
set_option maxRecDepth 20000 in
theorem ggL_visits_X8_visits : GoodIn wsL_visits wsX8_visits := goodIn_ca (goodIn_ca (goodIn_r _ [7, 8, 9, 10, 11, 12, 13, 6, 14, 15, 16, 17, 18, 19, 20, 21, 22, 23, 24, 25, 26, 27, 28, 29, 30, 31, 32, 33, 34, 35, 36, 37, 38, 39, 40, 41, 42] (by decide +kernel) (by decide +kernel)) (goodIn_sub (fun _ h => List.mem_cons_of_mem _ (List.mem_append_left _ (List.mem_append_right _ h))) (by decide +kernel))) (goodIn_sub (fun _ h => List.mem_cons_of_mem _ (List.mem_append_right _ h)) (by decide +kernel))
set_option maxRecDepth 20000 in
theorem gL_visits_X8_visits : GoodIn wsL_visits (wsV RL 72 RX8 yX8_visits wsX8_visits) := goodIn_app (goodIn_of _ (by decide +kernel)) ggL_visits_X8_visits
theorem dL_visits_0 : decode cL_visits 0 = .ok (.aload_n 2, 1) := by decide +kernel
theorem dL_visits_1 : decode cL_visits 1 = .ok (.iconst 0, 1) := by decide +kernel
theorem dL_visits_2 : decode cL_visits 2 = .ok (.aload_n 0, 1) := by decide +kernel
theorem dL_visits_3 : decode cL_visits 3 = .ok (.iload_n 1, 1) := by decide +kernel
theorem dL_visits_4 : decode cL_visits 4 = .ok (.invokevirtual 72, 3) := by decide +kernel
theorem dL_visits_7 : decode cL_visits 7 = .ok (.i2l, 1) := by decide +kernel
theorem dL_visits_8 : decode cL_visits 8 = .ok (.lastore, 1) := by decide +kernel
theorem dL_visits_9 : decode cL_visits 9 = .ok (.goto 9, 3) := by decide +kernel
theorem dL_visits_12 : decode cL_visits 12 = .ok (.astore_n 3, 1) := by decide +kernel
theorem dL_visits_13 : decode cL_visits 13 = .ok (.iconst 1, 1) := by decide +kernel
theorem dL_visits_14 : decode cL_visits 14 = .ok (.ireturn, 1) := by decide +kernel
theorem dL_visits_15 : decode cL_visits 15 = .ok (.astore_n 3, 1) := by decide +kernel
theorem dL_visits_16 : decode cL_visits 16 = .ok (.iconst 2, 1) := by decide +kernel
theorem dL_visits_17 : decode cL_visits 17 = .ok (.ireturn, 1) := by decide +kernel
theorem dL_visits_18 : decode cL_visits 18 = .ok (.iconst 0, 1) := by decide +kernel
theorem dL_visits_19 : decode cL_visits 19 = .ok (.ireturn, 1) := by decide +kernel
set_option maxRecDepth 20000 in
theorem ggL_run_X8_run : GoodIn wsL_run wsX8_run := goodIn_ca (goodIn_r _ [6, 7, 8, 9, 10, 11, 12, 13, 14, 15, 16, 17, 18, 19, 20, 21, 22, 23, 24, 25, 26, 27, 28, 29, 30, 31, 32, 33, 34, 35, 36, 37, 38, 39, 40, 41, 42, 43, 44, 45, 46, 47, 48, 49, 50, 51, 52, 53, 54, 55, 56, 57, 58, 59, 60, 61, 62, 63, 64, 65, 66, 67, 68, 69, 70, 71, 72, 73, 74, 75, 76, 77, 78, 79, 80, 81, 82, 83, 84, 85, 86, 87, 88, 89, 90, 91, 92, 93, 94, 95, 96, 97, 98, 99, 100, 101, 102, 103, 104, 105, 106, 107, 108, 109, 110, 111, 112, 113, 114] (by decide +kernel) (by decide +kernel)) (goodIn_sub (fun _ h => List.mem_cons_of_mem _ (List.mem_append_right _ h)) (by decide +kernel))
set_option maxRecDepth 20000 in
theorem gL_run_X8_run : GoodIn wsL_run (wsV RL 75 RX8 yX8_run wsX8_run) := goodIn_app (goodIn_of _ (by decide +kernel)) ggL_run_X8_run
theorem dL_run_0 : decode cL_run 0 = .ok (.aload 4, 2) := by decide +kernel
theorem dL_run_2 : decode cL_run 2 = .ok (.iconst 0, 1) := by decide +kernel
theorem dL_run_3 : decode cL_run 3 = .ok (.aload_n 0, 1) := by decide +kernel
theorem dL_run_4 : decode cL_run 4 = .ok (.lload_n 1, 1) := by decide +kernel
theorem dL_run_5 : decode cL_run 5 = .ok (.iload_n 3, 1) := by decide +kernel
theorem dL_run_6 : decode cL_run 6 = .ok (.invokevirtual 75, 3) := by decide +kernel
theorem dL_run_9 : decode cL_run 9 = .ok (.i2l, 1) := by decide +kernel
theorem dL_run_10 : decode cL_run 10 = .ok (.lastore, 1) := by decide +kernel
theorem dL_run_11 : decode cL_run 11 = .ok (.goto 7, 3) := by decide +kernel
theorem dL_run_14 : decode cL_run 14 = .ok (.astore 5, 2) := by decide +kernel
theorem dL_run_16 : decode cL_run 16 = .ok (.iconst 1, 1) := by decide +kernel
theorem dL_run_17 : decode cL_run 17 = .ok (.ireturn, 1) := by decide +kernel
theorem dL_run_18 : decode cL_run 18 = .ok (.iconst 0, 1) := by decide +kernel
theorem dL_run_19 : decode cL_run 19 = .ok (.ireturn, 1) := by decide +kernel
set_option maxRecDepth 20000 in
theorem ggL_enteredBlock_X8_enteredBlock : GoodIn wsL_enteredBlock wsX8_enteredBlock := goodIn_ca (goodIn_r _ [6, 7, 8, 9, 10, 11, 5, 12, 13, 14, 15, 16, 17, 18, 19, 20, 21, 22, 23, 24, 25, 26] (by decide +kernel) (by decide +kernel)) (goodIn_sub (fun _ h => List.mem_cons_of_mem _ (List.mem_append_right _ h)) (by decide +kernel))
set_option maxRecDepth 20000 in
theorem gL_enteredBlock_X8_enteredBlock : GoodIn wsL_enteredBlock (wsV RL 79 RX8 yX8_enteredBlock wsX8_enteredBlock) := goodIn_app (goodIn_of _ (by decide +kernel)) ggL_enteredBlock_X8_enteredBlock
theorem dL_enteredBlock_0 : decode cL_enteredBlock 0 = .ok (.aload_n 2, 1) := by decide +kernel
theorem dL_enteredBlock_1 : decode cL_enteredBlock 1 = .ok (.iconst 0, 1) := by decide +kernel
theorem dL_enteredBlock_2 : decode cL_enteredBlock 2 = .ok (.aload_n 0, 1) := by decide +kernel
theorem dL_enteredBlock_3 : decode cL_enteredBlock 3 = .ok (.iload_n 1, 1) := by decide +kernel
theorem dL_enteredBlock_4 : decode cL_enteredBlock 4 = .ok (.invokevirtual 79, 3) := by decide +kernel
theorem dL_enteredBlock_7 : decode cL_enteredBlock 7 = .ok (.i2l, 1) := by decide +kernel
theorem dL_enteredBlock_8 : decode cL_enteredBlock 8 = .ok (.lastore, 1) := by decide +kernel
theorem dL_enteredBlock_9 : decode cL_enteredBlock 9 = .ok (.goto 6, 3) := by decide +kernel
theorem dL_enteredBlock_12 : decode cL_enteredBlock 12 = .ok (.astore_n 3, 1) := by decide +kernel
theorem dL_enteredBlock_13 : decode cL_enteredBlock 13 = .ok (.iconst 1, 1) := by decide +kernel
theorem dL_enteredBlock_14 : decode cL_enteredBlock 14 = .ok (.ireturn, 1) := by decide +kernel
theorem dL_enteredBlock_15 : decode cL_enteredBlock 15 = .ok (.iconst 0, 1) := by decide +kernel
theorem dL_enteredBlock_16 : decode cL_enteredBlock 16 = .ok (.ireturn, 1) := by decide +kernel
set_option maxRecDepth 20000 in
theorem ggL_enteredWith_X8_enteredWith : GoodIn wsL_enteredWith wsX8_enteredWith := goodIn_ca (goodIn_r _ [6, 7, 8, 9, 10, 11, 5, 12, 13, 14, 15, 16, 17, 18, 19, 20, 21, 22, 23, 24, 25, 26, 27, 28, 29] (by decide +kernel) (by decide +kernel)) (goodIn_sub (fun _ h => List.mem_cons_of_mem _ (List.mem_append_right _ h)) (by decide +kernel))
set_option maxRecDepth 20000 in
theorem gL_enteredWith_X8_enteredWith : GoodIn wsL_enteredWith (wsV RL 82 RX8 yX8_enteredWith wsX8_enteredWith) := goodIn_app (goodIn_of _ (by decide +kernel)) ggL_enteredWith_X8_enteredWith
theorem dL_enteredWith_0 : decode cL_enteredWith 0 = .ok (.aload_n 3, 1) := by decide +kernel
theorem dL_enteredWith_1 : decode cL_enteredWith 1 = .ok (.iconst 0, 1) := by decide +kernel
theorem dL_enteredWith_2 : decode cL_enteredWith 2 = .ok (.aload_n 0, 1) := by decide +kernel
theorem dL_enteredWith_3 : decode cL_enteredWith 3 = .ok (.iload_n 1, 1) := by decide +kernel
theorem dL_enteredWith_4 : decode cL_enteredWith 4 = .ok (.iload_n 2, 1) := by decide +kernel
theorem dL_enteredWith_5 : decode cL_enteredWith 5 = .ok (.invokevirtual 82, 3) := by decide +kernel
theorem dL_enteredWith_8 : decode cL_enteredWith 8 = .ok (.i2l, 1) := by decide +kernel
theorem dL_enteredWith_9 : decode cL_enteredWith 9 = .ok (.lastore, 1) := by decide +kernel
theorem dL_enteredWith_10 : decode cL_enteredWith 10 = .ok (.goto 7, 3) := by decide +kernel
theorem dL_enteredWith_13 : decode cL_enteredWith 13 = .ok (.astore 4, 2) := by decide +kernel
theorem dL_enteredWith_15 : decode cL_enteredWith 15 = .ok (.iconst 1, 1) := by decide +kernel
theorem dL_enteredWith_16 : decode cL_enteredWith 16 = .ok (.ireturn, 1) := by decide +kernel
theorem dL_enteredWith_17 : decode cL_enteredWith 17 = .ok (.iconst 0, 1) := by decide +kernel
theorem dL_enteredWith_18 : decode cL_enteredWith 18 = .ok (.ireturn, 1) := by decide +kernel
set_option maxRecDepth 20000 in
theorem ggL_result_X8_result : GoodIn wsL_result wsX8_result := goodIn_ca (goodIn_r _ [6, 7, 8, 9, 10, 5, 11, 12, 13, 14, 15, 16, 17, 18, 19, 20, 21, 22, 23, 24] (by decide +kernel) (by decide +kernel)) (goodIn_sub (fun _ h => List.mem_cons_of_mem _ (List.mem_append_right _ h)) (by decide +kernel))
set_option maxRecDepth 20000 in
theorem gL_result_X8_result : GoodIn wsL_result (wsV RL 85 RX8 yX8_result wsX8_result) := goodIn_app (goodIn_of _ (by decide +kernel)) ggL_result_X8_result
theorem dL_result_0 : decode cL_result 0 = .ok (.aload_n 2, 1) := by decide +kernel
theorem dL_result_1 : decode cL_result 1 = .ok (.iconst 0, 1) := by decide +kernel
theorem dL_result_2 : decode cL_result 2 = .ok (.aload_n 0, 1) := by decide +kernel
theorem dL_result_3 : decode cL_result 3 = .ok (.iload_n 1, 1) := by decide +kernel
theorem dL_result_4 : decode cL_result 4 = .ok (.invokevirtual 85, 3) := by decide +kernel
theorem dL_result_7 : decode cL_result 7 = .ok (.i2l, 1) := by decide +kernel
theorem dL_result_8 : decode cL_result 8 = .ok (.lastore, 1) := by decide +kernel
theorem dL_result_9 : decode cL_result 9 = .ok (.goto 6, 3) := by decide +kernel
theorem dL_result_12 : decode cL_result 12 = .ok (.astore_n 3, 1) := by decide +kernel
theorem dL_result_13 : decode cL_result 13 = .ok (.iconst 1, 1) := by decide +kernel
theorem dL_result_14 : decode cL_result 14 = .ok (.ireturn, 1) := by decide +kernel
theorem dL_result_15 : decode cL_result 15 = .ok (.iconst 0, 1) := by decide +kernel
theorem dL_result_16 : decode cL_result 16 = .ok (.ireturn, 1) := by decide +kernel
set_option maxRecDepth 20000 in
