/-! the reference: rows that decode, as printed, 1 -/
theorem dX9_init_0 : decode cX9_init 0 = .ok (.aload_n 0, 1) := by decide +kernel
theorem dX9_init_1 : decode cX9_init 1 = .ok (.invokespecial 1, 3) := by decide +kernel
theorem dX9_init_4 : decode cX9_init 4 = .ok (.aload_n 0, 1) := by decide +kernel
theorem dX9_init_5 : decode cX9_init 5 = .ok (.iconst 1, 1) := by decide +kernel
theorem dX9_init_6 : decode cX9_init 6 = .ok (.putfield 7, 3) := by decide +kernel
theorem dX9_init_9 : decode cX9_init 9 = .ok (.aload_n 0, 1) := by decide +kernel
theorem dX9_init_10 : decode cX9_init 10 = .ok (.bipush 16, 2) := by decide +kernel
theorem dX9_init_12 : decode cX9_init 12 = .ok (.newarray .int, 2) := by decide +kernel
theorem dX9_init_14 : decode cX9_init 14 = .ok (.putfield 13, 3) := by decide +kernel
theorem dX9_init_17 : decode cX9_init 17 = .ok (.aload_n 0, 1) := by decide +kernel
theorem dX9_init_18 : decode cX9_init 18 = .ok (.sipush 512, 3) := by decide +kernel
theorem dX9_init_21 : decode cX9_init 21 = .ok (.newarray .int, 2) := by decide +kernel
theorem dX9_init_23 : decode cX9_init 23 = .ok (.putfield 17, 3) := by decide +kernel
theorem dX9_init_26 : decode cX9_init 26 = .ok (.aload_n 0, 1) := by decide +kernel
theorem dX9_init_27 : decode cX9_init 27 = .ok (.bipush 16, 2) := by decide +kernel
theorem dX9_init_29 : decode cX9_init 29 = .ok (.newarray .int, 2) := by decide +kernel
theorem dX9_init_31 : decode cX9_init 31 = .ok (.putfield 20, 3) := by decide +kernel
theorem dX9_init_34 : decode cX9_init 34 = .ok (.aload_n 0, 1) := by decide +kernel
theorem dX9_init_35 : decode cX9_init 35 = .ok (.bipush 16, 2) := by decide +kernel
theorem dX9_init_37 : decode cX9_init 37 = .ok (.newarray .int, 2) := by decide +kernel
theorem dX9_init_39 : decode cX9_init 39 = .ok (.putfield 23, 3) := by decide +kernel
theorem dX9_init_42 : decode cX9_init 42 = .ok (.aload_n 0, 1) := by decide +kernel
theorem dX9_init_43 : decode cX9_init 43 = .ok (.bipush 16, 2) := by decide +kernel
theorem dX9_init_45 : decode cX9_init 45 = .ok (.newarray .int, 2) := by decide +kernel
theorem dX9_init_47 : decode cX9_init 47 = .ok (.putfield 26, 3) := by decide +kernel
theorem dX9_init_50 : decode cX9_init 50 = .ok (.aload_n 0, 1) := by decide +kernel
theorem dX9_init_51 : decode cX9_init 51 = .ok (.bipush 16, 2) := by decide +kernel
theorem dX9_init_53 : decode cX9_init 53 = .ok (.newarray .int, 2) := by decide +kernel
theorem dX9_init_55 : decode cX9_init 55 = .ok (.putfield 29, 3) := by decide +kernel
theorem dX9_init_58 : decode cX9_init 58 = .ok (.aload_n 0, 1) := by decide +kernel
theorem dX9_init_59 : decode cX9_init 59 = .ok (.bipush 16, 2) := by decide +kernel
theorem dX9_init_61 : decode cX9_init 61 = .ok (.newarray .int, 2) := by decide +kernel
theorem dX9_init_63 : decode cX9_init 63 = .ok (.putfield 32, 3) := by decide +kernel
theorem dX9_init_66 : decode cX9_init 66 = .ok (.aload_n 0, 1) := by decide +kernel
theorem dX9_init_67 : decode cX9_init 67 = .ok (.bipush 16, 2) := by decide +kernel
theorem dX9_init_69 : decode cX9_init 69 = .ok (.newarray .int, 2) := by decide +kernel
theorem dX9_init_71 : decode cX9_init 71 = .ok (.putfield 35, 3) := by decide +kernel
theorem dX9_init_74 : decode cX9_init 74 = .ok (.aload_n 0, 1) := by decide +kernel
theorem dX9_init_75 : decode cX9_init 75 = .ok (.bipush 6, 2) := by decide +kernel
theorem dX9_init_77 : decode cX9_init 77 = .ok (.newarray .int, 2) := by decide +kernel
theorem dX9_init_79 : decode cX9_init 79 = .ok (.putfield 38, 3) := by decide +kernel
theorem dX9_init_82 : decode cX9_init 82 = .ok (.aload_n 0, 1) := by decide +kernel
theorem dX9_init_83 : decode cX9_init 83 = .ok (.bipush 6, 2) := by decide +kernel
theorem dX9_init_85 : decode cX9_init 85 = .ok (.newarray .int, 2) := by decide +kernel
theorem dX9_init_87 : decode cX9_init 87 = .ok (.putfield 41, 3) := by decide +kernel
theorem dX9_init_90 : decode cX9_init 90 = .ok (.aload_n 0, 1) := by decide +kernel
theorem dX9_init_91 : decode cX9_init 91 = .ok (.iconst 2, 1) := by decide +kernel
theorem dX9_init_92 : decode cX9_init 92 = .ok (.putfield 44, 3) := by decide +kernel
theorem dX9_init_95 : decode cX9_init 95 = .ok (.aload_n 0, 1) := by decide +kernel
theorem dX9_init_96 : decode cX9_init 96 = .ok (.iconst 1, 1) := by decide +kernel
theorem dX9_init_97 : decode cX9_init 97 = .ok (.putfield 47, 3) := by decide +kernel
theorem dX9_init_100 : decode cX9_init 100 = .ok (.aload_n 0, 1) := by decide +kernel
theorem dX9_init_101 : decode cX9_init 101 = .ok (.bipush 8, 2) := by decide +kernel
theorem dX9_init_103 : decode cX9_init 103 = .ok (.newarray .int, 2) := by decide +kernel
theorem dX9_init_105 : decode cX9_init 105 = .ok (.putfield 50, 3) := by decide +kernel
theorem dX9_init_108 : decode cX9_init 108 = .ok (.aload_n 0, 1) := by decide +kernel
theorem dX9_init_109 : decode cX9_init 109 = .ok (.bipush 16, 2) := by decide +kernel
theorem dX9_init_111 : decode cX9_init 111 = .ok (.newarray .boolean, 2) := by decide +kernel
theorem dX9_init_113 : decode cX9_init 113 = .ok (.putfield 53, 3) := by decide +kernel
theorem dX9_init_116 : decode cX9_init 116 = .ok (.aload_n 0, 1) := by decide +kernel
theorem dX9_init_117 : decode cX9_init 117 = .ok (.bipush 96, 2) := by decide +kernel
theorem dX9_init_119 : decode cX9_init 119 = .ok (.newarray .int, 2) := by decide +kernel
theorem dX9_init_121 : decode cX9_init 121 = .ok (.putfield 57, 3) := by decide +kernel
theorem dX9_init_124 : decode cX9_init 124 = .ok (.aload_n 0, 1) := by decide +kernel
theorem dX9_init_125 : decode cX9_init 125 = .ok (.bipush 96, 2) := by decide +kernel
theorem dX9_init_127 : decode cX9_init 127 = .ok (.newarray .int, 2) := by decide +kernel
theorem dX9_init_129 : decode cX9_init 129 = .ok (.putfield 60, 3) := by decide +kernel
theorem dX9_init_132 : decode cX9_init 132 = .ok (.aload_n 0, 1) := by decide +kernel
theorem dX9_init_133 : decode cX9_init 133 = .ok (.bipush 16, 2) := by decide +kernel
theorem dX9_init_135 : decode cX9_init 135 = .ok (.newarray .int, 2) := by decide +kernel
theorem dX9_init_137 : decode cX9_init 137 = .ok (.putfield 63, 3) := by decide +kernel
theorem dX9_init_140 : decode cX9_init 140 = .ok (.aload_n 0, 1) := by decide +kernel
theorem dX9_init_141 : decode cX9_init 141 = .ok (.bipush 6, 2) := by decide +kernel
theorem dX9_init_143 : decode cX9_init 143 = .ok (.newarray .int, 2) := by decide +kernel
theorem dX9_init_145 : decode cX9_init 145 = .ok (.putfield 66, 3) := by decide +kernel
theorem dX9_init_148 : decode cX9_init 148 = .ok (.aload_n 0, 1) := by decide +kernel
theorem dX9_init_149 : decode cX9_init 149 = .ok (.bipush 6, 2) := by decide +kernel
theorem dX9_init_151 : decode cX9_init 151 = .ok (.newarray .int, 2) := by decide +kernel
theorem dX9_init_153 : decode cX9_init 153 = .ok (.putfield 69, 3) := by decide +kernel
theorem dX9_init_156 : decode cX9_init 156 = .ok (.aload_n 0, 1) := by decide +kernel
theorem dX9_init_157 : decode cX9_init 157 = .ok (.bipush 6, 2) := by decide +kernel
theorem dX9_init_159 : decode cX9_init 159 = .ok (.newarray .int, 2) := by decide +kernel
theorem dX9_init_161 : decode cX9_init 161 = .ok (.putfield 72, 3) := by decide +kernel
theorem dX9_init_164 : decode cX9_init 164 = .ok (.aload_n 0, 1) := by decide +kernel
theorem dX9_init_165 : decode cX9_init 165 = .ok (.bipush 6, 2) := by decide +kernel
theorem dX9_init_167 : decode cX9_init 167 = .ok (.newarray .int, 2) := by decide +kernel
theorem dX9_init_169 : decode cX9_init 169 = .ok (.putfield 75, 3) := by decide +kernel
theorem dX9_init_172 : decode cX9_init 172 = .ok (.aload_n 0, 1) := by decide +kernel
theorem dX9_init_173 : decode cX9_init 173 = .ok (.sipush 300, 3) := by decide +kernel
theorem dX9_init_176 : decode cX9_init 176 = .ok (.newarray .int, 2) := by decide +kernel
theorem dX9_init_178 : decode cX9_init 178 = .ok (.putfield 78, 3) := by decide +kernel
theorem dX9_init_181 : decode cX9_init 181 = .ok (.aload_n 0, 1) := by decide +kernel
theorem dX9_init_182 : decode cX9_init 182 = .ok (.sipush 1800, 3) := by decide +kernel
theorem dX9_init_185 : decode cX9_init 185 = .ok (.newarray .int, 2) := by decide +kernel
theorem dX9_init_187 : decode cX9_init 187 = .ok (.putfield 81, 3) := by decide +kernel
theorem dX9_init_190 : decode cX9_init 190 = .ok (.aload_n 0, 1) := by decide +kernel
theorem dX9_init_191 : decode cX9_init 191 = .ok (.bipush 6, 2) := by decide +kernel
theorem dX9_init_193 : decode cX9_init 193 = .ok (.newarray .int, 2) := by decide +kernel
theorem dX9_init_195 : decode cX9_init 195 = .ok (.putfield 84, 3) := by decide +kernel
theorem dX9_init_198 : decode cX9_init 198 = .ok (.return_, 1) := by decide +kernel
theorem dX9_thrown_0 : decode cX9_thrown 0 = .ok (.aload_n 0, 1) := by decide +kernel
theorem dX9_thrown_1 : decode cX9_thrown 1 = .ok (.getfield 87, 3) := by decide +kernel
theorem dX9_thrown_4 : decode cX9_thrown 4 = .ok (.ireturn, 1) := by decide +kernel
theorem dX9_fail_0 : decode cX9_fail 0 = .ok (.aload_n 0, 1) := by decide +kernel
theorem dX9_fail_1 : decode cX9_fail 1 = .ok (.iload_n 1, 1) := by decide +kernel
theorem dX9_fail_2 : decode cX9_fail 2 = .ok (.putfield 87, 3) := by decide +kernel
theorem dX9_fail_5 : decode cX9_fail 5 = .ok (.iconst 0, 1) := by decide +kernel
theorem dX9_fail_6 : decode cX9_fail 6 = .ok (.ireturn, 1) := by decide +kernel
theorem dX9_isBlock_0 : decode cX9_isBlock 0 = .ok (.iload_n 1, 1) := by decide +kernel
theorem dX9_isBlock_1 : decode cX9_isBlock 1 = .ok (.ifCond .lt 15, 3) := by decide +kernel
theorem dX9_isBlock_4 : decode cX9_isBlock 4 = .ok (.iload_n 1, 1) := by decide +kernel
theorem dX9_isBlock_5 : decode cX9_isBlock 5 = .ok (.aload_n 0, 1) := by decide +kernel
theorem dX9_isBlock_6 : decode cX9_isBlock 6 = .ok (.getfield 7, 3) := by decide +kernel
theorem dX9_isBlock_9 : decode cX9_isBlock 9 = .ok (.if_icmp .ge 7, 3) := by decide +kernel
theorem dX9_isBlock_12 : decode cX9_isBlock 12 = .ok (.iconst 1, 1) := by decide +kernel
theorem dX9_isBlock_13 : decode cX9_isBlock 13 = .ok (.goto 4, 3) := by decide +kernel
theorem dX9_isBlock_16 : decode cX9_isBlock 16 = .ok (.iconst 0, 1) := by decide +kernel
theorem dX9_isBlock_17 : decode cX9_isBlock 17 = .ok (.ireturn, 1) := by decide +kernel
theorem dX9_isVariable_0 : decode cX9_isVariable 0 = .ok (.iload_n 0, 1) := by decide +kernel
theorem dX9_isVariable_1 : decode cX9_isVariable 1 = .ok (.ifCond .lt 13, 3) := by decide +kernel
theorem dX9_isVariable_4 : decode cX9_isVariable 4 = .ok (.iload_n 0, 1) := by decide +kernel
theorem dX9_isVariable_5 : decode cX9_isVariable 5 = .ok (.bipush 6, 2) := by decide +kernel
theorem dX9_isVariable_7 : decode cX9_isVariable 7 = .ok (.if_icmp .ge 7, 3) := by decide +kernel
theorem dX9_isVariable_10 : decode cX9_isVariable 10 = .ok (.iconst 1, 1) := by decide +kernel
theorem dX9_isVariable_11 : decode cX9_isVariable 11 = .ok (.goto 4, 3) := by decide +kernel
theorem dX9_isVariable_14 : decode cX9_isVariable 14 = .ok (.iconst 0, 1) := by decide +kernel
theorem dX9_isVariable_15 : decode cX9_isVariable 15 = .ok (.ireturn, 1) := by decide +kernel
theorem dX9_isRange_0 : decode cX9_isRange 0 = .ok (.iload_n 0, 1) := by decide +kernel
theorem dX9_isRange_1 : decode cX9_isRange 1 = .ok (.ldc 90, 2) := by decide +kernel
theorem dX9_isRange_3 : decode cX9_isRange 3 = .ok (.if_icmp .lt 18, 3) := by decide +kernel
theorem dX9_isRange_6 : decode cX9_isRange 6 = .ok (.iload_n 1, 1) := by decide +kernel
theorem dX9_isRange_7 : decode cX9_isRange 7 = .ok (.ldc 91, 2) := by decide +kernel
theorem dX9_isRange_9 : decode cX9_isRange 9 = .ok (.if_icmp .gt 12, 3) := by decide +kernel
theorem dX9_isRange_12 : decode cX9_isRange 12 = .ok (.iload_n 0, 1) := by decide +kernel
theorem dX9_isRange_13 : decode cX9_isRange 13 = .ok (.iload_n 1, 1) := by decide +kernel
theorem dX9_isRange_14 : decode cX9_isRange 14 = .ok (.if_icmp .gt 7, 3) := by decide +kernel
theorem dX9_isRange_17 : decode cX9_isRange 17 = .ok (.iconst 1, 1) := by decide +kernel
theorem dX9_isRange_18 : decode cX9_isRange 18 = .ok (.goto 4, 3) := by decide +kernel
theorem dX9_isRange_21 : decode cX9_isRange 21 = .ok (.iconst 0, 1) := by decide +kernel
theorem dX9_isRange_22 : decode cX9_isRange 22 = .ok (.ireturn, 1) := by decide +kernel
set_option maxRecDepth 20000 in
theorem ggX9_addBlock_X9_fail : GoodIn wsX9_addBlock wsX9_fail := goodIn_r _ [10, 1, 11, 12, 13, 14, 15, 16, 17, 18, 19, 20, 21, 22, 23, 24, 25, 26, 27, 28, 29, 30, 31, 32, 33, 34, 35, 36, 37, 38, 39, 40, 41] (by decide +kernel) (by decide +kernel)
set_option maxRecDepth 20000 in
theorem gX9_addBlock_X9_fail : GoodIn wsX9_addBlock (wsV RX9 92 RX9 yX9_fail wsX9_fail) := goodIn_app (goodIn_of _ (by decide +kernel)) ggX9_addBlock_X9_fail
theorem dX9_addBlock_0 : decode cX9_addBlock 0 = .ok (.aload_n 0, 1) := by decide +kernel
theorem dX9_addBlock_1 : decode cX9_addBlock 1 = .ok (.iconst 0, 1) := by decide +kernel
theorem dX9_addBlock_2 : decode cX9_addBlock 2 = .ok (.putfield 87, 3) := by decide +kernel
theorem dX9_addBlock_5 : decode cX9_addBlock 5 = .ok (.aload_n 0, 1) := by decide +kernel
theorem dX9_addBlock_6 : decode cX9_addBlock 6 = .ok (.getfield 7, 3) := by decide +kernel
theorem dX9_addBlock_9 : decode cX9_addBlock 9 = .ok (.bipush 16, 2) := by decide +kernel
theorem dX9_addBlock_11 : decode cX9_addBlock 11 = .ok (.if_icmp .ne 9, 3) := by decide +kernel
theorem dX9_addBlock_14 : decode cX9_addBlock 14 = .ok (.aload_n 0, 1) := by decide +kernel
theorem dX9_addBlock_15 : decode cX9_addBlock 15 = .ok (.iconst 1, 1) := by decide +kernel
theorem dX9_addBlock_16 : decode cX9_addBlock 16 = .ok (.invokevirtual 92, 3) := by decide +kernel
theorem dX9_addBlock_19 : decode cX9_addBlock 19 = .ok (.ireturn, 1) := by decide +kernel
theorem dX9_addBlock_20 : decode cX9_addBlock 20 = .ok (.aload_n 0, 1) := by decide +kernel
theorem dX9_addBlock_21 : decode cX9_addBlock 21 = .ok (.getfield 13, 3) := by decide +kernel
theorem dX9_addBlock_24 : decode cX9_addBlock 24 = .ok (.aload_n 0, 1) := by decide +kernel
theorem dX9_addBlock_25 : decode cX9_addBlock 25 = .ok (.getfield 7, 3) := by decide +kernel
theorem dX9_addBlock_28 : decode cX9_addBlock 28 = .ok (.iconst 0, 1) := by decide +kernel
theorem dX9_addBlock_29 : decode cX9_addBlock 29 = .ok (.iastore, 1) := by decide +kernel
theorem dX9_addBlock_30 : decode cX9_addBlock 30 = .ok (.aload_n 0, 1) := by decide +kernel
theorem dX9_addBlock_31 : decode cX9_addBlock 31 = .ok (.getfield 20, 3) := by decide +kernel
theorem dX9_addBlock_34 : decode cX9_addBlock 34 = .ok (.aload_n 0, 1) := by decide +kernel
theorem dX9_addBlock_35 : decode cX9_addBlock 35 = .ok (.getfield 7, 3) := by decide +kernel
theorem dX9_addBlock_38 : decode cX9_addBlock 38 = .ok (.iconst 0, 1) := by decide +kernel
theorem dX9_addBlock_39 : decode cX9_addBlock 39 = .ok (.iastore, 1) := by decide +kernel
theorem dX9_addBlock_40 : decode cX9_addBlock 40 = .ok (.aload_n 0, 1) := by decide +kernel
theorem dX9_addBlock_41 : decode cX9_addBlock 41 = .ok (.dup, 1) := by decide +kernel
theorem dX9_addBlock_42 : decode cX9_addBlock 42 = .ok (.getfield 7, 3) := by decide +kernel
theorem dX9_addBlock_45 : decode cX9_addBlock 45 = .ok (.iconst 1, 1) := by decide +kernel
theorem dX9_addBlock_46 : decode cX9_addBlock 46 = .ok (.iadd, 1) := by decide +kernel
theorem dX9_addBlock_47 : decode cX9_addBlock 47 = .ok (.putfield 7, 3) := by decide +kernel
theorem dX9_addBlock_50 : decode cX9_addBlock 50 = .ok (.aload_n 0, 1) := by decide +kernel
theorem dX9_addBlock_51 : decode cX9_addBlock 51 = .ok (.iconst 0, 1) := by decide +kernel
theorem dX9_addBlock_52 : decode cX9_addBlock 52 = .ok (.putfield 96, 3) := by decide +kernel
theorem dX9_addBlock_55 : decode cX9_addBlock 55 = .ok (.aload_n 0, 1) := by decide +kernel
theorem dX9_addBlock_56 : decode cX9_addBlock 56 = .ok (.getfield 7, 3) := by decide +kernel
theorem dX9_addBlock_59 : decode cX9_addBlock 59 = .ok (.iconst 1, 1) := by decide +kernel
theorem dX9_addBlock_60 : decode cX9_addBlock 60 = .ok (.isub, 1) := by decide +kernel
theorem dX9_addBlock_61 : decode cX9_addBlock 61 = .ok (.ireturn, 1) := by decide +kernel
set_option maxRecDepth 20000 in
theorem ggX9_setInitial_X9_isVariable : GoodIn wsX9_setInitial wsX9_isVariable := goodIn_r _ [8] (by decide +kernel) (by decide +kernel)
set_option maxRecDepth 20000 in
theorem gX9_setInitial_X9_isVariable : GoodIn wsX9_setInitial (va_wsS RX9 100 yX9_isVariable wsX9_isVariable) := goodIn_app (goodIn_of _ (by decide +kernel)) ggX9_setInitial_X9_isVariable
set_option maxRecDepth 20000 in
theorem ggX9_setInitial_X9_fail : GoodIn wsX9_setInitial wsX9_fail := goodIn_r _ [12, 1, 18, 19, 20, 21, 22, 23, 24, 25, 26, 27, 28, 29, 30, 31, 32, 33, 34, 35, 36, 37, 38, 39, 40, 41, 42, 43, 44, 45, 46, 47, 48] (by decide +kernel) (by decide +kernel)
set_option maxRecDepth 20000 in
theorem gX9_setInitial_X9_fail : GoodIn wsX9_setInitial (wsV RX9 92 RX9 yX9_fail wsX9_fail) := goodIn_app (goodIn_of _ (by decide +kernel)) ggX9_setInitial_X9_fail
set_option maxRecDepth 20000 in
theorem ggX9_setInitial_X9_isRange : GoodIn wsX9_setInitial wsX9_isRange := goodIn_r _ [15, 16, 17] (by decide +kernel) (by decide +kernel)
set_option maxRecDepth 20000 in
theorem gX9_setInitial_X9_isRange : GoodIn wsX9_setInitial (va_wsS RX9 104 yX9_isRange wsX9_isRange) := goodIn_app (goodIn_of _ (by decide +kernel)) ggX9_setInitial_X9_isRange
theorem dX9_setInitial_0 : decode cX9_setInitial 0 = .ok (.aload_n 0, 1) := by decide +kernel
theorem dX9_setInitial_1 : decode cX9_setInitial 1 = .ok (.iconst 0, 1) := by decide +kernel
theorem dX9_setInitial_2 : decode cX9_setInitial 2 = .ok (.putfield 87, 3) := by decide +kernel
theorem dX9_setInitial_5 : decode cX9_setInitial 5 = .ok (.iload_n 1, 1) := by decide +kernel
theorem dX9_setInitial_6 : decode cX9_setInitial 6 = .ok (.invokestatic 100, 3) := by decide +kernel
theorem dX9_setInitial_9 : decode cX9_setInitial 9 = .ok (.ifCond .ne 17, 3) := by decide +kernel
theorem dX9_setInitial_12 : decode cX9_setInitial 12 = .ok (.aload_n 0, 1) := by decide +kernel
theorem dX9_setInitial_13 : decode cX9_setInitial 13 = .ok (.iconst 1, 1) := by decide +kernel
theorem dX9_setInitial_14 : decode cX9_setInitial 14 = .ok (.invokevirtual 92, 3) := by decide +kernel
theorem dX9_setInitial_17 : decode cX9_setInitial 17 = .ok (.ifCond .eq 7, 3) := by decide +kernel
theorem dX9_setInitial_20 : decode cX9_setInitial 20 = .ok (.iconst 1, 1) := by decide +kernel
theorem dX9_setInitial_21 : decode cX9_setInitial 21 = .ok (.goto 4, 3) := by decide +kernel
theorem dX9_setInitial_24 : decode cX9_setInitial 24 = .ok (.iconst 0, 1) := by decide +kernel
theorem dX9_setInitial_25 : decode cX9_setInitial 25 = .ok (.ireturn, 1) := by decide +kernel
theorem dX9_setInitial_26 : decode cX9_setInitial 26 = .ok (.iload_n 2, 1) := by decide +kernel
theorem dX9_setInitial_27 : decode cX9_setInitial 27 = .ok (.iload_n 3, 1) := by decide +kernel
theorem dX9_setInitial_28 : decode cX9_setInitial 28 = .ok (.invokestatic 104, 3) := by decide +kernel
theorem dX9_setInitial_31 : decode cX9_setInitial 31 = .ok (.ifCond .ne 17, 3) := by decide +kernel
theorem dX9_setInitial_34 : decode cX9_setInitial 34 = .ok (.aload_n 0, 1) := by decide +kernel
theorem dX9_setInitial_35 : decode cX9_setInitial 35 = .ok (.iconst 2, 1) := by decide +kernel
theorem dX9_setInitial_36 : decode cX9_setInitial 36 = .ok (.invokevirtual 92, 3) := by decide +kernel
theorem dX9_setInitial_39 : decode cX9_setInitial 39 = .ok (.ifCond .eq 7, 3) := by decide +kernel
theorem dX9_setInitial_42 : decode cX9_setInitial 42 = .ok (.iconst 1, 1) := by decide +kernel
theorem dX9_setInitial_43 : decode cX9_setInitial 43 = .ok (.goto 4, 3) := by decide +kernel
theorem dX9_setInitial_46 : decode cX9_setInitial 46 = .ok (.iconst 0, 1) := by decide +kernel
theorem dX9_setInitial_47 : decode cX9_setInitial 47 = .ok (.ireturn, 1) := by decide +kernel
theorem dX9_setInitial_48 : decode cX9_setInitial 48 = .ok (.aload_n 0, 1) := by decide +kernel
theorem dX9_setInitial_49 : decode cX9_setInitial 49 = .ok (.getfield 38, 3) := by decide +kernel
theorem dX9_setInitial_52 : decode cX9_setInitial 52 = .ok (.iload_n 1, 1) := by decide +kernel
theorem dX9_setInitial_53 : decode cX9_setInitial 53 = .ok (.iaload, 1) := by decide +kernel
theorem dX9_setInitial_54 : decode cX9_setInitial 54 = .ok (.iload_n 2, 1) := by decide +kernel
theorem dX9_setInitial_55 : decode cX9_setInitial 55 = .ok (.if_icmp .ne 13, 3) := by decide +kernel
theorem dX9_setInitial_58 : decode cX9_setInitial 58 = .ok (.aload_n 0, 1) := by decide +kernel
theorem dX9_setInitial_59 : decode cX9_setInitial 59 = .ok (.getfield 41, 3) := by decide +kernel
theorem dX9_setInitial_62 : decode cX9_setInitial 62 = .ok (.iload_n 1, 1) := by decide +kernel
theorem dX9_setInitial_63 : decode cX9_setInitial 63 = .ok (.iaload, 1) := by decide +kernel
theorem dX9_setInitial_64 : decode cX9_setInitial 64 = .ok (.iload_n 3, 1) := by decide +kernel
theorem dX9_setInitial_65 : decode cX9_setInitial 65 = .ok (.if_icmp .eq 7, 3) := by decide +kernel
theorem dX9_setInitial_68 : decode cX9_setInitial 68 = .ok (.iconst 1, 1) := by decide +kernel
theorem dX9_setInitial_69 : decode cX9_setInitial 69 = .ok (.goto 4, 3) := by decide +kernel
theorem dX9_setInitial_72 : decode cX9_setInitial 72 = .ok (.iconst 0, 1) := by decide +kernel
theorem dX9_setInitial_73 : decode cX9_setInitial 73 = .ok (.istore 4, 2) := by decide +kernel
theorem dX9_setInitial_75 : decode cX9_setInitial 75 = .ok (.aload_n 0, 1) := by decide +kernel
theorem dX9_setInitial_76 : decode cX9_setInitial 76 = .ok (.getfield 38, 3) := by decide +kernel
theorem dX9_setInitial_79 : decode cX9_setInitial 79 = .ok (.iload_n 1, 1) := by decide +kernel
theorem dX9_setInitial_80 : decode cX9_setInitial 80 = .ok (.iload_n 2, 1) := by decide +kernel
theorem dX9_setInitial_81 : decode cX9_setInitial 81 = .ok (.iastore, 1) := by decide +kernel
theorem dX9_setInitial_82 : decode cX9_setInitial 82 = .ok (.aload_n 0, 1) := by decide +kernel
theorem dX9_setInitial_83 : decode cX9_setInitial 83 = .ok (.getfield 41, 3) := by decide +kernel
theorem dX9_setInitial_86 : decode cX9_setInitial 86 = .ok (.iload_n 1, 1) := by decide +kernel
theorem dX9_setInitial_87 : decode cX9_setInitial 87 = .ok (.iload_n 3, 1) := by decide +kernel
theorem dX9_setInitial_88 : decode cX9_setInitial 88 = .ok (.iastore, 1) := by decide +kernel
theorem dX9_setInitial_89 : decode cX9_setInitial 89 = .ok (.aload_n 0, 1) := by decide +kernel
theorem dX9_setInitial_90 : decode cX9_setInitial 90 = .ok (.iconst 0, 1) := by decide +kernel
theorem dX9_setInitial_91 : decode cX9_setInitial 91 = .ok (.putfield 96, 3) := by decide +kernel
theorem dX9_setInitial_94 : decode cX9_setInitial 94 = .ok (.iload 4, 2) := by decide +kernel
theorem dX9_setInitial_96 : decode cX9_setInitial 96 = .ok (.ireturn, 1) := by decide +kernel
theorem dX9_append_0 : decode cX9_append 0 = .ok (.iconst 4, 1) := by decide +kernel
theorem dX9_append_1 : decode cX9_append 1 = .ok (.bipush 8, 2) := by decide +kernel
theorem dX9_append_3 : decode cX9_append 3 = .ok (.iload_n 1, 1) := by decide +kernel
theorem dX9_append_4 : decode cX9_append 4 = .ok (.imul, 1) := by decide +kernel
theorem dX9_append_5 : decode cX9_append 5 = .ok (.aload_n 0, 1) := by decide +kernel
theorem dX9_append_6 : decode cX9_append 6 = .ok (.getfield 13, 3) := by decide +kernel
theorem dX9_append_9 : decode cX9_append 9 = .ok (.iload_n 1, 1) := by decide +kernel
theorem dX9_append_10 : decode cX9_append 10 = .ok (.iaload, 1) := by decide +kernel
theorem dX9_append_11 : decode cX9_append 11 = .ok (.iadd, 1) := by decide +kernel
theorem dX9_append_12 : decode cX9_append 12 = .ok (.imul, 1) := by decide +kernel
theorem dX9_append_13 : decode cX9_append 13 = .ok (.istore 6, 2) := by decide +kernel
theorem dX9_append_15 : decode cX9_append 15 = .ok (.aload_n 0, 1) := by decide +kernel
theorem dX9_append_16 : decode cX9_append 16 = .ok (.getfield 17, 3) := by decide +kernel
theorem dX9_append_19 : decode cX9_append 19 = .ok (.iload 6, 2) := by decide +kernel
theorem dX9_append_21 : decode cX9_append 21 = .ok (.iload_n 2, 1) := by decide +kernel
theorem dX9_append_22 : decode cX9_append 22 = .ok (.iastore, 1) := by decide +kernel
theorem dX9_append_23 : decode cX9_append 23 = .ok (.aload_n 0, 1) := by decide +kernel
theorem dX9_append_24 : decode cX9_append 24 = .ok (.getfield 17, 3) := by decide +kernel
theorem dX9_append_27 : decode cX9_append 27 = .ok (.iload 6, 2) := by decide +kernel
theorem dX9_append_29 : decode cX9_append 29 = .ok (.iconst 1, 1) := by decide +kernel
theorem dX9_append_30 : decode cX9_append 30 = .ok (.iadd, 1) := by decide +kernel
theorem dX9_append_31 : decode cX9_append 31 = .ok (.iload_n 3, 1) := by decide +kernel
theorem dX9_append_32 : decode cX9_append 32 = .ok (.iastore, 1) := by decide +kernel
theorem dX9_append_33 : decode cX9_append 33 = .ok (.aload_n 0, 1) := by decide +kernel
theorem dX9_append_34 : decode cX9_append 34 = .ok (.getfield 17, 3) := by decide +kernel
theorem dX9_append_37 : decode cX9_append 37 = .ok (.iload 6, 2) := by decide +kernel
theorem dX9_append_39 : decode cX9_append 39 = .ok (.iconst 2, 1) := by decide +kernel
theorem dX9_append_40 : decode cX9_append 40 = .ok (.iadd, 1) := by decide +kernel
theorem dX9_append_41 : decode cX9_append 41 = .ok (.iload 4, 2) := by decide +kernel
theorem dX9_append_43 : decode cX9_append 43 = .ok (.iastore, 1) := by decide +kernel
theorem dX9_append_44 : decode cX9_append 44 = .ok (.aload_n 0, 1) := by decide +kernel
theorem dX9_append_45 : decode cX9_append 45 = .ok (.getfield 17, 3) := by decide +kernel
theorem dX9_append_48 : decode cX9_append 48 = .ok (.iload 6, 2) := by decide +kernel
theorem dX9_append_50 : decode cX9_append 50 = .ok (.iconst 3, 1) := by decide +kernel
theorem dX9_append_51 : decode cX9_append 51 = .ok (.iadd, 1) := by decide +kernel
theorem dX9_append_52 : decode cX9_append 52 = .ok (.iload 5, 2) := by decide +kernel
theorem dX9_append_54 : decode cX9_append 54 = .ok (.iastore, 1) := by decide +kernel
theorem dX9_append_55 : decode cX9_append 55 = .ok (.aload_n 0, 1) := by decide +kernel
theorem dX9_append_56 : decode cX9_append 56 = .ok (.getfield 13, 3) := by decide +kernel
theorem dX9_append_59 : decode cX9_append 59 = .ok (.iload_n 1, 1) := by decide +kernel
theorem dX9_append_60 : decode cX9_append 60 = .ok (.dup2, 1) := by decide +kernel
theorem dX9_append_61 : decode cX9_append 61 = .ok (.iaload, 1) := by decide +kernel
theorem dX9_append_62 : decode cX9_append 62 = .ok (.iconst 1, 1) := by decide +kernel
theorem dX9_append_63 : decode cX9_append 63 = .ok (.iadd, 1) := by decide +kernel
theorem dX9_append_64 : decode cX9_append 64 = .ok (.iastore, 1) := by decide +kernel
theorem dX9_append_65 : decode cX9_append 65 = .ok (.aload_n 0, 1) := by decide +kernel
theorem dX9_append_66 : decode cX9_append 66 = .ok (.iconst 0, 1) := by decide +kernel
theorem dX9_append_67 : decode cX9_append 67 = .ok (.putfield 96, 3) := by decide +kernel
theorem dX9_append_70 : decode cX9_append 70 = .ok (.aload_n 0, 1) := by decide +kernel
theorem dX9_append_71 : decode cX9_append 71 = .ok (.getfield 13, 3) := by decide +kernel
theorem dX9_append_74 : decode cX9_append 74 = .ok (.iload_n 1, 1) := by decide +kernel
theorem dX9_append_75 : decode cX9_append 75 = .ok (.iaload, 1) := by decide +kernel
theorem dX9_append_76 : decode cX9_append 76 = .ok (.ireturn, 1) := by decide +kernel
set_option maxRecDepth 20000 in
theorem ggX9_input_X9_isBlock : GoodIn wsX9_input wsX9_isBlock := goodIn_r _ [7, 8, 27, 28, 29, 30, 31, 32, 33, 34, 35, 36, 37, 38, 39, 40, 41, 42, 43, 44, 45, 46, 47, 48, 49, 50, 51, 52, 53, 54, 55, 56, 57] (by decide +kernel) (by decide +kernel)
set_option maxRecDepth 20000 in
theorem gX9_input_X9_isBlock : GoodIn wsX9_input (wsV RX9 108 RX9 yX9_isBlock wsX9_isBlock) := goodIn_app (goodIn_of _ (by decide +kernel)) ggX9_input_X9_isBlock
set_option maxRecDepth 20000 in
theorem ggX9_input_X9_isVariable : GoodIn wsX9_input wsX9_isVariable := goodIn_r _ [11] (by decide +kernel) (by decide +kernel)
set_option maxRecDepth 20000 in
theorem gX9_input_X9_isVariable : GoodIn wsX9_input (va_wsS RX9 100 yX9_isVariable wsX9_isVariable) := goodIn_app (goodIn_of _ (by decide +kernel)) ggX9_input_X9_isVariable
set_option maxRecDepth 20000 in
theorem ggX9_input_X9_fail : GoodIn wsX9_input wsX9_fail := goodIn_r _ [15, 1, 27, 28, 29, 30, 31, 32, 33, 34, 35, 36, 37, 38, 39, 40, 41, 42, 43, 44, 45, 46, 47, 48, 49, 50, 51, 52, 53, 54, 55, 56, 57] (by decide +kernel) (by decide +kernel)
set_option maxRecDepth 20000 in
theorem gX9_input_X9_fail : GoodIn wsX9_input (wsV RX9 92 RX9 yX9_fail wsX9_fail) := goodIn_app (goodIn_of _ (by decide +kernel)) ggX9_input_X9_fail
set_option maxRecDepth 20000 in
theorem ggX9_input_X9_isRange : GoodIn wsX9_input wsX9_isRange := goodIn_r _ [18, 19, 20] (by decide +kernel) (by decide +kernel)
set_option maxRecDepth 20000 in
theorem gX9_input_X9_isRange : GoodIn wsX9_input (va_wsS RX9 104 yX9_isRange wsX9_isRange) := goodIn_app (goodIn_of _ (by decide +kernel)) ggX9_input_X9_isRange
set_option maxRecDepth 20000 in
theorem ggX9_input_X9_append : GoodIn wsX9_input wsX9_append := goodIn_r _ [24, 2, 25, 26, 27, 28, 29, 30, 31, 32, 33, 34, 35, 36, 37, 38, 39, 40, 41, 42, 43, 44, 45, 46, 47, 48, 49, 50, 51, 52, 53, 54, 55, 56, 57] (by decide +kernel) (by decide +kernel)
set_option maxRecDepth 20000 in
theorem gX9_input_X9_append : GoodIn wsX9_input (wsV RX9 111 RX9 yX9_append wsX9_append) := goodIn_app (goodIn_of _ (by decide +kernel)) ggX9_input_X9_append
theorem dX9_input_0 : decode cX9_input 0 = .ok (.aload_n 0, 1) := by decide +kernel
theorem dX9_input_1 : decode cX9_input 1 = .ok (.iconst 0, 1) := by decide +kernel
theorem dX9_input_2 : decode cX9_input 2 = .ok (.putfield 87, 3) := by decide +kernel
theorem dX9_input_5 : decode cX9_input 5 = .ok (.aload_n 0, 1) := by decide +kernel
theorem dX9_input_6 : decode cX9_input 6 = .ok (.iload_n 1, 1) := by decide +kernel
theorem dX9_input_7 : decode cX9_input 7 = .ok (.invokevirtual 108, 3) := by decide +kernel
theorem dX9_input_10 : decode cX9_input 10 = .ok (.ifCond .eq 10, 3) := by decide +kernel
theorem dX9_input_13 : decode cX9_input 13 = .ok (.iload_n 2, 1) := by decide +kernel
theorem dX9_input_14 : decode cX9_input 14 = .ok (.invokestatic 100, 3) := by decide +kernel
theorem dX9_input_17 : decode cX9_input 17 = .ok (.ifCond .ne 9, 3) := by decide +kernel
theorem dX9_input_20 : decode cX9_input 20 = .ok (.aload_n 0, 1) := by decide +kernel
theorem dX9_input_21 : decode cX9_input 21 = .ok (.iconst 1, 1) := by decide +kernel
theorem dX9_input_22 : decode cX9_input 22 = .ok (.invokevirtual 92, 3) := by decide +kernel
theorem dX9_input_25 : decode cX9_input 25 = .ok (.ireturn, 1) := by decide +kernel
theorem dX9_input_26 : decode cX9_input 26 = .ok (.iload_n 3, 1) := by decide +kernel
theorem dX9_input_27 : decode cX9_input 27 = .ok (.iload 4, 2) := by decide +kernel
theorem dX9_input_29 : decode cX9_input 29 = .ok (.invokestatic 104, 3) := by decide +kernel
theorem dX9_input_32 : decode cX9_input 32 = .ok (.ifCond .ne 9, 3) := by decide +kernel
theorem dX9_input_35 : decode cX9_input 35 = .ok (.aload_n 0, 1) := by decide +kernel
theorem dX9_input_36 : decode cX9_input 36 = .ok (.iconst 2, 1) := by decide +kernel
theorem dX9_input_37 : decode cX9_input 37 = .ok (.invokevirtual 92, 3) := by decide +kernel
theorem dX9_input_40 : decode cX9_input 40 = .ok (.ireturn, 1) := by decide +kernel
theorem dX9_input_41 : decode cX9_input 41 = .ok (.aload_n 0, 1) := by decide +kernel
theorem dX9_input_42 : decode cX9_input 42 = .ok (.getfield 13, 3) := by decide +kernel
theorem dX9_input_45 : decode cX9_input 45 = .ok (.iload_n 1, 1) := by decide +kernel
theorem dX9_input_46 : decode cX9_input 46 = .ok (.iaload, 1) := by decide +kernel
theorem dX9_input_47 : decode cX9_input 47 = .ok (.bipush 8, 2) := by decide +kernel
theorem dX9_input_49 : decode cX9_input 49 = .ok (.if_icmp .ne 11, 3) := by decide +kernel
theorem dX9_input_52 : decode cX9_input 52 = .ok (.aload_n 0, 1) := by decide +kernel
theorem dX9_input_53 : decode cX9_input 53 = .ok (.iconst 3, 1) := by decide +kernel
theorem dX9_input_54 : decode cX9_input 54 = .ok (.invokevirtual 92, 3) := by decide +kernel
theorem dX9_input_57 : decode cX9_input 57 = .ok (.goto 25, 3) := by decide +kernel
theorem dX9_input_60 : decode cX9_input 60 = .ok (.aload_n 0, 1) := by decide +kernel
theorem dX9_input_61 : decode cX9_input 61 = .ok (.iload_n 1, 1) := by decide +kernel
theorem dX9_input_62 : decode cX9_input 62 = .ok (.iload_n 3, 1) := by decide +kernel
theorem dX9_input_63 : decode cX9_input 63 = .ok (.iload 4, 2) := by decide +kernel
theorem dX9_input_65 : decode cX9_input 65 = .ok (.if_icmp .ne 8, 3) := by decide +kernel
theorem dX9_input_68 : decode cX9_input 68 = .ok (.bipush 6, 2) := by decide +kernel
theorem dX9_input_70 : decode cX9_input 70 = .ok (.goto 5, 3) := by decide +kernel
theorem dX9_input_73 : decode cX9_input 73 = .ok (.bipush 7, 2) := by decide +kernel
theorem dX9_input_75 : decode cX9_input 75 = .ok (.iload_n 2, 1) := by decide +kernel
theorem dX9_input_76 : decode cX9_input 76 = .ok (.iload_n 3, 1) := by decide +kernel
theorem dX9_input_77 : decode cX9_input 77 = .ok (.iload 4, 2) := by decide +kernel
theorem dX9_input_79 : decode cX9_input 79 = .ok (.invokevirtual 111, 3) := by decide +kernel
theorem dX9_input_82 : decode cX9_input 82 = .ok (.ireturn, 1) := by decide +kernel
set_option maxRecDepth 20000 in
theorem ggX9_compute_X9_isBlock : GoodIn wsX9_compute wsX9_isBlock := goodIn_r _ [7, 8, 22, 23, 24, 25, 26, 27, 28, 29, 30, 31, 32, 33, 34, 35, 36, 37, 38, 39, 40, 41, 42, 43, 44, 45, 46, 47, 48, 49, 50, 51, 52] (by decide +kernel) (by decide +kernel)
set_option maxRecDepth 20000 in
theorem gX9_compute_X9_isBlock : GoodIn wsX9_compute (wsV RX9 108 RX9 yX9_isBlock wsX9_isBlock) := goodIn_app (goodIn_of _ (by decide +kernel)) ggX9_compute_X9_isBlock
set_option maxRecDepth 20000 in
theorem ggX9_compute_X9_isVariable : GoodIn wsX9_compute wsX9_isVariable := goodIn_r _ [11] (by decide +kernel) (by decide +kernel)
set_option maxRecDepth 20000 in
theorem gX9_compute_X9_isVariable : GoodIn wsX9_compute (va_wsS RX9 100 yX9_isVariable wsX9_isVariable) := goodIn_app (goodIn_of _ (by decide +kernel)) ggX9_compute_X9_isVariable
set_option maxRecDepth 20000 in
theorem ggX9_compute_X9_fail : GoodIn wsX9_compute wsX9_fail := goodIn_r _ [15, 1, 22, 23, 24, 25, 26, 27, 28, 29, 30, 31, 32, 33, 34, 35, 36, 37, 38, 39, 40, 41, 42, 43, 44, 45, 46, 47, 48, 49, 50, 51, 52] (by decide +kernel) (by decide +kernel)
set_option maxRecDepth 20000 in
theorem gX9_compute_X9_fail : GoodIn wsX9_compute (wsV RX9 92 RX9 yX9_fail wsX9_fail) := goodIn_app (goodIn_of _ (by decide +kernel)) ggX9_compute_X9_fail
set_option maxRecDepth 20000 in
theorem ggX9_compute_X9_append : GoodIn wsX9_compute wsX9_append := goodIn_r _ [19, 2, 20, 21, 22, 23, 24, 25, 26, 27, 28, 29, 30, 31, 32, 33, 34, 35, 36, 37, 38, 39, 40, 41, 42, 43, 44, 45, 46, 47, 48, 49, 50, 51, 52] (by decide +kernel) (by decide +kernel)
set_option maxRecDepth 20000 in
theorem gX9_compute_X9_append : GoodIn wsX9_compute (wsV RX9 111 RX9 yX9_append wsX9_append) := goodIn_app (goodIn_of _ (by decide +kernel)) ggX9_compute_X9_append
theorem dX9_compute_0 : decode cX9_compute 0 = .ok (.aload_n 0, 1) := by decide +kernel
theorem dX9_compute_1 : decode cX9_compute 1 = .ok (.iconst 0, 1) := by decide +kernel
theorem dX9_compute_2 : decode cX9_compute 2 = .ok (.putfield 87, 3) := by decide +kernel
theorem dX9_compute_5 : decode cX9_compute 5 = .ok (.aload_n 0, 1) := by decide +kernel
theorem dX9_compute_6 : decode cX9_compute 6 = .ok (.iload_n 1, 1) := by decide +kernel
theorem dX9_compute_7 : decode cX9_compute 7 = .ok (.invokevirtual 108, 3) := by decide +kernel
theorem dX9_compute_10 : decode cX9_compute 10 = .ok (.ifCond .eq 26, 3) := by decide +kernel
theorem dX9_compute_13 : decode cX9_compute 13 = .ok (.iload_n 3, 1) := by decide +kernel
theorem dX9_compute_14 : decode cX9_compute 14 = .ok (.invokestatic 100, 3) := by decide +kernel
theorem dX9_compute_17 : decode cX9_compute 17 = .ok (.ifCond .eq 19, 3) := by decide +kernel
theorem dX9_compute_20 : decode cX9_compute 20 = .ok (.iload 4, 2) := by decide +kernel
theorem dX9_compute_22 : decode cX9_compute 22 = .ok (.invokestatic 100, 3) := by decide +kernel
theorem dX9_compute_25 : decode cX9_compute 25 = .ok (.ifCond .eq 11, 3) := by decide +kernel
theorem dX9_compute_28 : decode cX9_compute 28 = .ok (.iload 5, 2) := by decide +kernel
theorem dX9_compute_30 : decode cX9_compute 30 = .ok (.invokestatic 100, 3) := by decide +kernel
theorem dX9_compute_33 : decode cX9_compute 33 = .ok (.ifCond .ne 9, 3) := by decide +kernel
theorem dX9_compute_36 : decode cX9_compute 36 = .ok (.aload_n 0, 1) := by decide +kernel
theorem dX9_compute_37 : decode cX9_compute 37 = .ok (.iconst 1, 1) := by decide +kernel
theorem dX9_compute_38 : decode cX9_compute 38 = .ok (.invokevirtual 92, 3) := by decide +kernel
theorem dX9_compute_41 : decode cX9_compute 41 = .ok (.ireturn, 1) := by decide +kernel
theorem dX9_compute_42 : decode cX9_compute 42 = .ok (.iload_n 2, 1) := by decide +kernel
theorem dX9_compute_43 : decode cX9_compute 43 = .ok (.ifCond .lt 8, 3) := by decide +kernel
theorem dX9_compute_46 : decode cX9_compute 46 = .ok (.iload_n 2, 1) := by decide +kernel
theorem dX9_compute_47 : decode cX9_compute 47 = .ok (.iconst 5, 1) := by decide +kernel
theorem dX9_compute_48 : decode cX9_compute 48 = .ok (.if_icmp .le 9, 3) := by decide +kernel
theorem dX9_compute_51 : decode cX9_compute 51 = .ok (.aload_n 0, 1) := by decide +kernel
theorem dX9_compute_52 : decode cX9_compute 52 = .ok (.iconst 2, 1) := by decide +kernel
theorem dX9_compute_53 : decode cX9_compute 53 = .ok (.invokevirtual 92, 3) := by decide +kernel
theorem dX9_compute_56 : decode cX9_compute 56 = .ok (.ireturn, 1) := by decide +kernel
theorem dX9_compute_57 : decode cX9_compute 57 = .ok (.aload_n 0, 1) := by decide +kernel
theorem dX9_compute_58 : decode cX9_compute 58 = .ok (.getfield 13, 3) := by decide +kernel
theorem dX9_compute_61 : decode cX9_compute 61 = .ok (.iload_n 1, 1) := by decide +kernel
theorem dX9_compute_62 : decode cX9_compute 62 = .ok (.iaload, 1) := by decide +kernel
theorem dX9_compute_63 : decode cX9_compute 63 = .ok (.bipush 8, 2) := by decide +kernel
theorem dX9_compute_65 : decode cX9_compute 65 = .ok (.if_icmp .ne 11, 3) := by decide +kernel
theorem dX9_compute_68 : decode cX9_compute 68 = .ok (.aload_n 0, 1) := by decide +kernel
theorem dX9_compute_69 : decode cX9_compute 69 = .ok (.iconst 3, 1) := by decide +kernel
theorem dX9_compute_70 : decode cX9_compute 70 = .ok (.invokevirtual 92, 3) := by decide +kernel
theorem dX9_compute_73 : decode cX9_compute 73 = .ok (.goto 14, 3) := by decide +kernel
theorem dX9_compute_76 : decode cX9_compute 76 = .ok (.aload_n 0, 1) := by decide +kernel
theorem dX9_compute_77 : decode cX9_compute 77 = .ok (.iload_n 1, 1) := by decide +kernel
theorem dX9_compute_78 : decode cX9_compute 78 = .ok (.iload_n 2, 1) := by decide +kernel
theorem dX9_compute_79 : decode cX9_compute 79 = .ok (.iload_n 3, 1) := by decide +kernel
theorem dX9_compute_80 : decode cX9_compute 80 = .ok (.iload 4, 2) := by decide +kernel
theorem dX9_compute_82 : decode cX9_compute 82 = .ok (.iload 5, 2) := by decide +kernel
theorem dX9_compute_84 : decode cX9_compute 84 = .ok (.invokevirtual 111, 3) := by decide +kernel
theorem dX9_compute_87 : decode cX9_compute 87 = .ok (.ireturn, 1) := by decide +kernel
theorem dX9_end_0 : decode cX9_end 0 = .ok (.aload_n 0, 1) := by decide +kernel
theorem dX9_end_1 : decode cX9_end 1 = .ok (.getfield 20, 3) := by decide +kernel
theorem dX9_end_4 : decode cX9_end 4 = .ok (.iload_n 1, 1) := by decide +kernel
theorem dX9_end_5 : decode cX9_end 5 = .ok (.iaload, 1) := by decide +kernel
theorem dX9_end_6 : decode cX9_end 6 = .ok (.istore 5, 2) := by decide +kernel
theorem dX9_end_8 : decode cX9_end 8 = .ok (.aload_n 0, 1) := by decide +kernel
theorem dX9_end_9 : decode cX9_end 9 = .ok (.getfield 20, 3) := by decide +kernel
theorem dX9_end_12 : decode cX9_end 12 = .ok (.iload_n 1, 1) := by decide +kernel
theorem dX9_end_13 : decode cX9_end 13 = .ok (.iload_n 2, 1) := by decide +kernel
theorem dX9_end_14 : decode cX9_end 14 = .ok (.iastore, 1) := by decide +kernel
theorem dX9_end_15 : decode cX9_end 15 = .ok (.aload_n 0, 1) := by decide +kernel
theorem dX9_end_16 : decode cX9_end 16 = .ok (.getfield 23, 3) := by decide +kernel
theorem dX9_end_19 : decode cX9_end 19 = .ok (.iload_n 1, 1) := by decide +kernel
theorem dX9_end_20 : decode cX9_end 20 = .ok (.iload_n 3, 1) := by decide +kernel
theorem dX9_end_21 : decode cX9_end 21 = .ok (.iastore, 1) := by decide +kernel
theorem dX9_end_22 : decode cX9_end 22 = .ok (.aload_n 0, 1) := by decide +kernel
theorem dX9_end_23 : decode cX9_end 23 = .ok (.getfield 26, 3) := by decide +kernel
theorem dX9_end_26 : decode cX9_end 26 = .ok (.iload_n 1, 1) := by decide +kernel
theorem dX9_end_27 : decode cX9_end 27 = .ok (.iload 4, 2) := by decide +kernel
theorem dX9_end_29 : decode cX9_end 29 = .ok (.iastore, 1) := by decide +kernel
theorem dX9_end_30 : decode cX9_end 30 = .ok (.aload_n 0, 1) := by decide +kernel
theorem dX9_end_31 : decode cX9_end 31 = .ok (.iconst 0, 1) := by decide +kernel
theorem dX9_end_32 : decode cX9_end 32 = .ok (.putfield 96, 3) := by decide +kernel
theorem dX9_end_35 : decode cX9_end 35 = .ok (.iload 5, 2) := by decide +kernel
theorem dX9_end_37 : decode cX9_end 37 = .ok (.ireturn, 1) := by decide +kernel
set_option maxRecDepth 20000 in
theorem ggX9_jump_X9_isBlock : GoodIn wsX9_jump wsX9_isBlock := goodIn_r _ [6, 7, 20, 21, 22, 23, 24, 25, 26, 27, 28, 29, 30, 31, 32, 33, 34, 35, 36, 37, 38, 39, 40, 41, 42, 43, 44, 45, 46, 47, 48, 49, 50] (by decide +kernel) (by decide +kernel)
set_option maxRecDepth 20000 in
theorem gX9_jump_X9_isBlock : GoodIn wsX9_jump (wsV RX9 108 RX9 yX9_isBlock wsX9_isBlock) := goodIn_app (goodIn_of _ (by decide +kernel)) ggX9_jump_X9_isBlock
set_option maxRecDepth 20000 in
theorem ggX9_jump_X9_end : GoodIn wsX9_jump wsX9_end := goodIn_r _ [11, 12, 13, 14, 15, 20, 21, 22, 23, 24, 25, 26, 27, 28, 29, 30, 31, 32, 33, 34, 35, 36, 37, 38, 39, 40, 41, 42, 43, 44, 45, 46, 47, 48, 49, 50] (by decide +kernel) (by decide +kernel)
set_option maxRecDepth 20000 in
theorem gX9_jump_X9_end : GoodIn wsX9_jump (wsV RX9 115 RX9 yX9_end wsX9_end) := goodIn_app (goodIn_of _ (by decide +kernel)) ggX9_jump_X9_end
set_option maxRecDepth 20000 in
theorem ggX9_jump_X9_fail : GoodIn wsX9_jump wsX9_fail := goodIn_r _ [19, 1, 20, 21, 22, 23, 24, 25, 26, 27, 28, 29, 30, 31, 32, 33, 34, 35, 36, 37, 38, 39, 40, 41, 42, 43, 44, 45, 46, 47, 48, 49, 50] (by decide +kernel) (by decide +kernel)
set_option maxRecDepth 20000 in
theorem gX9_jump_X9_fail : GoodIn wsX9_jump (wsV RX9 92 RX9 yX9_fail wsX9_fail) := goodIn_app (goodIn_of _ (by decide +kernel)) ggX9_jump_X9_fail
theorem dX9_jump_0 : decode cX9_jump 0 = .ok (.aload_n 0, 1) := by decide +kernel
theorem dX9_jump_1 : decode cX9_jump 1 = .ok (.iconst 0, 1) := by decide +kernel
theorem dX9_jump_2 : decode cX9_jump 2 = .ok (.putfield 87, 3) := by decide +kernel
theorem dX9_jump_5 : decode cX9_jump 5 = .ok (.aload_n 0, 1) := by decide +kernel
theorem dX9_jump_6 : decode cX9_jump 6 = .ok (.iload_n 1, 1) := by decide +kernel
theorem dX9_jump_7 : decode cX9_jump 7 = .ok (.invokevirtual 108, 3) := by decide +kernel
theorem dX9_jump_10 : decode cX9_jump 10 = .ok (.ifCond .eq 22, 3) := by decide +kernel
theorem dX9_jump_13 : decode cX9_jump 13 = .ok (.aload_n 0, 1) := by decide +kernel
theorem dX9_jump_14 : decode cX9_jump 14 = .ok (.iload_n 2, 1) := by decide +kernel
theorem dX9_jump_15 : decode cX9_jump 15 = .ok (.invokevirtual 108, 3) := by decide +kernel
theorem dX9_jump_18 : decode cX9_jump 18 = .ok (.ifCond .eq 14, 3) := by decide +kernel
theorem dX9_jump_21 : decode cX9_jump 21 = .ok (.aload_n 0, 1) := by decide +kernel
theorem dX9_jump_22 : decode cX9_jump 22 = .ok (.iload_n 1, 1) := by decide +kernel
theorem dX9_jump_23 : decode cX9_jump 23 = .ok (.iconst 1, 1) := by decide +kernel
theorem dX9_jump_24 : decode cX9_jump 24 = .ok (.iload_n 2, 1) := by decide +kernel
theorem dX9_jump_25 : decode cX9_jump 25 = .ok (.iconst (-1), 1) := by decide +kernel
theorem dX9_jump_26 : decode cX9_jump 26 = .ok (.invokevirtual 115, 3) := by decide +kernel
theorem dX9_jump_29 : decode cX9_jump 29 = .ok (.goto 8, 3) := by decide +kernel
theorem dX9_jump_32 : decode cX9_jump 32 = .ok (.aload_n 0, 1) := by decide +kernel
theorem dX9_jump_33 : decode cX9_jump 33 = .ok (.iconst 1, 1) := by decide +kernel
theorem dX9_jump_34 : decode cX9_jump 34 = .ok (.invokevirtual 92, 3) := by decide +kernel
theorem dX9_jump_37 : decode cX9_jump 37 = .ok (.ireturn, 1) := by decide +kernel
set_option maxRecDepth 20000 in
theorem ggX9_branch_X9_isBlock : GoodIn wsX9_branch wsX9_isBlock := goodIn_r _ [9, 10, 26, 27, 28, 29, 30, 31, 32, 33, 34, 35, 36, 37, 38, 39, 40, 41, 42, 43, 44, 45, 46, 47, 48, 49, 50, 51, 52, 53, 54, 55, 56] (by decide +kernel) (by decide +kernel)
set_option maxRecDepth 20000 in
theorem gX9_branch_X9_isBlock : GoodIn wsX9_branch (wsV RX9 108 RX9 yX9_isBlock wsX9_isBlock) := goodIn_app (goodIn_of _ (by decide +kernel)) ggX9_branch_X9_isBlock
set_option maxRecDepth 20000 in
theorem ggX9_branch_X9_isVariable : GoodIn wsX9_branch wsX9_isVariable := goodIn_r _ [13] (by decide +kernel) (by decide +kernel)
set_option maxRecDepth 20000 in
theorem gX9_branch_X9_isVariable : GoodIn wsX9_branch (va_wsS RX9 100 yX9_isVariable wsX9_isVariable) := goodIn_app (goodIn_of _ (by decide +kernel)) ggX9_branch_X9_isVariable
set_option maxRecDepth 20000 in
theorem ggX9_branch_X9_fail : GoodIn wsX9_branch wsX9_fail := goodIn_r _ [17, 1, 26, 27, 28, 29, 30, 31, 32, 33, 34, 35, 36, 37, 38, 39, 40, 41, 42, 43, 44, 45, 46, 47, 48, 49, 50, 51, 52, 53, 54, 55, 56] (by decide +kernel) (by decide +kernel)
set_option maxRecDepth 20000 in
theorem gX9_branch_X9_fail : GoodIn wsX9_branch (wsV RX9 92 RX9 yX9_fail wsX9_fail) := goodIn_app (goodIn_of _ (by decide +kernel)) ggX9_branch_X9_fail
set_option maxRecDepth 20000 in
theorem ggX9_branch_X9_end : GoodIn wsX9_branch wsX9_end := goodIn_r _ [21, 22, 23, 24, 25, 26, 27, 28, 29, 30, 31, 32, 33, 34, 35, 36, 37, 38, 39, 40, 41, 42, 43, 44, 45, 46, 47, 48, 49, 50, 51, 52, 53, 54, 55, 56] (by decide +kernel) (by decide +kernel)
set_option maxRecDepth 20000 in
theorem gX9_branch_X9_end : GoodIn wsX9_branch (wsV RX9 115 RX9 yX9_end wsX9_end) := goodIn_app (goodIn_of _ (by decide +kernel)) ggX9_branch_X9_end
theorem dX9_branch_0 : decode cX9_branch 0 = .ok (.aload_n 0, 1) := by decide +kernel
theorem dX9_branch_1 : decode cX9_branch 1 = .ok (.iconst 0, 1) := by decide +kernel
theorem dX9_branch_2 : decode cX9_branch 2 = .ok (.putfield 87, 3) := by decide +kernel
theorem dX9_branch_5 : decode cX9_branch 5 = .ok (.aload_n 0, 1) := by decide +kernel
theorem dX9_branch_6 : decode cX9_branch 6 = .ok (.iload_n 1, 1) := by decide +kernel
theorem dX9_branch_7 : decode cX9_branch 7 = .ok (.invokevirtual 108, 3) := by decide +kernel
theorem dX9_branch_10 : decode cX9_branch 10 = .ok (.ifCond .eq 36, 3) := by decide +kernel
theorem dX9_branch_13 : decode cX9_branch 13 = .ok (.iload_n 2, 1) := by decide +kernel
theorem dX9_branch_14 : decode cX9_branch 14 = .ok (.invokestatic 100, 3) := by decide +kernel
theorem dX9_branch_17 : decode cX9_branch 17 = .ok (.ifCond .eq 29, 3) := by decide +kernel
theorem dX9_branch_20 : decode cX9_branch 20 = .ok (.iload 4, 2) := by decide +kernel
theorem dX9_branch_22 : decode cX9_branch 22 = .ok (.invokestatic 100, 3) := by decide +kernel
theorem dX9_branch_25 : decode cX9_branch 25 = .ok (.ifCond .eq 21, 3) := by decide +kernel
theorem dX9_branch_28 : decode cX9_branch 28 = .ok (.aload_n 0, 1) := by decide +kernel
theorem dX9_branch_29 : decode cX9_branch 29 = .ok (.iload 5, 2) := by decide +kernel
theorem dX9_branch_31 : decode cX9_branch 31 = .ok (.invokevirtual 108, 3) := by decide +kernel
theorem dX9_branch_34 : decode cX9_branch 34 = .ok (.ifCond .eq 12, 3) := by decide +kernel
theorem dX9_branch_37 : decode cX9_branch 37 = .ok (.aload_n 0, 1) := by decide +kernel
theorem dX9_branch_38 : decode cX9_branch 38 = .ok (.iload 6, 2) := by decide +kernel
theorem dX9_branch_40 : decode cX9_branch 40 = .ok (.invokevirtual 108, 3) := by decide +kernel
theorem dX9_branch_43 : decode cX9_branch 43 = .ok (.ifCond .ne 9, 3) := by decide +kernel
theorem dX9_branch_46 : decode cX9_branch 46 = .ok (.aload_n 0, 1) := by decide +kernel
theorem dX9_branch_47 : decode cX9_branch 47 = .ok (.iconst 1, 1) := by decide +kernel
theorem dX9_branch_48 : decode cX9_branch 48 = .ok (.invokevirtual 92, 3) := by decide +kernel
theorem dX9_branch_51 : decode cX9_branch 51 = .ok (.ireturn, 1) := by decide +kernel
theorem dX9_branch_52 : decode cX9_branch 52 = .ok (.iload_n 3, 1) := by decide +kernel
theorem dX9_branch_53 : decode cX9_branch 53 = .ok (.ifCond .lt 8, 3) := by decide +kernel
theorem dX9_branch_56 : decode cX9_branch 56 = .ok (.iload_n 3, 1) := by decide +kernel
theorem dX9_branch_57 : decode cX9_branch 57 = .ok (.iconst 3, 1) := by decide +kernel
theorem dX9_branch_58 : decode cX9_branch 58 = .ok (.if_icmp .le 9, 3) := by decide +kernel
theorem dX9_branch_61 : decode cX9_branch 61 = .ok (.aload_n 0, 1) := by decide +kernel
theorem dX9_branch_62 : decode cX9_branch 62 = .ok (.iconst 2, 1) := by decide +kernel
theorem dX9_branch_63 : decode cX9_branch 63 = .ok (.invokevirtual 92, 3) := by decide +kernel
theorem dX9_branch_66 : decode cX9_branch 66 = .ok (.ireturn, 1) := by decide +kernel
theorem dX9_branch_67 : decode cX9_branch 67 = .ok (.aload_n 0, 1) := by decide +kernel
theorem dX9_branch_68 : decode cX9_branch 68 = .ok (.getfield 29, 3) := by decide +kernel
theorem dX9_branch_71 : decode cX9_branch 71 = .ok (.iload_n 1, 1) := by decide +kernel
theorem dX9_branch_72 : decode cX9_branch 72 = .ok (.iload_n 2, 1) := by decide +kernel
theorem dX9_branch_73 : decode cX9_branch 73 = .ok (.iastore, 1) := by decide +kernel
theorem dX9_branch_74 : decode cX9_branch 74 = .ok (.aload_n 0, 1) := by decide +kernel
theorem dX9_branch_75 : decode cX9_branch 75 = .ok (.getfield 32, 3) := by decide +kernel
theorem dX9_branch_78 : decode cX9_branch 78 = .ok (.iload_n 1, 1) := by decide +kernel
theorem dX9_branch_79 : decode cX9_branch 79 = .ok (.iload 4, 2) := by decide +kernel
theorem dX9_branch_81 : decode cX9_branch 81 = .ok (.iastore, 1) := by decide +kernel
theorem dX9_branch_82 : decode cX9_branch 82 = .ok (.aload_n 0, 1) := by decide +kernel
theorem dX9_branch_83 : decode cX9_branch 83 = .ok (.getfield 35, 3) := by decide +kernel
theorem dX9_branch_86 : decode cX9_branch 86 = .ok (.iload_n 1, 1) := by decide +kernel
theorem dX9_branch_87 : decode cX9_branch 87 = .ok (.iload_n 3, 1) := by decide +kernel
theorem dX9_branch_88 : decode cX9_branch 88 = .ok (.iastore, 1) := by decide +kernel
theorem dX9_branch_89 : decode cX9_branch 89 = .ok (.aload_n 0, 1) := by decide +kernel
theorem dX9_branch_90 : decode cX9_branch 90 = .ok (.iload_n 1, 1) := by decide +kernel
theorem dX9_branch_91 : decode cX9_branch 91 = .ok (.iconst 2, 1) := by decide +kernel
theorem dX9_branch_92 : decode cX9_branch 92 = .ok (.iload 5, 2) := by decide +kernel
theorem dX9_branch_94 : decode cX9_branch 94 = .ok (.iload 6, 2) := by decide +kernel
theorem dX9_branch_96 : decode cX9_branch 96 = .ok (.invokevirtual 115, 3) := by decide +kernel
theorem dX9_branch_99 : decode cX9_branch 99 = .ok (.ireturn, 1) := by decide +kernel
set_option maxRecDepth 20000 in
theorem ggX9_clear_X9_isBlock : GoodIn wsX9_clear wsX9_isBlock := goodIn_r _ [7, 8, 21, 22, 23, 24, 25, 26, 27, 28, 29, 30, 31, 32, 33, 34, 35, 36, 37, 38, 39, 40, 41, 42, 43, 44, 45, 46, 47, 48, 49, 50, 51] (by decide +kernel) (by decide +kernel)
set_option maxRecDepth 20000 in
theorem gX9_clear_X9_isBlock : GoodIn wsX9_clear (wsV RX9 108 RX9 yX9_isBlock wsX9_isBlock) := goodIn_app (goodIn_of _ (by decide +kernel)) ggX9_clear_X9_isBlock
set_option maxRecDepth 20000 in
theorem ggX9_clear_X9_fail : GoodIn wsX9_clear wsX9_fail := goodIn_r _ [12, 1, 21, 22, 23, 24, 25, 26, 27, 28, 29, 30, 31, 32, 33, 34, 35, 36, 37, 38, 39, 40, 41, 42, 43, 44, 45, 46, 47, 48, 49, 50, 51] (by decide +kernel) (by decide +kernel)
set_option maxRecDepth 20000 in
theorem gX9_clear_X9_fail : GoodIn wsX9_clear (wsV RX9 92 RX9 yX9_fail wsX9_fail) := goodIn_app (goodIn_of _ (by decide +kernel)) ggX9_clear_X9_fail
set_option maxRecDepth 20000 in
theorem ggX9_clear_X9_end : GoodIn wsX9_clear wsX9_end := goodIn_r _ [16, 17, 18, 19, 20, 21, 22, 23, 24, 25, 26, 27, 28, 29, 30, 31, 32, 33, 34, 35, 36, 37, 38, 39, 40, 41, 42, 43, 44, 45, 46, 47, 48, 49, 50, 51] (by decide +kernel) (by decide +kernel)
set_option maxRecDepth 20000 in
theorem gX9_clear_X9_end : GoodIn wsX9_clear (wsV RX9 115 RX9 yX9_end wsX9_end) := goodIn_app (goodIn_of _ (by decide +kernel)) ggX9_clear_X9_end
theorem dX9_clear_0 : decode cX9_clear 0 = .ok (.aload_n 0, 1) := by decide +kernel
theorem dX9_clear_1 : decode cX9_clear 1 = .ok (.iconst 0, 1) := by decide +kernel
theorem dX9_clear_2 : decode cX9_clear 2 = .ok (.putfield 87, 3) := by decide +kernel
theorem dX9_clear_5 : decode cX9_clear 5 = .ok (.aload_n 0, 1) := by decide +kernel
theorem dX9_clear_6 : decode cX9_clear 6 = .ok (.iload_n 1, 1) := by decide +kernel
theorem dX9_clear_7 : decode cX9_clear 7 = .ok (.invokevirtual 108, 3) := by decide +kernel
theorem dX9_clear_10 : decode cX9_clear 10 = .ok (.ifCond .ne 9, 3) := by decide +kernel
theorem dX9_clear_13 : decode cX9_clear 13 = .ok (.aload_n 0, 1) := by decide +kernel
theorem dX9_clear_14 : decode cX9_clear 14 = .ok (.iconst 1, 1) := by decide +kernel
theorem dX9_clear_15 : decode cX9_clear 15 = .ok (.invokevirtual 92, 3) := by decide +kernel
theorem dX9_clear_18 : decode cX9_clear 18 = .ok (.ireturn, 1) := by decide +kernel
theorem dX9_clear_19 : decode cX9_clear 19 = .ok (.aload_n 0, 1) := by decide +kernel
theorem dX9_clear_20 : decode cX9_clear 20 = .ok (.getfield 13, 3) := by decide +kernel
theorem dX9_clear_23 : decode cX9_clear 23 = .ok (.iload_n 1, 1) := by decide +kernel
theorem dX9_clear_24 : decode cX9_clear 24 = .ok (.iaload, 1) := by decide +kernel
theorem dX9_clear_25 : decode cX9_clear 25 = .ok (.istore_n 2, 1) := by decide +kernel
theorem dX9_clear_26 : decode cX9_clear 26 = .ok (.aload_n 0, 1) := by decide +kernel
theorem dX9_clear_27 : decode cX9_clear 27 = .ok (.getfield 13, 3) := by decide +kernel
theorem dX9_clear_30 : decode cX9_clear 30 = .ok (.iload_n 1, 1) := by decide +kernel
theorem dX9_clear_31 : decode cX9_clear 31 = .ok (.iconst 0, 1) := by decide +kernel
theorem dX9_clear_32 : decode cX9_clear 32 = .ok (.iastore, 1) := by decide +kernel
theorem dX9_clear_33 : decode cX9_clear 33 = .ok (.aload_n 0, 1) := by decide +kernel
theorem dX9_clear_34 : decode cX9_clear 34 = .ok (.iload_n 1, 1) := by decide +kernel
theorem dX9_clear_35 : decode cX9_clear 35 = .ok (.iconst 0, 1) := by decide +kernel
theorem dX9_clear_36 : decode cX9_clear 36 = .ok (.iconst (-1), 1) := by decide +kernel
theorem dX9_clear_37 : decode cX9_clear 37 = .ok (.iconst (-1), 1) := by decide +kernel
theorem dX9_clear_38 : decode cX9_clear 38 = .ok (.invokevirtual 115, 3) := by decide +kernel
theorem dX9_clear_41 : decode cX9_clear 41 = .ok (.pop, 1) := by decide +kernel
theorem dX9_clear_42 : decode cX9_clear 42 = .ok (.iload_n 2, 1) := by decide +kernel
theorem dX9_clear_43 : decode cX9_clear 43 = .ok (.ireturn, 1) := by decide +kernel
theorem dX9_blockCount_0 : decode cX9_blockCount 0 = .ok (.aload_n 0, 1) := by decide +kernel
theorem dX9_blockCount_1 : decode cX9_blockCount 1 = .ok (.iconst 0, 1) := by decide +kernel
theorem dX9_blockCount_2 : decode cX9_blockCount 2 = .ok (.putfield 87, 3) := by decide +kernel
theorem dX9_blockCount_5 : decode cX9_blockCount 5 = .ok (.aload_n 0, 1) := by decide +kernel
theorem dX9_blockCount_6 : decode cX9_blockCount 6 = .ok (.getfield 7, 3) := by decide +kernel
theorem dX9_blockCount_9 : decode cX9_blockCount 9 = .ok (.ireturn, 1) := by decide +kernel
set_option maxRecDepth 20000 in
theorem ggX9_setEffort_X9_fail : GoodIn wsX9_setEffort wsX9_fail := goodIn_r _ [9, 1, 10, 11, 12, 13, 14, 15, 16, 17, 18, 19, 20, 21, 22, 23, 24, 25, 26, 27, 28, 29, 30, 31, 32, 33, 34, 35, 36, 37, 38, 39, 40] (by decide +kernel) (by decide +kernel)
set_option maxRecDepth 20000 in
theorem gX9_setEffort_X9_fail : GoodIn wsX9_setEffort (wsV RX9 92 RX9 yX9_fail wsX9_fail) := goodIn_app (goodIn_of _ (by decide +kernel)) ggX9_setEffort_X9_fail
theorem dX9_setEffort_0 : decode cX9_setEffort 0 = .ok (.aload_n 0, 1) := by decide +kernel
theorem dX9_setEffort_1 : decode cX9_setEffort 1 = .ok (.iconst 0, 1) := by decide +kernel
theorem dX9_setEffort_2 : decode cX9_setEffort 2 = .ok (.putfield 87, 3) := by decide +kernel
theorem dX9_setEffort_5 : decode cX9_setEffort 5 = .ok (.iload_n 1, 1) := by decide +kernel
theorem dX9_setEffort_6 : decode cX9_setEffort 6 = .ok (.ifCond .lt 18, 3) := by decide +kernel
theorem dX9_setEffort_9 : decode cX9_setEffort 9 = .ok (.iload_n 1, 1) := by decide +kernel
theorem dX9_setEffort_10 : decode cX9_setEffort 10 = .ok (.bipush 10, 2) := by decide +kernel
theorem dX9_setEffort_12 : decode cX9_setEffort 12 = .ok (.if_icmp .gt 12, 3) := by decide +kernel
theorem dX9_setEffort_15 : decode cX9_setEffort 15 = .ok (.iload_n 2, 1) := by decide +kernel
theorem dX9_setEffort_16 : decode cX9_setEffort 16 = .ok (.ifCond .lt 8, 3) := by decide +kernel
theorem dX9_setEffort_19 : decode cX9_setEffort 19 = .ok (.iload_n 2, 1) := by decide +kernel
theorem dX9_setEffort_20 : decode cX9_setEffort 20 = .ok (.iconst 5, 1) := by decide +kernel
theorem dX9_setEffort_21 : decode cX9_setEffort 21 = .ok (.if_icmp .le 17, 3) := by decide +kernel
theorem dX9_setEffort_24 : decode cX9_setEffort 24 = .ok (.aload_n 0, 1) := by decide +kernel
theorem dX9_setEffort_25 : decode cX9_setEffort 25 = .ok (.iconst 1, 1) := by decide +kernel
theorem dX9_setEffort_26 : decode cX9_setEffort 26 = .ok (.invokevirtual 92, 3) := by decide +kernel
theorem dX9_setEffort_29 : decode cX9_setEffort 29 = .ok (.ifCond .eq 7, 3) := by decide +kernel
theorem dX9_setEffort_32 : decode cX9_setEffort 32 = .ok (.iconst 1, 1) := by decide +kernel
theorem dX9_setEffort_33 : decode cX9_setEffort 33 = .ok (.goto 4, 3) := by decide +kernel
theorem dX9_setEffort_36 : decode cX9_setEffort 36 = .ok (.iconst 0, 1) := by decide +kernel
theorem dX9_setEffort_37 : decode cX9_setEffort 37 = .ok (.ireturn, 1) := by decide +kernel
theorem dX9_setEffort_38 : decode cX9_setEffort 38 = .ok (.aload_n 0, 1) := by decide +kernel
theorem dX9_setEffort_39 : decode cX9_setEffort 39 = .ok (.getfield 44, 3) := by decide +kernel
theorem dX9_setEffort_42 : decode cX9_setEffort 42 = .ok (.iload_n 1, 1) := by decide +kernel
theorem dX9_setEffort_43 : decode cX9_setEffort 43 = .ok (.if_icmp .ne 11, 3) := by decide +kernel
theorem dX9_setEffort_46 : decode cX9_setEffort 46 = .ok (.aload_n 0, 1) := by decide +kernel
theorem dX9_setEffort_47 : decode cX9_setEffort 47 = .ok (.getfield 47, 3) := by decide +kernel
theorem dX9_setEffort_50 : decode cX9_setEffort 50 = .ok (.iload_n 2, 1) := by decide +kernel
theorem dX9_setEffort_51 : decode cX9_setEffort 51 = .ok (.if_icmp .eq 7, 3) := by decide +kernel
theorem dX9_setEffort_54 : decode cX9_setEffort 54 = .ok (.iconst 1, 1) := by decide +kernel
theorem dX9_setEffort_55 : decode cX9_setEffort 55 = .ok (.goto 4, 3) := by decide +kernel
theorem dX9_setEffort_58 : decode cX9_setEffort 58 = .ok (.iconst 0, 1) := by decide +kernel
theorem dX9_setEffort_59 : decode cX9_setEffort 59 = .ok (.istore_n 3, 1) := by decide +kernel
theorem dX9_setEffort_60 : decode cX9_setEffort 60 = .ok (.aload_n 0, 1) := by decide +kernel
theorem dX9_setEffort_61 : decode cX9_setEffort 61 = .ok (.iload_n 1, 1) := by decide +kernel
theorem dX9_setEffort_62 : decode cX9_setEffort 62 = .ok (.putfield 44, 3) := by decide +kernel
theorem dX9_setEffort_65 : decode cX9_setEffort 65 = .ok (.aload_n 0, 1) := by decide +kernel
theorem dX9_setEffort_66 : decode cX9_setEffort 66 = .ok (.iload_n 2, 1) := by decide +kernel
theorem dX9_setEffort_67 : decode cX9_setEffort 67 = .ok (.putfield 47, 3) := by decide +kernel
theorem dX9_setEffort_70 : decode cX9_setEffort 70 = .ok (.aload_n 0, 1) := by decide +kernel
theorem dX9_setEffort_71 : decode cX9_setEffort 71 = .ok (.iconst 0, 1) := by decide +kernel
theorem dX9_setEffort_72 : decode cX9_setEffort 72 = .ok (.putfield 96, 3) := by decide +kernel
theorem dX9_setEffort_75 : decode cX9_setEffort 75 = .ok (.iload_n 3, 1) := by decide +kernel
theorem dX9_setEffort_76 : decode cX9_setEffort 76 = .ok (.ireturn, 1) := by decide +kernel
set_option maxRecDepth 20000 in
theorem ggX9_addThreshold_X9_fail : GoodIn wsX9_addThreshold wsX9_fail := goodIn_r _ [11, 1, 12, 13, 14, 15, 16, 17, 18, 19, 20, 21, 22, 23, 24, 25, 26, 27, 28, 29, 30, 31, 32, 33, 34, 35, 36, 37, 38, 39, 40, 41, 42] (by decide +kernel) (by decide +kernel)
set_option maxRecDepth 20000 in
theorem gX9_addThreshold_X9_fail : GoodIn wsX9_addThreshold (wsV RX9 92 RX9 yX9_fail wsX9_fail) := goodIn_app (goodIn_of _ (by decide +kernel)) ggX9_addThreshold_X9_fail
theorem dX9_addThreshold_0 : decode cX9_addThreshold 0 = .ok (.aload_n 0, 1) := by decide +kernel
theorem dX9_addThreshold_1 : decode cX9_addThreshold 1 = .ok (.iconst 0, 1) := by decide +kernel
theorem dX9_addThreshold_2 : decode cX9_addThreshold 2 = .ok (.putfield 87, 3) := by decide +kernel
theorem dX9_addThreshold_5 : decode cX9_addThreshold 5 = .ok (.iload_n 1, 1) := by decide +kernel
theorem dX9_addThreshold_6 : decode cX9_addThreshold 6 = .ok (.ldc 90, 2) := by decide +kernel
theorem dX9_addThreshold_8 : decode cX9_addThreshold 8 = .ok (.if_icmp .le 9, 3) := by decide +kernel
theorem dX9_addThreshold_11 : decode cX9_addThreshold 11 = .ok (.iload_n 1, 1) := by decide +kernel
theorem dX9_addThreshold_12 : decode cX9_addThreshold 12 = .ok (.ldc 91, 2) := by decide +kernel
theorem dX9_addThreshold_14 : decode cX9_addThreshold 14 = .ok (.if_icmp .lt 9, 3) := by decide +kernel
theorem dX9_addThreshold_17 : decode cX9_addThreshold 17 = .ok (.aload_n 0, 1) := by decide +kernel
theorem dX9_addThreshold_18 : decode cX9_addThreshold 18 = .ok (.iconst 1, 1) := by decide +kernel
theorem dX9_addThreshold_19 : decode cX9_addThreshold 19 = .ok (.invokevirtual 92, 3) := by decide +kernel
theorem dX9_addThreshold_22 : decode cX9_addThreshold 22 = .ok (.ireturn, 1) := by decide +kernel
theorem dX9_addThreshold_23 : decode cX9_addThreshold 23 = .ok (.aload_n 0, 1) := by decide +kernel
theorem dX9_addThreshold_24 : decode cX9_addThreshold 24 = .ok (.getfield 119, 3) := by decide +kernel
theorem dX9_addThreshold_27 : decode cX9_addThreshold 27 = .ok (.bipush 8, 2) := by decide +kernel
theorem dX9_addThreshold_29 : decode cX9_addThreshold 29 = .ok (.if_icmp .ne 9, 3) := by decide +kernel
theorem dX9_addThreshold_32 : decode cX9_addThreshold 32 = .ok (.aload_n 0, 1) := by decide +kernel
theorem dX9_addThreshold_33 : decode cX9_addThreshold 33 = .ok (.iconst 2, 1) := by decide +kernel
theorem dX9_addThreshold_34 : decode cX9_addThreshold 34 = .ok (.invokevirtual 92, 3) := by decide +kernel
theorem dX9_addThreshold_37 : decode cX9_addThreshold 37 = .ok (.ireturn, 1) := by decide +kernel
theorem dX9_addThreshold_38 : decode cX9_addThreshold 38 = .ok (.iconst 1, 1) := by decide +kernel
theorem dX9_addThreshold_39 : decode cX9_addThreshold 39 = .ok (.istore_n 2, 1) := by decide +kernel
theorem dX9_addThreshold_40 : decode cX9_addThreshold 40 = .ok (.iconst 0, 1) := by decide +kernel
theorem dX9_addThreshold_41 : decode cX9_addThreshold 41 = .ok (.istore_n 3, 1) := by decide +kernel
theorem dX9_addThreshold_42 : decode cX9_addThreshold 42 = .ok (.iload_n 3, 1) := by decide +kernel
theorem dX9_addThreshold_43 : decode cX9_addThreshold 43 = .ok (.aload_n 0, 1) := by decide +kernel
theorem dX9_addThreshold_44 : decode cX9_addThreshold 44 = .ok (.getfield 119, 3) := by decide +kernel
theorem dX9_addThreshold_47 : decode cX9_addThreshold 47 = .ok (.if_icmp .ge 29, 3) := by decide +kernel
theorem dX9_addThreshold_50 : decode cX9_addThreshold 50 = .ok (.iload_n 2, 1) := by decide +kernel
theorem dX9_addThreshold_51 : decode cX9_addThreshold 51 = .ok (.ifCond .eq 17, 3) := by decide +kernel
theorem dX9_addThreshold_54 : decode cX9_addThreshold 54 = .ok (.aload_n 0, 1) := by decide +kernel
theorem dX9_addThreshold_55 : decode cX9_addThreshold 55 = .ok (.getfield 50, 3) := by decide +kernel
theorem dX9_addThreshold_58 : decode cX9_addThreshold 58 = .ok (.iload_n 3, 1) := by decide +kernel
theorem dX9_addThreshold_59 : decode cX9_addThreshold 59 = .ok (.iaload, 1) := by decide +kernel
theorem dX9_addThreshold_60 : decode cX9_addThreshold 60 = .ok (.iload_n 1, 1) := by decide +kernel
theorem dX9_addThreshold_61 : decode cX9_addThreshold 61 = .ok (.if_icmp .eq 7, 3) := by decide +kernel
theorem dX9_addThreshold_64 : decode cX9_addThreshold 64 = .ok (.iconst 1, 1) := by decide +kernel
theorem dX9_addThreshold_65 : decode cX9_addThreshold 65 = .ok (.goto 4, 3) := by decide +kernel
theorem dX9_addThreshold_68 : decode cX9_addThreshold 68 = .ok (.iconst 0, 1) := by decide +kernel
theorem dX9_addThreshold_69 : decode cX9_addThreshold 69 = .ok (.istore_n 2, 1) := by decide +kernel
theorem dX9_addThreshold_70 : decode cX9_addThreshold 70 = .ok (.iinc 3 1, 3) := by decide +kernel
theorem dX9_addThreshold_73 : decode cX9_addThreshold 73 = .ok (.goto (-31), 3) := by decide +kernel
theorem dX9_addThreshold_76 : decode cX9_addThreshold 76 = .ok (.aload_n 0, 1) := by decide +kernel
theorem dX9_addThreshold_77 : decode cX9_addThreshold 77 = .ok (.getfield 50, 3) := by decide +kernel
theorem dX9_addThreshold_80 : decode cX9_addThreshold 80 = .ok (.aload_n 0, 1) := by decide +kernel
theorem dX9_addThreshold_81 : decode cX9_addThreshold 81 = .ok (.getfield 119, 3) := by decide +kernel
theorem dX9_addThreshold_84 : decode cX9_addThreshold 84 = .ok (.iload_n 1, 1) := by decide +kernel
theorem dX9_addThreshold_85 : decode cX9_addThreshold 85 = .ok (.iastore, 1) := by decide +kernel
theorem dX9_addThreshold_86 : decode cX9_addThreshold 86 = .ok (.aload_n 0, 1) := by decide +kernel
theorem dX9_addThreshold_87 : decode cX9_addThreshold 87 = .ok (.dup, 1) := by decide +kernel
theorem dX9_addThreshold_88 : decode cX9_addThreshold 88 = .ok (.getfield 119, 3) := by decide +kernel
theorem dX9_addThreshold_91 : decode cX9_addThreshold 91 = .ok (.iload_n 2, 1) := by decide +kernel
theorem dX9_addThreshold_92 : decode cX9_addThreshold 92 = .ok (.ifCond .eq 7, 3) := by decide +kernel
theorem dX9_addThreshold_95 : decode cX9_addThreshold 95 = .ok (.iconst 1, 1) := by decide +kernel
theorem dX9_addThreshold_96 : decode cX9_addThreshold 96 = .ok (.goto 4, 3) := by decide +kernel
theorem dX9_addThreshold_99 : decode cX9_addThreshold 99 = .ok (.iconst 0, 1) := by decide +kernel
theorem dX9_addThreshold_100 : decode cX9_addThreshold 100 = .ok (.iadd, 1) := by decide +kernel
theorem dX9_addThreshold_101 : decode cX9_addThreshold 101 = .ok (.putfield 119, 3) := by decide +kernel
theorem dX9_addThreshold_104 : decode cX9_addThreshold 104 = .ok (.aload_n 0, 1) := by decide +kernel
theorem dX9_addThreshold_105 : decode cX9_addThreshold 105 = .ok (.iconst 0, 1) := by decide +kernel
theorem dX9_addThreshold_106 : decode cX9_addThreshold 106 = .ok (.putfield 96, 3) := by decide +kernel
theorem dX9_addThreshold_109 : decode cX9_addThreshold 109 = .ok (.aload_n 0, 1) := by decide +kernel
theorem dX9_addThreshold_110 : decode cX9_addThreshold 110 = .ok (.getfield 119, 3) := by decide +kernel
theorem dX9_addThreshold_113 : decode cX9_addThreshold 113 = .ok (.ireturn, 1) := by decide +kernel
theorem dX9_limited_0 : decode cX9_limited 0 = .ok (.ldc2_w 122, 3) := by decide +kernel
theorem dX9_limited_3 : decode cX9_limited 3 = .ok (.ldc2_w 124, 3) := by decide +kernel
theorem dX9_limited_6 : decode cX9_limited 6 = .ok (.lload_n 0, 1) := by decide +kernel
theorem dX9_limited_7 : decode cX9_limited 7 = .ok (.invokestatic 126, 3) := by decide +kernel
theorem dX9_limited_10 : decode cX9_limited 10 = .ok (.invokestatic 132, 3) := by decide +kernel
theorem dX9_limited_13 : decode cX9_limited 13 = .ok (.l2i, 1) := by decide +kernel
theorem dX9_limited_14 : decode cX9_limited 14 = .ok (.ireturn, 1) := by decide +kernel
set_option maxRecDepth 20000 in
theorem ggX9_set_X9_limited : GoodIn wsX9_set wsX9_limited := goodIn_r _ [6, 7, 8, 9, 10, 11, 12, 13, 14, 15] (by decide +kernel) (by decide +kernel)
set_option maxRecDepth 20000 in
theorem gX9_set_X9_limited : GoodIn wsX9_set (va_wsS RX9 135 yX9_limited wsX9_limited) := goodIn_app (goodIn_of _ (by decide +kernel)) ggX9_set_X9_limited
theorem dX9_set_0 : decode cX9_set 0 = .ok (.aload_n 0, 1) := by decide +kernel
theorem dX9_set_1 : decode cX9_set 1 = .ok (.getfield 66, 3) := by decide +kernel
theorem dX9_set_4 : decode cX9_set 4 = .ok (.iload_n 1, 1) := by decide +kernel
theorem dX9_set_5 : decode cX9_set 5 = .ok (.lload_n 2, 1) := by decide +kernel
theorem dX9_set_6 : decode cX9_set 6 = .ok (.invokestatic 135, 3) := by decide +kernel
theorem dX9_set_9 : decode cX9_set 9 = .ok (.iastore, 1) := by decide +kernel
theorem dX9_set_10 : decode cX9_set 10 = .ok (.aload_n 0, 1) := by decide +kernel
theorem dX9_set_11 : decode cX9_set 11 = .ok (.getfield 69, 3) := by decide +kernel
theorem dX9_set_14 : decode cX9_set 14 = .ok (.iload_n 1, 1) := by decide +kernel
theorem dX9_set_15 : decode cX9_set 15 = .ok (.lload 4, 2) := by decide +kernel
theorem dX9_set_17 : decode cX9_set 17 = .ok (.invokestatic 135, 3) := by decide +kernel
theorem dX9_set_20 : decode cX9_set 20 = .ok (.iastore, 1) := by decide +kernel
theorem dX9_set_21 : decode cX9_set 21 = .ok (.return_, 1) := by decide +kernel
set_option maxRecDepth 20000 in
theorem ggX9_product_X9_set : GoodIn wsX9_product wsX9_set := goodIn_r _ [14, 1, 2, 15, 16, 13, 17, 18, 19, 3, 4, 5, 6, 7, 8, 9, 20, 21, 22, 23, 24, 25, 26, 27, 28, 29, 30, 31, 32, 33, 34, 35, 36, 37, 38, 39, 40, 41, 42, 43, 44, 45, 46, 47, 48, 49, 50] (by decide +kernel) (by decide +kernel)
set_option maxRecDepth 20000 in
theorem gX9_product_X9_set : GoodIn wsX9_product (wsV RX9 139 RX9 yX9_set wsX9_set) := goodIn_app (goodIn_of _ (by decide +kernel)) ggX9_product_X9_set
theorem dX9_product_0 : decode cX9_product 0 = .ok (.aload_n 0, 1) := by decide +kernel
theorem dX9_product_1 : decode cX9_product 1 = .ok (.getfield 66, 3) := by decide +kernel
theorem dX9_product_4 : decode cX9_product 4 = .ok (.iload_n 2, 1) := by decide +kernel
theorem dX9_product_5 : decode cX9_product 5 = .ok (.iaload, 1) := by decide +kernel
theorem dX9_product_6 : decode cX9_product 6 = .ok (.i2l, 1) := by decide +kernel
theorem dX9_product_7 : decode cX9_product 7 = .ok (.aload_n 0, 1) := by decide +kernel
theorem dX9_product_8 : decode cX9_product 8 = .ok (.getfield 66, 3) := by decide +kernel
theorem dX9_product_11 : decode cX9_product 11 = .ok (.iload_n 3, 1) := by decide +kernel
theorem dX9_product_12 : decode cX9_product 12 = .ok (.iaload, 1) := by decide +kernel
theorem dX9_product_13 : decode cX9_product 13 = .ok (.i2l, 1) := by decide +kernel
theorem dX9_product_14 : decode cX9_product 14 = .ok (.lmul, 1) := by decide +kernel
theorem dX9_product_15 : decode cX9_product 15 = .ok (.lstore 4, 2) := by decide +kernel
theorem dX9_product_17 : decode cX9_product 17 = .ok (.aload_n 0, 1) := by decide +kernel
theorem dX9_product_18 : decode cX9_product 18 = .ok (.getfield 66, 3) := by decide +kernel
theorem dX9_product_21 : decode cX9_product 21 = .ok (.iload_n 2, 1) := by decide +kernel
theorem dX9_product_22 : decode cX9_product 22 = .ok (.iaload, 1) := by decide +kernel
theorem dX9_product_23 : decode cX9_product 23 = .ok (.i2l, 1) := by decide +kernel
theorem dX9_product_24 : decode cX9_product 24 = .ok (.aload_n 0, 1) := by decide +kernel
theorem dX9_product_25 : decode cX9_product 25 = .ok (.getfield 69, 3) := by decide +kernel
theorem dX9_product_28 : decode cX9_product 28 = .ok (.iload_n 3, 1) := by decide +kernel
theorem dX9_product_29 : decode cX9_product 29 = .ok (.iaload, 1) := by decide +kernel
theorem dX9_product_30 : decode cX9_product 30 = .ok (.i2l, 1) := by decide +kernel
theorem dX9_product_31 : decode cX9_product 31 = .ok (.lmul, 1) := by decide +kernel
theorem dX9_product_32 : decode cX9_product 32 = .ok (.lstore 6, 2) := by decide +kernel
theorem dX9_product_34 : decode cX9_product 34 = .ok (.aload_n 0, 1) := by decide +kernel
theorem dX9_product_35 : decode cX9_product 35 = .ok (.getfield 69, 3) := by decide +kernel
theorem dX9_product_38 : decode cX9_product 38 = .ok (.iload_n 2, 1) := by decide +kernel
theorem dX9_product_39 : decode cX9_product 39 = .ok (.iaload, 1) := by decide +kernel
theorem dX9_product_40 : decode cX9_product 40 = .ok (.i2l, 1) := by decide +kernel
theorem dX9_product_41 : decode cX9_product 41 = .ok (.aload_n 0, 1) := by decide +kernel
theorem dX9_product_42 : decode cX9_product 42 = .ok (.getfield 66, 3) := by decide +kernel
theorem dX9_product_45 : decode cX9_product 45 = .ok (.iload_n 3, 1) := by decide +kernel
theorem dX9_product_46 : decode cX9_product 46 = .ok (.iaload, 1) := by decide +kernel
theorem dX9_product_47 : decode cX9_product 47 = .ok (.i2l, 1) := by decide +kernel
theorem dX9_product_48 : decode cX9_product 48 = .ok (.lmul, 1) := by decide +kernel
theorem dX9_product_49 : decode cX9_product 49 = .ok (.lstore 8, 2) := by decide +kernel
theorem dX9_product_51 : decode cX9_product 51 = .ok (.aload_n 0, 1) := by decide +kernel
theorem dX9_product_52 : decode cX9_product 52 = .ok (.getfield 69, 3) := by decide +kernel
theorem dX9_product_55 : decode cX9_product 55 = .ok (.iload_n 2, 1) := by decide +kernel
theorem dX9_product_56 : decode cX9_product 56 = .ok (.iaload, 1) := by decide +kernel
theorem dX9_product_57 : decode cX9_product 57 = .ok (.i2l, 1) := by decide +kernel
theorem dX9_product_58 : decode cX9_product 58 = .ok (.aload_n 0, 1) := by decide +kernel
theorem dX9_product_59 : decode cX9_product 59 = .ok (.getfield 69, 3) := by decide +kernel
theorem dX9_product_62 : decode cX9_product 62 = .ok (.iload_n 3, 1) := by decide +kernel
theorem dX9_product_63 : decode cX9_product 63 = .ok (.iaload, 1) := by decide +kernel
theorem dX9_product_64 : decode cX9_product 64 = .ok (.i2l, 1) := by decide +kernel
theorem dX9_product_65 : decode cX9_product 65 = .ok (.lmul, 1) := by decide +kernel
theorem dX9_product_66 : decode cX9_product 66 = .ok (.lstore 10, 2) := by decide +kernel
theorem dX9_product_68 : decode cX9_product 68 = .ok (.aload_n 0, 1) := by decide +kernel
theorem dX9_product_69 : decode cX9_product 69 = .ok (.iload_n 1, 1) := by decide +kernel
theorem dX9_product_70 : decode cX9_product 70 = .ok (.lload 4, 2) := by decide +kernel
theorem dX9_product_72 : decode cX9_product 72 = .ok (.lload 6, 2) := by decide +kernel
theorem dX9_product_74 : decode cX9_product 74 = .ok (.invokestatic 126, 3) := by decide +kernel
theorem dX9_product_77 : decode cX9_product 77 = .ok (.lload 8, 2) := by decide +kernel
theorem dX9_product_79 : decode cX9_product 79 = .ok (.lload 10, 2) := by decide +kernel
theorem dX9_product_81 : decode cX9_product 81 = .ok (.invokestatic 126, 3) := by decide +kernel
theorem dX9_product_84 : decode cX9_product 84 = .ok (.invokestatic 126, 3) := by decide +kernel
theorem dX9_product_87 : decode cX9_product 87 = .ok (.lload 4, 2) := by decide +kernel
theorem dX9_product_89 : decode cX9_product 89 = .ok (.lload 6, 2) := by decide +kernel
theorem dX9_product_91 : decode cX9_product 91 = .ok (.invokestatic 132, 3) := by decide +kernel
theorem dX9_product_94 : decode cX9_product 94 = .ok (.lload 8, 2) := by decide +kernel
theorem dX9_product_96 : decode cX9_product 96 = .ok (.lload 10, 2) := by decide +kernel
theorem dX9_product_98 : decode cX9_product 98 = .ok (.invokestatic 132, 3) := by decide +kernel
theorem dX9_product_101 : decode cX9_product 101 = .ok (.invokestatic 132, 3) := by decide +kernel
theorem dX9_product_104 : decode cX9_product 104 = .ok (.invokevirtual 139, 3) := by decide +kernel
theorem dX9_product_107 : decode cX9_product 107 = .ok (.return_, 1) := by decide +kernel
set_option maxRecDepth 20000 in
theorem ggX9_apply_X9_set : GoodIn wsX9_apply wsX9_set := goodIn_r _ [15, 2, 3, 16, 17, 14, 18, 19, 20, 21, 22, 6, 23, 24, 25, 26, 31, 32, 33, 34, 35, 36, 37, 38, 39, 40, 41, 42, 43, 44, 45, 46, 47, 48, 49, 50, 51, 52, 53, 54, 55, 56, 57, 58, 59, 60, 61] (by decide +kernel) (by decide +kernel)
set_option maxRecDepth 20000 in
theorem gX9_apply_X9_set : GoodIn wsX9_apply (wsV RX9 139 RX9 yX9_set wsX9_set) := goodIn_app (goodIn_of _ (by decide +kernel)) ggX9_apply_X9_set
set_option maxRecDepth 20000 in
theorem ggX9_apply_X9_product : GoodIn wsX9_apply wsX9_product := goodIn_r _ [30, 2, 3, 21, 22, 6, 23, 24, 25, 26, 11, 12, 13, 14, 15, 16, 17, 18, 19, 20, 31, 32, 33, 34, 35, 36, 37, 38, 39, 40, 41, 42, 43, 44, 45, 46, 47, 48, 49, 50, 51, 52, 53, 54, 55, 56, 57, 58, 59, 60, 61] (by decide +kernel) (by decide +kernel)
set_option maxRecDepth 20000 in
theorem gX9_apply_X9_product : GoodIn wsX9_apply (wsV RX9 143 RX9 yX9_product wsX9_product) := goodIn_app (goodIn_of _ (by decide +kernel)) ggX9_apply_X9_product
theorem dX9_apply_0 : decode cX9_apply 0 = .ok (.aload_n 0, 1) := by decide +kernel
theorem dX9_apply_1 : decode cX9_apply 1 = .ok (.getfield 17, 3) := by decide +kernel
theorem dX9_apply_4 : decode cX9_apply 4 = .ok (.iload_n 1, 1) := by decide +kernel
theorem dX9_apply_5 : decode cX9_apply 5 = .ok (.iconst 1, 1) := by decide +kernel
theorem dX9_apply_6 : decode cX9_apply 6 = .ok (.iadd, 1) := by decide +kernel
theorem dX9_apply_7 : decode cX9_apply 7 = .ok (.iaload, 1) := by decide +kernel
theorem dX9_apply_8 : decode cX9_apply 8 = .ok (.istore_n 2, 1) := by decide +kernel
theorem dX9_apply_9 : decode cX9_apply 9 = .ok (.aload_n 0, 1) := by decide +kernel
theorem dX9_apply_10 : decode cX9_apply 10 = .ok (.getfield 17, 3) := by decide +kernel
theorem dX9_apply_13 : decode cX9_apply 13 = .ok (.iload_n 1, 1) := by decide +kernel
theorem dX9_apply_14 : decode cX9_apply 14 = .ok (.iconst 2, 1) := by decide +kernel
theorem dX9_apply_15 : decode cX9_apply 15 = .ok (.iadd, 1) := by decide +kernel
theorem dX9_apply_16 : decode cX9_apply 16 = .ok (.iaload, 1) := by decide +kernel
theorem dX9_apply_17 : decode cX9_apply 17 = .ok (.istore_n 3, 1) := by decide +kernel
theorem dX9_apply_18 : decode cX9_apply 18 = .ok (.aload_n 0, 1) := by decide +kernel
theorem dX9_apply_19 : decode cX9_apply 19 = .ok (.getfield 17, 3) := by decide +kernel
theorem dX9_apply_22 : decode cX9_apply 22 = .ok (.iload_n 1, 1) := by decide +kernel
theorem dX9_apply_23 : decode cX9_apply 23 = .ok (.iconst 3, 1) := by decide +kernel
theorem dX9_apply_24 : decode cX9_apply 24 = .ok (.iadd, 1) := by decide +kernel
theorem dX9_apply_25 : decode cX9_apply 25 = .ok (.iaload, 1) := by decide +kernel
theorem dX9_apply_26 : decode cX9_apply 26 = .ok (.istore 4, 2) := by decide +kernel
theorem dX9_apply_28 : decode cX9_apply 28 = .ok (.aload_n 0, 1) := by decide +kernel
theorem dX9_apply_29 : decode cX9_apply 29 = .ok (.getfield 17, 3) := by decide +kernel
theorem dX9_apply_32 : decode cX9_apply 32 = .ok (.iload_n 1, 1) := by decide +kernel
theorem dX9_apply_33 : decode cX9_apply 33 = .ok (.iaload, 1) := by decide +kernel
theorem dX9_apply_34 : decode cX9_apply 34 = .ok (.tableswitch 235 0 5 #[38, 60, 100, 140, 151, 193], 38) := by decide +kernel
theorem dX9_apply_72 : decode cX9_apply 72 = .ok (.aload_n 0, 1) := by decide +kernel
theorem dX9_apply_73 : decode cX9_apply 73 = .ok (.iload_n 2, 1) := by decide +kernel
theorem dX9_apply_74 : decode cX9_apply 74 = .ok (.aload_n 0, 1) := by decide +kernel
theorem dX9_apply_75 : decode cX9_apply 75 = .ok (.getfield 66, 3) := by decide +kernel
theorem dX9_apply_78 : decode cX9_apply 78 = .ok (.iload_n 3, 1) := by decide +kernel
theorem dX9_apply_79 : decode cX9_apply 79 = .ok (.iaload, 1) := by decide +kernel
theorem dX9_apply_80 : decode cX9_apply 80 = .ok (.i2l, 1) := by decide +kernel
theorem dX9_apply_81 : decode cX9_apply 81 = .ok (.aload_n 0, 1) := by decide +kernel
theorem dX9_apply_82 : decode cX9_apply 82 = .ok (.getfield 69, 3) := by decide +kernel
theorem dX9_apply_85 : decode cX9_apply 85 = .ok (.iload_n 3, 1) := by decide +kernel
theorem dX9_apply_86 : decode cX9_apply 86 = .ok (.iaload, 1) := by decide +kernel
theorem dX9_apply_87 : decode cX9_apply 87 = .ok (.i2l, 1) := by decide +kernel
theorem dX9_apply_88 : decode cX9_apply 88 = .ok (.invokevirtual 139, 3) := by decide +kernel
theorem dX9_apply_91 : decode cX9_apply 91 = .ok (.goto 188, 3) := by decide +kernel
theorem dX9_apply_94 : decode cX9_apply 94 = .ok (.aload_n 0, 1) := by decide +kernel
theorem dX9_apply_95 : decode cX9_apply 95 = .ok (.iload_n 2, 1) := by decide +kernel
theorem dX9_apply_96 : decode cX9_apply 96 = .ok (.aload_n 0, 1) := by decide +kernel
theorem dX9_apply_97 : decode cX9_apply 97 = .ok (.getfield 66, 3) := by decide +kernel
theorem dX9_apply_100 : decode cX9_apply 100 = .ok (.iload_n 3, 1) := by decide +kernel
theorem dX9_apply_101 : decode cX9_apply 101 = .ok (.iaload, 1) := by decide +kernel
theorem dX9_apply_102 : decode cX9_apply 102 = .ok (.i2l, 1) := by decide +kernel
theorem dX9_apply_103 : decode cX9_apply 103 = .ok (.aload_n 0, 1) := by decide +kernel
theorem dX9_apply_104 : decode cX9_apply 104 = .ok (.getfield 66, 3) := by decide +kernel
theorem dX9_apply_107 : decode cX9_apply 107 = .ok (.iload 4, 2) := by decide +kernel
theorem dX9_apply_109 : decode cX9_apply 109 = .ok (.iaload, 1) := by decide +kernel
theorem dX9_apply_110 : decode cX9_apply 110 = .ok (.i2l, 1) := by decide +kernel
theorem dX9_apply_111 : decode cX9_apply 111 = .ok (.ladd, 1) := by decide +kernel
theorem dX9_apply_112 : decode cX9_apply 112 = .ok (.aload_n 0, 1) := by decide +kernel
theorem dX9_apply_113 : decode cX9_apply 113 = .ok (.getfield 69, 3) := by decide +kernel
theorem dX9_apply_116 : decode cX9_apply 116 = .ok (.iload_n 3, 1) := by decide +kernel
theorem dX9_apply_117 : decode cX9_apply 117 = .ok (.iaload, 1) := by decide +kernel
theorem dX9_apply_118 : decode cX9_apply 118 = .ok (.i2l, 1) := by decide +kernel
theorem dX9_apply_119 : decode cX9_apply 119 = .ok (.aload_n 0, 1) := by decide +kernel
theorem dX9_apply_120 : decode cX9_apply 120 = .ok (.getfield 69, 3) := by decide +kernel
theorem dX9_apply_123 : decode cX9_apply 123 = .ok (.iload 4, 2) := by decide +kernel
theorem dX9_apply_125 : decode cX9_apply 125 = .ok (.iaload, 1) := by decide +kernel
theorem dX9_apply_126 : decode cX9_apply 126 = .ok (.i2l, 1) := by decide +kernel
theorem dX9_apply_127 : decode cX9_apply 127 = .ok (.ladd, 1) := by decide +kernel
theorem dX9_apply_128 : decode cX9_apply 128 = .ok (.invokevirtual 139, 3) := by decide +kernel
theorem dX9_apply_131 : decode cX9_apply 131 = .ok (.goto 148, 3) := by decide +kernel
theorem dX9_apply_134 : decode cX9_apply 134 = .ok (.aload_n 0, 1) := by decide +kernel
theorem dX9_apply_135 : decode cX9_apply 135 = .ok (.iload_n 2, 1) := by decide +kernel
theorem dX9_apply_136 : decode cX9_apply 136 = .ok (.aload_n 0, 1) := by decide +kernel
theorem dX9_apply_137 : decode cX9_apply 137 = .ok (.getfield 66, 3) := by decide +kernel
theorem dX9_apply_140 : decode cX9_apply 140 = .ok (.iload_n 3, 1) := by decide +kernel
theorem dX9_apply_141 : decode cX9_apply 141 = .ok (.iaload, 1) := by decide +kernel
theorem dX9_apply_142 : decode cX9_apply 142 = .ok (.i2l, 1) := by decide +kernel
theorem dX9_apply_143 : decode cX9_apply 143 = .ok (.aload_n 0, 1) := by decide +kernel
theorem dX9_apply_144 : decode cX9_apply 144 = .ok (.getfield 69, 3) := by decide +kernel
theorem dX9_apply_147 : decode cX9_apply 147 = .ok (.iload 4, 2) := by decide +kernel
theorem dX9_apply_149 : decode cX9_apply 149 = .ok (.iaload, 1) := by decide +kernel
theorem dX9_apply_150 : decode cX9_apply 150 = .ok (.i2l, 1) := by decide +kernel
theorem dX9_apply_151 : decode cX9_apply 151 = .ok (.lsub, 1) := by decide +kernel
theorem dX9_apply_152 : decode cX9_apply 152 = .ok (.aload_n 0, 1) := by decide +kernel
theorem dX9_apply_153 : decode cX9_apply 153 = .ok (.getfield 69, 3) := by decide +kernel
theorem dX9_apply_156 : decode cX9_apply 156 = .ok (.iload_n 3, 1) := by decide +kernel
theorem dX9_apply_157 : decode cX9_apply 157 = .ok (.iaload, 1) := by decide +kernel
theorem dX9_apply_158 : decode cX9_apply 158 = .ok (.i2l, 1) := by decide +kernel
theorem dX9_apply_159 : decode cX9_apply 159 = .ok (.aload_n 0, 1) := by decide +kernel
theorem dX9_apply_160 : decode cX9_apply 160 = .ok (.getfield 66, 3) := by decide +kernel
theorem dX9_apply_163 : decode cX9_apply 163 = .ok (.iload 4, 2) := by decide +kernel
theorem dX9_apply_165 : decode cX9_apply 165 = .ok (.iaload, 1) := by decide +kernel
theorem dX9_apply_166 : decode cX9_apply 166 = .ok (.i2l, 1) := by decide +kernel
theorem dX9_apply_167 : decode cX9_apply 167 = .ok (.lsub, 1) := by decide +kernel
theorem dX9_apply_168 : decode cX9_apply 168 = .ok (.invokevirtual 139, 3) := by decide +kernel
theorem dX9_apply_171 : decode cX9_apply 171 = .ok (.goto 108, 3) := by decide +kernel
theorem dX9_apply_174 : decode cX9_apply 174 = .ok (.aload_n 0, 1) := by decide +kernel
theorem dX9_apply_175 : decode cX9_apply 175 = .ok (.iload_n 2, 1) := by decide +kernel
theorem dX9_apply_176 : decode cX9_apply 176 = .ok (.iload_n 3, 1) := by decide +kernel
theorem dX9_apply_177 : decode cX9_apply 177 = .ok (.iload 4, 2) := by decide +kernel
theorem dX9_apply_179 : decode cX9_apply 179 = .ok (.invokevirtual 143, 3) := by decide +kernel
theorem dX9_apply_182 : decode cX9_apply 182 = .ok (.goto 97, 3) := by decide +kernel
theorem dX9_apply_185 : decode cX9_apply 185 = .ok (.aload_n 0, 1) := by decide +kernel
theorem dX9_apply_186 : decode cX9_apply 186 = .ok (.iload_n 2, 1) := by decide +kernel
theorem dX9_apply_187 : decode cX9_apply 187 = .ok (.aload_n 0, 1) := by decide +kernel
theorem dX9_apply_188 : decode cX9_apply 188 = .ok (.getfield 66, 3) := by decide +kernel
theorem dX9_apply_191 : decode cX9_apply 191 = .ok (.iload_n 3, 1) := by decide +kernel
theorem dX9_apply_192 : decode cX9_apply 192 = .ok (.iaload, 1) := by decide +kernel
theorem dX9_apply_193 : decode cX9_apply 193 = .ok (.aload_n 0, 1) := by decide +kernel
theorem dX9_apply_194 : decode cX9_apply 194 = .ok (.getfield 66, 3) := by decide +kernel
theorem dX9_apply_197 : decode cX9_apply 197 = .ok (.iload 4, 2) := by decide +kernel
theorem dX9_apply_199 : decode cX9_apply 199 = .ok (.iaload, 1) := by decide +kernel
theorem dX9_apply_200 : decode cX9_apply 200 = .ok (.invokestatic 147, 3) := by decide +kernel
theorem dX9_apply_203 : decode cX9_apply 203 = .ok (.i2l, 1) := by decide +kernel
theorem dX9_apply_204 : decode cX9_apply 204 = .ok (.aload_n 0, 1) := by decide +kernel
theorem dX9_apply_205 : decode cX9_apply 205 = .ok (.getfield 69, 3) := by decide +kernel
theorem dX9_apply_208 : decode cX9_apply 208 = .ok (.iload_n 3, 1) := by decide +kernel
theorem dX9_apply_209 : decode cX9_apply 209 = .ok (.iaload, 1) := by decide +kernel
theorem dX9_apply_210 : decode cX9_apply 210 = .ok (.aload_n 0, 1) := by decide +kernel
theorem dX9_apply_211 : decode cX9_apply 211 = .ok (.getfield 69, 3) := by decide +kernel
theorem dX9_apply_214 : decode cX9_apply 214 = .ok (.iload 4, 2) := by decide +kernel
theorem dX9_apply_216 : decode cX9_apply 216 = .ok (.iaload, 1) := by decide +kernel
theorem dX9_apply_217 : decode cX9_apply 217 = .ok (.invokestatic 147, 3) := by decide +kernel
theorem dX9_apply_220 : decode cX9_apply 220 = .ok (.i2l, 1) := by decide +kernel
theorem dX9_apply_221 : decode cX9_apply 221 = .ok (.invokevirtual 139, 3) := by decide +kernel
theorem dX9_apply_224 : decode cX9_apply 224 = .ok (.goto 55, 3) := by decide +kernel
theorem dX9_apply_227 : decode cX9_apply 227 = .ok (.aload_n 0, 1) := by decide +kernel
theorem dX9_apply_228 : decode cX9_apply 228 = .ok (.iload_n 2, 1) := by decide +kernel
theorem dX9_apply_229 : decode cX9_apply 229 = .ok (.aload_n 0, 1) := by decide +kernel
theorem dX9_apply_230 : decode cX9_apply 230 = .ok (.getfield 66, 3) := by decide +kernel
theorem dX9_apply_233 : decode cX9_apply 233 = .ok (.iload_n 3, 1) := by decide +kernel
theorem dX9_apply_234 : decode cX9_apply 234 = .ok (.iaload, 1) := by decide +kernel
theorem dX9_apply_235 : decode cX9_apply 235 = .ok (.aload_n 0, 1) := by decide +kernel
theorem dX9_apply_236 : decode cX9_apply 236 = .ok (.getfield 66, 3) := by decide +kernel
theorem dX9_apply_239 : decode cX9_apply 239 = .ok (.iload 4, 2) := by decide +kernel
theorem dX9_apply_241 : decode cX9_apply 241 = .ok (.iaload, 1) := by decide +kernel
theorem dX9_apply_242 : decode cX9_apply 242 = .ok (.invokestatic 150, 3) := by decide +kernel
theorem dX9_apply_245 : decode cX9_apply 245 = .ok (.i2l, 1) := by decide +kernel
theorem dX9_apply_246 : decode cX9_apply 246 = .ok (.aload_n 0, 1) := by decide +kernel
theorem dX9_apply_247 : decode cX9_apply 247 = .ok (.getfield 69, 3) := by decide +kernel
theorem dX9_apply_250 : decode cX9_apply 250 = .ok (.iload_n 3, 1) := by decide +kernel
theorem dX9_apply_251 : decode cX9_apply 251 = .ok (.iaload, 1) := by decide +kernel
theorem dX9_apply_252 : decode cX9_apply 252 = .ok (.aload_n 0, 1) := by decide +kernel
theorem dX9_apply_253 : decode cX9_apply 253 = .ok (.getfield 69, 3) := by decide +kernel
theorem dX9_apply_256 : decode cX9_apply 256 = .ok (.iload 4, 2) := by decide +kernel
theorem dX9_apply_258 : decode cX9_apply 258 = .ok (.iaload, 1) := by decide +kernel
theorem dX9_apply_259 : decode cX9_apply 259 = .ok (.invokestatic 150, 3) := by decide +kernel
theorem dX9_apply_262 : decode cX9_apply 262 = .ok (.i2l, 1) := by decide +kernel
theorem dX9_apply_263 : decode cX9_apply 263 = .ok (.invokevirtual 139, 3) := by decide +kernel
theorem dX9_apply_266 : decode cX9_apply 266 = .ok (.goto 13, 3) := by decide +kernel
theorem dX9_apply_269 : decode cX9_apply 269 = .ok (.aload_n 0, 1) := by decide +kernel
theorem dX9_apply_270 : decode cX9_apply 270 = .ok (.iload_n 2, 1) := by decide +kernel
theorem dX9_apply_271 : decode cX9_apply 271 = .ok (.iload_n 3, 1) := by decide +kernel
theorem dX9_apply_272 : decode cX9_apply 272 = .ok (.i2l, 1) := by decide +kernel
theorem dX9_apply_273 : decode cX9_apply 273 = .ok (.iload 4, 2) := by decide +kernel
theorem dX9_apply_275 : decode cX9_apply 275 = .ok (.i2l, 1) := by decide +kernel
theorem dX9_apply_276 : decode cX9_apply 276 = .ok (.invokevirtual 139, 3) := by decide +kernel
theorem dX9_apply_279 : decode cX9_apply 279 = .ok (.return_, 1) := by decide +kernel
set_option maxRecDepth 20000 in
theorem ggX9_leave_X9_apply : GoodIn wsX9_leave wsX9_apply := goodIn_r _ [10, 11, 1, 3, 12, 13, 14, 15, 16, 17, 18, 19, 20, 21, 9, 22, 23, 24, 25, 26, 27, 28, 29, 30, 31, 32, 33, 34, 35, 36, 37, 38, 39, 40, 41, 42, 43, 44, 45, 46, 47, 48, 49, 50, 51, 52, 53, 54, 55, 56, 57, 58, 59, 60, 61, 62, 63, 64, 65, 66, 67, 68] (by decide +kernel) (by decide +kernel)
set_option maxRecDepth 20000 in
theorem gX9_leave_X9_apply : GoodIn wsX9_leave (wsV RX9 152 RX9 yX9_apply wsX9_apply) := goodIn_app (goodIn_of _ (by decide +kernel)) ggX9_leave_X9_apply
theorem dX9_leave_0 : decode cX9_leave 0 = .ok (.iconst 0, 1) := by decide +kernel
theorem dX9_leave_1 : decode cX9_leave 1 = .ok (.istore_n 2, 1) := by decide +kernel
theorem dX9_leave_2 : decode cX9_leave 2 = .ok (.iload_n 2, 1) := by decide +kernel
theorem dX9_leave_3 : decode cX9_leave 3 = .ok (.bipush 6, 2) := by decide +kernel
theorem dX9_leave_5 : decode cX9_leave 5 = .ok (.if_icmp .ge 43, 3) := by decide +kernel
theorem dX9_leave_8 : decode cX9_leave 8 = .ok (.aload_n 0, 1) := by decide +kernel
theorem dX9_leave_9 : decode cX9_leave 9 = .ok (.getfield 66, 3) := by decide +kernel
theorem dX9_leave_12 : decode cX9_leave 12 = .ok (.iload_n 2, 1) := by decide +kernel
theorem dX9_leave_13 : decode cX9_leave 13 = .ok (.aload_n 0, 1) := by decide +kernel
theorem dX9_leave_14 : decode cX9_leave 14 = .ok (.getfield 57, 3) := by decide +kernel
theorem dX9_leave_17 : decode cX9_leave 17 = .ok (.bipush 6, 2) := by decide +kernel
theorem dX9_leave_19 : decode cX9_leave 19 = .ok (.iload_n 1, 1) := by decide +kernel
theorem dX9_leave_20 : decode cX9_leave 20 = .ok (.imul, 1) := by decide +kernel
theorem dX9_leave_21 : decode cX9_leave 21 = .ok (.iload_n 2, 1) := by decide +kernel
theorem dX9_leave_22 : decode cX9_leave 22 = .ok (.iadd, 1) := by decide +kernel
theorem dX9_leave_23 : decode cX9_leave 23 = .ok (.iaload, 1) := by decide +kernel
theorem dX9_leave_24 : decode cX9_leave 24 = .ok (.iastore, 1) := by decide +kernel
theorem dX9_leave_25 : decode cX9_leave 25 = .ok (.aload_n 0, 1) := by decide +kernel
theorem dX9_leave_26 : decode cX9_leave 26 = .ok (.getfield 69, 3) := by decide +kernel
theorem dX9_leave_29 : decode cX9_leave 29 = .ok (.iload_n 2, 1) := by decide +kernel
theorem dX9_leave_30 : decode cX9_leave 30 = .ok (.aload_n 0, 1) := by decide +kernel
theorem dX9_leave_31 : decode cX9_leave 31 = .ok (.getfield 60, 3) := by decide +kernel
theorem dX9_leave_34 : decode cX9_leave 34 = .ok (.bipush 6, 2) := by decide +kernel
theorem dX9_leave_36 : decode cX9_leave 36 = .ok (.iload_n 1, 1) := by decide +kernel
theorem dX9_leave_37 : decode cX9_leave 37 = .ok (.imul, 1) := by decide +kernel
theorem dX9_leave_38 : decode cX9_leave 38 = .ok (.iload_n 2, 1) := by decide +kernel
theorem dX9_leave_39 : decode cX9_leave 39 = .ok (.iadd, 1) := by decide +kernel
theorem dX9_leave_40 : decode cX9_leave 40 = .ok (.iaload, 1) := by decide +kernel
theorem dX9_leave_41 : decode cX9_leave 41 = .ok (.iastore, 1) := by decide +kernel
theorem dX9_leave_42 : decode cX9_leave 42 = .ok (.iinc 2 1, 3) := by decide +kernel
theorem dX9_leave_45 : decode cX9_leave 45 = .ok (.goto (-43), 3) := by decide +kernel
theorem dX9_leave_48 : decode cX9_leave 48 = .ok (.iconst 0, 1) := by decide +kernel
theorem dX9_leave_49 : decode cX9_leave 49 = .ok (.istore_n 2, 1) := by decide +kernel
theorem dX9_leave_50 : decode cX9_leave 50 = .ok (.iload_n 2, 1) := by decide +kernel
theorem dX9_leave_51 : decode cX9_leave 51 = .ok (.aload_n 0, 1) := by decide +kernel
theorem dX9_leave_52 : decode cX9_leave 52 = .ok (.getfield 13, 3) := by decide +kernel
theorem dX9_leave_55 : decode cX9_leave 55 = .ok (.iload_n 1, 1) := by decide +kernel
theorem dX9_leave_56 : decode cX9_leave 56 = .ok (.iaload, 1) := by decide +kernel
theorem dX9_leave_57 : decode cX9_leave 57 = .ok (.if_icmp .ge 21, 3) := by decide +kernel
theorem dX9_leave_60 : decode cX9_leave 60 = .ok (.aload_n 0, 1) := by decide +kernel
theorem dX9_leave_61 : decode cX9_leave 61 = .ok (.iconst 4, 1) := by decide +kernel
theorem dX9_leave_62 : decode cX9_leave 62 = .ok (.bipush 8, 2) := by decide +kernel
theorem dX9_leave_64 : decode cX9_leave 64 = .ok (.iload_n 1, 1) := by decide +kernel
theorem dX9_leave_65 : decode cX9_leave 65 = .ok (.imul, 1) := by decide +kernel
theorem dX9_leave_66 : decode cX9_leave 66 = .ok (.iload_n 2, 1) := by decide +kernel
theorem dX9_leave_67 : decode cX9_leave 67 = .ok (.iadd, 1) := by decide +kernel
theorem dX9_leave_68 : decode cX9_leave 68 = .ok (.imul, 1) := by decide +kernel
theorem dX9_leave_69 : decode cX9_leave 69 = .ok (.invokevirtual 152, 3) := by decide +kernel
theorem dX9_leave_72 : decode cX9_leave 72 = .ok (.iinc 2 1, 3) := by decide +kernel
theorem dX9_leave_75 : decode cX9_leave 75 = .ok (.goto (-25), 3) := by decide +kernel
theorem dX9_leave_78 : decode cX9_leave 78 = .ok (.return_, 1) := by decide +kernel
theorem dX9_opposite_0 : decode cX9_opposite 0 = .ok (.iload_n 0, 1) := by decide +kernel
theorem dX9_opposite_1 : decode cX9_opposite 1 = .ok (.ifCond .ne 7, 3) := by decide +kernel
theorem dX9_opposite_4 : decode cX9_opposite 4 = .ok (.iconst 4, 1) := by decide +kernel
theorem dX9_opposite_5 : decode cX9_opposite 5 = .ok (.goto 22, 3) := by decide +kernel
theorem dX9_opposite_8 : decode cX9_opposite 8 = .ok (.iload_n 0, 1) := by decide +kernel
theorem dX9_opposite_9 : decode cX9_opposite 9 = .ok (.iconst 1, 1) := by decide +kernel
theorem dX9_opposite_10 : decode cX9_opposite 10 = .ok (.if_icmp .ne 7, 3) := by decide +kernel
theorem dX9_opposite_13 : decode cX9_opposite 13 = .ok (.iconst 5, 1) := by decide +kernel
theorem dX9_opposite_14 : decode cX9_opposite 14 = .ok (.goto 13, 3) := by decide +kernel
theorem dX9_opposite_17 : decode cX9_opposite 17 = .ok (.iload_n 0, 1) := by decide +kernel
theorem dX9_opposite_18 : decode cX9_opposite 18 = .ok (.iconst 2, 1) := by decide +kernel
theorem dX9_opposite_19 : decode cX9_opposite 19 = .ok (.if_icmp .ne 7, 3) := by decide +kernel
theorem dX9_opposite_22 : decode cX9_opposite 22 = .ok (.iconst 3, 1) := by decide +kernel
theorem dX9_opposite_23 : decode cX9_opposite 23 = .ok (.goto 4, 3) := by decide +kernel
theorem dX9_opposite_26 : decode cX9_opposite 26 = .ok (.iconst 2, 1) := by decide +kernel
theorem dX9_opposite_27 : decode cX9_opposite 27 = .ok (.ireturn, 1) := by decide +kernel
theorem dX9_refine_0 : decode cX9_refine 0 = .ok (.aload_n 0, 1) := by decide +kernel
theorem dX9_refine_1 : decode cX9_refine 1 = .ok (.getfield 66, 3) := by decide +kernel
theorem dX9_refine_4 : decode cX9_refine 4 = .ok (.iload_n 1, 1) := by decide +kernel
theorem dX9_refine_5 : decode cX9_refine 5 = .ok (.iaload, 1) := by decide +kernel
theorem dX9_refine_6 : decode cX9_refine 6 = .ok (.istore 4, 2) := by decide +kernel
theorem dX9_refine_8 : decode cX9_refine 8 = .ok (.aload_n 0, 1) := by decide +kernel
theorem dX9_refine_9 : decode cX9_refine 9 = .ok (.getfield 69, 3) := by decide +kernel
theorem dX9_refine_12 : decode cX9_refine 12 = .ok (.iload_n 1, 1) := by decide +kernel
theorem dX9_refine_13 : decode cX9_refine 13 = .ok (.iaload, 1) := by decide +kernel
theorem dX9_refine_14 : decode cX9_refine 14 = .ok (.istore 5, 2) := by decide +kernel
theorem dX9_refine_16 : decode cX9_refine 16 = .ok (.aload_n 0, 1) := by decide +kernel
theorem dX9_refine_17 : decode cX9_refine 17 = .ok (.getfield 66, 3) := by decide +kernel
theorem dX9_refine_20 : decode cX9_refine 20 = .ok (.iload_n 3, 1) := by decide +kernel
theorem dX9_refine_21 : decode cX9_refine 21 = .ok (.iaload, 1) := by decide +kernel
theorem dX9_refine_22 : decode cX9_refine 22 = .ok (.istore 6, 2) := by decide +kernel
theorem dX9_refine_24 : decode cX9_refine 24 = .ok (.aload_n 0, 1) := by decide +kernel
theorem dX9_refine_25 : decode cX9_refine 25 = .ok (.getfield 69, 3) := by decide +kernel
theorem dX9_refine_28 : decode cX9_refine 28 = .ok (.iload_n 3, 1) := by decide +kernel
theorem dX9_refine_29 : decode cX9_refine 29 = .ok (.iaload, 1) := by decide +kernel
theorem dX9_refine_30 : decode cX9_refine 30 = .ok (.istore 7, 2) := by decide +kernel
theorem dX9_refine_32 : decode cX9_refine 32 = .ok (.iload_n 2, 1) := by decide +kernel
theorem dX9_refine_33 : decode cX9_refine 33 = .ok (.iconst 3, 1) := by decide +kernel
theorem dX9_refine_34 : decode cX9_refine 34 = .ok (.if_icmp .ge 51, 3) := by decide +kernel
theorem dX9_refine_37 : decode cX9_refine 37 = .ok (.aload_n 0, 1) := by decide +kernel
theorem dX9_refine_38 : decode cX9_refine 38 = .ok (.getfield 69, 3) := by decide +kernel
theorem dX9_refine_41 : decode cX9_refine 41 = .ok (.iload_n 1, 1) := by decide +kernel
theorem dX9_refine_42 : decode cX9_refine 42 = .ok (.iload 5, 2) := by decide +kernel
theorem dX9_refine_44 : decode cX9_refine 44 = .ok (.iload_n 2, 1) := by decide +kernel
theorem dX9_refine_45 : decode cX9_refine 45 = .ok (.ifCond .ne 10, 3) := by decide +kernel
theorem dX9_refine_48 : decode cX9_refine 48 = .ok (.iload 7, 2) := by decide +kernel
theorem dX9_refine_50 : decode cX9_refine 50 = .ok (.iconst 1, 1) := by decide +kernel
theorem dX9_refine_51 : decode cX9_refine 51 = .ok (.isub, 1) := by decide +kernel
theorem dX9_refine_52 : decode cX9_refine 52 = .ok (.goto 5, 3) := by decide +kernel
theorem dX9_refine_55 : decode cX9_refine 55 = .ok (.iload 7, 2) := by decide +kernel
theorem dX9_refine_57 : decode cX9_refine 57 = .ok (.invokestatic 147, 3) := by decide +kernel
theorem dX9_refine_60 : decode cX9_refine 60 = .ok (.iastore, 1) := by decide +kernel
theorem dX9_refine_61 : decode cX9_refine 61 = .ok (.aload_n 0, 1) := by decide +kernel
theorem dX9_refine_62 : decode cX9_refine 62 = .ok (.getfield 66, 3) := by decide +kernel
theorem dX9_refine_65 : decode cX9_refine 65 = .ok (.iload_n 3, 1) := by decide +kernel
theorem dX9_refine_66 : decode cX9_refine 66 = .ok (.iload 6, 2) := by decide +kernel
theorem dX9_refine_68 : decode cX9_refine 68 = .ok (.iload_n 2, 1) := by decide +kernel
theorem dX9_refine_69 : decode cX9_refine 69 = .ok (.ifCond .ne 10, 3) := by decide +kernel
theorem dX9_refine_72 : decode cX9_refine 72 = .ok (.iload 4, 2) := by decide +kernel
theorem dX9_refine_74 : decode cX9_refine 74 = .ok (.iconst 1, 1) := by decide +kernel
theorem dX9_refine_75 : decode cX9_refine 75 = .ok (.iadd, 1) := by decide +kernel
theorem dX9_refine_76 : decode cX9_refine 76 = .ok (.goto 5, 3) := by decide +kernel
theorem dX9_refine_79 : decode cX9_refine 79 = .ok (.iload 4, 2) := by decide +kernel
theorem dX9_refine_81 : decode cX9_refine 81 = .ok (.invokestatic 150, 3) := by decide +kernel
theorem dX9_refine_84 : decode cX9_refine 84 = .ok (.iastore, 1) := by decide +kernel
theorem dX9_refine_85 : decode cX9_refine 85 = .ok (.iload_n 2, 1) := by decide +kernel
theorem dX9_refine_86 : decode cX9_refine 86 = .ok (.iconst 2, 1) := by decide +kernel
theorem dX9_refine_87 : decode cX9_refine 87 = .ok (.if_icmp .eq 8, 3) := by decide +kernel
theorem dX9_refine_90 : decode cX9_refine 90 = .ok (.iload_n 2, 1) := by decide +kernel
theorem dX9_refine_91 : decode cX9_refine 91 = .ok (.iconst 3, 1) := by decide +kernel
theorem dX9_refine_92 : decode cX9_refine 92 = .ok (.if_icmp .le 53, 3) := by decide +kernel
theorem dX9_refine_95 : decode cX9_refine 95 = .ok (.aload_n 0, 1) := by decide +kernel
theorem dX9_refine_96 : decode cX9_refine 96 = .ok (.getfield 66, 3) := by decide +kernel
theorem dX9_refine_99 : decode cX9_refine 99 = .ok (.iload_n 1, 1) := by decide +kernel
theorem dX9_refine_100 : decode cX9_refine 100 = .ok (.iload 4, 2) := by decide +kernel
theorem dX9_refine_102 : decode cX9_refine 102 = .ok (.iload_n 2, 1) := by decide +kernel
theorem dX9_refine_103 : decode cX9_refine 103 = .ok (.iconst 5, 1) := by decide +kernel
theorem dX9_refine_104 : decode cX9_refine 104 = .ok (.if_icmp .ne 10, 3) := by decide +kernel
theorem dX9_refine_107 : decode cX9_refine 107 = .ok (.iload 6, 2) := by decide +kernel
theorem dX9_refine_109 : decode cX9_refine 109 = .ok (.iconst 1, 1) := by decide +kernel
theorem dX9_refine_110 : decode cX9_refine 110 = .ok (.iadd, 1) := by decide +kernel
theorem dX9_refine_111 : decode cX9_refine 111 = .ok (.goto 5, 3) := by decide +kernel
theorem dX9_refine_114 : decode cX9_refine 114 = .ok (.iload 6, 2) := by decide +kernel
theorem dX9_refine_116 : decode cX9_refine 116 = .ok (.invokestatic 150, 3) := by decide +kernel
theorem dX9_refine_119 : decode cX9_refine 119 = .ok (.iastore, 1) := by decide +kernel
theorem dX9_refine_120 : decode cX9_refine 120 = .ok (.aload_n 0, 1) := by decide +kernel
theorem dX9_refine_121 : decode cX9_refine 121 = .ok (.getfield 69, 3) := by decide +kernel
theorem dX9_refine_124 : decode cX9_refine 124 = .ok (.iload_n 3, 1) := by decide +kernel
theorem dX9_refine_125 : decode cX9_refine 125 = .ok (.iload 7, 2) := by decide +kernel
theorem dX9_refine_127 : decode cX9_refine 127 = .ok (.iload_n 2, 1) := by decide +kernel
theorem dX9_refine_128 : decode cX9_refine 128 = .ok (.iconst 5, 1) := by decide +kernel
theorem dX9_refine_129 : decode cX9_refine 129 = .ok (.if_icmp .ne 10, 3) := by decide +kernel
theorem dX9_refine_132 : decode cX9_refine 132 = .ok (.iload 5, 2) := by decide +kernel
theorem dX9_refine_134 : decode cX9_refine 134 = .ok (.iconst 1, 1) := by decide +kernel
theorem dX9_refine_135 : decode cX9_refine 135 = .ok (.isub, 1) := by decide +kernel
theorem dX9_refine_136 : decode cX9_refine 136 = .ok (.goto 5, 3) := by decide +kernel
theorem dX9_refine_139 : decode cX9_refine 139 = .ok (.iload 5, 2) := by decide +kernel
theorem dX9_refine_141 : decode cX9_refine 141 = .ok (.invokestatic 147, 3) := by decide +kernel
theorem dX9_refine_144 : decode cX9_refine 144 = .ok (.iastore, 1) := by decide +kernel
theorem dX9_refine_145 : decode cX9_refine 145 = .ok (.iload_n 2, 1) := by decide +kernel
theorem dX9_refine_146 : decode cX9_refine 146 = .ok (.iconst 3, 1) := by decide +kernel
theorem dX9_refine_147 : decode cX9_refine 147 = .ok (.if_icmp .eq 4, 3) := by decide +kernel
theorem dX9_refine_150 : decode cX9_refine 150 = .ok (.return_, 1) := by decide +kernel
theorem dX9_refine_151 : decode cX9_refine 151 = .ok (.iload 6, 2) := by decide +kernel
theorem dX9_refine_153 : decode cX9_refine 153 = .ok (.iload 7, 2) := by decide +kernel
theorem dX9_refine_155 : decode cX9_refine 155 = .ok (.if_icmp .ne 45, 3) := by decide +kernel
theorem dX9_refine_158 : decode cX9_refine 158 = .ok (.aload_n 0, 1) := by decide +kernel
theorem dX9_refine_159 : decode cX9_refine 159 = .ok (.getfield 66, 3) := by decide +kernel
theorem dX9_refine_162 : decode cX9_refine 162 = .ok (.iload_n 1, 1) := by decide +kernel
theorem dX9_refine_163 : decode cX9_refine 163 = .ok (.dup2, 1) := by decide +kernel
theorem dX9_refine_164 : decode cX9_refine 164 = .ok (.iaload, 1) := by decide +kernel
theorem dX9_refine_165 : decode cX9_refine 165 = .ok (.iload 4, 2) := by decide +kernel
theorem dX9_refine_167 : decode cX9_refine 167 = .ok (.iload 6, 2) := by decide +kernel
theorem dX9_refine_169 : decode cX9_refine 169 = .ok (.if_icmp .ne 7, 3) := by decide +kernel
theorem dX9_refine_172 : decode cX9_refine 172 = .ok (.iconst 1, 1) := by decide +kernel
theorem dX9_refine_173 : decode cX9_refine 173 = .ok (.goto 4, 3) := by decide +kernel
theorem dX9_refine_176 : decode cX9_refine 176 = .ok (.iconst 0, 1) := by decide +kernel
theorem dX9_refine_177 : decode cX9_refine 177 = .ok (.iadd, 1) := by decide +kernel
theorem dX9_refine_178 : decode cX9_refine 178 = .ok (.iastore, 1) := by decide +kernel
theorem dX9_refine_179 : decode cX9_refine 179 = .ok (.aload_n 0, 1) := by decide +kernel
theorem dX9_refine_180 : decode cX9_refine 180 = .ok (.getfield 69, 3) := by decide +kernel
theorem dX9_refine_183 : decode cX9_refine 183 = .ok (.iload_n 1, 1) := by decide +kernel
theorem dX9_refine_184 : decode cX9_refine 184 = .ok (.dup2, 1) := by decide +kernel
theorem dX9_refine_185 : decode cX9_refine 185 = .ok (.iaload, 1) := by decide +kernel
theorem dX9_refine_186 : decode cX9_refine 186 = .ok (.iload 5, 2) := by decide +kernel
theorem dX9_refine_188 : decode cX9_refine 188 = .ok (.iload 6, 2) := by decide +kernel
theorem dX9_refine_190 : decode cX9_refine 190 = .ok (.if_icmp .ne 7, 3) := by decide +kernel
theorem dX9_refine_193 : decode cX9_refine 193 = .ok (.iconst 1, 1) := by decide +kernel
theorem dX9_refine_194 : decode cX9_refine 194 = .ok (.goto 4, 3) := by decide +kernel
theorem dX9_refine_197 : decode cX9_refine 197 = .ok (.iconst 0, 1) := by decide +kernel
theorem dX9_refine_198 : decode cX9_refine 198 = .ok (.isub, 1) := by decide +kernel
theorem dX9_refine_199 : decode cX9_refine 199 = .ok (.iastore, 1) := by decide +kernel
theorem dX9_refine_200 : decode cX9_refine 200 = .ok (.iload 4, 2) := by decide +kernel
theorem dX9_refine_202 : decode cX9_refine 202 = .ok (.iload 5, 2) := by decide +kernel
theorem dX9_refine_204 : decode cX9_refine 204 = .ok (.if_icmp .ne 45, 3) := by decide +kernel
theorem dX9_refine_207 : decode cX9_refine 207 = .ok (.aload_n 0, 1) := by decide +kernel
theorem dX9_refine_208 : decode cX9_refine 208 = .ok (.getfield 66, 3) := by decide +kernel
theorem dX9_refine_211 : decode cX9_refine 211 = .ok (.iload_n 3, 1) := by decide +kernel
theorem dX9_refine_212 : decode cX9_refine 212 = .ok (.dup2, 1) := by decide +kernel
theorem dX9_refine_213 : decode cX9_refine 213 = .ok (.iaload, 1) := by decide +kernel
theorem dX9_refine_214 : decode cX9_refine 214 = .ok (.iload 6, 2) := by decide +kernel
theorem dX9_refine_216 : decode cX9_refine 216 = .ok (.iload 4, 2) := by decide +kernel
theorem dX9_refine_218 : decode cX9_refine 218 = .ok (.if_icmp .ne 7, 3) := by decide +kernel
theorem dX9_refine_221 : decode cX9_refine 221 = .ok (.iconst 1, 1) := by decide +kernel
theorem dX9_refine_222 : decode cX9_refine 222 = .ok (.goto 4, 3) := by decide +kernel
theorem dX9_refine_225 : decode cX9_refine 225 = .ok (.iconst 0, 1) := by decide +kernel
theorem dX9_refine_226 : decode cX9_refine 226 = .ok (.iadd, 1) := by decide +kernel
theorem dX9_refine_227 : decode cX9_refine 227 = .ok (.iastore, 1) := by decide +kernel
theorem dX9_refine_228 : decode cX9_refine 228 = .ok (.aload_n 0, 1) := by decide +kernel
theorem dX9_refine_229 : decode cX9_refine 229 = .ok (.getfield 69, 3) := by decide +kernel
theorem dX9_refine_232 : decode cX9_refine 232 = .ok (.iload_n 3, 1) := by decide +kernel
theorem dX9_refine_233 : decode cX9_refine 233 = .ok (.dup2, 1) := by decide +kernel
theorem dX9_refine_234 : decode cX9_refine 234 = .ok (.iaload, 1) := by decide +kernel
theorem dX9_refine_235 : decode cX9_refine 235 = .ok (.iload 7, 2) := by decide +kernel
theorem dX9_refine_237 : decode cX9_refine 237 = .ok (.iload 4, 2) := by decide +kernel
theorem dX9_refine_239 : decode cX9_refine 239 = .ok (.if_icmp .ne 7, 3) := by decide +kernel
theorem dX9_refine_242 : decode cX9_refine 242 = .ok (.iconst 1, 1) := by decide +kernel
theorem dX9_refine_243 : decode cX9_refine 243 = .ok (.goto 4, 3) := by decide +kernel
theorem dX9_refine_246 : decode cX9_refine 246 = .ok (.iconst 0, 1) := by decide +kernel
theorem dX9_refine_247 : decode cX9_refine 247 = .ok (.isub, 1) := by decide +kernel
theorem dX9_refine_248 : decode cX9_refine 248 = .ok (.iastore, 1) := by decide +kernel
theorem dX9_refine_249 : decode cX9_refine 249 = .ok (.return_, 1) := by decide +kernel
set_option maxRecDepth 20000 in
theorem ggX9_reach_X9_leave : GoodIn wsX9_reach wsX9_leave := goodIn_r _ [12, 6, 13, 7, 14, 15, 16, 17, 18, 11, 19, 20, 21, 22, 23, 24, 25, 26, 27, 28, 29, 30, 31, 32, 33, 34, 35, 36, 37, 38, 39, 40, 41, 42, 43, 44, 45, 46, 54, 55, 56, 57, 58, 59, 60, 61, 62, 63, 64, 65, 66, 67, 68, 69, 70, 71, 72, 73, 74, 75, 76, 77, 78, 79, 80, 81, 82, 83, 84] (by decide +kernel) (by decide +kernel)
set_option maxRecDepth 20000 in
theorem gX9_reach_X9_leave : GoodIn wsX9_reach (wsV RX9 156 RX9 yX9_leave wsX9_leave) := goodIn_app (goodIn_of _ (by decide +kernel)) ggX9_reach_X9_leave
set_option maxRecDepth 20000 in
theorem ggX9_reach_X9_opposite : GoodIn wsX9_reach wsX9_opposite := goodIn_r _ [49] (by decide +kernel) (by decide +kernel)
set_option maxRecDepth 20000 in
theorem gX9_reach_X9_opposite : GoodIn wsX9_reach (va_wsS RX9 159 yX9_opposite wsX9_opposite) := goodIn_app (goodIn_of _ (by decide +kernel)) ggX9_reach_X9_opposite
set_option maxRecDepth 20000 in
theorem ggX9_reach_X9_refine : GoodIn wsX9_reach wsX9_refine := goodIn_r _ [53, 6, 7, 21, 22, 23, 24, 25, 26, 27, 54, 55, 56, 57, 58, 59, 60, 61, 62, 63, 64, 65, 66, 67, 68, 69, 70, 71, 72, 73, 74, 75, 76, 77, 78, 79, 80, 81, 82, 83, 84] (by decide +kernel) (by decide +kernel)
set_option maxRecDepth 20000 in
theorem gX9_reach_X9_refine : GoodIn wsX9_reach (wsV RX9 162 RX9 yX9_refine wsX9_refine) := goodIn_app (goodIn_of _ (by decide +kernel)) ggX9_reach_X9_refine
theorem dX9_reach_0 : decode cX9_reach 0 = .ok (.aload_n 0, 1) := by decide +kernel
theorem dX9_reach_1 : decode cX9_reach 1 = .ok (.getfield 53, 3) := by decide +kernel
theorem dX9_reach_4 : decode cX9_reach 4 = .ok (.iload_n 1, 1) := by decide +kernel
theorem dX9_reach_5 : decode cX9_reach 5 = .ok (.baload, 1) := by decide +kernel
theorem dX9_reach_6 : decode cX9_reach 6 = .ok (.ifCond .ne 5, 3) := by decide +kernel
theorem dX9_reach_9 : decode cX9_reach 9 = .ok (.iconst 0, 1) := by decide +kernel
theorem dX9_reach_10 : decode cX9_reach 10 = .ok (.ireturn, 1) := by decide +kernel
theorem dX9_reach_11 : decode cX9_reach 11 = .ok (.aload_n 0, 1) := by decide +kernel
theorem dX9_reach_12 : decode cX9_reach 12 = .ok (.iload_n 1, 1) := by decide +kernel
theorem dX9_reach_13 : decode cX9_reach 13 = .ok (.invokevirtual 156, 3) := by decide +kernel
theorem dX9_reach_16 : decode cX9_reach 16 = .ok (.aload_n 0, 1) := by decide +kernel
theorem dX9_reach_17 : decode cX9_reach 17 = .ok (.getfield 20, 3) := by decide +kernel
theorem dX9_reach_20 : decode cX9_reach 20 = .ok (.iload_n 1, 1) := by decide +kernel
theorem dX9_reach_21 : decode cX9_reach 21 = .ok (.iaload, 1) := by decide +kernel
theorem dX9_reach_22 : decode cX9_reach 22 = .ok (.iconst 2, 1) := by decide +kernel
theorem dX9_reach_23 : decode cX9_reach 23 = .ok (.if_icmp .ge 5, 3) := by decide +kernel
theorem dX9_reach_26 : decode cX9_reach 26 = .ok (.iconst 1, 1) := by decide +kernel
theorem dX9_reach_27 : decode cX9_reach 27 = .ok (.ireturn, 1) := by decide +kernel
theorem dX9_reach_28 : decode cX9_reach 28 = .ok (.aload_n 0, 1) := by decide +kernel
theorem dX9_reach_29 : decode cX9_reach 29 = .ok (.getfield 29, 3) := by decide +kernel
theorem dX9_reach_32 : decode cX9_reach 32 = .ok (.iload_n 1, 1) := by decide +kernel
theorem dX9_reach_33 : decode cX9_reach 33 = .ok (.iaload, 1) := by decide +kernel
theorem dX9_reach_34 : decode cX9_reach 34 = .ok (.istore_n 3, 1) := by decide +kernel
theorem dX9_reach_35 : decode cX9_reach 35 = .ok (.aload_n 0, 1) := by decide +kernel
theorem dX9_reach_36 : decode cX9_reach 36 = .ok (.getfield 32, 3) := by decide +kernel
theorem dX9_reach_39 : decode cX9_reach 39 = .ok (.iload_n 1, 1) := by decide +kernel
theorem dX9_reach_40 : decode cX9_reach 40 = .ok (.iaload, 1) := by decide +kernel
theorem dX9_reach_41 : decode cX9_reach 41 = .ok (.istore 4, 2) := by decide +kernel
theorem dX9_reach_43 : decode cX9_reach 43 = .ok (.iload_n 2, 1) := by decide +kernel
theorem dX9_reach_44 : decode cX9_reach 44 = .ok (.ifCond .ne 12, 3) := by decide +kernel
theorem dX9_reach_47 : decode cX9_reach 47 = .ok (.aload_n 0, 1) := by decide +kernel
theorem dX9_reach_48 : decode cX9_reach 48 = .ok (.getfield 35, 3) := by decide +kernel
theorem dX9_reach_51 : decode cX9_reach 51 = .ok (.iload_n 1, 1) := by decide +kernel
theorem dX9_reach_52 : decode cX9_reach 52 = .ok (.iaload, 1) := by decide +kernel
theorem dX9_reach_53 : decode cX9_reach 53 = .ok (.goto 12, 3) := by decide +kernel
theorem dX9_reach_56 : decode cX9_reach 56 = .ok (.aload_n 0, 1) := by decide +kernel
theorem dX9_reach_57 : decode cX9_reach 57 = .ok (.getfield 35, 3) := by decide +kernel
theorem dX9_reach_60 : decode cX9_reach 60 = .ok (.iload_n 1, 1) := by decide +kernel
theorem dX9_reach_61 : decode cX9_reach 61 = .ok (.iaload, 1) := by decide +kernel
theorem dX9_reach_62 : decode cX9_reach 62 = .ok (.invokestatic 159, 3) := by decide +kernel
theorem dX9_reach_65 : decode cX9_reach 65 = .ok (.istore 5, 2) := by decide +kernel
theorem dX9_reach_67 : decode cX9_reach 67 = .ok (.iload_n 3, 1) := by decide +kernel
theorem dX9_reach_68 : decode cX9_reach 68 = .ok (.iload 4, 2) := by decide +kernel
theorem dX9_reach_70 : decode cX9_reach 70 = .ok (.if_icmp .ne 27, 3) := by decide +kernel
theorem dX9_reach_73 : decode cX9_reach 73 = .ok (.iload 5, 2) := by decide +kernel
theorem dX9_reach_75 : decode cX9_reach 75 = .ok (.iconst 1, 1) := by decide +kernel
theorem dX9_reach_76 : decode cX9_reach 76 = .ok (.if_icmp .eq 15, 3) := by decide +kernel
theorem dX9_reach_79 : decode cX9_reach 79 = .ok (.iload 5, 2) := by decide +kernel
theorem dX9_reach_81 : decode cX9_reach 81 = .ok (.iconst 2, 1) := by decide +kernel
theorem dX9_reach_82 : decode cX9_reach 82 = .ok (.if_icmp .eq 9, 3) := by decide +kernel
theorem dX9_reach_85 : decode cX9_reach 85 = .ok (.iload 5, 2) := by decide +kernel
theorem dX9_reach_87 : decode cX9_reach 87 = .ok (.iconst 4, 1) := by decide +kernel
theorem dX9_reach_88 : decode cX9_reach 88 = .ok (.if_icmp .ne 7, 3) := by decide +kernel
theorem dX9_reach_91 : decode cX9_reach 91 = .ok (.iconst 1, 1) := by decide +kernel
theorem dX9_reach_92 : decode cX9_reach 92 = .ok (.goto 4, 3) := by decide +kernel
theorem dX9_reach_95 : decode cX9_reach 95 = .ok (.iconst 0, 1) := by decide +kernel
theorem dX9_reach_96 : decode cX9_reach 96 = .ok (.ireturn, 1) := by decide +kernel
theorem dX9_reach_97 : decode cX9_reach 97 = .ok (.aload_n 0, 1) := by decide +kernel
theorem dX9_reach_98 : decode cX9_reach 98 = .ok (.iload_n 3, 1) := by decide +kernel
theorem dX9_reach_99 : decode cX9_reach 99 = .ok (.iload 5, 2) := by decide +kernel
theorem dX9_reach_101 : decode cX9_reach 101 = .ok (.iload 4, 2) := by decide +kernel
theorem dX9_reach_103 : decode cX9_reach 103 = .ok (.invokevirtual 162, 3) := by decide +kernel
theorem dX9_reach_106 : decode cX9_reach 106 = .ok (.aload_n 0, 1) := by decide +kernel
theorem dX9_reach_107 : decode cX9_reach 107 = .ok (.getfield 66, 3) := by decide +kernel
theorem dX9_reach_110 : decode cX9_reach 110 = .ok (.iload_n 3, 1) := by decide +kernel
theorem dX9_reach_111 : decode cX9_reach 111 = .ok (.iaload, 1) := by decide +kernel
theorem dX9_reach_112 : decode cX9_reach 112 = .ok (.aload_n 0, 1) := by decide +kernel
theorem dX9_reach_113 : decode cX9_reach 113 = .ok (.getfield 69, 3) := by decide +kernel
theorem dX9_reach_116 : decode cX9_reach 116 = .ok (.iload_n 3, 1) := by decide +kernel
theorem dX9_reach_117 : decode cX9_reach 117 = .ok (.iaload, 1) := by decide +kernel
theorem dX9_reach_118 : decode cX9_reach 118 = .ok (.if_icmp .gt 24, 3) := by decide +kernel
theorem dX9_reach_121 : decode cX9_reach 121 = .ok (.aload_n 0, 1) := by decide +kernel
theorem dX9_reach_122 : decode cX9_reach 122 = .ok (.getfield 66, 3) := by decide +kernel
theorem dX9_reach_125 : decode cX9_reach 125 = .ok (.iload 4, 2) := by decide +kernel
theorem dX9_reach_127 : decode cX9_reach 127 = .ok (.iaload, 1) := by decide +kernel
theorem dX9_reach_128 : decode cX9_reach 128 = .ok (.aload_n 0, 1) := by decide +kernel
theorem dX9_reach_129 : decode cX9_reach 129 = .ok (.getfield 69, 3) := by decide +kernel
theorem dX9_reach_132 : decode cX9_reach 132 = .ok (.iload 4, 2) := by decide +kernel
theorem dX9_reach_134 : decode cX9_reach 134 = .ok (.iaload, 1) := by decide +kernel
theorem dX9_reach_135 : decode cX9_reach 135 = .ok (.if_icmp .gt 7, 3) := by decide +kernel
theorem dX9_reach_138 : decode cX9_reach 138 = .ok (.iconst 1, 1) := by decide +kernel
theorem dX9_reach_139 : decode cX9_reach 139 = .ok (.goto 4, 3) := by decide +kernel
theorem dX9_reach_142 : decode cX9_reach 142 = .ok (.iconst 0, 1) := by decide +kernel
theorem dX9_reach_143 : decode cX9_reach 143 = .ok (.ireturn, 1) := by decide +kernel
theorem dX9_join_0 : decode cX9_join 0 = .ok (.iconst 0, 1) := by decide +kernel
theorem dX9_join_1 : decode cX9_join 1 = .ok (.istore_n 1, 1) := by decide +kernel
theorem dX9_join_2 : decode cX9_join 2 = .ok (.iload_n 1, 1) := by decide +kernel
theorem dX9_join_3 : decode cX9_join 3 = .ok (.bipush 6, 2) := by decide +kernel
theorem dX9_join_5 : decode cX9_join 5 = .ok (.if_icmp .ge 83, 3) := by decide +kernel
theorem dX9_join_8 : decode cX9_join 8 = .ok (.aload_n 0, 1) := by decide +kernel
theorem dX9_join_9 : decode cX9_join 9 = .ok (.getfield 72, 3) := by decide +kernel
theorem dX9_join_12 : decode cX9_join 12 = .ok (.iload_n 1, 1) := by decide +kernel
theorem dX9_join_13 : decode cX9_join 13 = .ok (.aload_n 0, 1) := by decide +kernel
theorem dX9_join_14 : decode cX9_join 14 = .ok (.getfield 165, 3) := by decide +kernel
theorem dX9_join_17 : decode cX9_join 17 = .ok (.ifCond .eq 21, 3) := by decide +kernel
theorem dX9_join_20 : decode cX9_join 20 = .ok (.aload_n 0, 1) := by decide +kernel
theorem dX9_join_21 : decode cX9_join 21 = .ok (.getfield 72, 3) := by decide +kernel
theorem dX9_join_24 : decode cX9_join 24 = .ok (.iload_n 1, 1) := by decide +kernel
theorem dX9_join_25 : decode cX9_join 25 = .ok (.iaload, 1) := by decide +kernel
theorem dX9_join_26 : decode cX9_join 26 = .ok (.aload_n 0, 1) := by decide +kernel
theorem dX9_join_27 : decode cX9_join 27 = .ok (.getfield 66, 3) := by decide +kernel
theorem dX9_join_30 : decode cX9_join 30 = .ok (.iload_n 1, 1) := by decide +kernel
theorem dX9_join_31 : decode cX9_join 31 = .ok (.iaload, 1) := by decide +kernel
theorem dX9_join_32 : decode cX9_join 32 = .ok (.invokestatic 147, 3) := by decide +kernel
theorem dX9_join_35 : decode cX9_join 35 = .ok (.goto 9, 3) := by decide +kernel
theorem dX9_join_38 : decode cX9_join 38 = .ok (.aload_n 0, 1) := by decide +kernel
theorem dX9_join_39 : decode cX9_join 39 = .ok (.getfield 66, 3) := by decide +kernel
theorem dX9_join_42 : decode cX9_join 42 = .ok (.iload_n 1, 1) := by decide +kernel
theorem dX9_join_43 : decode cX9_join 43 = .ok (.iaload, 1) := by decide +kernel
theorem dX9_join_44 : decode cX9_join 44 = .ok (.iastore, 1) := by decide +kernel
theorem dX9_join_45 : decode cX9_join 45 = .ok (.aload_n 0, 1) := by decide +kernel
theorem dX9_join_46 : decode cX9_join 46 = .ok (.getfield 75, 3) := by decide +kernel
theorem dX9_join_49 : decode cX9_join 49 = .ok (.iload_n 1, 1) := by decide +kernel
theorem dX9_join_50 : decode cX9_join 50 = .ok (.aload_n 0, 1) := by decide +kernel
theorem dX9_join_51 : decode cX9_join 51 = .ok (.getfield 165, 3) := by decide +kernel
theorem dX9_join_54 : decode cX9_join 54 = .ok (.ifCond .eq 21, 3) := by decide +kernel
theorem dX9_join_57 : decode cX9_join 57 = .ok (.aload_n 0, 1) := by decide +kernel
theorem dX9_join_58 : decode cX9_join 58 = .ok (.getfield 75, 3) := by decide +kernel
theorem dX9_join_61 : decode cX9_join 61 = .ok (.iload_n 1, 1) := by decide +kernel
theorem dX9_join_62 : decode cX9_join 62 = .ok (.iaload, 1) := by decide +kernel
theorem dX9_join_63 : decode cX9_join 63 = .ok (.aload_n 0, 1) := by decide +kernel
theorem dX9_join_64 : decode cX9_join 64 = .ok (.getfield 69, 3) := by decide +kernel
theorem dX9_join_67 : decode cX9_join 67 = .ok (.iload_n 1, 1) := by decide +kernel
theorem dX9_join_68 : decode cX9_join 68 = .ok (.iaload, 1) := by decide +kernel
theorem dX9_join_69 : decode cX9_join 69 = .ok (.invokestatic 150, 3) := by decide +kernel
theorem dX9_join_72 : decode cX9_join 72 = .ok (.goto 9, 3) := by decide +kernel
theorem dX9_join_75 : decode cX9_join 75 = .ok (.aload_n 0, 1) := by decide +kernel
theorem dX9_join_76 : decode cX9_join 76 = .ok (.getfield 69, 3) := by decide +kernel
theorem dX9_join_79 : decode cX9_join 79 = .ok (.iload_n 1, 1) := by decide +kernel
theorem dX9_join_80 : decode cX9_join 80 = .ok (.iaload, 1) := by decide +kernel
theorem dX9_join_81 : decode cX9_join 81 = .ok (.iastore, 1) := by decide +kernel
theorem dX9_join_82 : decode cX9_join 82 = .ok (.iinc 1 1, 3) := by decide +kernel
theorem dX9_join_85 : decode cX9_join 85 = .ok (.goto (-83), 3) := by decide +kernel
theorem dX9_join_88 : decode cX9_join 88 = .ok (.aload_n 0, 1) := by decide +kernel
theorem dX9_join_89 : decode cX9_join 89 = .ok (.iconst 1, 1) := by decide +kernel
theorem dX9_join_90 : decode cX9_join 90 = .ok (.putfield 165, 3) := by decide +kernel
theorem dX9_join_93 : decode cX9_join 93 = .ok (.return_, 1) := by decide +kernel
set_option maxRecDepth 20000 in
theorem ggX9_gather_X9_reach : GoodIn wsX9_gather wsX9_reach := goodIn_r _ [14, 15, 3, 16, 17, 18, 6, 8, 19, 20, 21, 13, 22, 23, 24, 25, 26, 27, 28, 29, 30, 31, 32, 33, 34, 35, 36, 37, 38, 39, 40, 41, 42, 43, 44, 45, 46, 47, 48, 49, 50, 51, 52, 53, 54, 55, 56, 57, 58, 59, 60, 61, 62, 63, 70, 71, 72, 73, 74, 75, 76, 77, 78, 79, 80, 81, 82, 83, 84, 85, 86, 87, 88, 89, 90, 91, 92, 93, 94, 95, 96, 97, 98, 99, 100] (by decide +kernel) (by decide +kernel)
set_option maxRecDepth 20000 in
theorem gX9_gather_X9_reach : GoodIn wsX9_gather (wsV RX9 168 RX9 yX9_reach wsX9_reach) := goodIn_app (goodIn_of _ (by decide +kernel)) ggX9_gather_X9_reach
set_option maxRecDepth 20000 in
theorem ggX9_gather_X9_join : GoodIn wsX9_gather wsX9_join := goodIn_r _ [67, 68, 1, 6, 31, 32, 33, 34, 69, 8, 35, 36, 37, 70, 71, 72, 73, 74, 75, 76, 77, 78, 79, 80, 81, 82, 83, 84, 85, 86, 87, 88, 89, 90, 91, 92, 93, 94, 95, 96, 97, 98, 99, 100] (by decide +kernel) (by decide +kernel)
set_option maxRecDepth 20000 in
theorem gX9_gather_X9_join : GoodIn wsX9_gather (wsV RX9 171 RX9 yX9_join wsX9_join) := goodIn_app (goodIn_of _ (by decide +kernel)) ggX9_gather_X9_join
theorem dX9_gather_0 : decode cX9_gather 0 = .ok (.aload_n 0, 1) := by decide +kernel
theorem dX9_gather_1 : decode cX9_gather 1 = .ok (.iconst 0, 1) := by decide +kernel
theorem dX9_gather_2 : decode cX9_gather 2 = .ok (.putfield 165, 3) := by decide +kernel
theorem dX9_gather_5 : decode cX9_gather 5 = .ok (.iconst 0, 1) := by decide +kernel
theorem dX9_gather_6 : decode cX9_gather 6 = .ok (.istore_n 2, 1) := by decide +kernel
theorem dX9_gather_7 : decode cX9_gather 7 = .ok (.iload_n 2, 1) := by decide +kernel
theorem dX9_gather_8 : decode cX9_gather 8 = .ok (.aload_n 0, 1) := by decide +kernel
theorem dX9_gather_9 : decode cX9_gather 9 = .ok (.getfield 7, 3) := by decide +kernel
theorem dX9_gather_12 : decode cX9_gather 12 = .ok (.if_icmp .ge 63, 3) := by decide +kernel
theorem dX9_gather_15 : decode cX9_gather 15 = .ok (.iconst 0, 1) := by decide +kernel
theorem dX9_gather_16 : decode cX9_gather 16 = .ok (.istore_n 3, 1) := by decide +kernel
theorem dX9_gather_17 : decode cX9_gather 17 = .ok (.iload_n 3, 1) := by decide +kernel
theorem dX9_gather_18 : decode cX9_gather 18 = .ok (.aload_n 0, 1) := by decide +kernel
theorem dX9_gather_19 : decode cX9_gather 19 = .ok (.getfield 20, 3) := by decide +kernel
theorem dX9_gather_22 : decode cX9_gather 22 = .ok (.iload_n 2, 1) := by decide +kernel
theorem dX9_gather_23 : decode cX9_gather 23 = .ok (.iaload, 1) := by decide +kernel
theorem dX9_gather_24 : decode cX9_gather 24 = .ok (.if_icmp .ge 45, 3) := by decide +kernel
theorem dX9_gather_27 : decode cX9_gather 27 = .ok (.iload_n 3, 1) := by decide +kernel
theorem dX9_gather_28 : decode cX9_gather 28 = .ok (.ifCond .ne 12, 3) := by decide +kernel
theorem dX9_gather_31 : decode cX9_gather 31 = .ok (.aload_n 0, 1) := by decide +kernel
theorem dX9_gather_32 : decode cX9_gather 32 = .ok (.getfield 23, 3) := by decide +kernel
theorem dX9_gather_35 : decode cX9_gather 35 = .ok (.iload_n 2, 1) := by decide +kernel
theorem dX9_gather_36 : decode cX9_gather 36 = .ok (.iaload, 1) := by decide +kernel
theorem dX9_gather_37 : decode cX9_gather 37 = .ok (.goto 9, 3) := by decide +kernel
theorem dX9_gather_40 : decode cX9_gather 40 = .ok (.aload_n 0, 1) := by decide +kernel
theorem dX9_gather_41 : decode cX9_gather 41 = .ok (.getfield 26, 3) := by decide +kernel
theorem dX9_gather_44 : decode cX9_gather 44 = .ok (.iload_n 2, 1) := by decide +kernel
theorem dX9_gather_45 : decode cX9_gather 45 = .ok (.iaload, 1) := by decide +kernel
theorem dX9_gather_46 : decode cX9_gather 46 = .ok (.iload_n 1, 1) := by decide +kernel
theorem dX9_gather_47 : decode cX9_gather 47 = .ok (.if_icmp .ne 16, 3) := by decide +kernel
theorem dX9_gather_50 : decode cX9_gather 50 = .ok (.aload_n 0, 1) := by decide +kernel
theorem dX9_gather_51 : decode cX9_gather 51 = .ok (.iload_n 2, 1) := by decide +kernel
theorem dX9_gather_52 : decode cX9_gather 52 = .ok (.iload_n 3, 1) := by decide +kernel
theorem dX9_gather_53 : decode cX9_gather 53 = .ok (.invokevirtual 168, 3) := by decide +kernel
theorem dX9_gather_56 : decode cX9_gather 56 = .ok (.ifCond .eq 7, 3) := by decide +kernel
theorem dX9_gather_59 : decode cX9_gather 59 = .ok (.aload_n 0, 1) := by decide +kernel
theorem dX9_gather_60 : decode cX9_gather 60 = .ok (.invokevirtual 171, 3) := by decide +kernel
theorem dX9_gather_63 : decode cX9_gather 63 = .ok (.iinc 3 1, 3) := by decide +kernel
theorem dX9_gather_66 : decode cX9_gather 66 = .ok (.goto (-49), 3) := by decide +kernel
theorem dX9_gather_69 : decode cX9_gather 69 = .ok (.iinc 2 1, 3) := by decide +kernel
theorem dX9_gather_72 : decode cX9_gather 72 = .ok (.goto (-65), 3) := by decide +kernel
theorem dX9_gather_75 : decode cX9_gather 75 = .ok (.iload_n 1, 1) := by decide +kernel
theorem dX9_gather_76 : decode cX9_gather 76 = .ok (.ifCond .eq 4, 3) := by decide +kernel
theorem dX9_gather_79 : decode cX9_gather 79 = .ok (.return_, 1) := by decide +kernel
theorem dX9_gather_80 : decode cX9_gather 80 = .ok (.iconst 0, 1) := by decide +kernel
theorem dX9_gather_81 : decode cX9_gather 81 = .ok (.istore_n 2, 1) := by decide +kernel
theorem dX9_gather_82 : decode cX9_gather 82 = .ok (.iload_n 2, 1) := by decide +kernel
theorem dX9_gather_83 : decode cX9_gather 83 = .ok (.bipush 6, 2) := by decide +kernel
theorem dX9_gather_85 : decode cX9_gather 85 = .ok (.if_icmp .ge 33, 3) := by decide +kernel
theorem dX9_gather_88 : decode cX9_gather 88 = .ok (.aload_n 0, 1) := by decide +kernel
theorem dX9_gather_89 : decode cX9_gather 89 = .ok (.getfield 66, 3) := by decide +kernel
theorem dX9_gather_92 : decode cX9_gather 92 = .ok (.iload_n 2, 1) := by decide +kernel
theorem dX9_gather_93 : decode cX9_gather 93 = .ok (.aload_n 0, 1) := by decide +kernel
theorem dX9_gather_94 : decode cX9_gather 94 = .ok (.getfield 38, 3) := by decide +kernel
theorem dX9_gather_97 : decode cX9_gather 97 = .ok (.iload_n 2, 1) := by decide +kernel
theorem dX9_gather_98 : decode cX9_gather 98 = .ok (.iaload, 1) := by decide +kernel
theorem dX9_gather_99 : decode cX9_gather 99 = .ok (.iastore, 1) := by decide +kernel
theorem dX9_gather_100 : decode cX9_gather 100 = .ok (.aload_n 0, 1) := by decide +kernel
theorem dX9_gather_101 : decode cX9_gather 101 = .ok (.getfield 69, 3) := by decide +kernel
theorem dX9_gather_104 : decode cX9_gather 104 = .ok (.iload_n 2, 1) := by decide +kernel
theorem dX9_gather_105 : decode cX9_gather 105 = .ok (.aload_n 0, 1) := by decide +kernel
theorem dX9_gather_106 : decode cX9_gather 106 = .ok (.getfield 41, 3) := by decide +kernel
theorem dX9_gather_109 : decode cX9_gather 109 = .ok (.iload_n 2, 1) := by decide +kernel
theorem dX9_gather_110 : decode cX9_gather 110 = .ok (.iaload, 1) := by decide +kernel
theorem dX9_gather_111 : decode cX9_gather 111 = .ok (.iastore, 1) := by decide +kernel
theorem dX9_gather_112 : decode cX9_gather 112 = .ok (.iinc 2 1, 3) := by decide +kernel
theorem dX9_gather_115 : decode cX9_gather 115 = .ok (.goto (-33), 3) := by decide +kernel
theorem dX9_gather_118 : decode cX9_gather 118 = .ok (.aload_n 0, 1) := by decide +kernel
theorem dX9_gather_119 : decode cX9_gather 119 = .ok (.invokevirtual 171, 3) := by decide +kernel
theorem dX9_gather_122 : decode cX9_gather 122 = .ok (.return_, 1) := by decide +kernel
theorem dX9_below_0 : decode cX9_below 0 = .ok (.ldc 90, 2) := by decide +kernel
theorem dX9_below_2 : decode cX9_below 2 = .ok (.istore_n 2, 1) := by decide +kernel
theorem dX9_below_3 : decode cX9_below 3 = .ok (.iconst 0, 1) := by decide +kernel
theorem dX9_below_4 : decode cX9_below 4 = .ok (.istore_n 3, 1) := by decide +kernel
theorem dX9_below_5 : decode cX9_below 5 = .ok (.iload_n 3, 1) := by decide +kernel
theorem dX9_below_6 : decode cX9_below 6 = .ok (.aload_n 0, 1) := by decide +kernel
theorem dX9_below_7 : decode cX9_below 7 = .ok (.getfield 119, 3) := by decide +kernel
theorem dX9_below_10 : decode cX9_below 10 = .ok (.if_icmp .ge 30, 3) := by decide +kernel
theorem dX9_below_13 : decode cX9_below 13 = .ok (.aload_n 0, 1) := by decide +kernel
theorem dX9_below_14 : decode cX9_below 14 = .ok (.getfield 50, 3) := by decide +kernel
theorem dX9_below_17 : decode cX9_below 17 = .ok (.iload_n 3, 1) := by decide +kernel
theorem dX9_below_18 : decode cX9_below 18 = .ok (.iaload, 1) := by decide +kernel
theorem dX9_below_19 : decode cX9_below 19 = .ok (.iload_n 1, 1) := by decide +kernel
theorem dX9_below_20 : decode cX9_below 20 = .ok (.if_icmp .gt 14, 3) := by decide +kernel
theorem dX9_below_23 : decode cX9_below 23 = .ok (.iload_n 2, 1) := by decide +kernel
theorem dX9_below_24 : decode cX9_below 24 = .ok (.aload_n 0, 1) := by decide +kernel
theorem dX9_below_25 : decode cX9_below 25 = .ok (.getfield 50, 3) := by decide +kernel
theorem dX9_below_28 : decode cX9_below 28 = .ok (.iload_n 3, 1) := by decide +kernel
theorem dX9_below_29 : decode cX9_below 29 = .ok (.iaload, 1) := by decide +kernel
theorem dX9_below_30 : decode cX9_below 30 = .ok (.invokestatic 150, 3) := by decide +kernel
theorem dX9_below_33 : decode cX9_below 33 = .ok (.istore_n 2, 1) := by decide +kernel
theorem dX9_below_34 : decode cX9_below 34 = .ok (.iinc 3 1, 3) := by decide +kernel
theorem dX9_below_37 : decode cX9_below 37 = .ok (.goto (-32), 3) := by decide +kernel
theorem dX9_below_40 : decode cX9_below 40 = .ok (.iload_n 1, 1) := by decide +kernel
theorem dX9_below_41 : decode cX9_below 41 = .ok (.ldc 91, 2) := by decide +kernel
theorem dX9_below_43 : decode cX9_below 43 = .ok (.if_icmp .ne 8, 3) := by decide +kernel
theorem dX9_below_46 : decode cX9_below 46 = .ok (.ldc 91, 2) := by decide +kernel
theorem dX9_below_48 : decode cX9_below 48 = .ok (.goto 4, 3) := by decide +kernel
theorem dX9_below_51 : decode cX9_below 51 = .ok (.iload_n 2, 1) := by decide +kernel
theorem dX9_below_52 : decode cX9_below 52 = .ok (.ireturn, 1) := by decide +kernel
theorem dX9_above_0 : decode cX9_above 0 = .ok (.ldc 91, 2) := by decide +kernel
theorem dX9_above_2 : decode cX9_above 2 = .ok (.istore_n 2, 1) := by decide +kernel
theorem dX9_above_3 : decode cX9_above 3 = .ok (.iconst 0, 1) := by decide +kernel
theorem dX9_above_4 : decode cX9_above 4 = .ok (.istore_n 3, 1) := by decide +kernel
theorem dX9_above_5 : decode cX9_above 5 = .ok (.iload_n 3, 1) := by decide +kernel
theorem dX9_above_6 : decode cX9_above 6 = .ok (.aload_n 0, 1) := by decide +kernel
theorem dX9_above_7 : decode cX9_above 7 = .ok (.getfield 119, 3) := by decide +kernel
theorem dX9_above_10 : decode cX9_above 10 = .ok (.if_icmp .ge 30, 3) := by decide +kernel
theorem dX9_above_13 : decode cX9_above 13 = .ok (.aload_n 0, 1) := by decide +kernel
theorem dX9_above_14 : decode cX9_above 14 = .ok (.getfield 50, 3) := by decide +kernel
theorem dX9_above_17 : decode cX9_above 17 = .ok (.iload_n 3, 1) := by decide +kernel
theorem dX9_above_18 : decode cX9_above 18 = .ok (.iaload, 1) := by decide +kernel
theorem dX9_above_19 : decode cX9_above 19 = .ok (.iload_n 1, 1) := by decide +kernel
theorem dX9_above_20 : decode cX9_above 20 = .ok (.if_icmp .lt 14, 3) := by decide +kernel
theorem dX9_above_23 : decode cX9_above 23 = .ok (.iload_n 2, 1) := by decide +kernel
theorem dX9_above_24 : decode cX9_above 24 = .ok (.aload_n 0, 1) := by decide +kernel
theorem dX9_above_25 : decode cX9_above 25 = .ok (.getfield 50, 3) := by decide +kernel
theorem dX9_above_28 : decode cX9_above 28 = .ok (.iload_n 3, 1) := by decide +kernel
theorem dX9_above_29 : decode cX9_above 29 = .ok (.iaload, 1) := by decide +kernel
theorem dX9_above_30 : decode cX9_above 30 = .ok (.invokestatic 147, 3) := by decide +kernel
theorem dX9_above_33 : decode cX9_above 33 = .ok (.istore_n 2, 1) := by decide +kernel
theorem dX9_above_34 : decode cX9_above 34 = .ok (.iinc 3 1, 3) := by decide +kernel
theorem dX9_above_37 : decode cX9_above 37 = .ok (.goto (-32), 3) := by decide +kernel
theorem dX9_above_40 : decode cX9_above 40 = .ok (.iload_n 1, 1) := by decide +kernel
theorem dX9_above_41 : decode cX9_above 41 = .ok (.ldc 90, 2) := by decide +kernel
theorem dX9_above_43 : decode cX9_above 43 = .ok (.if_icmp .ne 8, 3) := by decide +kernel
theorem dX9_above_46 : decode cX9_above 46 = .ok (.ldc 90, 2) := by decide +kernel
theorem dX9_above_48 : decode cX9_above 48 = .ok (.goto 4, 3) := by decide +kernel
theorem dX9_above_51 : decode cX9_above 51 = .ok (.iload_n 2, 1) := by decide +kernel
theorem dX9_above_52 : decode cX9_above 52 = .ok (.ireturn, 1) := by decide +kernel
