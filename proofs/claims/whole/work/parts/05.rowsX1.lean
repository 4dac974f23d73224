theorem dX1_init_0 : decode cX1_init 0 = .ok (.aload_n 0, 1) := by decide +kernel
theorem dX1_init_1 : decode cX1_init 1 = .ok (.invokespecial 1, 3) := by decide +kernel
theorem dX1_init_4 : decode cX1_init 4 = .ok (.aload_n 0, 1) := by decide +kernel
theorem dX1_init_5 : decode cX1_init 5 = .ok (.bipush 40, 2) := by decide +kernel
theorem dX1_init_7 : decode cX1_init 7 = .ok (.newarray .int, 2) := by decide +kernel
theorem dX1_init_9 : decode cX1_init 9 = .ok (.putfield 9, 3) := by decide +kernel
theorem dX1_init_12 : decode cX1_init 12 = .ok (.aload_n 0, 1) := by decide +kernel
theorem dX1_init_13 : decode cX1_init 13 = .ok (.bipush 40, 2) := by decide +kernel
theorem dX1_init_15 : decode cX1_init 15 = .ok (.newarray .int, 2) := by decide +kernel
theorem dX1_init_17 : decode cX1_init 17 = .ok (.putfield 13, 3) := by decide +kernel
theorem dX1_init_20 : decode cX1_init 20 = .ok (.aload_n 0, 1) := by decide +kernel
theorem dX1_init_21 : decode cX1_init 21 = .ok (.bipush 40, 2) := by decide +kernel
theorem dX1_init_23 : decode cX1_init 23 = .ok (.newarray .int, 2) := by decide +kernel
theorem dX1_init_25 : decode cX1_init 25 = .ok (.putfield 16, 3) := by decide +kernel
theorem dX1_init_28 : decode cX1_init 28 = .ok (.aload_n 0, 1) := by decide +kernel
theorem dX1_init_29 : decode cX1_init 29 = .ok (.bipush 40, 2) := by decide +kernel
theorem dX1_init_31 : decode cX1_init 31 = .ok (.newarray .boolean, 2) := by decide +kernel
theorem dX1_init_33 : decode cX1_init 33 = .ok (.putfield 19, 3) := by decide +kernel
theorem dX1_init_36 : decode cX1_init 36 = .ok (.aload_n 0, 1) := by decide +kernel
theorem dX1_init_37 : decode cX1_init 37 = .ok (.bipush 6, 2) := by decide +kernel
theorem dX1_init_39 : decode cX1_init 39 = .ok (.newarray .int, 2) := by decide +kernel
theorem dX1_init_41 : decode cX1_init 41 = .ok (.dup, 1) := by decide +kernel
theorem dX1_init_42 : decode cX1_init 42 = .ok (.iconst 0, 1) := by decide +kernel
theorem dX1_init_43 : decode cX1_init 43 = .ok (.bipush 50, 2) := by decide +kernel
theorem dX1_init_45 : decode cX1_init 45 = .ok (.iastore, 1) := by decide +kernel
theorem dX1_init_46 : decode cX1_init 46 = .ok (.dup, 1) := by decide +kernel
theorem dX1_init_47 : decode cX1_init 47 = .ok (.iconst 1, 1) := by decide +kernel
theorem dX1_init_48 : decode cX1_init 48 = .ok (.bipush 50, 2) := by decide +kernel
theorem dX1_init_50 : decode cX1_init 50 = .ok (.iastore, 1) := by decide +kernel
theorem dX1_init_51 : decode cX1_init 51 = .ok (.dup, 1) := by decide +kernel
theorem dX1_init_52 : decode cX1_init 52 = .ok (.iconst 2, 1) := by decide +kernel
theorem dX1_init_53 : decode cX1_init 53 = .ok (.bipush 50, 2) := by decide +kernel
theorem dX1_init_55 : decode cX1_init 55 = .ok (.iastore, 1) := by decide +kernel
theorem dX1_init_56 : decode cX1_init 56 = .ok (.dup, 1) := by decide +kernel
theorem dX1_init_57 : decode cX1_init 57 = .ok (.iconst 3, 1) := by decide +kernel
theorem dX1_init_58 : decode cX1_init 58 = .ok (.bipush 50, 2) := by decide +kernel
theorem dX1_init_60 : decode cX1_init 60 = .ok (.iastore, 1) := by decide +kernel
theorem dX1_init_61 : decode cX1_init 61 = .ok (.dup, 1) := by decide +kernel
theorem dX1_init_62 : decode cX1_init 62 = .ok (.iconst 4, 1) := by decide +kernel
theorem dX1_init_63 : decode cX1_init 63 = .ok (.bipush 50, 2) := by decide +kernel
theorem dX1_init_65 : decode cX1_init 65 = .ok (.iastore, 1) := by decide +kernel
theorem dX1_init_66 : decode cX1_init 66 = .ok (.dup, 1) := by decide +kernel
theorem dX1_init_67 : decode cX1_init 67 = .ok (.iconst 5, 1) := by decide +kernel
theorem dX1_init_68 : decode cX1_init 68 = .ok (.bipush 50, 2) := by decide +kernel
theorem dX1_init_70 : decode cX1_init 70 = .ok (.iastore, 1) := by decide +kernel
theorem dX1_init_71 : decode cX1_init 71 = .ok (.putfield 23, 3) := by decide +kernel
theorem dX1_init_74 : decode cX1_init 74 = .ok (.aload_n 0, 1) := by decide +kernel
theorem dX1_init_75 : decode cX1_init 75 = .ok (.bipush 6, 2) := by decide +kernel
theorem dX1_init_77 : decode cX1_init 77 = .ok (.newarray .boolean, 2) := by decide +kernel
theorem dX1_init_79 : decode cX1_init 79 = .ok (.dup, 1) := by decide +kernel
theorem dX1_init_80 : decode cX1_init 80 = .ok (.iconst 0, 1) := by decide +kernel
theorem dX1_init_81 : decode cX1_init 81 = .ok (.iconst 1, 1) := by decide +kernel
theorem dX1_init_82 : decode cX1_init 82 = .ok (.bastore, 1) := by decide +kernel
theorem dX1_init_83 : decode cX1_init 83 = .ok (.dup, 1) := by decide +kernel
theorem dX1_init_84 : decode cX1_init 84 = .ok (.iconst 1, 1) := by decide +kernel
theorem dX1_init_85 : decode cX1_init 85 = .ok (.iconst 1, 1) := by decide +kernel
theorem dX1_init_86 : decode cX1_init 86 = .ok (.bastore, 1) := by decide +kernel
theorem dX1_init_87 : decode cX1_init 87 = .ok (.dup, 1) := by decide +kernel
theorem dX1_init_88 : decode cX1_init 88 = .ok (.iconst 2, 1) := by decide +kernel
theorem dX1_init_89 : decode cX1_init 89 = .ok (.iconst 1, 1) := by decide +kernel
theorem dX1_init_90 : decode cX1_init 90 = .ok (.bastore, 1) := by decide +kernel
theorem dX1_init_91 : decode cX1_init 91 = .ok (.dup, 1) := by decide +kernel
theorem dX1_init_92 : decode cX1_init 92 = .ok (.iconst 3, 1) := by decide +kernel
theorem dX1_init_93 : decode cX1_init 93 = .ok (.iconst 1, 1) := by decide +kernel
theorem dX1_init_94 : decode cX1_init 94 = .ok (.bastore, 1) := by decide +kernel
theorem dX1_init_95 : decode cX1_init 95 = .ok (.dup, 1) := by decide +kernel
theorem dX1_init_96 : decode cX1_init 96 = .ok (.iconst 4, 1) := by decide +kernel
theorem dX1_init_97 : decode cX1_init 97 = .ok (.iconst 1, 1) := by decide +kernel
theorem dX1_init_98 : decode cX1_init 98 = .ok (.bastore, 1) := by decide +kernel
theorem dX1_init_99 : decode cX1_init 99 = .ok (.dup, 1) := by decide +kernel
theorem dX1_init_100 : decode cX1_init 100 = .ok (.iconst 5, 1) := by decide +kernel
theorem dX1_init_101 : decode cX1_init 101 = .ok (.iconst 1, 1) := by decide +kernel
theorem dX1_init_102 : decode cX1_init 102 = .ok (.bastore, 1) := by decide +kernel
theorem dX1_init_103 : decode cX1_init 103 = .ok (.putfield 26, 3) := by decide +kernel
theorem dX1_init_106 : decode cX1_init 106 = .ok (.aload_n 0, 1) := by decide +kernel
theorem dX1_init_107 : decode cX1_init 107 = .ok (.bipush 36, 2) := by decide +kernel
theorem dX1_init_109 : decode cX1_init 109 = .ok (.newarray .int, 2) := by decide +kernel
theorem dX1_init_111 : decode cX1_init 111 = .ok (.putfield 29, 3) := by decide +kernel
theorem dX1_init_114 : decode cX1_init 114 = .ok (.aload_n 0, 1) := by decide +kernel
theorem dX1_init_115 : decode cX1_init 115 = .ok (.iconst 1, 1) := by decide +kernel
theorem dX1_init_116 : decode cX1_init 116 = .ok (.putfield 32, 3) := by decide +kernel
theorem dX1_init_119 : decode cX1_init 119 = .ok (.aload_n 0, 1) := by decide +kernel
theorem dX1_init_120 : decode cX1_init 120 = .ok (.bipush 6, 2) := by decide +kernel
theorem dX1_init_122 : decode cX1_init 122 = .ok (.newarray .int, 2) := by decide +kernel
theorem dX1_init_124 : decode cX1_init 124 = .ok (.dup, 1) := by decide +kernel
theorem dX1_init_125 : decode cX1_init 125 = .ok (.iconst 0, 1) := by decide +kernel
theorem dX1_init_126 : decode cX1_init 126 = .ok (.iconst (-1), 1) := by decide +kernel
theorem dX1_init_127 : decode cX1_init 127 = .ok (.iastore, 1) := by decide +kernel
theorem dX1_init_128 : decode cX1_init 128 = .ok (.dup, 1) := by decide +kernel
theorem dX1_init_129 : decode cX1_init 129 = .ok (.iconst 1, 1) := by decide +kernel
theorem dX1_init_130 : decode cX1_init 130 = .ok (.iconst (-1), 1) := by decide +kernel
theorem dX1_init_131 : decode cX1_init 131 = .ok (.iastore, 1) := by decide +kernel
theorem dX1_init_132 : decode cX1_init 132 = .ok (.dup, 1) := by decide +kernel
theorem dX1_init_133 : decode cX1_init 133 = .ok (.iconst 2, 1) := by decide +kernel
theorem dX1_init_134 : decode cX1_init 134 = .ok (.iconst (-1), 1) := by decide +kernel
theorem dX1_init_135 : decode cX1_init 135 = .ok (.iastore, 1) := by decide +kernel
theorem dX1_init_136 : decode cX1_init 136 = .ok (.dup, 1) := by decide +kernel
theorem dX1_init_137 : decode cX1_init 137 = .ok (.iconst 3, 1) := by decide +kernel
theorem dX1_init_138 : decode cX1_init 138 = .ok (.iconst (-1), 1) := by decide +kernel
theorem dX1_init_139 : decode cX1_init 139 = .ok (.iastore, 1) := by decide +kernel
theorem dX1_init_140 : decode cX1_init 140 = .ok (.dup, 1) := by decide +kernel
theorem dX1_init_141 : decode cX1_init 141 = .ok (.iconst 4, 1) := by decide +kernel
theorem dX1_init_142 : decode cX1_init 142 = .ok (.iconst (-1), 1) := by decide +kernel
theorem dX1_init_143 : decode cX1_init 143 = .ok (.iastore, 1) := by decide +kernel
theorem dX1_init_144 : decode cX1_init 144 = .ok (.dup, 1) := by decide +kernel
theorem dX1_init_145 : decode cX1_init 145 = .ok (.iconst 5, 1) := by decide +kernel
theorem dX1_init_146 : decode cX1_init 146 = .ok (.iconst (-1), 1) := by decide +kernel
theorem dX1_init_147 : decode cX1_init 147 = .ok (.iastore, 1) := by decide +kernel
theorem dX1_init_148 : decode cX1_init 148 = .ok (.putfield 36, 3) := by decide +kernel
theorem dX1_init_151 : decode cX1_init 151 = .ok (.aload_n 0, 1) := by decide +kernel
theorem dX1_init_152 : decode cX1_init 152 = .ok (.bipush 15, 2) := by decide +kernel
theorem dX1_init_154 : decode cX1_init 154 = .ok (.putfield 39, 3) := by decide +kernel
theorem dX1_init_157 : decode cX1_init 157 = .ok (.aload_n 0, 1) := by decide +kernel
theorem dX1_init_158 : decode cX1_init 158 = .ok (.bipush 40, 2) := by decide +kernel
theorem dX1_init_160 : decode cX1_init 160 = .ok (.newarray .int, 2) := by decide +kernel
theorem dX1_init_162 : decode cX1_init 162 = .ok (.putfield 42, 3) := by decide +kernel
theorem dX1_init_165 : decode cX1_init 165 = .ok (.return_, 1) := by decide +kernel
theorem dX1_thrown_0 : decode cX1_thrown 0 = .ok (.aload_n 0, 1) := by decide +kernel
theorem dX1_thrown_1 : decode cX1_thrown 1 = .ok (.getfield 45, 3) := by decide +kernel
theorem dX1_thrown_4 : decode cX1_thrown 4 = .ok (.ireturn, 1) := by decide +kernel
theorem dX1_no_0 : decode cX1_no 0 = .ok (.aload_n 0, 1) := by decide +kernel
theorem dX1_no_1 : decode cX1_no 1 = .ok (.iload_n 1, 1) := by decide +kernel
theorem dX1_no_2 : decode cX1_no 2 = .ok (.putfield 45, 3) := by decide +kernel
theorem dX1_no_5 : decode cX1_no 5 = .ok (.iconst 0, 1) := by decide +kernel
theorem dX1_no_6 : decode cX1_no 6 = .ok (.ireturn, 1) := by decide +kernel
theorem dX1_isIn_0 : decode cX1_isIn 0 = .ok (.iload_n 0, 1) := by decide +kernel
theorem dX1_isIn_1 : decode cX1_isIn 1 = .ok (.iload_n 1, 1) := by decide +kernel
theorem dX1_isIn_2 : decode cX1_isIn 2 = .ok (.if_icmp .lt 12, 3) := by decide +kernel
theorem dX1_isIn_5 : decode cX1_isIn 5 = .ok (.iload_n 0, 1) := by decide +kernel
theorem dX1_isIn_6 : decode cX1_isIn 6 = .ok (.iload_n 2, 1) := by decide +kernel
theorem dX1_isIn_7 : decode cX1_isIn 7 = .ok (.if_icmp .gt 7, 3) := by decide +kernel
theorem dX1_isIn_10 : decode cX1_isIn 10 = .ok (.iconst 1, 1) := by decide +kernel
theorem dX1_isIn_11 : decode cX1_isIn 11 = .ok (.goto 4, 3) := by decide +kernel
theorem dX1_isIn_14 : decode cX1_isIn 14 = .ok (.iconst 0, 1) := by decide +kernel
theorem dX1_isIn_15 : decode cX1_isIn 15 = .ok (.ireturn, 1) := by decide +kernel
theorem dX1_has_0 : decode cX1_has 0 = .ok (.iload_n 0, 1) := by decide +kernel
theorem dX1_has_1 : decode cX1_has 1 = .ok (.iload_n 1, 1) := by decide +kernel
theorem dX1_has_2 : decode cX1_has 2 = .ok (.ishr, 1) := by decide +kernel
theorem dX1_has_3 : decode cX1_has 3 = .ok (.iconst 1, 1) := by decide +kernel
theorem dX1_has_4 : decode cX1_has 4 = .ok (.iand, 1) := by decide +kernel
theorem dX1_has_5 : decode cX1_has 5 = .ok (.iconst 1, 1) := by decide +kernel
theorem dX1_has_6 : decode cX1_has 6 = .ok (.if_icmp .ne 7, 3) := by decide +kernel
theorem dX1_has_9 : decode cX1_has 9 = .ok (.iconst 1, 1) := by decide +kernel
theorem dX1_has_10 : decode cX1_has 10 = .ok (.goto 4, 3) := by decide +kernel
theorem dX1_has_13 : decode cX1_has 13 = .ok (.iconst 0, 1) := by decide +kernel
theorem dX1_has_14 : decode cX1_has 14 = .ok (.ireturn, 1) := by decide +kernel
set_option maxRecDepth 20000 in
theorem ggX1_isFormula_X1_isIn : GoodIn wsX1_isFormula wsX1_isIn := goodIn_r _ [5] (by decide +kernel) (by decide +kernel)
set_option maxRecDepth 20000 in
theorem gX1_isFormula_X1_isIn : GoodIn wsX1_isFormula (va_wsS RX1 51 yX1_isIn wsX1_isIn) := goodIn_app (goodIn_of _ (by decide +kernel)) ggX1_isFormula_X1_isIn
theorem dX1_isFormula_0 : decode cX1_isFormula 0 = .ok (.iload_n 1, 1) := by decide +kernel
theorem dX1_isFormula_1 : decode cX1_isFormula 1 = .ok (.iconst 0, 1) := by decide +kernel
theorem dX1_isFormula_2 : decode cX1_isFormula 2 = .ok (.aload_n 0, 1) := by decide +kernel
theorem dX1_isFormula_3 : decode cX1_isFormula 3 = .ok (.getfield 48, 3) := by decide +kernel
theorem dX1_isFormula_6 : decode cX1_isFormula 6 = .ok (.iconst 1, 1) := by decide +kernel
theorem dX1_isFormula_7 : decode cX1_isFormula 7 = .ok (.isub, 1) := by decide +kernel
theorem dX1_isFormula_8 : decode cX1_isFormula 8 = .ok (.invokestatic 51, 3) := by decide +kernel
theorem dX1_isFormula_11 : decode cX1_isFormula 11 = .ok (.ireturn, 1) := by decide +kernel
set_option maxRecDepth 20000 in
theorem ggX1_isAtom_X1_isIn : GoodIn wsX1_isAtom wsX1_isIn := goodIn_r _ [4] (by decide +kernel) (by decide +kernel)
set_option maxRecDepth 20000 in
theorem gX1_isAtom_X1_isIn : GoodIn wsX1_isAtom (va_wsS RX1 51 yX1_isIn wsX1_isIn) := goodIn_app (goodIn_of _ (by decide +kernel)) ggX1_isAtom_X1_isIn
theorem dX1_isAtom_0 : decode cX1_isAtom 0 = .ok (.iload_n 0, 1) := by decide +kernel
theorem dX1_isAtom_1 : decode cX1_isAtom 1 = .ok (.iconst 0, 1) := by decide +kernel
theorem dX1_isAtom_2 : decode cX1_isAtom 2 = .ok (.iconst 5, 1) := by decide +kernel
theorem dX1_isAtom_3 : decode cX1_isAtom 3 = .ok (.invokestatic 51, 3) := by decide +kernel
theorem dX1_isAtom_6 : decode cX1_isAtom 6 = .ok (.ireturn, 1) := by decide +kernel
set_option maxRecDepth 20000 in
theorem ggX1_isSource_X1_isIn : GoodIn wsX1_isSource wsX1_isIn := goodIn_r _ [4] (by decide +kernel) (by decide +kernel)
set_option maxRecDepth 20000 in
theorem gX1_isSource_X1_isIn : GoodIn wsX1_isSource (va_wsS RX1 51 yX1_isIn wsX1_isIn) := goodIn_app (goodIn_of _ (by decide +kernel)) ggX1_isSource_X1_isIn
theorem dX1_isSource_0 : decode cX1_isSource 0 = .ok (.iload_n 0, 1) := by decide +kernel
theorem dX1_isSource_1 : decode cX1_isSource 1 = .ok (.iconst 0, 1) := by decide +kernel
theorem dX1_isSource_2 : decode cX1_isSource 2 = .ok (.iconst 5, 1) := by decide +kernel
theorem dX1_isSource_3 : decode cX1_isSource 3 = .ok (.invokestatic 51, 3) := by decide +kernel
theorem dX1_isSource_6 : decode cX1_isSource 6 = .ok (.ireturn, 1) := by decide +kernel
set_option maxRecDepth 20000 in
theorem ggX1_create_X1_no : GoodIn wsX1_create wsX1_no := goodIn_r _ [10, 11, 12, 13, 14, 15, 16, 17, 18, 19, 20, 21, 22, 23, 24] (by decide +kernel) (by decide +kernel)
set_option maxRecDepth 20000 in
theorem gX1_create_X1_no : GoodIn wsX1_create (wsV RX1 55 RX1 yX1_no wsX1_no) := goodIn_app (goodIn_of _ (by decide +kernel)) ggX1_create_X1_no
theorem dX1_create_0 : decode cX1_create 0 = .ok (.aload_n 0, 1) := by decide +kernel
theorem dX1_create_1 : decode cX1_create 1 = .ok (.getfield 48, 3) := by decide +kernel
theorem dX1_create_4 : decode cX1_create 4 = .ok (.bipush 40, 2) := by decide +kernel
theorem dX1_create_6 : decode cX1_create 6 = .ok (.if_icmp .ne 22, 3) := by decide +kernel
theorem dX1_create_9 : decode cX1_create 9 = .ok (.aload_n 0, 1) := by decide +kernel
theorem dX1_create_10 : decode cX1_create 10 = .ok (.iload_n 1, 1) := by decide +kernel
theorem dX1_create_11 : decode cX1_create 11 = .ok (.ifCond .eq 8, 3) := by decide +kernel
theorem dX1_create_14 : decode cX1_create 14 = .ok (.iload_n 1, 1) := by decide +kernel
theorem dX1_create_15 : decode cX1_create 15 = .ok (.iconst 1, 1) := by decide +kernel
theorem dX1_create_16 : decode cX1_create 16 = .ok (.if_icmp .ne 7, 3) := by decide +kernel
theorem dX1_create_19 : decode cX1_create 19 = .ok (.iconst 2, 1) := by decide +kernel
theorem dX1_create_20 : decode cX1_create 20 = .ok (.goto 4, 3) := by decide +kernel
theorem dX1_create_23 : decode cX1_create 23 = .ok (.iconst 3, 1) := by decide +kernel
theorem dX1_create_24 : decode cX1_create 24 = .ok (.invokevirtual 55, 3) := by decide +kernel
theorem dX1_create_27 : decode cX1_create 27 = .ok (.ireturn, 1) := by decide +kernel
theorem dX1_create_28 : decode cX1_create 28 = .ok (.aload_n 0, 1) := by decide +kernel
theorem dX1_create_29 : decode cX1_create 29 = .ok (.getfield 9, 3) := by decide +kernel
theorem dX1_create_32 : decode cX1_create 32 = .ok (.aload_n 0, 1) := by decide +kernel
theorem dX1_create_33 : decode cX1_create 33 = .ok (.getfield 48, 3) := by decide +kernel
theorem dX1_create_36 : decode cX1_create 36 = .ok (.iload_n 1, 1) := by decide +kernel
theorem dX1_create_37 : decode cX1_create 37 = .ok (.iastore, 1) := by decide +kernel
theorem dX1_create_38 : decode cX1_create 38 = .ok (.aload_n 0, 1) := by decide +kernel
theorem dX1_create_39 : decode cX1_create 39 = .ok (.getfield 13, 3) := by decide +kernel
theorem dX1_create_42 : decode cX1_create 42 = .ok (.aload_n 0, 1) := by decide +kernel
theorem dX1_create_43 : decode cX1_create 43 = .ok (.getfield 48, 3) := by decide +kernel
theorem dX1_create_46 : decode cX1_create 46 = .ok (.iload_n 2, 1) := by decide +kernel
theorem dX1_create_47 : decode cX1_create 47 = .ok (.iastore, 1) := by decide +kernel
theorem dX1_create_48 : decode cX1_create 48 = .ok (.aload_n 0, 1) := by decide +kernel
theorem dX1_create_49 : decode cX1_create 49 = .ok (.getfield 16, 3) := by decide +kernel
theorem dX1_create_52 : decode cX1_create 52 = .ok (.aload_n 0, 1) := by decide +kernel
theorem dX1_create_53 : decode cX1_create 53 = .ok (.getfield 48, 3) := by decide +kernel
theorem dX1_create_56 : decode cX1_create 56 = .ok (.iload_n 3, 1) := by decide +kernel
theorem dX1_create_57 : decode cX1_create 57 = .ok (.iastore, 1) := by decide +kernel
theorem dX1_create_58 : decode cX1_create 58 = .ok (.aload_n 0, 1) := by decide +kernel
theorem dX1_create_59 : decode cX1_create 59 = .ok (.getfield 19, 3) := by decide +kernel
theorem dX1_create_62 : decode cX1_create 62 = .ok (.aload_n 0, 1) := by decide +kernel
theorem dX1_create_63 : decode cX1_create 63 = .ok (.getfield 48, 3) := by decide +kernel
theorem dX1_create_66 : decode cX1_create 66 = .ok (.iload 4, 2) := by decide +kernel
theorem dX1_create_68 : decode cX1_create 68 = .ok (.bastore, 1) := by decide +kernel
theorem dX1_create_69 : decode cX1_create 69 = .ok (.aload_n 0, 1) := by decide +kernel
theorem dX1_create_70 : decode cX1_create 70 = .ok (.dup, 1) := by decide +kernel
theorem dX1_create_71 : decode cX1_create 71 = .ok (.getfield 48, 3) := by decide +kernel
theorem dX1_create_74 : decode cX1_create 74 = .ok (.iconst 1, 1) := by decide +kernel
theorem dX1_create_75 : decode cX1_create 75 = .ok (.iadd, 1) := by decide +kernel
theorem dX1_create_76 : decode cX1_create 76 = .ok (.putfield 48, 3) := by decide +kernel
theorem dX1_create_79 : decode cX1_create 79 = .ok (.aload_n 0, 1) := by decide +kernel
theorem dX1_create_80 : decode cX1_create 80 = .ok (.getfield 48, 3) := by decide +kernel
theorem dX1_create_83 : decode cX1_create 83 = .ok (.iconst 1, 1) := by decide +kernel
theorem dX1_create_84 : decode cX1_create 84 = .ok (.isub, 1) := by decide +kernel
theorem dX1_create_85 : decode cX1_create 85 = .ok (.ireturn, 1) := by decide +kernel
set_option maxRecDepth 20000 in
theorem ggX1_atom_X1_isAtom : GoodIn wsX1_atom wsX1_isAtom := goodIn_r _ [5, 6, 7, 4, 8] (by decide +kernel) (by decide +kernel)
set_option maxRecDepth 20000 in
theorem gX1_atom_X1_isAtom : GoodIn wsX1_atom (va_wsS RX1 59 yX1_isAtom wsX1_isAtom) := goodIn_app (goodIn_of _ (by decide +kernel)) ggX1_atom_X1_isAtom
set_option maxRecDepth 20000 in
theorem ggX1_atom_X1_create : GoodIn wsX1_atom wsX1_create := goodIn_r _ [12, 13, 14, 15, 16, 17, 18, 19, 20, 4, 21, 1, 22, 23, 24, 25, 26, 27, 28, 29, 30, 31, 32, 33, 34] (by decide +kernel) (by decide +kernel)
set_option maxRecDepth 20000 in
theorem gX1_atom_X1_create : GoodIn wsX1_atom (wsV RX1 63 RX1 yX1_create wsX1_create) := goodIn_app (goodIn_of _ (by decide +kernel)) ggX1_atom_X1_create
set_option maxRecDepth 20000 in
theorem ggX1_atom_X1_no : GoodIn wsX1_atom wsX1_no := goodIn_r _ [21, 1, 22, 23, 24, 25, 26, 27, 28, 29, 30, 31, 32, 33, 34] (by decide +kernel) (by decide +kernel)
set_option maxRecDepth 20000 in
theorem gX1_atom_X1_no : GoodIn wsX1_atom (wsV RX1 55 RX1 yX1_no wsX1_no) := goodIn_app (goodIn_of _ (by decide +kernel)) ggX1_atom_X1_no
theorem dX1_atom_0 : decode cX1_atom 0 = .ok (.aload_n 0, 1) := by decide +kernel
theorem dX1_atom_1 : decode cX1_atom 1 = .ok (.iconst 0, 1) := by decide +kernel
theorem dX1_atom_2 : decode cX1_atom 2 = .ok (.putfield 45, 3) := by decide +kernel
theorem dX1_atom_5 : decode cX1_atom 5 = .ok (.iload_n 1, 1) := by decide +kernel
theorem dX1_atom_6 : decode cX1_atom 6 = .ok (.invokestatic 59, 3) := by decide +kernel
theorem dX1_atom_9 : decode cX1_atom 9 = .ok (.ifCond .eq 14, 3) := by decide +kernel
theorem dX1_atom_12 : decode cX1_atom 12 = .ok (.aload_n 0, 1) := by decide +kernel
theorem dX1_atom_13 : decode cX1_atom 13 = .ok (.iconst 0, 1) := by decide +kernel
theorem dX1_atom_14 : decode cX1_atom 14 = .ok (.iload_n 1, 1) := by decide +kernel
theorem dX1_atom_15 : decode cX1_atom 15 = .ok (.iconst 0, 1) := by decide +kernel
theorem dX1_atom_16 : decode cX1_atom 16 = .ok (.iconst 1, 1) := by decide +kernel
theorem dX1_atom_17 : decode cX1_atom 17 = .ok (.invokevirtual 63, 3) := by decide +kernel
theorem dX1_atom_20 : decode cX1_atom 20 = .ok (.goto 8, 3) := by decide +kernel
theorem dX1_atom_23 : decode cX1_atom 23 = .ok (.aload_n 0, 1) := by decide +kernel
theorem dX1_atom_24 : decode cX1_atom 24 = .ok (.iconst 1, 1) := by decide +kernel
theorem dX1_atom_25 : decode cX1_atom 25 = .ok (.invokevirtual 55, 3) := by decide +kernel
theorem dX1_atom_28 : decode cX1_atom 28 = .ok (.ireturn, 1) := by decide +kernel
set_option maxRecDepth 20000 in
theorem ggX1_constant_X1_isIn : GoodIn wsX1_constant wsX1_isIn := goodIn_r _ [5] (by decide +kernel) (by decide +kernel)
set_option maxRecDepth 20000 in
theorem gX1_constant_X1_isIn : GoodIn wsX1_constant (va_wsS RX1 51 yX1_isIn wsX1_isIn) := goodIn_app (goodIn_of _ (by decide +kernel)) ggX1_constant_X1_isIn
set_option maxRecDepth 20000 in
theorem ggX1_constant_X1_create : GoodIn wsX1_constant wsX1_create := goodIn_r _ [9, 10, 11, 12, 13, 14, 15, 16, 17, 4, 18, 1, 19, 20, 21, 22, 23, 24, 25, 26, 27, 28, 29, 30, 31] (by decide +kernel) (by decide +kernel)
set_option maxRecDepth 20000 in
theorem gX1_constant_X1_create : GoodIn wsX1_constant (wsV RX1 63 RX1 yX1_create wsX1_create) := goodIn_app (goodIn_of _ (by decide +kernel)) ggX1_constant_X1_create
set_option maxRecDepth 20000 in
theorem ggX1_constant_X1_no : GoodIn wsX1_constant wsX1_no := goodIn_r _ [18, 1, 19, 20, 21, 22, 23, 24, 25, 26, 27, 28, 29, 30, 31] (by decide +kernel) (by decide +kernel)
set_option maxRecDepth 20000 in
theorem gX1_constant_X1_no : GoodIn wsX1_constant (wsV RX1 55 RX1 yX1_no wsX1_no) := goodIn_app (goodIn_of _ (by decide +kernel)) ggX1_constant_X1_no
theorem dX1_constant_0 : decode cX1_constant 0 = .ok (.aload_n 0, 1) := by decide +kernel
theorem dX1_constant_1 : decode cX1_constant 1 = .ok (.iconst 0, 1) := by decide +kernel
theorem dX1_constant_2 : decode cX1_constant 2 = .ok (.putfield 45, 3) := by decide +kernel
theorem dX1_constant_5 : decode cX1_constant 5 = .ok (.iload_n 1, 1) := by decide +kernel
theorem dX1_constant_6 : decode cX1_constant 6 = .ok (.iconst 0, 1) := by decide +kernel
theorem dX1_constant_7 : decode cX1_constant 7 = .ok (.iconst 3, 1) := by decide +kernel
theorem dX1_constant_8 : decode cX1_constant 8 = .ok (.invokestatic 51, 3) := by decide +kernel
theorem dX1_constant_11 : decode cX1_constant 11 = .ok (.ifCond .eq 14, 3) := by decide +kernel
theorem dX1_constant_14 : decode cX1_constant 14 = .ok (.aload_n 0, 1) := by decide +kernel
theorem dX1_constant_15 : decode cX1_constant 15 = .ok (.iconst 1, 1) := by decide +kernel
theorem dX1_constant_16 : decode cX1_constant 16 = .ok (.iload_n 1, 1) := by decide +kernel
theorem dX1_constant_17 : decode cX1_constant 17 = .ok (.iconst 0, 1) := by decide +kernel
theorem dX1_constant_18 : decode cX1_constant 18 = .ok (.iconst 1, 1) := by decide +kernel
theorem dX1_constant_19 : decode cX1_constant 19 = .ok (.invokevirtual 63, 3) := by decide +kernel
theorem dX1_constant_22 : decode cX1_constant 22 = .ok (.goto 8, 3) := by decide +kernel
theorem dX1_constant_25 : decode cX1_constant 25 = .ok (.aload_n 0, 1) := by decide +kernel
theorem dX1_constant_26 : decode cX1_constant 26 = .ok (.iconst 1, 1) := by decide +kernel
theorem dX1_constant_27 : decode cX1_constant 27 = .ok (.invokevirtual 55, 3) := by decide +kernel
theorem dX1_constant_30 : decode cX1_constant 30 = .ok (.ireturn, 1) := by decide +kernel
set_option maxRecDepth 20000 in
theorem ggX1_turn_X1_isFormula : GoodIn wsX1_turn wsX1_isFormula := goodIn_r _ [7, 8, 9, 10, 6, 11, 23, 24, 25, 26, 27, 28, 29, 30, 31, 32, 33, 34, 35] (by decide +kernel) (by decide +kernel)
set_option maxRecDepth 20000 in
theorem gX1_turn_X1_isFormula : GoodIn wsX1_turn (wsV RX1 67 RX1 yX1_isFormula wsX1_isFormula) := goodIn_app (goodIn_of _ (by decide +kernel)) ggX1_turn_X1_isFormula
set_option maxRecDepth 20000 in
theorem ggX1_turn_X1_no : GoodIn wsX1_turn wsX1_no := goodIn_r _ [15, 1, 23, 24, 25, 26, 27, 28, 29, 30, 31, 32, 33, 34, 35] (by decide +kernel) (by decide +kernel)
set_option maxRecDepth 20000 in
theorem gX1_turn_X1_no : GoodIn wsX1_turn (wsV RX1 55 RX1 yX1_no wsX1_no) := goodIn_app (goodIn_of _ (by decide +kernel)) ggX1_turn_X1_no
set_option maxRecDepth 20000 in
theorem ggX1_turn_X1_create : GoodIn wsX1_turn wsX1_create := goodIn_r _ [19, 8, 20, 21, 22, 2, 12, 13, 14, 6, 15, 1, 23, 24, 25, 26, 27, 28, 29, 30, 31, 32, 33, 34, 35] (by decide +kernel) (by decide +kernel)
set_option maxRecDepth 20000 in
theorem gX1_turn_X1_create : GoodIn wsX1_turn (wsV RX1 63 RX1 yX1_create wsX1_create) := goodIn_app (goodIn_of _ (by decide +kernel)) ggX1_turn_X1_create
theorem dX1_turn_0 : decode cX1_turn 0 = .ok (.aload_n 0, 1) := by decide +kernel
theorem dX1_turn_1 : decode cX1_turn 1 = .ok (.iconst 0, 1) := by decide +kernel
theorem dX1_turn_2 : decode cX1_turn 2 = .ok (.putfield 45, 3) := by decide +kernel
theorem dX1_turn_5 : decode cX1_turn 5 = .ok (.aload_n 0, 1) := by decide +kernel
theorem dX1_turn_6 : decode cX1_turn 6 = .ok (.iload_n 2, 1) := by decide +kernel
theorem dX1_turn_7 : decode cX1_turn 7 = .ok (.invokevirtual 67, 3) := by decide +kernel
theorem dX1_turn_10 : decode cX1_turn 10 = .ok (.ifCond .ne 9, 3) := by decide +kernel
theorem dX1_turn_13 : decode cX1_turn 13 = .ok (.aload_n 0, 1) := by decide +kernel
theorem dX1_turn_14 : decode cX1_turn 14 = .ok (.iconst 1, 1) := by decide +kernel
theorem dX1_turn_15 : decode cX1_turn 15 = .ok (.invokevirtual 55, 3) := by decide +kernel
theorem dX1_turn_18 : decode cX1_turn 18 = .ok (.ireturn, 1) := by decide +kernel
theorem dX1_turn_19 : decode cX1_turn 19 = .ok (.iload_n 1, 1) := by decide +kernel
theorem dX1_turn_20 : decode cX1_turn 20 = .ok (.iconst 2, 1) := by decide +kernel
theorem dX1_turn_21 : decode cX1_turn 21 = .ok (.if_icmp .eq 9, 3) := by decide +kernel
theorem dX1_turn_24 : decode cX1_turn 24 = .ok (.iload_n 1, 1) := by decide +kernel
theorem dX1_turn_25 : decode cX1_turn 25 = .ok (.bipush 8, 2) := by decide +kernel
theorem dX1_turn_27 : decode cX1_turn 27 = .ok (.if_icmp .ne 32, 3) := by decide +kernel
theorem dX1_turn_30 : decode cX1_turn 30 = .ok (.aload_n 0, 1) := by decide +kernel
theorem dX1_turn_31 : decode cX1_turn 31 = .ok (.iload_n 1, 1) := by decide +kernel
theorem dX1_turn_32 : decode cX1_turn 32 = .ok (.iload_n 2, 1) := by decide +kernel
theorem dX1_turn_33 : decode cX1_turn 33 = .ok (.iconst 0, 1) := by decide +kernel
theorem dX1_turn_34 : decode cX1_turn 34 = .ok (.iload_n 1, 1) := by decide +kernel
theorem dX1_turn_35 : decode cX1_turn 35 = .ok (.iconst 2, 1) := by decide +kernel
theorem dX1_turn_36 : decode cX1_turn 36 = .ok (.if_icmp .ne 16, 3) := by decide +kernel
theorem dX1_turn_39 : decode cX1_turn 39 = .ok (.aload_n 0, 1) := by decide +kernel
theorem dX1_turn_40 : decode cX1_turn 40 = .ok (.getfield 19, 3) := by decide +kernel
theorem dX1_turn_43 : decode cX1_turn 43 = .ok (.iload_n 2, 1) := by decide +kernel
theorem dX1_turn_44 : decode cX1_turn 44 = .ok (.baload, 1) := by decide +kernel
theorem dX1_turn_45 : decode cX1_turn 45 = .ok (.ifCond .eq 7, 3) := by decide +kernel
theorem dX1_turn_48 : decode cX1_turn 48 = .ok (.iconst 1, 1) := by decide +kernel
theorem dX1_turn_49 : decode cX1_turn 49 = .ok (.goto 4, 3) := by decide +kernel
theorem dX1_turn_52 : decode cX1_turn 52 = .ok (.iconst 0, 1) := by decide +kernel
theorem dX1_turn_53 : decode cX1_turn 53 = .ok (.invokevirtual 63, 3) := by decide +kernel
theorem dX1_turn_56 : decode cX1_turn 56 = .ok (.goto 8, 3) := by decide +kernel
theorem dX1_turn_59 : decode cX1_turn 59 = .ok (.aload_n 0, 1) := by decide +kernel
theorem dX1_turn_60 : decode cX1_turn 60 = .ok (.iconst 2, 1) := by decide +kernel
theorem dX1_turn_61 : decode cX1_turn 61 = .ok (.invokevirtual 55, 3) := by decide +kernel
theorem dX1_turn_64 : decode cX1_turn 64 = .ok (.ireturn, 1) := by decide +kernel
set_option maxRecDepth 20000 in
theorem ggX1_join_X1_isFormula : GoodIn wsX1_join wsX1_isFormula := goodIn_r _ [7, 8, 9, 10, 6, 11, 23, 24, 25, 26, 27, 28, 29, 30, 31, 32, 33, 34, 35] (by decide +kernel) (by decide +kernel)
set_option maxRecDepth 20000 in
theorem gX1_join_X1_isFormula : GoodIn wsX1_join (wsV RX1 67 RX1 yX1_isFormula wsX1_isFormula) := goodIn_app (goodIn_of _ (by decide +kernel)) ggX1_join_X1_isFormula
set_option maxRecDepth 20000 in
theorem ggX1_join_X1_no : GoodIn wsX1_join wsX1_no := goodIn_r _ [15, 1, 23, 24, 25, 26, 27, 28, 29, 30, 31, 32, 33, 34, 35] (by decide +kernel) (by decide +kernel)
set_option maxRecDepth 20000 in
theorem gX1_join_X1_no : GoodIn wsX1_join (wsV RX1 55 RX1 yX1_no wsX1_no) := goodIn_app (goodIn_of _ (by decide +kernel)) ggX1_join_X1_no
set_option maxRecDepth 20000 in
theorem ggX1_join_X1_isIn : GoodIn wsX1_join wsX1_isIn := goodIn_r _ [11] (by decide +kernel) (by decide +kernel)
set_option maxRecDepth 20000 in
theorem gX1_join_X1_isIn : GoodIn wsX1_join (va_wsS RX1 51 yX1_isIn wsX1_isIn) := goodIn_app (goodIn_of _ (by decide +kernel)) ggX1_join_X1_isIn
set_option maxRecDepth 20000 in
theorem ggX1_join_X1_create : GoodIn wsX1_join wsX1_create := goodIn_r _ [19, 8, 20, 21, 22, 2, 12, 13, 14, 6, 15, 1, 23, 24, 25, 26, 27, 28, 29, 30, 31, 32, 33, 34, 35] (by decide +kernel) (by decide +kernel)
set_option maxRecDepth 20000 in
theorem gX1_join_X1_create : GoodIn wsX1_join (wsV RX1 63 RX1 yX1_create wsX1_create) := goodIn_app (goodIn_of _ (by decide +kernel)) ggX1_join_X1_create
theorem dX1_join_0 : decode cX1_join 0 = .ok (.aload_n 0, 1) := by decide +kernel
theorem dX1_join_1 : decode cX1_join 1 = .ok (.iconst 0, 1) := by decide +kernel
theorem dX1_join_2 : decode cX1_join 2 = .ok (.putfield 45, 3) := by decide +kernel
theorem dX1_join_5 : decode cX1_join 5 = .ok (.aload_n 0, 1) := by decide +kernel
theorem dX1_join_6 : decode cX1_join 6 = .ok (.iload_n 2, 1) := by decide +kernel
theorem dX1_join_7 : decode cX1_join 7 = .ok (.invokevirtual 67, 3) := by decide +kernel
theorem dX1_join_10 : decode cX1_join 10 = .ok (.ifCond .eq 11, 3) := by decide +kernel
theorem dX1_join_13 : decode cX1_join 13 = .ok (.aload_n 0, 1) := by decide +kernel
theorem dX1_join_14 : decode cX1_join 14 = .ok (.iload_n 3, 1) := by decide +kernel
theorem dX1_join_15 : decode cX1_join 15 = .ok (.invokevirtual 67, 3) := by decide +kernel
theorem dX1_join_18 : decode cX1_join 18 = .ok (.ifCond .ne 9, 3) := by decide +kernel
theorem dX1_join_21 : decode cX1_join 21 = .ok (.aload_n 0, 1) := by decide +kernel
theorem dX1_join_22 : decode cX1_join 22 = .ok (.iconst 1, 1) := by decide +kernel
theorem dX1_join_23 : decode cX1_join 23 = .ok (.invokevirtual 55, 3) := by decide +kernel
theorem dX1_join_26 : decode cX1_join 26 = .ok (.ireturn, 1) := by decide +kernel
theorem dX1_join_27 : decode cX1_join 27 = .ok (.iload_n 1, 1) := by decide +kernel
theorem dX1_join_28 : decode cX1_join 28 = .ok (.iconst 3, 1) := by decide +kernel
theorem dX1_join_29 : decode cX1_join 29 = .ok (.bipush 7, 2) := by decide +kernel
theorem dX1_join_31 : decode cX1_join 31 = .ok (.invokestatic 51, 3) := by decide +kernel
theorem dX1_join_34 : decode cX1_join 34 = .ok (.ifCond .eq 42, 3) := by decide +kernel
theorem dX1_join_37 : decode cX1_join 37 = .ok (.aload_n 0, 1) := by decide +kernel
theorem dX1_join_38 : decode cX1_join 38 = .ok (.iload_n 1, 1) := by decide +kernel
theorem dX1_join_39 : decode cX1_join 39 = .ok (.iload_n 2, 1) := by decide +kernel
theorem dX1_join_40 : decode cX1_join 40 = .ok (.iload_n 3, 1) := by decide +kernel
theorem dX1_join_41 : decode cX1_join 41 = .ok (.iload_n 1, 1) := by decide +kernel
theorem dX1_join_42 : decode cX1_join 42 = .ok (.bipush 7, 2) := by decide +kernel
theorem dX1_join_44 : decode cX1_join 44 = .ok (.if_icmp .eq 25, 3) := by decide +kernel
theorem dX1_join_47 : decode cX1_join 47 = .ok (.aload_n 0, 1) := by decide +kernel
theorem dX1_join_48 : decode cX1_join 48 = .ok (.getfield 19, 3) := by decide +kernel
theorem dX1_join_51 : decode cX1_join 51 = .ok (.iload_n 2, 1) := by decide +kernel
theorem dX1_join_52 : decode cX1_join 52 = .ok (.baload, 1) := by decide +kernel
theorem dX1_join_53 : decode cX1_join 53 = .ok (.ifCond .eq 16, 3) := by decide +kernel
theorem dX1_join_56 : decode cX1_join 56 = .ok (.aload_n 0, 1) := by decide +kernel
theorem dX1_join_57 : decode cX1_join 57 = .ok (.getfield 19, 3) := by decide +kernel
theorem dX1_join_60 : decode cX1_join 60 = .ok (.iload_n 3, 1) := by decide +kernel
theorem dX1_join_61 : decode cX1_join 61 = .ok (.baload, 1) := by decide +kernel
theorem dX1_join_62 : decode cX1_join 62 = .ok (.ifCond .eq 7, 3) := by decide +kernel
theorem dX1_join_65 : decode cX1_join 65 = .ok (.iconst 1, 1) := by decide +kernel
theorem dX1_join_66 : decode cX1_join 66 = .ok (.goto 4, 3) := by decide +kernel
theorem dX1_join_69 : decode cX1_join 69 = .ok (.iconst 0, 1) := by decide +kernel
theorem dX1_join_70 : decode cX1_join 70 = .ok (.invokevirtual 63, 3) := by decide +kernel
theorem dX1_join_73 : decode cX1_join 73 = .ok (.goto 8, 3) := by decide +kernel
theorem dX1_join_76 : decode cX1_join 76 = .ok (.aload_n 0, 1) := by decide +kernel
theorem dX1_join_77 : decode cX1_join 77 = .ok (.iconst 2, 1) := by decide +kernel
theorem dX1_join_78 : decode cX1_join 78 = .ok (.invokevirtual 55, 3) := by decide +kernel
theorem dX1_join_81 : decode cX1_join 81 = .ok (.ireturn, 1) := by decide +kernel
theorem dX1_formulaCount_0 : decode cX1_formulaCount 0 = .ok (.aload_n 0, 1) := by decide +kernel
theorem dX1_formulaCount_1 : decode cX1_formulaCount 1 = .ok (.iconst 0, 1) := by decide +kernel
theorem dX1_formulaCount_2 : decode cX1_formulaCount 2 = .ok (.putfield 45, 3) := by decide +kernel
theorem dX1_formulaCount_5 : decode cX1_formulaCount 5 = .ok (.aload_n 0, 1) := by decide +kernel
theorem dX1_formulaCount_6 : decode cX1_formulaCount 6 = .ok (.getfield 48, 3) := by decide +kernel
theorem dX1_formulaCount_9 : decode cX1_formulaCount 9 = .ok (.ireturn, 1) := by decide +kernel
set_option maxRecDepth 20000 in
theorem ggX1_isSteady_X1_isFormula : GoodIn wsX1_isSteady wsX1_isFormula := goodIn_r _ [7, 8, 9, 10, 6, 11, 12, 13, 14, 15, 16, 17, 18, 19, 20, 21, 22, 23, 24] (by decide +kernel) (by decide +kernel)
set_option maxRecDepth 20000 in
theorem gX1_isSteady_X1_isFormula : GoodIn wsX1_isSteady (wsV RX1 67 RX1 yX1_isFormula wsX1_isFormula) := goodIn_app (goodIn_of _ (by decide +kernel)) ggX1_isSteady_X1_isFormula
theorem dX1_isSteady_0 : decode cX1_isSteady 0 = .ok (.aload_n 0, 1) := by decide +kernel
theorem dX1_isSteady_1 : decode cX1_isSteady 1 = .ok (.aload_n 0, 1) := by decide +kernel
theorem dX1_isSteady_2 : decode cX1_isSteady 2 = .ok (.iload_n 1, 1) := by decide +kernel
theorem dX1_isSteady_3 : decode cX1_isSteady 3 = .ok (.invokevirtual 67, 3) := by decide +kernel
theorem dX1_isSteady_6 : decode cX1_isSteady 6 = .ok (.ifCond .eq 7, 3) := by decide +kernel
theorem dX1_isSteady_9 : decode cX1_isSteady 9 = .ok (.iconst 0, 1) := by decide +kernel
theorem dX1_isSteady_10 : decode cX1_isSteady 10 = .ok (.goto 4, 3) := by decide +kernel
theorem dX1_isSteady_13 : decode cX1_isSteady 13 = .ok (.iconst 1, 1) := by decide +kernel
theorem dX1_isSteady_14 : decode cX1_isSteady 14 = .ok (.putfield 45, 3) := by decide +kernel
theorem dX1_isSteady_17 : decode cX1_isSteady 17 = .ok (.aload_n 0, 1) := by decide +kernel
theorem dX1_isSteady_18 : decode cX1_isSteady 18 = .ok (.getfield 45, 3) := by decide +kernel
theorem dX1_isSteady_21 : decode cX1_isSteady 21 = .ok (.ifCond .ne 16, 3) := by decide +kernel
theorem dX1_isSteady_24 : decode cX1_isSteady 24 = .ok (.aload_n 0, 1) := by decide +kernel
theorem dX1_isSteady_25 : decode cX1_isSteady 25 = .ok (.getfield 19, 3) := by decide +kernel
theorem dX1_isSteady_28 : decode cX1_isSteady 28 = .ok (.iload_n 1, 1) := by decide +kernel
theorem dX1_isSteady_29 : decode cX1_isSteady 29 = .ok (.baload, 1) := by decide +kernel
theorem dX1_isSteady_30 : decode cX1_isSteady 30 = .ok (.ifCond .eq 7, 3) := by decide +kernel
theorem dX1_isSteady_33 : decode cX1_isSteady 33 = .ok (.iconst 1, 1) := by decide +kernel
theorem dX1_isSteady_34 : decode cX1_isSteady 34 = .ok (.goto 4, 3) := by decide +kernel
theorem dX1_isSteady_37 : decode cX1_isSteady 37 = .ok (.iconst 0, 1) := by decide +kernel
theorem dX1_isSteady_38 : decode cX1_isSteady 38 = .ok (.ireturn, 1) := by decide +kernel
set_option maxRecDepth 20000 in
theorem ggX1_worth_X1_isIn : GoodIn wsX1_worth wsX1_isIn := goodIn_r _ [8] (by decide +kernel) (by decide +kernel)
set_option maxRecDepth 20000 in
theorem gX1_worth_X1_isIn : GoodIn wsX1_worth (va_wsS RX1 51 yX1_isIn wsX1_isIn) := goodIn_app (goodIn_of _ (by decide +kernel)) ggX1_worth_X1_isIn
theorem dX1_worth_0 : decode cX1_worth 0 = .ok (.iconst 0, 1) := by decide +kernel
theorem dX1_worth_1 : decode cX1_worth 1 = .ok (.istore_n 3, 1) := by decide +kernel
theorem dX1_worth_2 : decode cX1_worth 2 = .ok (.iload_n 3, 1) := by decide +kernel
theorem dX1_worth_3 : decode cX1_worth 3 = .ok (.iload_n 1, 1) := by decide +kernel
theorem dX1_worth_4 : decode cX1_worth 4 = .ok (.if_icmp .gt 311, 3) := by decide +kernel
theorem dX1_worth_7 : decode cX1_worth 7 = .ok (.aload_n 0, 1) := by decide +kernel
theorem dX1_worth_8 : decode cX1_worth 8 = .ok (.getfield 9, 3) := by decide +kernel
theorem dX1_worth_11 : decode cX1_worth 11 = .ok (.iload_n 3, 1) := by decide +kernel
theorem dX1_worth_12 : decode cX1_worth 12 = .ok (.iaload, 1) := by decide +kernel
theorem dX1_worth_13 : decode cX1_worth 13 = .ok (.iconst 1, 1) := by decide +kernel
theorem dX1_worth_14 : decode cX1_worth 14 = .ok (.if_icmp .le 17, 3) := by decide +kernel
theorem dX1_worth_17 : decode cX1_worth 17 = .ok (.aload_n 0, 1) := by decide +kernel
theorem dX1_worth_18 : decode cX1_worth 18 = .ok (.getfield 42, 3) := by decide +kernel
theorem dX1_worth_21 : decode cX1_worth 21 = .ok (.aload_n 0, 1) := by decide +kernel
theorem dX1_worth_22 : decode cX1_worth 22 = .ok (.getfield 13, 3) := by decide +kernel
theorem dX1_worth_25 : decode cX1_worth 25 = .ok (.iload_n 3, 1) := by decide +kernel
theorem dX1_worth_26 : decode cX1_worth 26 = .ok (.iaload, 1) := by decide +kernel
theorem dX1_worth_27 : decode cX1_worth 27 = .ok (.iaload, 1) := by decide +kernel
theorem dX1_worth_28 : decode cX1_worth 28 = .ok (.goto 4, 3) := by decide +kernel
theorem dX1_worth_31 : decode cX1_worth 31 = .ok (.iconst 0, 1) := by decide +kernel
theorem dX1_worth_32 : decode cX1_worth 32 = .ok (.istore 4, 2) := by decide +kernel
theorem dX1_worth_34 : decode cX1_worth 34 = .ok (.aload_n 0, 1) := by decide +kernel
theorem dX1_worth_35 : decode cX1_worth 35 = .ok (.getfield 9, 3) := by decide +kernel
theorem dX1_worth_38 : decode cX1_worth 38 = .ok (.iload_n 3, 1) := by decide +kernel
theorem dX1_worth_39 : decode cX1_worth 39 = .ok (.iaload, 1) := by decide +kernel
theorem dX1_worth_40 : decode cX1_worth 40 = .ok (.iconst 3, 1) := by decide +kernel
theorem dX1_worth_41 : decode cX1_worth 41 = .ok (.bipush 7, 2) := by decide +kernel
theorem dX1_worth_43 : decode cX1_worth 43 = .ok (.invokestatic 51, 3) := by decide +kernel
theorem dX1_worth_46 : decode cX1_worth 46 = .ok (.ifCond .eq 17, 3) := by decide +kernel
theorem dX1_worth_49 : decode cX1_worth 49 = .ok (.aload_n 0, 1) := by decide +kernel
theorem dX1_worth_50 : decode cX1_worth 50 = .ok (.getfield 42, 3) := by decide +kernel
theorem dX1_worth_53 : decode cX1_worth 53 = .ok (.aload_n 0, 1) := by decide +kernel
theorem dX1_worth_54 : decode cX1_worth 54 = .ok (.getfield 16, 3) := by decide +kernel
theorem dX1_worth_57 : decode cX1_worth 57 = .ok (.iload_n 3, 1) := by decide +kernel
theorem dX1_worth_58 : decode cX1_worth 58 = .ok (.iaload, 1) := by decide +kernel
theorem dX1_worth_59 : decode cX1_worth 59 = .ok (.iaload, 1) := by decide +kernel
theorem dX1_worth_60 : decode cX1_worth 60 = .ok (.goto 4, 3) := by decide +kernel
theorem dX1_worth_63 : decode cX1_worth 63 = .ok (.iconst 0, 1) := by decide +kernel
theorem dX1_worth_64 : decode cX1_worth 64 = .ok (.istore 5, 2) := by decide +kernel
theorem dX1_worth_66 : decode cX1_worth 66 = .ok (.aload_n 0, 1) := by decide +kernel
theorem dX1_worth_67 : decode cX1_worth 67 = .ok (.getfield 9, 3) := by decide +kernel
theorem dX1_worth_70 : decode cX1_worth 70 = .ok (.iload_n 3, 1) := by decide +kernel
theorem dX1_worth_71 : decode cX1_worth 71 = .ok (.iaload, 1) := by decide +kernel
theorem dX1_worth_72 : decode cX1_worth 72 = .ok (.tableswitch 206 0 7 #[48, 71, 86, 108, 132, 156, 170, 184], 48) := by decide +kernel
theorem dX1_worth_120 : decode cX1_worth 120 = .ok (.aload_n 0, 1) := by decide +kernel
theorem dX1_worth_121 : decode cX1_worth 121 = .ok (.getfield 42, 3) := by decide +kernel
theorem dX1_worth_124 : decode cX1_worth 124 = .ok (.iload_n 3, 1) := by decide +kernel
theorem dX1_worth_125 : decode cX1_worth 125 = .ok (.iload_n 2, 1) := by decide +kernel
theorem dX1_worth_126 : decode cX1_worth 126 = .ok (.iconst 2, 1) := by decide +kernel
theorem dX1_worth_127 : decode cX1_worth 127 = .ok (.iconst 5, 1) := by decide +kernel
theorem dX1_worth_128 : decode cX1_worth 128 = .ok (.aload_n 0, 1) := by decide +kernel
theorem dX1_worth_129 : decode cX1_worth 129 = .ok (.getfield 13, 3) := by decide +kernel
theorem dX1_worth_132 : decode cX1_worth 132 = .ok (.iload_n 3, 1) := by decide +kernel
theorem dX1_worth_133 : decode cX1_worth 133 = .ok (.iaload, 1) := by decide +kernel
theorem dX1_worth_134 : decode cX1_worth 134 = .ok (.isub, 1) := by decide +kernel
theorem dX1_worth_135 : decode cX1_worth 135 = .ok (.imul, 1) := by decide +kernel
theorem dX1_worth_136 : decode cX1_worth 136 = .ok (.ishr, 1) := by decide +kernel
theorem dX1_worth_137 : decode cX1_worth 137 = .ok (.iconst 3, 1) := by decide +kernel
theorem dX1_worth_138 : decode cX1_worth 138 = .ok (.iand, 1) := by decide +kernel
theorem dX1_worth_139 : decode cX1_worth 139 = .ok (.iastore, 1) := by decide +kernel
theorem dX1_worth_140 : decode cX1_worth 140 = .ok (.goto 169, 3) := by decide +kernel
theorem dX1_worth_143 : decode cX1_worth 143 = .ok (.aload_n 0, 1) := by decide +kernel
theorem dX1_worth_144 : decode cX1_worth 144 = .ok (.getfield 42, 3) := by decide +kernel
theorem dX1_worth_147 : decode cX1_worth 147 = .ok (.iload_n 3, 1) := by decide +kernel
theorem dX1_worth_148 : decode cX1_worth 148 = .ok (.aload_n 0, 1) := by decide +kernel
theorem dX1_worth_149 : decode cX1_worth 149 = .ok (.getfield 13, 3) := by decide +kernel
theorem dX1_worth_152 : decode cX1_worth 152 = .ok (.iload_n 3, 1) := by decide +kernel
theorem dX1_worth_153 : decode cX1_worth 153 = .ok (.iaload, 1) := by decide +kernel
theorem dX1_worth_154 : decode cX1_worth 154 = .ok (.iastore, 1) := by decide +kernel
theorem dX1_worth_155 : decode cX1_worth 155 = .ok (.goto 154, 3) := by decide +kernel
theorem dX1_worth_158 : decode cX1_worth 158 = .ok (.aload_n 0, 1) := by decide +kernel
theorem dX1_worth_159 : decode cX1_worth 159 = .ok (.getfield 42, 3) := by decide +kernel
theorem dX1_worth_162 : decode cX1_worth 162 = .ok (.iload_n 3, 1) := by decide +kernel
theorem dX1_worth_163 : decode cX1_worth 163 = .ok (.iload 4, 2) := by decide +kernel
theorem dX1_worth_165 : decode cX1_worth 165 = .ok (.iconst 1, 1) := by decide +kernel
theorem dX1_worth_166 : decode cX1_worth 166 = .ok (.iand, 1) := by decide +kernel
theorem dX1_worth_167 : decode cX1_worth 167 = .ok (.iconst 2, 1) := by decide +kernel
theorem dX1_worth_168 : decode cX1_worth 168 = .ok (.imul, 1) := by decide +kernel
theorem dX1_worth_169 : decode cX1_worth 169 = .ok (.iload 4, 2) := by decide +kernel
theorem dX1_worth_171 : decode cX1_worth 171 = .ok (.iconst 2, 1) := by decide +kernel
theorem dX1_worth_172 : decode cX1_worth 172 = .ok (.iand, 1) := by decide +kernel
theorem dX1_worth_173 : decode cX1_worth 173 = .ok (.iconst 2, 1) := by decide +kernel
theorem dX1_worth_174 : decode cX1_worth 174 = .ok (.idiv, 1) := by decide +kernel
theorem dX1_worth_175 : decode cX1_worth 175 = .ok (.iadd, 1) := by decide +kernel
theorem dX1_worth_176 : decode cX1_worth 176 = .ok (.iastore, 1) := by decide +kernel
theorem dX1_worth_177 : decode cX1_worth 177 = .ok (.goto 132, 3) := by decide +kernel
theorem dX1_worth_180 : decode cX1_worth 180 = .ok (.aload_n 0, 1) := by decide +kernel
theorem dX1_worth_181 : decode cX1_worth 181 = .ok (.getfield 42, 3) := by decide +kernel
theorem dX1_worth_184 : decode cX1_worth 184 = .ok (.iload_n 3, 1) := by decide +kernel
theorem dX1_worth_185 : decode cX1_worth 185 = .ok (.iload 4, 2) := by decide +kernel
theorem dX1_worth_187 : decode cX1_worth 187 = .ok (.iload 5, 2) := by decide +kernel
theorem dX1_worth_189 : decode cX1_worth 189 = .ok (.iand, 1) := by decide +kernel
theorem dX1_worth_190 : decode cX1_worth 190 = .ok (.iconst 1, 1) := by decide +kernel
theorem dX1_worth_191 : decode cX1_worth 191 = .ok (.iand, 1) := by decide +kernel
theorem dX1_worth_192 : decode cX1_worth 192 = .ok (.iload 4, 2) := by decide +kernel
theorem dX1_worth_194 : decode cX1_worth 194 = .ok (.iload 5, 2) := by decide +kernel
theorem dX1_worth_196 : decode cX1_worth 196 = .ok (.ior, 1) := by decide +kernel
theorem dX1_worth_197 : decode cX1_worth 197 = .ok (.iconst 2, 1) := by decide +kernel
theorem dX1_worth_198 : decode cX1_worth 198 = .ok (.iand, 1) := by decide +kernel
theorem dX1_worth_199 : decode cX1_worth 199 = .ok (.ior, 1) := by decide +kernel
theorem dX1_worth_200 : decode cX1_worth 200 = .ok (.iastore, 1) := by decide +kernel
theorem dX1_worth_201 : decode cX1_worth 201 = .ok (.goto 108, 3) := by decide +kernel
theorem dX1_worth_204 : decode cX1_worth 204 = .ok (.aload_n 0, 1) := by decide +kernel
theorem dX1_worth_205 : decode cX1_worth 205 = .ok (.getfield 42, 3) := by decide +kernel
theorem dX1_worth_208 : decode cX1_worth 208 = .ok (.iload_n 3, 1) := by decide +kernel
theorem dX1_worth_209 : decode cX1_worth 209 = .ok (.iload 4, 2) := by decide +kernel
theorem dX1_worth_211 : decode cX1_worth 211 = .ok (.iload 5, 2) := by decide +kernel
theorem dX1_worth_213 : decode cX1_worth 213 = .ok (.ior, 1) := by decide +kernel
theorem dX1_worth_214 : decode cX1_worth 214 = .ok (.iconst 1, 1) := by decide +kernel
theorem dX1_worth_215 : decode cX1_worth 215 = .ok (.iand, 1) := by decide +kernel
theorem dX1_worth_216 : decode cX1_worth 216 = .ok (.iload 4, 2) := by decide +kernel
theorem dX1_worth_218 : decode cX1_worth 218 = .ok (.iload 5, 2) := by decide +kernel
theorem dX1_worth_220 : decode cX1_worth 220 = .ok (.iand, 1) := by decide +kernel
theorem dX1_worth_221 : decode cX1_worth 221 = .ok (.iconst 2, 1) := by decide +kernel
theorem dX1_worth_222 : decode cX1_worth 222 = .ok (.iand, 1) := by decide +kernel
theorem dX1_worth_223 : decode cX1_worth 223 = .ok (.ior, 1) := by decide +kernel
theorem dX1_worth_224 : decode cX1_worth 224 = .ok (.iastore, 1) := by decide +kernel
theorem dX1_worth_225 : decode cX1_worth 225 = .ok (.goto 84, 3) := by decide +kernel
theorem dX1_worth_228 : decode cX1_worth 228 = .ok (.aload_n 0, 1) := by decide +kernel
theorem dX1_worth_229 : decode cX1_worth 229 = .ok (.getfield 42, 3) := by decide +kernel
theorem dX1_worth_232 : decode cX1_worth 232 = .ok (.iload_n 3, 1) := by decide +kernel
theorem dX1_worth_233 : decode cX1_worth 233 = .ok (.iload 4, 2) := by decide +kernel
theorem dX1_worth_235 : decode cX1_worth 235 = .ok (.iload 5, 2) := by decide +kernel
theorem dX1_worth_237 : decode cX1_worth 237 = .ok (.iand, 1) := by decide +kernel
theorem dX1_worth_238 : decode cX1_worth 238 = .ok (.iastore, 1) := by decide +kernel
theorem dX1_worth_239 : decode cX1_worth 239 = .ok (.goto 70, 3) := by decide +kernel
theorem dX1_worth_242 : decode cX1_worth 242 = .ok (.aload_n 0, 1) := by decide +kernel
theorem dX1_worth_243 : decode cX1_worth 243 = .ok (.getfield 42, 3) := by decide +kernel
theorem dX1_worth_246 : decode cX1_worth 246 = .ok (.iload_n 3, 1) := by decide +kernel
theorem dX1_worth_247 : decode cX1_worth 247 = .ok (.iload 4, 2) := by decide +kernel
theorem dX1_worth_249 : decode cX1_worth 249 = .ok (.iload 5, 2) := by decide +kernel
theorem dX1_worth_251 : decode cX1_worth 251 = .ok (.ior, 1) := by decide +kernel
theorem dX1_worth_252 : decode cX1_worth 252 = .ok (.iastore, 1) := by decide +kernel
theorem dX1_worth_253 : decode cX1_worth 253 = .ok (.goto 56, 3) := by decide +kernel
theorem dX1_worth_256 : decode cX1_worth 256 = .ok (.aload_n 0, 1) := by decide +kernel
theorem dX1_worth_257 : decode cX1_worth 257 = .ok (.getfield 42, 3) := by decide +kernel
theorem dX1_worth_260 : decode cX1_worth 260 = .ok (.iload_n 3, 1) := by decide +kernel
theorem dX1_worth_261 : decode cX1_worth 261 = .ok (.iload 4, 2) := by decide +kernel
theorem dX1_worth_263 : decode cX1_worth 263 = .ok (.iconst 1, 1) := by decide +kernel
theorem dX1_worth_264 : decode cX1_worth 264 = .ok (.iand, 1) := by decide +kernel
theorem dX1_worth_265 : decode cX1_worth 265 = .ok (.ifCond .ne 7, 3) := by decide +kernel
theorem dX1_worth_268 : decode cX1_worth 268 = .ok (.iconst 1, 1) := by decide +kernel
theorem dX1_worth_269 : decode cX1_worth 269 = .ok (.goto 5, 3) := by decide +kernel
theorem dX1_worth_272 : decode cX1_worth 272 = .ok (.iload 5, 2) := by decide +kernel
theorem dX1_worth_274 : decode cX1_worth 274 = .ok (.iastore, 1) := by decide +kernel
theorem dX1_worth_275 : decode cX1_worth 275 = .ok (.goto 34, 3) := by decide +kernel
theorem dX1_worth_278 : decode cX1_worth 278 = .ok (.aload_n 0, 1) := by decide +kernel
theorem dX1_worth_279 : decode cX1_worth 279 = .ok (.getfield 42, 3) := by decide +kernel
theorem dX1_worth_282 : decode cX1_worth 282 = .ok (.iload_n 3, 1) := by decide +kernel
theorem dX1_worth_283 : decode cX1_worth 283 = .ok (.iload 4, 2) := by decide +kernel
theorem dX1_worth_285 : decode cX1_worth 285 = .ok (.iconst 2, 1) := by decide +kernel
theorem dX1_worth_286 : decode cX1_worth 286 = .ok (.iand, 1) := by decide +kernel
theorem dX1_worth_287 : decode cX1_worth 287 = .ok (.ifCond .ne 7, 3) := by decide +kernel
theorem dX1_worth_290 : decode cX1_worth 290 = .ok (.iconst 1, 1) := by decide +kernel
theorem dX1_worth_291 : decode cX1_worth 291 = .ok (.goto 4, 3) := by decide +kernel
theorem dX1_worth_294 : decode cX1_worth 294 = .ok (.iconst 0, 1) := by decide +kernel
theorem dX1_worth_295 : decode cX1_worth 295 = .ok (.iload 4, 2) := by decide +kernel
theorem dX1_worth_297 : decode cX1_worth 297 = .ok (.iconst 1, 1) := by decide +kernel
theorem dX1_worth_298 : decode cX1_worth 298 = .ok (.iand, 1) := by decide +kernel
theorem dX1_worth_299 : decode cX1_worth 299 = .ok (.ifCond .ne 7, 3) := by decide +kernel
theorem dX1_worth_302 : decode cX1_worth 302 = .ok (.iconst 2, 1) := by decide +kernel
theorem dX1_worth_303 : decode cX1_worth 303 = .ok (.goto 4, 3) := by decide +kernel
theorem dX1_worth_306 : decode cX1_worth 306 = .ok (.iconst 0, 1) := by decide +kernel
theorem dX1_worth_307 : decode cX1_worth 307 = .ok (.iadd, 1) := by decide +kernel
theorem dX1_worth_308 : decode cX1_worth 308 = .ok (.iastore, 1) := by decide +kernel
theorem dX1_worth_309 : decode cX1_worth 309 = .ok (.iinc 3 1, 3) := by decide +kernel
theorem dX1_worth_312 : decode cX1_worth 312 = .ok (.goto (-310), 3) := by decide +kernel
theorem dX1_worth_315 : decode cX1_worth 315 = .ok (.aload_n 0, 1) := by decide +kernel
theorem dX1_worth_316 : decode cX1_worth 316 = .ok (.getfield 42, 3) := by decide +kernel
theorem dX1_worth_319 : decode cX1_worth 319 = .ok (.iload_n 1, 1) := by decide +kernel
theorem dX1_worth_320 : decode cX1_worth 320 = .ok (.iaload, 1) := by decide +kernel
theorem dX1_worth_321 : decode cX1_worth 321 = .ok (.ireturn, 1) := by decide +kernel
set_option maxRecDepth 20000 in
theorem ggX1_report_X1_isSource : GoodIn wsX1_report wsX1_isSource := goodIn_r _ [6, 7, 8, 5, 9] (by decide +kernel) (by decide +kernel)
set_option maxRecDepth 20000 in
theorem gX1_report_X1_isSource : GoodIn wsX1_report (va_wsS RX1 70 yX1_isSource wsX1_isSource) := goodIn_app (goodIn_of _ (by decide +kernel)) ggX1_report_X1_isSource
set_option maxRecDepth 20000 in
theorem ggX1_report_X1_isAtom : GoodIn wsX1_report wsX1_isAtom := goodIn_r _ [12, 7, 8, 5, 9] (by decide +kernel) (by decide +kernel)
set_option maxRecDepth 20000 in
theorem gX1_report_X1_isAtom : GoodIn wsX1_report (va_wsS RX1 59 yX1_isAtom wsX1_isAtom) := goodIn_app (goodIn_of _ (by decide +kernel)) ggX1_report_X1_isAtom
set_option maxRecDepth 20000 in
theorem ggX1_report_X1_no : GoodIn wsX1_report wsX1_no := goodIn_r _ [16, 1, 17, 18, 19, 20, 21, 22, 23, 24, 25, 26, 27, 28, 29] (by decide +kernel) (by decide +kernel)
set_option maxRecDepth 20000 in
theorem gX1_report_X1_no : GoodIn wsX1_report (wsV RX1 55 RX1 yX1_no wsX1_no) := goodIn_app (goodIn_of _ (by decide +kernel)) ggX1_report_X1_no
set_option maxRecDepth 20000 in
theorem ggX1_report_X1_isIn : GoodIn wsX1_report wsX1_isIn := goodIn_r _ [9] (by decide +kernel) (by decide +kernel)
set_option maxRecDepth 20000 in
theorem gX1_report_X1_isIn : GoodIn wsX1_report (va_wsS RX1 51 yX1_isIn wsX1_isIn) := goodIn_app (goodIn_of _ (by decide +kernel)) ggX1_report_X1_isIn
theorem dX1_report_0 : decode cX1_report 0 = .ok (.aload_n 0, 1) := by decide +kernel
theorem dX1_report_1 : decode cX1_report 1 = .ok (.iconst 0, 1) := by decide +kernel
theorem dX1_report_2 : decode cX1_report 2 = .ok (.putfield 45, 3) := by decide +kernel
theorem dX1_report_5 : decode cX1_report 5 = .ok (.iload_n 1, 1) := by decide +kernel
theorem dX1_report_6 : decode cX1_report 6 = .ok (.invokestatic 70, 3) := by decide +kernel
theorem dX1_report_9 : decode cX1_report 9 = .ok (.ifCond .eq 10, 3) := by decide +kernel
theorem dX1_report_12 : decode cX1_report 12 = .ok (.iload_n 2, 1) := by decide +kernel
theorem dX1_report_13 : decode cX1_report 13 = .ok (.invokestatic 59, 3) := by decide +kernel
theorem dX1_report_16 : decode cX1_report 16 = .ok (.ifCond .ne 9, 3) := by decide +kernel
theorem dX1_report_19 : decode cX1_report 19 = .ok (.aload_n 0, 1) := by decide +kernel
theorem dX1_report_20 : decode cX1_report 20 = .ok (.iconst 1, 1) := by decide +kernel
theorem dX1_report_21 : decode cX1_report 21 = .ok (.invokevirtual 55, 3) := by decide +kernel
theorem dX1_report_24 : decode cX1_report 24 = .ok (.ireturn, 1) := by decide +kernel
theorem dX1_report_25 : decode cX1_report 25 = .ok (.iload_n 3, 1) := by decide +kernel
theorem dX1_report_26 : decode cX1_report 26 = .ok (.iconst 0, 1) := by decide +kernel
theorem dX1_report_27 : decode cX1_report 27 = .ok (.iconst 3, 1) := by decide +kernel
theorem dX1_report_28 : decode cX1_report 28 = .ok (.invokestatic 51, 3) := by decide +kernel
theorem dX1_report_31 : decode cX1_report 31 = .ok (.ifCond .ne 9, 3) := by decide +kernel
theorem dX1_report_34 : decode cX1_report 34 = .ok (.aload_n 0, 1) := by decide +kernel
theorem dX1_report_35 : decode cX1_report 35 = .ok (.iconst 2, 1) := by decide +kernel
theorem dX1_report_36 : decode cX1_report 36 = .ok (.invokevirtual 55, 3) := by decide +kernel
theorem dX1_report_39 : decode cX1_report 39 = .ok (.ireturn, 1) := by decide +kernel
theorem dX1_report_40 : decode cX1_report 40 = .ok (.aload_n 0, 1) := by decide +kernel
theorem dX1_report_41 : decode cX1_report 41 = .ok (.getfield 29, 3) := by decide +kernel
theorem dX1_report_44 : decode cX1_report 44 = .ok (.bipush 6, 2) := by decide +kernel
theorem dX1_report_46 : decode cX1_report 46 = .ok (.iload_n 1, 1) := by decide +kernel
theorem dX1_report_47 : decode cX1_report 47 = .ok (.imul, 1) := by decide +kernel
theorem dX1_report_48 : decode cX1_report 48 = .ok (.iload_n 2, 1) := by decide +kernel
theorem dX1_report_49 : decode cX1_report 49 = .ok (.iadd, 1) := by decide +kernel
theorem dX1_report_50 : decode cX1_report 50 = .ok (.iaload, 1) := by decide +kernel
theorem dX1_report_51 : decode cX1_report 51 = .ok (.istore 4, 2) := by decide +kernel
theorem dX1_report_53 : decode cX1_report 53 = .ok (.aload_n 0, 1) := by decide +kernel
theorem dX1_report_54 : decode cX1_report 54 = .ok (.getfield 29, 3) := by decide +kernel
theorem dX1_report_57 : decode cX1_report 57 = .ok (.bipush 6, 2) := by decide +kernel
theorem dX1_report_59 : decode cX1_report 59 = .ok (.iload_n 1, 1) := by decide +kernel
theorem dX1_report_60 : decode cX1_report 60 = .ok (.imul, 1) := by decide +kernel
theorem dX1_report_61 : decode cX1_report 61 = .ok (.iload_n 2, 1) := by decide +kernel
theorem dX1_report_62 : decode cX1_report 62 = .ok (.iadd, 1) := by decide +kernel
theorem dX1_report_63 : decode cX1_report 63 = .ok (.iload_n 3, 1) := by decide +kernel
theorem dX1_report_64 : decode cX1_report 64 = .ok (.iastore, 1) := by decide +kernel
theorem dX1_report_65 : decode cX1_report 65 = .ok (.iload 4, 2) := by decide +kernel
theorem dX1_report_67 : decode cX1_report 67 = .ok (.ireturn, 1) := by decide +kernel
set_option maxRecDepth 20000 in
theorem ggX1_setTrust_X1_isSource : GoodIn wsX1_setTrust wsX1_isSource := goodIn_r _ [6, 7, 8, 5, 9] (by decide +kernel) (by decide +kernel)
set_option maxRecDepth 20000 in
theorem gX1_setTrust_X1_isSource : GoodIn wsX1_setTrust (va_wsS RX1 70 yX1_isSource wsX1_isSource) := goodIn_app (goodIn_of _ (by decide +kernel)) ggX1_setTrust_X1_isSource
set_option maxRecDepth 20000 in
theorem ggX1_setTrust_X1_no : GoodIn wsX1_setTrust wsX1_no := goodIn_r _ [13, 1, 14, 15, 16, 17, 18, 19, 20, 21, 22, 23, 24, 25, 26] (by decide +kernel) (by decide +kernel)
set_option maxRecDepth 20000 in
theorem gX1_setTrust_X1_no : GoodIn wsX1_setTrust (wsV RX1 55 RX1 yX1_no wsX1_no) := goodIn_app (goodIn_of _ (by decide +kernel)) ggX1_setTrust_X1_no
set_option maxRecDepth 20000 in
theorem ggX1_setTrust_X1_isIn : GoodIn wsX1_setTrust wsX1_isIn := goodIn_r _ [9] (by decide +kernel) (by decide +kernel)
set_option maxRecDepth 20000 in
theorem gX1_setTrust_X1_isIn : GoodIn wsX1_setTrust (va_wsS RX1 51 yX1_isIn wsX1_isIn) := goodIn_app (goodIn_of _ (by decide +kernel)) ggX1_setTrust_X1_isIn
theorem dX1_setTrust_0 : decode cX1_setTrust 0 = .ok (.aload_n 0, 1) := by decide +kernel
theorem dX1_setTrust_1 : decode cX1_setTrust 1 = .ok (.iconst 0, 1) := by decide +kernel
theorem dX1_setTrust_2 : decode cX1_setTrust 2 = .ok (.putfield 45, 3) := by decide +kernel
theorem dX1_setTrust_5 : decode cX1_setTrust 5 = .ok (.iload_n 1, 1) := by decide +kernel
theorem dX1_setTrust_6 : decode cX1_setTrust 6 = .ok (.invokestatic 70, 3) := by decide +kernel
theorem dX1_setTrust_9 : decode cX1_setTrust 9 = .ok (.ifCond .ne 9, 3) := by decide +kernel
theorem dX1_setTrust_12 : decode cX1_setTrust 12 = .ok (.aload_n 0, 1) := by decide +kernel
theorem dX1_setTrust_13 : decode cX1_setTrust 13 = .ok (.iconst 1, 1) := by decide +kernel
theorem dX1_setTrust_14 : decode cX1_setTrust 14 = .ok (.invokevirtual 55, 3) := by decide +kernel
theorem dX1_setTrust_17 : decode cX1_setTrust 17 = .ok (.ireturn, 1) := by decide +kernel
theorem dX1_setTrust_18 : decode cX1_setTrust 18 = .ok (.iload_n 2, 1) := by decide +kernel
theorem dX1_setTrust_19 : decode cX1_setTrust 19 = .ok (.iconst 1, 1) := by decide +kernel
theorem dX1_setTrust_20 : decode cX1_setTrust 20 = .ok (.bipush 100, 2) := by decide +kernel
theorem dX1_setTrust_22 : decode cX1_setTrust 22 = .ok (.invokestatic 51, 3) := by decide +kernel
theorem dX1_setTrust_25 : decode cX1_setTrust 25 = .ok (.ifCond .ne 9, 3) := by decide +kernel
theorem dX1_setTrust_28 : decode cX1_setTrust 28 = .ok (.aload_n 0, 1) := by decide +kernel
theorem dX1_setTrust_29 : decode cX1_setTrust 29 = .ok (.iconst 2, 1) := by decide +kernel
theorem dX1_setTrust_30 : decode cX1_setTrust 30 = .ok (.invokevirtual 55, 3) := by decide +kernel
theorem dX1_setTrust_33 : decode cX1_setTrust 33 = .ok (.ireturn, 1) := by decide +kernel
theorem dX1_setTrust_34 : decode cX1_setTrust 34 = .ok (.aload_n 0, 1) := by decide +kernel
theorem dX1_setTrust_35 : decode cX1_setTrust 35 = .ok (.getfield 23, 3) := by decide +kernel
theorem dX1_setTrust_38 : decode cX1_setTrust 38 = .ok (.iload_n 1, 1) := by decide +kernel
theorem dX1_setTrust_39 : decode cX1_setTrust 39 = .ok (.iaload, 1) := by decide +kernel
theorem dX1_setTrust_40 : decode cX1_setTrust 40 = .ok (.istore_n 3, 1) := by decide +kernel
theorem dX1_setTrust_41 : decode cX1_setTrust 41 = .ok (.aload_n 0, 1) := by decide +kernel
theorem dX1_setTrust_42 : decode cX1_setTrust 42 = .ok (.getfield 23, 3) := by decide +kernel
theorem dX1_setTrust_45 : decode cX1_setTrust 45 = .ok (.iload_n 1, 1) := by decide +kernel
theorem dX1_setTrust_46 : decode cX1_setTrust 46 = .ok (.iload_n 2, 1) := by decide +kernel
theorem dX1_setTrust_47 : decode cX1_setTrust 47 = .ok (.iastore, 1) := by decide +kernel
theorem dX1_setTrust_48 : decode cX1_setTrust 48 = .ok (.iload_n 3, 1) := by decide +kernel
theorem dX1_setTrust_49 : decode cX1_setTrust 49 = .ok (.ireturn, 1) := by decide +kernel
set_option maxRecDepth 20000 in
theorem ggX1_setLeastTrust_X1_isIn : GoodIn wsX1_setLeastTrust wsX1_isIn := goodIn_r _ [6] (by decide +kernel) (by decide +kernel)
set_option maxRecDepth 20000 in
theorem gX1_setLeastTrust_X1_isIn : GoodIn wsX1_setLeastTrust (va_wsS RX1 51 yX1_isIn wsX1_isIn) := goodIn_app (goodIn_of _ (by decide +kernel)) ggX1_setLeastTrust_X1_isIn
set_option maxRecDepth 20000 in
theorem ggX1_setLeastTrust_X1_no : GoodIn wsX1_setLeastTrust wsX1_no := goodIn_r _ [10, 1, 11, 12, 13, 14, 15, 16, 17, 18, 19, 20, 21, 22, 23] (by decide +kernel) (by decide +kernel)
set_option maxRecDepth 20000 in
theorem gX1_setLeastTrust_X1_no : GoodIn wsX1_setLeastTrust (wsV RX1 55 RX1 yX1_no wsX1_no) := goodIn_app (goodIn_of _ (by decide +kernel)) ggX1_setLeastTrust_X1_no
theorem dX1_setLeastTrust_0 : decode cX1_setLeastTrust 0 = .ok (.aload_n 0, 1) := by decide +kernel
theorem dX1_setLeastTrust_1 : decode cX1_setLeastTrust 1 = .ok (.iconst 0, 1) := by decide +kernel
theorem dX1_setLeastTrust_2 : decode cX1_setLeastTrust 2 = .ok (.putfield 45, 3) := by decide +kernel
theorem dX1_setLeastTrust_5 : decode cX1_setLeastTrust 5 = .ok (.iload_n 1, 1) := by decide +kernel
theorem dX1_setLeastTrust_6 : decode cX1_setLeastTrust 6 = .ok (.iconst 1, 1) := by decide +kernel
theorem dX1_setLeastTrust_7 : decode cX1_setLeastTrust 7 = .ok (.bipush 100, 2) := by decide +kernel
theorem dX1_setLeastTrust_9 : decode cX1_setLeastTrust 9 = .ok (.invokestatic 51, 3) := by decide +kernel
theorem dX1_setLeastTrust_12 : decode cX1_setLeastTrust 12 = .ok (.ifCond .ne 9, 3) := by decide +kernel
theorem dX1_setLeastTrust_15 : decode cX1_setLeastTrust 15 = .ok (.aload_n 0, 1) := by decide +kernel
theorem dX1_setLeastTrust_16 : decode cX1_setLeastTrust 16 = .ok (.iconst 1, 1) := by decide +kernel
theorem dX1_setLeastTrust_17 : decode cX1_setLeastTrust 17 = .ok (.invokevirtual 55, 3) := by decide +kernel
theorem dX1_setLeastTrust_20 : decode cX1_setLeastTrust 20 = .ok (.ireturn, 1) := by decide +kernel
theorem dX1_setLeastTrust_21 : decode cX1_setLeastTrust 21 = .ok (.aload_n 0, 1) := by decide +kernel
theorem dX1_setLeastTrust_22 : decode cX1_setLeastTrust 22 = .ok (.getfield 32, 3) := by decide +kernel
theorem dX1_setLeastTrust_25 : decode cX1_setLeastTrust 25 = .ok (.istore_n 2, 1) := by decide +kernel
theorem dX1_setLeastTrust_26 : decode cX1_setLeastTrust 26 = .ok (.aload_n 0, 1) := by decide +kernel
theorem dX1_setLeastTrust_27 : decode cX1_setLeastTrust 27 = .ok (.iload_n 1, 1) := by decide +kernel
theorem dX1_setLeastTrust_28 : decode cX1_setLeastTrust 28 = .ok (.putfield 32, 3) := by decide +kernel
theorem dX1_setLeastTrust_31 : decode cX1_setLeastTrust 31 = .ok (.iload_n 2, 1) := by decide +kernel
theorem dX1_setLeastTrust_32 : decode cX1_setLeastTrust 32 = .ok (.ireturn, 1) := by decide +kernel
theorem dX1_isHeard_0 : decode cX1_isHeard 0 = .ok (.aload_n 0, 1) := by decide +kernel
theorem dX1_isHeard_1 : decode cX1_isHeard 1 = .ok (.getfield 26, 3) := by decide +kernel
theorem dX1_isHeard_4 : decode cX1_isHeard 4 = .ok (.iload_n 1, 1) := by decide +kernel
theorem dX1_isHeard_5 : decode cX1_isHeard 5 = .ok (.baload, 1) := by decide +kernel
theorem dX1_isHeard_6 : decode cX1_isHeard 6 = .ok (.ifCond .eq 20, 3) := by decide +kernel
theorem dX1_isHeard_9 : decode cX1_isHeard 9 = .ok (.aload_n 0, 1) := by decide +kernel
theorem dX1_isHeard_10 : decode cX1_isHeard 10 = .ok (.getfield 23, 3) := by decide +kernel
theorem dX1_isHeard_13 : decode cX1_isHeard 13 = .ok (.iload_n 1, 1) := by decide +kernel
theorem dX1_isHeard_14 : decode cX1_isHeard 14 = .ok (.iaload, 1) := by decide +kernel
theorem dX1_isHeard_15 : decode cX1_isHeard 15 = .ok (.aload_n 0, 1) := by decide +kernel
theorem dX1_isHeard_16 : decode cX1_isHeard 16 = .ok (.getfield 32, 3) := by decide +kernel
theorem dX1_isHeard_19 : decode cX1_isHeard 19 = .ok (.if_icmp .lt 7, 3) := by decide +kernel
theorem dX1_isHeard_22 : decode cX1_isHeard 22 = .ok (.iconst 1, 1) := by decide +kernel
theorem dX1_isHeard_23 : decode cX1_isHeard 23 = .ok (.goto 4, 3) := by decide +kernel
theorem dX1_isHeard_26 : decode cX1_isHeard 26 = .ok (.iconst 0, 1) := by decide +kernel
theorem dX1_isHeard_27 : decode cX1_isHeard 27 = .ok (.ireturn, 1) := by decide +kernel
set_option maxRecDepth 20000 in
theorem ggX1_heardSet_X1_isHeard : GoodIn wsX1_heardSet wsX1_isHeard := goodIn_r _ [5, 6, 7, 8, 9, 10, 11, 12, 13, 14, 15, 16, 17, 18, 19, 20, 21] (by decide +kernel) (by decide +kernel)
set_option maxRecDepth 20000 in
theorem gX1_heardSet_X1_isHeard : GoodIn wsX1_heardSet (wsV RX1 73 RX1 yX1_isHeard wsX1_isHeard) := goodIn_app (goodIn_of _ (by decide +kernel)) ggX1_heardSet_X1_isHeard
theorem dX1_heardSet_0 : decode cX1_heardSet 0 = .ok (.iconst 0, 1) := by decide +kernel
theorem dX1_heardSet_1 : decode cX1_heardSet 1 = .ok (.istore_n 1, 1) := by decide +kernel
theorem dX1_heardSet_2 : decode cX1_heardSet 2 = .ok (.iconst 0, 1) := by decide +kernel
theorem dX1_heardSet_3 : decode cX1_heardSet 3 = .ok (.istore_n 2, 1) := by decide +kernel
theorem dX1_heardSet_4 : decode cX1_heardSet 4 = .ok (.iload_n 2, 1) := by decide +kernel
theorem dX1_heardSet_5 : decode cX1_heardSet 5 = .ok (.bipush 6, 2) := by decide +kernel
theorem dX1_heardSet_7 : decode cX1_heardSet 7 = .ok (.if_icmp .ge 23, 3) := by decide +kernel
theorem dX1_heardSet_10 : decode cX1_heardSet 10 = .ok (.aload_n 0, 1) := by decide +kernel
theorem dX1_heardSet_11 : decode cX1_heardSet 11 = .ok (.iload_n 2, 1) := by decide +kernel
theorem dX1_heardSet_12 : decode cX1_heardSet 12 = .ok (.invokevirtual 73, 3) := by decide +kernel
theorem dX1_heardSet_15 : decode cX1_heardSet 15 = .ok (.ifCond .eq 9, 3) := by decide +kernel
theorem dX1_heardSet_18 : decode cX1_heardSet 18 = .ok (.iload_n 1, 1) := by decide +kernel
theorem dX1_heardSet_19 : decode cX1_heardSet 19 = .ok (.iconst 1, 1) := by decide +kernel
theorem dX1_heardSet_20 : decode cX1_heardSet 20 = .ok (.iload_n 2, 1) := by decide +kernel
theorem dX1_heardSet_21 : decode cX1_heardSet 21 = .ok (.ishl, 1) := by decide +kernel
theorem dX1_heardSet_22 : decode cX1_heardSet 22 = .ok (.ior, 1) := by decide +kernel
theorem dX1_heardSet_23 : decode cX1_heardSet 23 = .ok (.istore_n 1, 1) := by decide +kernel
theorem dX1_heardSet_24 : decode cX1_heardSet 24 = .ok (.iinc 2 1, 3) := by decide +kernel
theorem dX1_heardSet_27 : decode cX1_heardSet 27 = .ok (.goto (-23), 3) := by decide +kernel
theorem dX1_heardSet_30 : decode cX1_heardSet 30 = .ok (.iload_n 1, 1) := by decide +kernel
theorem dX1_heardSet_31 : decode cX1_heardSet 31 = .ok (.ireturn, 1) := by decide +kernel
set_option maxRecDepth 20000 in
theorem ggX1_let_X1_isSource : GoodIn wsX1_let wsX1_isSource := goodIn_r _ [6, 7, 8, 5, 9] (by decide +kernel) (by decide +kernel)
set_option maxRecDepth 20000 in
theorem gX1_let_X1_isSource : GoodIn wsX1_let (va_wsS RX1 70 yX1_isSource wsX1_isSource) := goodIn_app (goodIn_of _ (by decide +kernel)) ggX1_let_X1_isSource
set_option maxRecDepth 20000 in
theorem ggX1_let_X1_isHeard : GoodIn wsX1_let wsX1_isHeard := goodIn_r _ [13, 2, 14, 15, 16, 17, 18, 19, 20, 21, 22, 23, 24, 25, 26, 27, 28] (by decide +kernel) (by decide +kernel)
set_option maxRecDepth 20000 in
theorem gX1_let_X1_isHeard : GoodIn wsX1_let (wsV RX1 73 RX1 yX1_isHeard wsX1_isHeard) := goodIn_app (goodIn_of _ (by decide +kernel)) ggX1_let_X1_isHeard
theorem dX1_let_0 : decode cX1_let 0 = .ok (.aload_n 0, 1) := by decide +kernel
theorem dX1_let_1 : decode cX1_let 1 = .ok (.iload_n 1, 1) := by decide +kernel
theorem dX1_let_2 : decode cX1_let 2 = .ok (.invokestatic 70, 3) := by decide +kernel
theorem dX1_let_5 : decode cX1_let 5 = .ok (.ifCond .eq 7, 3) := by decide +kernel
theorem dX1_let_8 : decode cX1_let 8 = .ok (.iconst 0, 1) := by decide +kernel
theorem dX1_let_9 : decode cX1_let 9 = .ok (.goto 4, 3) := by decide +kernel
theorem dX1_let_12 : decode cX1_let 12 = .ok (.iconst 1, 1) := by decide +kernel
theorem dX1_let_13 : decode cX1_let 13 = .ok (.putfield 45, 3) := by decide +kernel
theorem dX1_let_16 : decode cX1_let 16 = .ok (.aload_n 0, 1) := by decide +kernel
theorem dX1_let_17 : decode cX1_let 17 = .ok (.getfield 45, 3) := by decide +kernel
theorem dX1_let_20 : decode cX1_let 20 = .ok (.ifCond .eq 5, 3) := by decide +kernel
theorem dX1_let_23 : decode cX1_let 23 = .ok (.iconst 0, 1) := by decide +kernel
theorem dX1_let_24 : decode cX1_let 24 = .ok (.ireturn, 1) := by decide +kernel
theorem dX1_let_25 : decode cX1_let 25 = .ok (.aload_n 0, 1) := by decide +kernel
theorem dX1_let_26 : decode cX1_let 26 = .ok (.getfield 26, 3) := by decide +kernel
theorem dX1_let_29 : decode cX1_let 29 = .ok (.iload_n 1, 1) := by decide +kernel
theorem dX1_let_30 : decode cX1_let 30 = .ok (.iload_n 2, 1) := by decide +kernel
theorem dX1_let_31 : decode cX1_let 31 = .ok (.bastore, 1) := by decide +kernel
theorem dX1_let_32 : decode cX1_let 32 = .ok (.aload_n 0, 1) := by decide +kernel
theorem dX1_let_33 : decode cX1_let 33 = .ok (.iload_n 1, 1) := by decide +kernel
theorem dX1_let_34 : decode cX1_let 34 = .ok (.invokevirtual 73, 3) := by decide +kernel
theorem dX1_let_37 : decode cX1_let 37 = .ok (.ireturn, 1) := by decide +kernel
set_option maxRecDepth 20000 in
theorem ggX1_setRule_X1_isAtom : GoodIn wsX1_setRule wsX1_isAtom := goodIn_r _ [7, 8, 9, 6, 10] (by decide +kernel) (by decide +kernel)
set_option maxRecDepth 20000 in
theorem gX1_setRule_X1_isAtom : GoodIn wsX1_setRule (va_wsS RX1 59 yX1_isAtom wsX1_isAtom) := goodIn_app (goodIn_of _ (by decide +kernel)) ggX1_setRule_X1_isAtom
set_option maxRecDepth 20000 in
theorem ggX1_setRule_X1_isFormula : GoodIn wsX1_setRule wsX1_isFormula := goodIn_r _ [14, 15, 8, 9, 6, 10, 20, 21, 22, 23, 24, 25, 26, 27, 28, 29, 30, 31, 32] (by decide +kernel) (by decide +kernel)
set_option maxRecDepth 20000 in
theorem gX1_setRule_X1_isFormula : GoodIn wsX1_setRule (wsV RX1 67 RX1 yX1_isFormula wsX1_isFormula) := goodIn_app (goodIn_of _ (by decide +kernel)) ggX1_setRule_X1_isFormula
set_option maxRecDepth 20000 in
theorem ggX1_setRule_X1_no : GoodIn wsX1_setRule wsX1_no := goodIn_r _ [19, 1, 20, 21, 22, 23, 24, 25, 26, 27, 28, 29, 30, 31, 32] (by decide +kernel) (by decide +kernel)
set_option maxRecDepth 20000 in
theorem gX1_setRule_X1_no : GoodIn wsX1_setRule (wsV RX1 55 RX1 yX1_no wsX1_no) := goodIn_app (goodIn_of _ (by decide +kernel)) ggX1_setRule_X1_no
theorem dX1_setRule_0 : decode cX1_setRule 0 = .ok (.aload_n 0, 1) := by decide +kernel
theorem dX1_setRule_1 : decode cX1_setRule 1 = .ok (.iconst 0, 1) := by decide +kernel
theorem dX1_setRule_2 : decode cX1_setRule 2 = .ok (.putfield 45, 3) := by decide +kernel
theorem dX1_setRule_5 : decode cX1_setRule 5 = .ok (.iload_n 1, 1) := by decide +kernel
theorem dX1_setRule_6 : decode cX1_setRule 6 = .ok (.invokestatic 59, 3) := by decide +kernel
theorem dX1_setRule_9 : decode cX1_setRule 9 = .ok (.ifCond .eq 16, 3) := by decide +kernel
theorem dX1_setRule_12 : decode cX1_setRule 12 = .ok (.iload_n 2, 1) := by decide +kernel
theorem dX1_setRule_13 : decode cX1_setRule 13 = .ok (.iconst (-1), 1) := by decide +kernel
theorem dX1_setRule_14 : decode cX1_setRule 14 = .ok (.if_icmp .eq 17, 3) := by decide +kernel
theorem dX1_setRule_17 : decode cX1_setRule 17 = .ok (.aload_n 0, 1) := by decide +kernel
theorem dX1_setRule_18 : decode cX1_setRule 18 = .ok (.iload_n 2, 1) := by decide +kernel
theorem dX1_setRule_19 : decode cX1_setRule 19 = .ok (.invokevirtual 67, 3) := by decide +kernel
theorem dX1_setRule_22 : decode cX1_setRule 22 = .ok (.ifCond .ne 9, 3) := by decide +kernel
theorem dX1_setRule_25 : decode cX1_setRule 25 = .ok (.aload_n 0, 1) := by decide +kernel
theorem dX1_setRule_26 : decode cX1_setRule 26 = .ok (.iconst 1, 1) := by decide +kernel
theorem dX1_setRule_27 : decode cX1_setRule 27 = .ok (.invokevirtual 55, 3) := by decide +kernel
theorem dX1_setRule_30 : decode cX1_setRule 30 = .ok (.ireturn, 1) := by decide +kernel
theorem dX1_setRule_31 : decode cX1_setRule 31 = .ok (.iload_n 2, 1) := by decide +kernel
theorem dX1_setRule_32 : decode cX1_setRule 32 = .ok (.iconst (-1), 1) := by decide +kernel
theorem dX1_setRule_33 : decode cX1_setRule 33 = .ok (.if_icmp .eq 18, 3) := by decide +kernel
theorem dX1_setRule_36 : decode cX1_setRule 36 = .ok (.aload_n 0, 1) := by decide +kernel
theorem dX1_setRule_37 : decode cX1_setRule 37 = .ok (.getfield 19, 3) := by decide +kernel
theorem dX1_setRule_40 : decode cX1_setRule 40 = .ok (.iload_n 2, 1) := by decide +kernel
theorem dX1_setRule_41 : decode cX1_setRule 41 = .ok (.baload, 1) := by decide +kernel
theorem dX1_setRule_42 : decode cX1_setRule 42 = .ok (.ifCond .ne 9, 3) := by decide +kernel
theorem dX1_setRule_45 : decode cX1_setRule 45 = .ok (.aload_n 0, 1) := by decide +kernel
theorem dX1_setRule_46 : decode cX1_setRule 46 = .ok (.iconst 2, 1) := by decide +kernel
theorem dX1_setRule_47 : decode cX1_setRule 47 = .ok (.invokevirtual 55, 3) := by decide +kernel
theorem dX1_setRule_50 : decode cX1_setRule 50 = .ok (.ireturn, 1) := by decide +kernel
theorem dX1_setRule_51 : decode cX1_setRule 51 = .ok (.aload_n 0, 1) := by decide +kernel
theorem dX1_setRule_52 : decode cX1_setRule 52 = .ok (.getfield 36, 3) := by decide +kernel
theorem dX1_setRule_55 : decode cX1_setRule 55 = .ok (.iload_n 1, 1) := by decide +kernel
theorem dX1_setRule_56 : decode cX1_setRule 56 = .ok (.iaload, 1) := by decide +kernel
theorem dX1_setRule_57 : decode cX1_setRule 57 = .ok (.istore_n 3, 1) := by decide +kernel
theorem dX1_setRule_58 : decode cX1_setRule 58 = .ok (.aload_n 0, 1) := by decide +kernel
theorem dX1_setRule_59 : decode cX1_setRule 59 = .ok (.getfield 36, 3) := by decide +kernel
theorem dX1_setRule_62 : decode cX1_setRule 62 = .ok (.iload_n 1, 1) := by decide +kernel
theorem dX1_setRule_63 : decode cX1_setRule 63 = .ok (.iload_n 2, 1) := by decide +kernel
theorem dX1_setRule_64 : decode cX1_setRule 64 = .ok (.iastore, 1) := by decide +kernel
theorem dX1_setRule_65 : decode cX1_setRule 65 = .ok (.iload_n 3, 1) := by decide +kernel
theorem dX1_setRule_66 : decode cX1_setRule 66 = .ok (.ireturn, 1) := by decide +kernel
set_option maxRecDepth 20000 in
theorem ggX1_givenBy_X1_has : GoodIn wsX1_givenBy wsX1_has := goodIn_r _ [5] (by decide +kernel) (by decide +kernel)
set_option maxRecDepth 20000 in
theorem gX1_givenBy_X1_has : GoodIn wsX1_givenBy (va_wsS RX1 76 yX1_has wsX1_has) := goodIn_app (goodIn_of _ (by decide +kernel)) ggX1_givenBy_X1_has
theorem dX1_givenBy_0 : decode cX1_givenBy 0 = .ok (.iconst 0, 1) := by decide +kernel
theorem dX1_givenBy_1 : decode cX1_givenBy 1 = .ok (.istore_n 3, 1) := by decide +kernel
theorem dX1_givenBy_2 : decode cX1_givenBy 2 = .ok (.iconst 0, 1) := by decide +kernel
theorem dX1_givenBy_3 : decode cX1_givenBy 3 = .ok (.istore 4, 2) := by decide +kernel
theorem dX1_givenBy_5 : decode cX1_givenBy 5 = .ok (.iload 4, 2) := by decide +kernel
theorem dX1_givenBy_7 : decode cX1_givenBy 7 = .ok (.bipush 6, 2) := by decide +kernel
theorem dX1_givenBy_9 : decode cX1_givenBy 9 = .ok (.if_icmp .ge 33, 3) := by decide +kernel
theorem dX1_givenBy_12 : decode cX1_givenBy 12 = .ok (.iload_n 1, 1) := by decide +kernel
theorem dX1_givenBy_13 : decode cX1_givenBy 13 = .ok (.iload 4, 2) := by decide +kernel
theorem dX1_givenBy_15 : decode cX1_givenBy 15 = .ok (.invokestatic 76, 3) := by decide +kernel
theorem dX1_givenBy_18 : decode cX1_givenBy 18 = .ok (.ifCond .eq 18, 3) := by decide +kernel
theorem dX1_givenBy_21 : decode cX1_givenBy 21 = .ok (.iload_n 3, 1) := by decide +kernel
theorem dX1_givenBy_22 : decode cX1_givenBy 22 = .ok (.aload_n 0, 1) := by decide +kernel
theorem dX1_givenBy_23 : decode cX1_givenBy 23 = .ok (.getfield 29, 3) := by decide +kernel
theorem dX1_givenBy_26 : decode cX1_givenBy 26 = .ok (.bipush 6, 2) := by decide +kernel
theorem dX1_givenBy_28 : decode cX1_givenBy 28 = .ok (.iload 4, 2) := by decide +kernel
theorem dX1_givenBy_30 : decode cX1_givenBy 30 = .ok (.imul, 1) := by decide +kernel
theorem dX1_givenBy_31 : decode cX1_givenBy 31 = .ok (.iload_n 2, 1) := by decide +kernel
theorem dX1_givenBy_32 : decode cX1_givenBy 32 = .ok (.iadd, 1) := by decide +kernel
theorem dX1_givenBy_33 : decode cX1_givenBy 33 = .ok (.iaload, 1) := by decide +kernel
theorem dX1_givenBy_34 : decode cX1_givenBy 34 = .ok (.ior, 1) := by decide +kernel
theorem dX1_givenBy_35 : decode cX1_givenBy 35 = .ok (.istore_n 3, 1) := by decide +kernel
theorem dX1_givenBy_36 : decode cX1_givenBy 36 = .ok (.iinc 4 1, 3) := by decide +kernel
theorem dX1_givenBy_39 : decode cX1_givenBy 39 = .ok (.goto (-34), 3) := by decide +kernel
theorem dX1_givenBy_42 : decode cX1_givenBy 42 = .ok (.iload_n 3, 1) := by decide +kernel
theorem dX1_givenBy_43 : decode cX1_givenBy 43 = .ok (.ireturn, 1) := by decide +kernel
set_option maxRecDepth 20000 in
theorem ggX1_given_X1_isAtom : GoodIn wsX1_given wsX1_isAtom := goodIn_r _ [5, 6, 7, 4, 8] (by decide +kernel) (by decide +kernel)
set_option maxRecDepth 20000 in
theorem gX1_given_X1_isAtom : GoodIn wsX1_given (va_wsS RX1 59 yX1_isAtom wsX1_isAtom) := goodIn_app (goodIn_of _ (by decide +kernel)) ggX1_given_X1_isAtom
set_option maxRecDepth 20000 in
theorem ggX1_given_X1_heardSet : GoodIn wsX1_given wsX1_heardSet := goodIn_r _ [12, 13, 14, 15, 4, 16, 17, 18, 19, 32, 33, 34, 35, 36, 37, 38, 39, 40, 41, 42, 43, 44] (by decide +kernel) (by decide +kernel)
set_option maxRecDepth 20000 in
theorem gX1_given_X1_heardSet : GoodIn wsX1_given (wsV RX1 80 RX1 yX1_heardSet wsX1_heardSet) := goodIn_app (goodIn_of _ (by decide +kernel)) ggX1_given_X1_heardSet
set_option maxRecDepth 20000 in
theorem ggX1_given_X1_givenBy : GoodIn wsX1_given wsX1_givenBy := goodIn_r _ [23, 24, 25, 26, 4, 27, 32, 33, 34, 35, 36, 37, 38, 39, 40, 41, 42, 43, 44] (by decide +kernel) (by decide +kernel)
set_option maxRecDepth 20000 in
theorem gX1_given_X1_givenBy : GoodIn wsX1_given (wsV RX1 84 RX1 yX1_givenBy wsX1_givenBy) := goodIn_app (goodIn_of _ (by decide +kernel)) ggX1_given_X1_givenBy
set_option maxRecDepth 20000 in
theorem ggX1_given_X1_no : GoodIn wsX1_given wsX1_no := goodIn_r _ [31, 1, 32, 33, 34, 35, 36, 37, 38, 39, 40, 41, 42, 43, 44] (by decide +kernel) (by decide +kernel)
set_option maxRecDepth 20000 in
theorem gX1_given_X1_no : GoodIn wsX1_given (wsV RX1 55 RX1 yX1_no wsX1_no) := goodIn_app (goodIn_of _ (by decide +kernel)) ggX1_given_X1_no
theorem dX1_given_0 : decode cX1_given 0 = .ok (.aload_n 0, 1) := by decide +kernel
theorem dX1_given_1 : decode cX1_given 1 = .ok (.iconst 0, 1) := by decide +kernel
theorem dX1_given_2 : decode cX1_given 2 = .ok (.putfield 45, 3) := by decide +kernel
theorem dX1_given_5 : decode cX1_given 5 = .ok (.iload_n 1, 1) := by decide +kernel
theorem dX1_given_6 : decode cX1_given 6 = .ok (.invokestatic 59, 3) := by decide +kernel
theorem dX1_given_9 : decode cX1_given 9 = .ok (.ifCond .eq 15, 3) := by decide +kernel
theorem dX1_given_12 : decode cX1_given 12 = .ok (.aload_n 0, 1) := by decide +kernel
theorem dX1_given_13 : decode cX1_given 13 = .ok (.aload_n 0, 1) := by decide +kernel
theorem dX1_given_14 : decode cX1_given 14 = .ok (.invokevirtual 80, 3) := by decide +kernel
theorem dX1_given_17 : decode cX1_given 17 = .ok (.iload_n 1, 1) := by decide +kernel
theorem dX1_given_18 : decode cX1_given 18 = .ok (.invokevirtual 84, 3) := by decide +kernel
theorem dX1_given_21 : decode cX1_given 21 = .ok (.goto 8, 3) := by decide +kernel
theorem dX1_given_24 : decode cX1_given 24 = .ok (.aload_n 0, 1) := by decide +kernel
theorem dX1_given_25 : decode cX1_given 25 = .ok (.iconst 1, 1) := by decide +kernel
theorem dX1_given_26 : decode cX1_given 26 = .ok (.invokevirtual 55, 3) := by decide +kernel
theorem dX1_given_29 : decode cX1_given 29 = .ok (.ireturn, 1) := by decide +kernel
theorem dX1_valueIn_0 : decode cX1_valueIn 0 = .ok (.iload_n 0, 1) := by decide +kernel
theorem dX1_valueIn_1 : decode cX1_valueIn 1 = .ok (.iconst 2, 1) := by decide +kernel
theorem dX1_valueIn_2 : decode cX1_valueIn 2 = .ok (.iconst 5, 1) := by decide +kernel
theorem dX1_valueIn_3 : decode cX1_valueIn 3 = .ok (.iload_n 1, 1) := by decide +kernel
theorem dX1_valueIn_4 : decode cX1_valueIn 4 = .ok (.isub, 1) := by decide +kernel
theorem dX1_valueIn_5 : decode cX1_valueIn 5 = .ok (.imul, 1) := by decide +kernel
theorem dX1_valueIn_6 : decode cX1_valueIn 6 = .ok (.ishr, 1) := by decide +kernel
theorem dX1_valueIn_7 : decode cX1_valueIn 7 = .ok (.iconst 3, 1) := by decide +kernel
theorem dX1_valueIn_8 : decode cX1_valueIn 8 = .ok (.iand, 1) := by decide +kernel
theorem dX1_valueIn_9 : decode cX1_valueIn 9 = .ok (.ireturn, 1) := by decide +kernel
set_option maxRecDepth 20000 in
theorem ggX1_begin_X1_givenBy : GoodIn wsX1_begin wsX1_givenBy := goodIn_r _ [5, 6, 7, 8, 4, 9, 10, 11, 12, 13, 14, 15, 16, 17, 18, 19, 20, 21, 22] (by decide +kernel) (by decide +kernel)
set_option maxRecDepth 20000 in
theorem gX1_begin_X1_givenBy : GoodIn wsX1_begin (wsV RX1 84 RX1 yX1_givenBy wsX1_givenBy) := goodIn_app (goodIn_of _ (by decide +kernel)) ggX1_begin_X1_givenBy
theorem dX1_begin_0 : decode cX1_begin 0 = .ok (.iconst 0, 1) := by decide +kernel
theorem dX1_begin_1 : decode cX1_begin 1 = .ok (.istore_n 2, 1) := by decide +kernel
theorem dX1_begin_2 : decode cX1_begin 2 = .ok (.iconst 0, 1) := by decide +kernel
theorem dX1_begin_3 : decode cX1_begin 3 = .ok (.istore_n 3, 1) := by decide +kernel
theorem dX1_begin_4 : decode cX1_begin 4 = .ok (.iload_n 3, 1) := by decide +kernel
theorem dX1_begin_5 : decode cX1_begin 5 = .ok (.bipush 6, 2) := by decide +kernel
theorem dX1_begin_7 : decode cX1_begin 7 = .ok (.if_icmp .ge 20, 3) := by decide +kernel
theorem dX1_begin_10 : decode cX1_begin 10 = .ok (.iconst 4, 1) := by decide +kernel
theorem dX1_begin_11 : decode cX1_begin 11 = .ok (.iload_n 2, 1) := by decide +kernel
theorem dX1_begin_12 : decode cX1_begin 12 = .ok (.imul, 1) := by decide +kernel
theorem dX1_begin_13 : decode cX1_begin 13 = .ok (.aload_n 0, 1) := by decide +kernel
theorem dX1_begin_14 : decode cX1_begin 14 = .ok (.iload_n 1, 1) := by decide +kernel
theorem dX1_begin_15 : decode cX1_begin 15 = .ok (.iload_n 3, 1) := by decide +kernel
theorem dX1_begin_16 : decode cX1_begin 16 = .ok (.invokevirtual 84, 3) := by decide +kernel
theorem dX1_begin_19 : decode cX1_begin 19 = .ok (.iadd, 1) := by decide +kernel
theorem dX1_begin_20 : decode cX1_begin 20 = .ok (.istore_n 2, 1) := by decide +kernel
theorem dX1_begin_21 : decode cX1_begin 21 = .ok (.iinc 3 1, 3) := by decide +kernel
theorem dX1_begin_24 : decode cX1_begin 24 = .ok (.goto (-20), 3) := by decide +kernel
theorem dX1_begin_27 : decode cX1_begin 27 = .ok (.iload_n 2, 1) := by decide +kernel
theorem dX1_begin_28 : decode cX1_begin 28 = .ok (.ireturn, 1) := by decide +kernel
set_option maxRecDepth 20000 in
theorem ggX1_goOn_X1_givenBy : GoodIn wsX1_goOn wsX1_givenBy := goodIn_r _ [6, 7, 8, 9, 5, 10, 22, 23, 24, 25, 26, 27, 28, 29, 30, 31, 32, 33, 34] (by decide +kernel) (by decide +kernel)
set_option maxRecDepth 20000 in
theorem gX1_goOn_X1_givenBy : GoodIn wsX1_goOn (wsV RX1 84 RX1 yX1_givenBy wsX1_givenBy) := goodIn_app (goodIn_of _ (by decide +kernel)) ggX1_goOn_X1_givenBy
set_option maxRecDepth 20000 in
theorem ggX1_goOn_X1_worth : GoodIn wsX1_goOn wsX1_worth := goodIn_r _ [14, 15, 16, 17, 18, 19, 20, 5, 21, 22, 23, 24, 25, 26, 27, 28, 29, 30, 31, 32, 33, 34] (by decide +kernel) (by decide +kernel)
set_option maxRecDepth 20000 in
theorem gX1_goOn_X1_worth : GoodIn wsX1_goOn (wsV RX1 88 RX1 yX1_worth wsX1_worth) := goodIn_app (goodIn_of _ (by decide +kernel)) ggX1_goOn_X1_worth
theorem dX1_goOn_0 : decode cX1_goOn 0 = .ok (.iconst 0, 1) := by decide +kernel
theorem dX1_goOn_1 : decode cX1_goOn 1 = .ok (.istore_n 3, 1) := by decide +kernel
theorem dX1_goOn_2 : decode cX1_goOn 2 = .ok (.iconst 0, 1) := by decide +kernel
theorem dX1_goOn_3 : decode cX1_goOn 3 = .ok (.istore 4, 2) := by decide +kernel
theorem dX1_goOn_5 : decode cX1_goOn 5 = .ok (.iload 4, 2) := by decide +kernel
theorem dX1_goOn_7 : decode cX1_goOn 7 = .ok (.bipush 6, 2) := by decide +kernel
theorem dX1_goOn_9 : decode cX1_goOn 9 = .ok (.if_icmp .ge 49, 3) := by decide +kernel
theorem dX1_goOn_12 : decode cX1_goOn 12 = .ok (.iconst 4, 1) := by decide +kernel
theorem dX1_goOn_13 : decode cX1_goOn 13 = .ok (.iload_n 3, 1) := by decide +kernel
theorem dX1_goOn_14 : decode cX1_goOn 14 = .ok (.imul, 1) := by decide +kernel
theorem dX1_goOn_15 : decode cX1_goOn 15 = .ok (.aload_n 0, 1) := by decide +kernel
theorem dX1_goOn_16 : decode cX1_goOn 16 = .ok (.iload_n 1, 1) := by decide +kernel
theorem dX1_goOn_17 : decode cX1_goOn 17 = .ok (.iload 4, 2) := by decide +kernel
theorem dX1_goOn_19 : decode cX1_goOn 19 = .ok (.invokevirtual 84, 3) := by decide +kernel
theorem dX1_goOn_22 : decode cX1_goOn 22 = .ok (.aload_n 0, 1) := by decide +kernel
theorem dX1_goOn_23 : decode cX1_goOn 23 = .ok (.getfield 36, 3) := by decide +kernel
theorem dX1_goOn_26 : decode cX1_goOn 26 = .ok (.iload 4, 2) := by decide +kernel
theorem dX1_goOn_28 : decode cX1_goOn 28 = .ok (.iaload, 1) := by decide +kernel
theorem dX1_goOn_29 : decode cX1_goOn 29 = .ok (.iconst (-1), 1) := by decide +kernel
theorem dX1_goOn_30 : decode cX1_goOn 30 = .ok (.if_icmp .ne 7, 3) := by decide +kernel
theorem dX1_goOn_33 : decode cX1_goOn 33 = .ok (.iconst 0, 1) := by decide +kernel
theorem dX1_goOn_34 : decode cX1_goOn 34 = .ok (.goto 15, 3) := by decide +kernel
theorem dX1_goOn_37 : decode cX1_goOn 37 = .ok (.aload_n 0, 1) := by decide +kernel
theorem dX1_goOn_38 : decode cX1_goOn 38 = .ok (.aload_n 0, 1) := by decide +kernel
theorem dX1_goOn_39 : decode cX1_goOn 39 = .ok (.getfield 36, 3) := by decide +kernel
theorem dX1_goOn_42 : decode cX1_goOn 42 = .ok (.iload 4, 2) := by decide +kernel
theorem dX1_goOn_44 : decode cX1_goOn 44 = .ok (.iaload, 1) := by decide +kernel
theorem dX1_goOn_45 : decode cX1_goOn 45 = .ok (.iload_n 2, 1) := by decide +kernel
theorem dX1_goOn_46 : decode cX1_goOn 46 = .ok (.invokevirtual 88, 3) := by decide +kernel
theorem dX1_goOn_49 : decode cX1_goOn 49 = .ok (.ior, 1) := by decide +kernel
theorem dX1_goOn_50 : decode cX1_goOn 50 = .ok (.iadd, 1) := by decide +kernel
theorem dX1_goOn_51 : decode cX1_goOn 51 = .ok (.istore_n 3, 1) := by decide +kernel
theorem dX1_goOn_52 : decode cX1_goOn 52 = .ok (.iinc 4 1, 3) := by decide +kernel
theorem dX1_goOn_55 : decode cX1_goOn 55 = .ok (.goto (-50), 3) := by decide +kernel
theorem dX1_goOn_58 : decode cX1_goOn 58 = .ok (.iload_n 3, 1) := by decide +kernel
theorem dX1_goOn_59 : decode cX1_goOn 59 = .ok (.ireturn, 1) := by decide +kernel
set_option maxRecDepth 20000 in
theorem ggX1_settle_X1_begin : GoodIn wsX1_settle wsX1_begin := goodIn_r _ [5, 6, 7, 8, 4, 9, 10, 11, 12, 13, 30, 31, 32, 33, 34, 35, 36, 37, 38, 39, 40, 41, 42] (by decide +kernel) (by decide +kernel)
set_option maxRecDepth 20000 in
theorem gX1_settle_X1_begin : GoodIn wsX1_settle (wsV RX1 91 RX1 yX1_begin wsX1_begin) := goodIn_app (goodIn_of _ (by decide +kernel)) ggX1_settle_X1_begin
set_option maxRecDepth 20000 in
theorem ggX1_settle_X1_goOn : GoodIn wsX1_settle wsX1_goOn := goodIn_r _ [17, 18, 6, 7, 8, 4, 9, 10, 11, 12, 13, 19, 20, 21, 22, 23, 24, 25, 26, 27, 28, 29, 30, 31, 32, 33, 34, 35, 36, 37, 38, 39, 40, 41, 42] (by decide +kernel) (by decide +kernel)
set_option maxRecDepth 20000 in
theorem gX1_settle_X1_goOn : GoodIn wsX1_settle (wsV RX1 94 RX1 yX1_goOn wsX1_goOn) := goodIn_app (goodIn_of _ (by decide +kernel)) ggX1_settle_X1_goOn
theorem dX1_settle_0 : decode cX1_settle 0 = .ok (.aload_n 0, 1) := by decide +kernel
theorem dX1_settle_1 : decode cX1_settle 1 = .ok (.iload_n 1, 1) := by decide +kernel
theorem dX1_settle_2 : decode cX1_settle 2 = .ok (.invokevirtual 91, 3) := by decide +kernel
theorem dX1_settle_5 : decode cX1_settle 5 = .ok (.istore_n 2, 1) := by decide +kernel
theorem dX1_settle_6 : decode cX1_settle 6 = .ok (.aload_n 0, 1) := by decide +kernel
theorem dX1_settle_7 : decode cX1_settle 7 = .ok (.iload_n 1, 1) := by decide +kernel
theorem dX1_settle_8 : decode cX1_settle 8 = .ok (.iload_n 2, 1) := by decide +kernel
theorem dX1_settle_9 : decode cX1_settle 9 = .ok (.invokevirtual 94, 3) := by decide +kernel
theorem dX1_settle_12 : decode cX1_settle 12 = .ok (.istore_n 3, 1) := by decide +kernel
theorem dX1_settle_13 : decode cX1_settle 13 = .ok (.iload_n 3, 1) := by decide +kernel
theorem dX1_settle_14 : decode cX1_settle 14 = .ok (.iload_n 2, 1) := by decide +kernel
theorem dX1_settle_15 : decode cX1_settle 15 = .ok (.if_icmp .eq 15, 3) := by decide +kernel
theorem dX1_settle_18 : decode cX1_settle 18 = .ok (.iload_n 3, 1) := by decide +kernel
theorem dX1_settle_19 : decode cX1_settle 19 = .ok (.istore_n 2, 1) := by decide +kernel
theorem dX1_settle_20 : decode cX1_settle 20 = .ok (.aload_n 0, 1) := by decide +kernel
theorem dX1_settle_21 : decode cX1_settle 21 = .ok (.iload_n 1, 1) := by decide +kernel
theorem dX1_settle_22 : decode cX1_settle 22 = .ok (.iload_n 2, 1) := by decide +kernel
theorem dX1_settle_23 : decode cX1_settle 23 = .ok (.invokevirtual 94, 3) := by decide +kernel
theorem dX1_settle_26 : decode cX1_settle 26 = .ok (.istore_n 3, 1) := by decide +kernel
theorem dX1_settle_27 : decode cX1_settle 27 = .ok (.goto (-14), 3) := by decide +kernel
theorem dX1_settle_30 : decode cX1_settle 30 = .ok (.iload_n 2, 1) := by decide +kernel
theorem dX1_settle_31 : decode cX1_settle 31 = .ok (.ireturn, 1) := by decide +kernel
set_option maxRecDepth 20000 in
theorem ggX1_present_X1_heardSet : GoodIn wsX1_present wsX1_heardSet := goodIn_r _ [5, 6, 7, 8, 4, 9, 10, 11, 12, 45, 46, 47, 48, 49, 50, 51, 52, 53, 54, 55, 56, 57] (by decide +kernel) (by decide +kernel)
set_option maxRecDepth 20000 in
theorem gX1_present_X1_heardSet : GoodIn wsX1_present (wsV RX1 80 RX1 yX1_heardSet wsX1_heardSet) := goodIn_app (goodIn_of _ (by decide +kernel)) ggX1_present_X1_heardSet
set_option maxRecDepth 20000 in
theorem ggX1_present_X1_settle : GoodIn wsX1_present wsX1_settle := goodIn_r _ [16, 17, 18, 19, 4, 20, 21, 22, 23, 24, 25, 26, 27, 28, 29, 30, 31, 32, 33, 34, 35, 36, 37, 38, 39, 40, 41, 42, 43, 44, 45, 46, 47, 48, 49, 50, 51, 52, 53, 54, 55, 56, 57] (by decide +kernel) (by decide +kernel)
set_option maxRecDepth 20000 in
theorem gX1_present_X1_settle : GoodIn wsX1_present (wsV RX1 97 RX1 yX1_settle wsX1_settle) := goodIn_app (goodIn_of _ (by decide +kernel)) ggX1_present_X1_settle
theorem dX1_present_0 : decode cX1_present 0 = .ok (.aload_n 0, 1) := by decide +kernel
theorem dX1_present_1 : decode cX1_present 1 = .ok (.aload_n 0, 1) := by decide +kernel
theorem dX1_present_2 : decode cX1_present 2 = .ok (.invokevirtual 80, 3) := by decide +kernel
theorem dX1_present_5 : decode cX1_present 5 = .ok (.invokevirtual 97, 3) := by decide +kernel
theorem dX1_present_8 : decode cX1_present 8 = .ok (.ireturn, 1) := by decide +kernel
set_option maxRecDepth 20000 in
theorem ggX1_settled_X1_isAtom : GoodIn wsX1_settled wsX1_isAtom := goodIn_r _ [5, 6, 7, 4, 8] (by decide +kernel) (by decide +kernel)
set_option maxRecDepth 20000 in
theorem gX1_settled_X1_isAtom : GoodIn wsX1_settled (va_wsS RX1 59 yX1_isAtom wsX1_isAtom) := goodIn_app (goodIn_of _ (by decide +kernel)) ggX1_settled_X1_isAtom
set_option maxRecDepth 20000 in
theorem ggX1_settled_X1_present : GoodIn wsX1_settled wsX1_present := goodIn_r _ [12, 13, 14, 15, 4, 16, 17, 18, 19, 20, 21, 22, 23, 24, 25, 26, 27, 28, 29, 30, 31, 32, 33, 34, 35, 36, 37, 38, 39, 40, 41, 42, 43, 44, 45, 46, 47, 48, 49, 50, 51, 52, 6, 7, 8, 60, 61, 62, 63, 64, 65, 66, 67, 68, 69, 70, 71, 72] (by decide +kernel) (by decide +kernel)
set_option maxRecDepth 20000 in
theorem gX1_settled_X1_present : GoodIn wsX1_settled (wsV RX1 100 RX1 yX1_present wsX1_present) := goodIn_app (goodIn_of _ (by decide +kernel)) ggX1_settled_X1_present
set_option maxRecDepth 20000 in
theorem ggX1_settled_X1_valueIn : GoodIn wsX1_settled wsX1_valueIn := goodIn_r _ [55] (by decide +kernel) (by decide +kernel)
set_option maxRecDepth 20000 in
theorem gX1_settled_X1_valueIn : GoodIn wsX1_settled (va_wsS RX1 103 yX1_valueIn wsX1_valueIn) := goodIn_app (goodIn_of _ (by decide +kernel)) ggX1_settled_X1_valueIn
set_option maxRecDepth 20000 in
theorem ggX1_settled_X1_no : GoodIn wsX1_settled wsX1_no := goodIn_r _ [59, 1, 60, 61, 62, 63, 64, 65, 66, 67, 68, 69, 70, 71, 72] (by decide +kernel) (by decide +kernel)
set_option maxRecDepth 20000 in
theorem gX1_settled_X1_no : GoodIn wsX1_settled (wsV RX1 55 RX1 yX1_no wsX1_no) := goodIn_app (goodIn_of _ (by decide +kernel)) ggX1_settled_X1_no
theorem dX1_settled_0 : decode cX1_settled 0 = .ok (.aload_n 0, 1) := by decide +kernel
theorem dX1_settled_1 : decode cX1_settled 1 = .ok (.iconst 0, 1) := by decide +kernel
theorem dX1_settled_2 : decode cX1_settled 2 = .ok (.putfield 45, 3) := by decide +kernel
theorem dX1_settled_5 : decode cX1_settled 5 = .ok (.iload_n 1, 1) := by decide +kernel
theorem dX1_settled_6 : decode cX1_settled 6 = .ok (.invokestatic 59, 3) := by decide +kernel
theorem dX1_settled_9 : decode cX1_settled 9 = .ok (.ifCond .eq 14, 3) := by decide +kernel
theorem dX1_settled_12 : decode cX1_settled 12 = .ok (.aload_n 0, 1) := by decide +kernel
theorem dX1_settled_13 : decode cX1_settled 13 = .ok (.invokevirtual 100, 3) := by decide +kernel
theorem dX1_settled_16 : decode cX1_settled 16 = .ok (.iload_n 1, 1) := by decide +kernel
theorem dX1_settled_17 : decode cX1_settled 17 = .ok (.invokestatic 103, 3) := by decide +kernel
theorem dX1_settled_20 : decode cX1_settled 20 = .ok (.goto 8, 3) := by decide +kernel
theorem dX1_settled_23 : decode cX1_settled 23 = .ok (.aload_n 0, 1) := by decide +kernel
theorem dX1_settled_24 : decode cX1_settled 24 = .ok (.iconst 1, 1) := by decide +kernel
theorem dX1_settled_25 : decode cX1_settled 25 = .ok (.invokevirtual 55, 3) := by decide +kernel
theorem dX1_settled_28 : decode cX1_settled 28 = .ok (.ireturn, 1) := by decide +kernel
set_option maxRecDepth 20000 in
theorem ggX1_roundCount_X1_heardSet : GoodIn wsX1_roundCount wsX1_heardSet := goodIn_r _ [5, 6, 7, 8, 4, 9, 10, 11, 12, 41, 42, 43, 44, 45, 46, 47, 48, 49, 50, 51, 52, 53] (by decide +kernel) (by decide +kernel)
set_option maxRecDepth 20000 in
theorem gX1_roundCount_X1_heardSet : GoodIn wsX1_roundCount (wsV RX1 80 RX1 yX1_heardSet wsX1_heardSet) := goodIn_app (goodIn_of _ (by decide +kernel)) ggX1_roundCount_X1_heardSet
set_option maxRecDepth 20000 in
theorem ggX1_roundCount_X1_begin : GoodIn wsX1_roundCount wsX1_begin := goodIn_r _ [16, 17, 18, 19, 4, 20, 21, 22, 23, 24, 41, 42, 43, 44, 45, 46, 47, 48, 49, 50, 51, 52, 53] (by decide +kernel) (by decide +kernel)
set_option maxRecDepth 20000 in
theorem gX1_roundCount_X1_begin : GoodIn wsX1_roundCount (wsV RX1 91 RX1 yX1_begin wsX1_begin) := goodIn_app (goodIn_of _ (by decide +kernel)) ggX1_roundCount_X1_begin
set_option maxRecDepth 20000 in
theorem ggX1_roundCount_X1_goOn : GoodIn wsX1_roundCount wsX1_goOn := goodIn_r _ [28, 29, 17, 18, 19, 4, 20, 21, 22, 23, 24, 30, 31, 32, 33, 34, 35, 36, 37, 38, 39, 40, 41, 42, 43, 44, 45, 46, 47, 48, 49, 50, 51, 52, 53] (by decide +kernel) (by decide +kernel)
set_option maxRecDepth 20000 in
theorem gX1_roundCount_X1_goOn : GoodIn wsX1_roundCount (wsV RX1 94 RX1 yX1_goOn wsX1_goOn) := goodIn_app (goodIn_of _ (by decide +kernel)) ggX1_roundCount_X1_goOn
theorem dX1_roundCount_0 : decode cX1_roundCount 0 = .ok (.iconst 0, 1) := by decide +kernel
theorem dX1_roundCount_1 : decode cX1_roundCount 1 = .ok (.istore_n 1, 1) := by decide +kernel
theorem dX1_roundCount_2 : decode cX1_roundCount 2 = .ok (.aload_n 0, 1) := by decide +kernel
theorem dX1_roundCount_3 : decode cX1_roundCount 3 = .ok (.invokevirtual 80, 3) := by decide +kernel
theorem dX1_roundCount_6 : decode cX1_roundCount 6 = .ok (.istore_n 2, 1) := by decide +kernel
theorem dX1_roundCount_7 : decode cX1_roundCount 7 = .ok (.aload_n 0, 1) := by decide +kernel
theorem dX1_roundCount_8 : decode cX1_roundCount 8 = .ok (.iload_n 2, 1) := by decide +kernel
theorem dX1_roundCount_9 : decode cX1_roundCount 9 = .ok (.invokevirtual 91, 3) := by decide +kernel
theorem dX1_roundCount_12 : decode cX1_roundCount 12 = .ok (.istore_n 3, 1) := by decide +kernel
theorem dX1_roundCount_13 : decode cX1_roundCount 13 = .ok (.aload_n 0, 1) := by decide +kernel
theorem dX1_roundCount_14 : decode cX1_roundCount 14 = .ok (.iload_n 2, 1) := by decide +kernel
theorem dX1_roundCount_15 : decode cX1_roundCount 15 = .ok (.iload_n 3, 1) := by decide +kernel
theorem dX1_roundCount_16 : decode cX1_roundCount 16 = .ok (.invokevirtual 94, 3) := by decide +kernel
theorem dX1_roundCount_19 : decode cX1_roundCount 19 = .ok (.iload_n 3, 1) := by decide +kernel
theorem dX1_roundCount_20 : decode cX1_roundCount 20 = .ok (.if_icmp .eq 16, 3) := by decide +kernel
theorem dX1_roundCount_23 : decode cX1_roundCount 23 = .ok (.aload_n 0, 1) := by decide +kernel
theorem dX1_roundCount_24 : decode cX1_roundCount 24 = .ok (.iload_n 2, 1) := by decide +kernel
theorem dX1_roundCount_25 : decode cX1_roundCount 25 = .ok (.iload_n 3, 1) := by decide +kernel
theorem dX1_roundCount_26 : decode cX1_roundCount 26 = .ok (.invokevirtual 94, 3) := by decide +kernel
theorem dX1_roundCount_29 : decode cX1_roundCount 29 = .ok (.istore_n 3, 1) := by decide +kernel
theorem dX1_roundCount_30 : decode cX1_roundCount 30 = .ok (.iinc 1 1, 3) := by decide +kernel
theorem dX1_roundCount_33 : decode cX1_roundCount 33 = .ok (.goto (-20), 3) := by decide +kernel
theorem dX1_roundCount_36 : decode cX1_roundCount 36 = .ok (.iload_n 1, 1) := by decide +kernel
theorem dX1_roundCount_37 : decode cX1_roundCount 37 = .ok (.ireturn, 1) := by decide +kernel
set_option maxRecDepth 20000 in
theorem ggX1_rounds_X1_roundCount : GoodIn wsX1_rounds wsX1_roundCount := goodIn_r _ [6, 7, 8, 9, 5, 10, 11, 12, 13, 14, 15, 16, 17, 18, 19, 20, 21, 22, 23, 24, 25, 26, 27, 28, 29, 30, 31, 32, 33, 34, 35, 36, 37, 38, 39, 40, 41, 42, 43, 44, 45, 46, 47, 48, 49, 50, 51, 52, 53, 54, 55, 56, 57, 58] (by decide +kernel) (by decide +kernel)
set_option maxRecDepth 20000 in
theorem gX1_rounds_X1_roundCount : GoodIn wsX1_rounds (wsV RX1 106 RX1 yX1_roundCount wsX1_roundCount) := goodIn_app (goodIn_of _ (by decide +kernel)) ggX1_rounds_X1_roundCount
theorem dX1_rounds_0 : decode cX1_rounds 0 = .ok (.aload_n 0, 1) := by decide +kernel
theorem dX1_rounds_1 : decode cX1_rounds 1 = .ok (.iconst 0, 1) := by decide +kernel
theorem dX1_rounds_2 : decode cX1_rounds 2 = .ok (.putfield 45, 3) := by decide +kernel
theorem dX1_rounds_5 : decode cX1_rounds 5 = .ok (.aload_n 0, 1) := by decide +kernel
theorem dX1_rounds_6 : decode cX1_rounds 6 = .ok (.invokevirtual 106, 3) := by decide +kernel
theorem dX1_rounds_9 : decode cX1_rounds 9 = .ok (.ireturn, 1) := by decide +kernel
set_option maxRecDepth 20000 in
theorem ggX1_since_X1_isAtom : GoodIn wsX1_since wsX1_isAtom := goodIn_r _ [5, 6, 7, 4, 8] (by decide +kernel) (by decide +kernel)
set_option maxRecDepth 20000 in
theorem gX1_since_X1_isAtom : GoodIn wsX1_since (va_wsS RX1 59 yX1_isAtom wsX1_isAtom) := goodIn_app (goodIn_of _ (by decide +kernel)) ggX1_since_X1_isAtom
set_option maxRecDepth 20000 in
theorem ggX1_since_X1_no : GoodIn wsX1_since wsX1_no := goodIn_r _ [12, 1, 56, 57, 58, 59, 60, 61, 62, 63, 64, 65, 66, 67, 68] (by decide +kernel) (by decide +kernel)
set_option maxRecDepth 20000 in
theorem gX1_since_X1_no : GoodIn wsX1_since (wsV RX1 55 RX1 yX1_no wsX1_no) := goodIn_app (goodIn_of _ (by decide +kernel)) ggX1_since_X1_no
set_option maxRecDepth 20000 in
theorem ggX1_since_X1_heardSet : GoodIn wsX1_since wsX1_heardSet := goodIn_r _ [16, 17, 18, 19, 4, 20, 21, 22, 23, 56, 57, 58, 59, 60, 61, 62, 63, 64, 65, 66, 67, 68] (by decide +kernel) (by decide +kernel)
set_option maxRecDepth 20000 in
theorem gX1_since_X1_heardSet : GoodIn wsX1_since (wsV RX1 80 RX1 yX1_heardSet wsX1_heardSet) := goodIn_app (goodIn_of _ (by decide +kernel)) ggX1_since_X1_heardSet
set_option maxRecDepth 20000 in
theorem ggX1_since_X1_begin : GoodIn wsX1_since wsX1_begin := goodIn_r _ [27, 28, 29, 30, 4, 31, 32, 33, 34, 35, 56, 57, 58, 59, 60, 61, 62, 63, 64, 65, 66, 67, 68] (by decide +kernel) (by decide +kernel)
set_option maxRecDepth 20000 in
theorem gX1_since_X1_begin : GoodIn wsX1_since (wsV RX1 91 RX1 yX1_begin wsX1_begin) := goodIn_app (goodIn_of _ (by decide +kernel)) ggX1_since_X1_begin
set_option maxRecDepth 20000 in
theorem ggX1_since_X1_roundCount : GoodIn wsX1_since wsX1_roundCount := goodIn_r _ [39, 13, 14, 15, 4, 16, 17, 18, 19, 20, 21, 22, 23, 24, 25, 26, 27, 28, 29, 30, 31, 32, 33, 34, 35, 40, 41, 42, 43, 44, 45, 46, 47, 48, 49, 50, 51, 52, 6, 7, 8, 56, 57, 58, 59, 60, 61, 62, 63, 64, 65, 66, 67, 68] (by decide +kernel) (by decide +kernel)
set_option maxRecDepth 20000 in
theorem gX1_since_X1_roundCount : GoodIn wsX1_since (wsV RX1 106 RX1 yX1_roundCount wsX1_roundCount) := goodIn_app (goodIn_of _ (by decide +kernel)) ggX1_since_X1_roundCount
set_option maxRecDepth 20000 in
theorem ggX1_since_X1_valueIn : GoodIn wsX1_since wsX1_valueIn := goodIn_r _ [55] (by decide +kernel) (by decide +kernel)
set_option maxRecDepth 20000 in
theorem gX1_since_X1_valueIn : GoodIn wsX1_since (va_wsS RX1 103 yX1_valueIn wsX1_valueIn) := goodIn_app (goodIn_of _ (by decide +kernel)) ggX1_since_X1_valueIn
set_option maxRecDepth 20000 in
theorem ggX1_since_X1_goOn : GoodIn wsX1_since wsX1_goOn := goodIn_r _ [43, 44, 28, 29, 30, 4, 31, 32, 33, 34, 35, 45, 46, 47, 48, 49, 50, 51, 52, 6, 7, 8, 56, 57, 58, 59, 60, 61, 62, 63, 64, 65, 66, 67, 68] (by decide +kernel) (by decide +kernel)
set_option maxRecDepth 20000 in
theorem gX1_since_X1_goOn : GoodIn wsX1_since (wsV RX1 94 RX1 yX1_goOn wsX1_goOn) := goodIn_app (goodIn_of _ (by decide +kernel)) ggX1_since_X1_goOn
theorem dX1_since_0 : decode cX1_since 0 = .ok (.aload_n 0, 1) := by decide +kernel
theorem dX1_since_1 : decode cX1_since 1 = .ok (.iconst 0, 1) := by decide +kernel
theorem dX1_since_2 : decode cX1_since 2 = .ok (.putfield 45, 3) := by decide +kernel
theorem dX1_since_5 : decode cX1_since 5 = .ok (.iload_n 1, 1) := by decide +kernel
theorem dX1_since_6 : decode cX1_since 6 = .ok (.invokestatic 59, 3) := by decide +kernel
theorem dX1_since_9 : decode cX1_since 9 = .ok (.ifCond .ne 9, 3) := by decide +kernel
theorem dX1_since_12 : decode cX1_since 12 = .ok (.aload_n 0, 1) := by decide +kernel
theorem dX1_since_13 : decode cX1_since 13 = .ok (.iconst 1, 1) := by decide +kernel
theorem dX1_since_14 : decode cX1_since 14 = .ok (.invokevirtual 55, 3) := by decide +kernel
theorem dX1_since_17 : decode cX1_since 17 = .ok (.ireturn, 1) := by decide +kernel
theorem dX1_since_18 : decode cX1_since 18 = .ok (.aload_n 0, 1) := by decide +kernel
theorem dX1_since_19 : decode cX1_since 19 = .ok (.invokevirtual 80, 3) := by decide +kernel
theorem dX1_since_22 : decode cX1_since 22 = .ok (.istore_n 3, 1) := by decide +kernel
theorem dX1_since_23 : decode cX1_since 23 = .ok (.aload_n 0, 1) := by decide +kernel
theorem dX1_since_24 : decode cX1_since 24 = .ok (.iload_n 3, 1) := by decide +kernel
theorem dX1_since_25 : decode cX1_since 25 = .ok (.invokevirtual 91, 3) := by decide +kernel
theorem dX1_since_28 : decode cX1_since 28 = .ok (.istore 4, 2) := by decide +kernel
theorem dX1_since_30 : decode cX1_since 30 = .ok (.aload_n 0, 1) := by decide +kernel
theorem dX1_since_31 : decode cX1_since 31 = .ok (.invokevirtual 106, 3) := by decide +kernel
theorem dX1_since_34 : decode cX1_since 34 = .ok (.istore 5, 2) := by decide +kernel
theorem dX1_since_36 : decode cX1_since 36 = .ok (.iconst 0, 1) := by decide +kernel
theorem dX1_since_37 : decode cX1_since 37 = .ok (.istore 6, 2) := by decide +kernel
theorem dX1_since_39 : decode cX1_since 39 = .ok (.iload 6, 2) := by decide +kernel
theorem dX1_since_41 : decode cX1_since 41 = .ok (.iload 5, 2) := by decide +kernel
theorem dX1_since_43 : decode cX1_since 43 = .ok (.if_icmp .gt 40, 3) := by decide +kernel
theorem dX1_since_46 : decode cX1_since 46 = .ok (.iload 4, 2) := by decide +kernel
theorem dX1_since_48 : decode cX1_since 48 = .ok (.iload_n 1, 1) := by decide +kernel
theorem dX1_since_49 : decode cX1_since 49 = .ok (.invokestatic 103, 3) := by decide +kernel
theorem dX1_since_52 : decode cX1_since 52 = .ok (.iload_n 2, 1) := by decide +kernel
theorem dX1_since_53 : decode cX1_since 53 = .ok (.ifCond .eq 7, 3) := by decide +kernel
theorem dX1_since_56 : decode cX1_since 56 = .ok (.iconst 1, 1) := by decide +kernel
theorem dX1_since_57 : decode cX1_since 57 = .ok (.goto 4, 3) := by decide +kernel
theorem dX1_since_60 : decode cX1_since 60 = .ok (.iconst 2, 1) := by decide +kernel
theorem dX1_since_61 : decode cX1_since 61 = .ok (.iand, 1) := by decide +kernel
theorem dX1_since_62 : decode cX1_since 62 = .ok (.ifCond .eq 6, 3) := by decide +kernel
theorem dX1_since_65 : decode cX1_since 65 = .ok (.iload 6, 2) := by decide +kernel
theorem dX1_since_67 : decode cX1_since 67 = .ok (.ireturn, 1) := by decide +kernel
theorem dX1_since_68 : decode cX1_since 68 = .ok (.aload_n 0, 1) := by decide +kernel
theorem dX1_since_69 : decode cX1_since 69 = .ok (.iload_n 3, 1) := by decide +kernel
theorem dX1_since_70 : decode cX1_since 70 = .ok (.iload 4, 2) := by decide +kernel
theorem dX1_since_72 : decode cX1_since 72 = .ok (.invokevirtual 94, 3) := by decide +kernel
theorem dX1_since_75 : decode cX1_since 75 = .ok (.istore 4, 2) := by decide +kernel
theorem dX1_since_77 : decode cX1_since 77 = .ok (.iinc 6 1, 3) := by decide +kernel
theorem dX1_since_80 : decode cX1_since 80 = .ok (.goto (-41), 3) := by decide +kernel
theorem dX1_since_83 : decode cX1_since 83 = .ok (.iconst (-1), 1) := by decide +kernel
theorem dX1_since_84 : decode cX1_since 84 = .ok (.ireturn, 1) := by decide +kernel
set_option maxRecDepth 20000 in
theorem ggX1_value_X1_isFormula : GoodIn wsX1_value wsX1_isFormula := goodIn_r _ [6, 7, 8, 9, 5, 10, 59, 60, 61, 62, 63, 64, 65, 66, 67, 68, 69, 70, 71] (by decide +kernel) (by decide +kernel)
set_option maxRecDepth 20000 in
theorem gX1_value_X1_isFormula : GoodIn wsX1_value (wsV RX1 67 RX1 yX1_isFormula wsX1_isFormula) := goodIn_app (goodIn_of _ (by decide +kernel)) ggX1_value_X1_isFormula
set_option maxRecDepth 20000 in
theorem ggX1_value_X1_present : GoodIn wsX1_value wsX1_present := goodIn_r _ [14, 15, 16, 17, 5, 18, 19, 20, 21, 22, 23, 24, 25, 26, 27, 28, 29, 30, 31, 32, 33, 34, 35, 36, 37, 38, 39, 40, 41, 42, 43, 44, 45, 46, 47, 48, 49, 50, 51, 52, 53, 54, 8, 9, 10, 59, 60, 61, 62, 63, 64, 65, 66, 67, 68, 69, 70, 71] (by decide +kernel) (by decide +kernel)
set_option maxRecDepth 20000 in
theorem gX1_value_X1_present : GoodIn wsX1_value (wsV RX1 100 RX1 yX1_present wsX1_present) := goodIn_app (goodIn_of _ (by decide +kernel)) ggX1_value_X1_present
set_option maxRecDepth 20000 in
theorem ggX1_value_X1_worth : GoodIn wsX1_value wsX1_worth := goodIn_r _ [50, 51, 52, 53, 54, 8, 9, 5, 10, 59, 60, 61, 62, 63, 64, 65, 66, 67, 68, 69, 70, 71] (by decide +kernel) (by decide +kernel)
set_option maxRecDepth 20000 in
theorem gX1_value_X1_worth : GoodIn wsX1_value (wsV RX1 88 RX1 yX1_worth wsX1_worth) := goodIn_app (goodIn_of _ (by decide +kernel)) ggX1_value_X1_worth
set_option maxRecDepth 20000 in
theorem ggX1_value_X1_no : GoodIn wsX1_value wsX1_no := goodIn_r _ [58, 1, 59, 60, 61, 62, 63, 64, 65, 66, 67, 68, 69, 70, 71] (by decide +kernel) (by decide +kernel)
set_option maxRecDepth 20000 in
theorem gX1_value_X1_no : GoodIn wsX1_value (wsV RX1 55 RX1 yX1_no wsX1_no) := goodIn_app (goodIn_of _ (by decide +kernel)) ggX1_value_X1_no
theorem dX1_value_0 : decode cX1_value 0 = .ok (.aload_n 0, 1) := by decide +kernel
theorem dX1_value_1 : decode cX1_value 1 = .ok (.iconst 0, 1) := by decide +kernel
theorem dX1_value_2 : decode cX1_value 2 = .ok (.putfield 45, 3) := by decide +kernel
theorem dX1_value_5 : decode cX1_value 5 = .ok (.aload_n 0, 1) := by decide +kernel
theorem dX1_value_6 : decode cX1_value 6 = .ok (.iload_n 1, 1) := by decide +kernel
theorem dX1_value_7 : decode cX1_value 7 = .ok (.invokevirtual 67, 3) := by decide +kernel
theorem dX1_value_10 : decode cX1_value 10 = .ok (.ifCond .eq 15, 3) := by decide +kernel
theorem dX1_value_13 : decode cX1_value 13 = .ok (.aload_n 0, 1) := by decide +kernel
theorem dX1_value_14 : decode cX1_value 14 = .ok (.iload_n 1, 1) := by decide +kernel
theorem dX1_value_15 : decode cX1_value 15 = .ok (.aload_n 0, 1) := by decide +kernel
theorem dX1_value_16 : decode cX1_value 16 = .ok (.invokevirtual 100, 3) := by decide +kernel
theorem dX1_value_19 : decode cX1_value 19 = .ok (.invokevirtual 88, 3) := by decide +kernel
theorem dX1_value_22 : decode cX1_value 22 = .ok (.goto 8, 3) := by decide +kernel
theorem dX1_value_25 : decode cX1_value 25 = .ok (.aload_n 0, 1) := by decide +kernel
theorem dX1_value_26 : decode cX1_value 26 = .ok (.iconst 1, 1) := by decide +kernel
theorem dX1_value_27 : decode cX1_value 27 = .ok (.invokevirtual 55, 3) := by decide +kernel
theorem dX1_value_30 : decode cX1_value 30 = .ok (.ireturn, 1) := by decide +kernel
set_option maxRecDepth 20000 in
theorem ggX1_having_X1_valueIn : GoodIn wsX1_having wsX1_valueIn := goodIn_r _ [4] (by decide +kernel) (by decide +kernel)
set_option maxRecDepth 20000 in
theorem gX1_having_X1_valueIn : GoodIn wsX1_having (va_wsS RX1 103 yX1_valueIn wsX1_valueIn) := goodIn_app (goodIn_of _ (by decide +kernel)) ggX1_having_X1_valueIn
theorem dX1_having_0 : decode cX1_having 0 = .ok (.iconst 0, 1) := by decide +kernel
theorem dX1_having_1 : decode cX1_having 1 = .ok (.istore_n 2, 1) := by decide +kernel
theorem dX1_having_2 : decode cX1_having 2 = .ok (.iconst 0, 1) := by decide +kernel
theorem dX1_having_3 : decode cX1_having 3 = .ok (.istore_n 3, 1) := by decide +kernel
theorem dX1_having_4 : decode cX1_having 4 = .ok (.iload_n 3, 1) := by decide +kernel
theorem dX1_having_5 : decode cX1_having 5 = .ok (.bipush 6, 2) := by decide +kernel
theorem dX1_having_7 : decode cX1_having 7 = .ok (.if_icmp .ge 24, 3) := by decide +kernel
theorem dX1_having_10 : decode cX1_having 10 = .ok (.iload_n 0, 1) := by decide +kernel
theorem dX1_having_11 : decode cX1_having 11 = .ok (.iload_n 3, 1) := by decide +kernel
theorem dX1_having_12 : decode cX1_having 12 = .ok (.invokestatic 103, 3) := by decide +kernel
theorem dX1_having_15 : decode cX1_having 15 = .ok (.iload_n 1, 1) := by decide +kernel
theorem dX1_having_16 : decode cX1_having 16 = .ok (.if_icmp .ne 9, 3) := by decide +kernel
theorem dX1_having_19 : decode cX1_having 19 = .ok (.iload_n 2, 1) := by decide +kernel
theorem dX1_having_20 : decode cX1_having 20 = .ok (.iconst 1, 1) := by decide +kernel
theorem dX1_having_21 : decode cX1_having 21 = .ok (.iload_n 3, 1) := by decide +kernel
theorem dX1_having_22 : decode cX1_having 22 = .ok (.ishl, 1) := by decide +kernel
theorem dX1_having_23 : decode cX1_having 23 = .ok (.ior, 1) := by decide +kernel
theorem dX1_having_24 : decode cX1_having 24 = .ok (.istore_n 2, 1) := by decide +kernel
theorem dX1_having_25 : decode cX1_having 25 = .ok (.iinc 3 1, 3) := by decide +kernel
theorem dX1_having_28 : decode cX1_having 28 = .ok (.goto (-24), 3) := by decide +kernel
theorem dX1_having_31 : decode cX1_having 31 = .ok (.iload_n 2, 1) := by decide +kernel
theorem dX1_having_32 : decode cX1_having 32 = .ok (.ireturn, 1) := by decide +kernel
set_option maxRecDepth 20000 in
theorem ggX1_conflicts_X1_present : GoodIn wsX1_conflicts wsX1_present := goodIn_r _ [6, 7, 8, 9, 5, 10, 11, 12, 13, 14, 15, 16, 17, 18, 19, 20, 21, 22, 23, 24, 25, 26, 27, 28, 29, 30, 31, 32, 33, 34, 35, 36, 37, 38, 39, 40, 41, 42, 43, 44, 45, 46, 47, 48, 49, 56, 57, 58, 59, 60, 61, 62, 63, 64, 65, 66, 67, 68] (by decide +kernel) (by decide +kernel)
set_option maxRecDepth 20000 in
theorem gX1_conflicts_X1_present : GoodIn wsX1_conflicts (wsV RX1 100 RX1 yX1_present wsX1_present) := goodIn_app (goodIn_of _ (by decide +kernel)) ggX1_conflicts_X1_present
set_option maxRecDepth 20000 in
theorem ggX1_conflicts_X1_having : GoodIn wsX1_conflicts wsX1_having := goodIn_r _ [52, 53, 54, 5, 55] (by decide +kernel) (by decide +kernel)
set_option maxRecDepth 20000 in
theorem gX1_conflicts_X1_having : GoodIn wsX1_conflicts (va_wsS RX1 109 yX1_having wsX1_having) := goodIn_app (goodIn_of _ (by decide +kernel)) ggX1_conflicts_X1_having
theorem dX1_conflicts_0 : decode cX1_conflicts 0 = .ok (.aload_n 0, 1) := by decide +kernel
theorem dX1_conflicts_1 : decode cX1_conflicts 1 = .ok (.iconst 0, 1) := by decide +kernel
theorem dX1_conflicts_2 : decode cX1_conflicts 2 = .ok (.putfield 45, 3) := by decide +kernel
theorem dX1_conflicts_5 : decode cX1_conflicts 5 = .ok (.aload_n 0, 1) := by decide +kernel
theorem dX1_conflicts_6 : decode cX1_conflicts 6 = .ok (.invokevirtual 100, 3) := by decide +kernel
theorem dX1_conflicts_9 : decode cX1_conflicts 9 = .ok (.iconst 3, 1) := by decide +kernel
theorem dX1_conflicts_10 : decode cX1_conflicts 10 = .ok (.invokestatic 109, 3) := by decide +kernel
theorem dX1_conflicts_13 : decode cX1_conflicts 13 = .ok (.ireturn, 1) := by decide +kernel
set_option maxRecDepth 20000 in
theorem ggX1_gaps_X1_present : GoodIn wsX1_gaps wsX1_present := goodIn_r _ [6, 7, 8, 9, 5, 10, 11, 12, 13, 14, 15, 16, 17, 18, 19, 20, 21, 22, 23, 24, 25, 26, 27, 28, 29, 30, 31, 32, 33, 34, 35, 36, 37, 38, 39, 40, 41, 42, 43, 44, 45, 46, 47, 48, 49, 56, 57, 58, 59, 60, 61, 62, 63, 64, 65, 66, 67, 68] (by decide +kernel) (by decide +kernel)
set_option maxRecDepth 20000 in
theorem gX1_gaps_X1_present : GoodIn wsX1_gaps (wsV RX1 100 RX1 yX1_present wsX1_present) := goodIn_app (goodIn_of _ (by decide +kernel)) ggX1_gaps_X1_present
set_option maxRecDepth 20000 in
theorem ggX1_gaps_X1_having : GoodIn wsX1_gaps wsX1_having := goodIn_r _ [52, 53, 54, 5, 55] (by decide +kernel) (by decide +kernel)
set_option maxRecDepth 20000 in
theorem gX1_gaps_X1_having : GoodIn wsX1_gaps (va_wsS RX1 109 yX1_having wsX1_having) := goodIn_app (goodIn_of _ (by decide +kernel)) ggX1_gaps_X1_having
theorem dX1_gaps_0 : decode cX1_gaps 0 = .ok (.aload_n 0, 1) := by decide +kernel
theorem dX1_gaps_1 : decode cX1_gaps 1 = .ok (.iconst 0, 1) := by decide +kernel
theorem dX1_gaps_2 : decode cX1_gaps 2 = .ok (.putfield 45, 3) := by decide +kernel
theorem dX1_gaps_5 : decode cX1_gaps 5 = .ok (.aload_n 0, 1) := by decide +kernel
theorem dX1_gaps_6 : decode cX1_gaps 6 = .ok (.invokevirtual 100, 3) := by decide +kernel
theorem dX1_gaps_9 : decode cX1_gaps 9 = .ok (.iconst 0, 1) := by decide +kernel
theorem dX1_gaps_10 : decode cX1_gaps 10 = .ok (.invokestatic 109, 3) := by decide +kernel
theorem dX1_gaps_13 : decode cX1_gaps 13 = .ok (.ireturn, 1) := by decide +kernel
set_option maxRecDepth 20000 in
theorem ggX1_discord_X1_present : GoodIn wsX1_discord wsX1_present := goodIn_r _ [6, 7, 8, 9, 5, 10, 11, 12, 13, 14, 15, 16, 17, 18, 19, 20, 21, 22, 23, 24, 25, 26, 27, 28, 29, 30, 31, 32, 33, 34, 35, 36, 37, 38, 39, 40, 41, 42, 43, 44, 45, 46, 47, 48, 49, 63, 64, 65, 66, 67, 68, 69, 70, 71, 72, 73, 74, 75] (by decide +kernel) (by decide +kernel)
set_option maxRecDepth 20000 in
theorem gX1_discord_X1_present : GoodIn wsX1_discord (wsV RX1 100 RX1 yX1_present wsX1_present) := goodIn_app (goodIn_of _ (by decide +kernel)) ggX1_discord_X1_present
set_option maxRecDepth 20000 in
theorem ggX1_discord_X1_having : GoodIn wsX1_discord wsX1_having := goodIn_r _ [52, 53, 54, 5, 55] (by decide +kernel) (by decide +kernel)
set_option maxRecDepth 20000 in
theorem gX1_discord_X1_having : GoodIn wsX1_discord (va_wsS RX1 109 yX1_having wsX1_having) := goodIn_app (goodIn_of _ (by decide +kernel)) ggX1_discord_X1_having
set_option maxRecDepth 20000 in
theorem ggX1_discord_J6_bitCount_0f7a4 : GoodIn wsX1_discord wsJ6_bitCount_0f7a4 := goodIn_r _ [59, 60, 61, 62] (by decide +kernel) (by decide +kernel)
set_option maxRecDepth 20000 in
theorem gX1_discord_J6_bitCount_0f7a4 : GoodIn wsX1_discord (va_wsS RX1 112 yJ6_bitCount_0f7a4 wsJ6_bitCount_0f7a4) := goodIn_app (goodIn_of _ (by decide +kernel)) ggX1_discord_J6_bitCount_0f7a4
theorem dX1_discord_0 : decode cX1_discord 0 = .ok (.aload_n 0, 1) := by decide +kernel
theorem dX1_discord_1 : decode cX1_discord 1 = .ok (.iconst 0, 1) := by decide +kernel
theorem dX1_discord_2 : decode cX1_discord 2 = .ok (.putfield 45, 3) := by decide +kernel
theorem dX1_discord_5 : decode cX1_discord 5 = .ok (.aload_n 0, 1) := by decide +kernel
theorem dX1_discord_6 : decode cX1_discord 6 = .ok (.invokevirtual 100, 3) := by decide +kernel
theorem dX1_discord_9 : decode cX1_discord 9 = .ok (.istore_n 1, 1) := by decide +kernel
theorem dX1_discord_10 : decode cX1_discord 10 = .ok (.bipush 6, 2) := by decide +kernel
theorem dX1_discord_12 : decode cX1_discord 12 = .ok (.iload_n 1, 1) := by decide +kernel
theorem dX1_discord_13 : decode cX1_discord 13 = .ok (.iconst 0, 1) := by decide +kernel
theorem dX1_discord_14 : decode cX1_discord 14 = .ok (.invokestatic 109, 3) := by decide +kernel
theorem dX1_discord_17 : decode cX1_discord 17 = .ok (.invokestatic 112, 3) := by decide +kernel
theorem dX1_discord_20 : decode cX1_discord 20 = .ok (.isub, 1) := by decide +kernel
theorem dX1_discord_21 : decode cX1_discord 21 = .ok (.istore_n 2, 1) := by decide +kernel
theorem dX1_discord_22 : decode cX1_discord 22 = .ok (.iload_n 2, 1) := by decide +kernel
theorem dX1_discord_23 : decode cX1_discord 23 = .ok (.ifCond .ne 7, 3) := by decide +kernel
theorem dX1_discord_26 : decode cX1_discord 26 = .ok (.dconst 0, 1) := by decide +kernel
theorem dX1_discord_27 : decode cX1_discord 27 = .ok (.goto 15, 3) := by decide +kernel
theorem dX1_discord_30 : decode cX1_discord 30 = .ok (.iload_n 1, 1) := by decide +kernel
theorem dX1_discord_31 : decode cX1_discord 31 = .ok (.iconst 3, 1) := by decide +kernel
theorem dX1_discord_32 : decode cX1_discord 32 = .ok (.invokestatic 109, 3) := by decide +kernel
theorem dX1_discord_35 : decode cX1_discord 35 = .ok (.invokestatic 112, 3) := by decide +kernel
theorem dX1_discord_38 : decode cX1_discord 38 = .ok (.i2d, 1) := by decide +kernel
theorem dX1_discord_39 : decode cX1_discord 39 = .ok (.iload_n 2, 1) := by decide +kernel
theorem dX1_discord_40 : decode cX1_discord 40 = .ok (.i2d, 1) := by decide +kernel
theorem dX1_discord_41 : decode cX1_discord 41 = .ok (.ddiv, 1) := by decide +kernel
theorem dX1_discord_42 : decode cX1_discord 42 = .ok (.dreturn, 1) := by decide +kernel
set_option maxRecDepth 20000 in
theorem ggX1_heard_X1_heardSet : GoodIn wsX1_heard wsX1_heardSet := goodIn_r _ [6, 7, 8, 9, 5, 10, 11, 12, 13, 14, 15, 16, 17, 18, 19, 20, 21, 22, 23, 24, 25, 26] (by decide +kernel) (by decide +kernel)
set_option maxRecDepth 20000 in
theorem gX1_heard_X1_heardSet : GoodIn wsX1_heard (wsV RX1 80 RX1 yX1_heardSet wsX1_heardSet) := goodIn_app (goodIn_of _ (by decide +kernel)) ggX1_heard_X1_heardSet
theorem dX1_heard_0 : decode cX1_heard 0 = .ok (.aload_n 0, 1) := by decide +kernel
theorem dX1_heard_1 : decode cX1_heard 1 = .ok (.iconst 0, 1) := by decide +kernel
theorem dX1_heard_2 : decode cX1_heard 2 = .ok (.putfield 45, 3) := by decide +kernel
theorem dX1_heard_5 : decode cX1_heard 5 = .ok (.aload_n 0, 1) := by decide +kernel
theorem dX1_heard_6 : decode cX1_heard 6 = .ok (.invokevirtual 80, 3) := by decide +kernel
theorem dX1_heard_9 : decode cX1_heard 9 = .ok (.ireturn, 1) := by decide +kernel
set_option maxRecDepth 20000 in
theorem ggX1_sayers_X1_isAtom : GoodIn wsX1_sayers wsX1_isAtom := goodIn_r _ [6, 7, 8, 5, 9] (by decide +kernel) (by decide +kernel)
set_option maxRecDepth 20000 in
theorem gX1_sayers_X1_isAtom : GoodIn wsX1_sayers (va_wsS RX1 59 yX1_isAtom wsX1_isAtom) := goodIn_app (goodIn_of _ (by decide +kernel)) ggX1_sayers_X1_isAtom
set_option maxRecDepth 20000 in
theorem ggX1_sayers_X1_no : GoodIn wsX1_sayers wsX1_no := goodIn_r _ [13, 1, 21, 22, 23, 24, 25, 26, 27, 28, 29, 30, 31, 32, 33] (by decide +kernel) (by decide +kernel)
set_option maxRecDepth 20000 in
theorem gX1_sayers_X1_no : GoodIn wsX1_sayers (wsV RX1 55 RX1 yX1_no wsX1_no) := goodIn_app (goodIn_of _ (by decide +kernel)) ggX1_sayers_X1_no
set_option maxRecDepth 20000 in
theorem ggX1_sayers_X1_isHeard : GoodIn wsX1_sayers wsX1_isHeard := goodIn_r _ [17, 18, 19, 20, 21, 22, 23, 24, 25, 26, 27, 28, 29, 30, 31, 32, 33] (by decide +kernel) (by decide +kernel)
set_option maxRecDepth 20000 in
theorem gX1_sayers_X1_isHeard : GoodIn wsX1_sayers (wsV RX1 73 RX1 yX1_isHeard wsX1_isHeard) := goodIn_app (goodIn_of _ (by decide +kernel)) ggX1_sayers_X1_isHeard
theorem dX1_sayers_0 : decode cX1_sayers 0 = .ok (.aload_n 0, 1) := by decide +kernel
theorem dX1_sayers_1 : decode cX1_sayers 1 = .ok (.iconst 0, 1) := by decide +kernel
theorem dX1_sayers_2 : decode cX1_sayers 2 = .ok (.putfield 45, 3) := by decide +kernel
theorem dX1_sayers_5 : decode cX1_sayers 5 = .ok (.iload_n 1, 1) := by decide +kernel
theorem dX1_sayers_6 : decode cX1_sayers 6 = .ok (.invokestatic 59, 3) := by decide +kernel
theorem dX1_sayers_9 : decode cX1_sayers 9 = .ok (.ifCond .ne 9, 3) := by decide +kernel
theorem dX1_sayers_12 : decode cX1_sayers 12 = .ok (.aload_n 0, 1) := by decide +kernel
theorem dX1_sayers_13 : decode cX1_sayers 13 = .ok (.iconst 1, 1) := by decide +kernel
theorem dX1_sayers_14 : decode cX1_sayers 14 = .ok (.invokevirtual 55, 3) := by decide +kernel
theorem dX1_sayers_17 : decode cX1_sayers 17 = .ok (.ireturn, 1) := by decide +kernel
theorem dX1_sayers_18 : decode cX1_sayers 18 = .ok (.iconst 0, 1) := by decide +kernel
theorem dX1_sayers_19 : decode cX1_sayers 19 = .ok (.istore_n 3, 1) := by decide +kernel
theorem dX1_sayers_20 : decode cX1_sayers 20 = .ok (.iconst 0, 1) := by decide +kernel
theorem dX1_sayers_21 : decode cX1_sayers 21 = .ok (.istore 4, 2) := by decide +kernel
theorem dX1_sayers_23 : decode cX1_sayers 23 = .ok (.iload 4, 2) := by decide +kernel
theorem dX1_sayers_25 : decode cX1_sayers 25 = .ok (.bipush 6, 2) := by decide +kernel
theorem dX1_sayers_27 : decode cX1_sayers 27 = .ok (.if_icmp .ge 50, 3) := by decide +kernel
theorem dX1_sayers_30 : decode cX1_sayers 30 = .ok (.aload_n 0, 1) := by decide +kernel
theorem dX1_sayers_31 : decode cX1_sayers 31 = .ok (.iload 4, 2) := by decide +kernel
theorem dX1_sayers_33 : decode cX1_sayers 33 = .ok (.invokevirtual 73, 3) := by decide +kernel
theorem dX1_sayers_36 : decode cX1_sayers 36 = .ok (.ifCond .eq 35, 3) := by decide +kernel
theorem dX1_sayers_39 : decode cX1_sayers 39 = .ok (.aload_n 0, 1) := by decide +kernel
theorem dX1_sayers_40 : decode cX1_sayers 40 = .ok (.getfield 29, 3) := by decide +kernel
theorem dX1_sayers_43 : decode cX1_sayers 43 = .ok (.bipush 6, 2) := by decide +kernel
theorem dX1_sayers_45 : decode cX1_sayers 45 = .ok (.iload 4, 2) := by decide +kernel
theorem dX1_sayers_47 : decode cX1_sayers 47 = .ok (.imul, 1) := by decide +kernel
theorem dX1_sayers_48 : decode cX1_sayers 48 = .ok (.iload_n 1, 1) := by decide +kernel
theorem dX1_sayers_49 : decode cX1_sayers 49 = .ok (.iadd, 1) := by decide +kernel
theorem dX1_sayers_50 : decode cX1_sayers 50 = .ok (.iaload, 1) := by decide +kernel
theorem dX1_sayers_51 : decode cX1_sayers 51 = .ok (.iload_n 2, 1) := by decide +kernel
theorem dX1_sayers_52 : decode cX1_sayers 52 = .ok (.ifCond .eq 7, 3) := by decide +kernel
theorem dX1_sayers_55 : decode cX1_sayers 55 = .ok (.iconst 1, 1) := by decide +kernel
theorem dX1_sayers_56 : decode cX1_sayers 56 = .ok (.goto 4, 3) := by decide +kernel
theorem dX1_sayers_59 : decode cX1_sayers 59 = .ok (.iconst 2, 1) := by decide +kernel
theorem dX1_sayers_60 : decode cX1_sayers 60 = .ok (.iand, 1) := by decide +kernel
theorem dX1_sayers_61 : decode cX1_sayers 61 = .ok (.ifCond .eq 10, 3) := by decide +kernel
theorem dX1_sayers_64 : decode cX1_sayers 64 = .ok (.iload_n 3, 1) := by decide +kernel
theorem dX1_sayers_65 : decode cX1_sayers 65 = .ok (.iconst 1, 1) := by decide +kernel
theorem dX1_sayers_66 : decode cX1_sayers 66 = .ok (.iload 4, 2) := by decide +kernel
theorem dX1_sayers_68 : decode cX1_sayers 68 = .ok (.ishl, 1) := by decide +kernel
theorem dX1_sayers_69 : decode cX1_sayers 69 = .ok (.ior, 1) := by decide +kernel
theorem dX1_sayers_70 : decode cX1_sayers 70 = .ok (.istore_n 3, 1) := by decide +kernel
theorem dX1_sayers_71 : decode cX1_sayers 71 = .ok (.iinc 4 1, 3) := by decide +kernel
theorem dX1_sayers_74 : decode cX1_sayers 74 = .ok (.goto (-51), 3) := by decide +kernel
theorem dX1_sayers_77 : decode cX1_sayers 77 = .ok (.iload_n 3, 1) := by decide +kernel
theorem dX1_sayers_78 : decode cX1_sayers 78 = .ok (.ireturn, 1) := by decide +kernel
set_option maxRecDepth 20000 in
theorem ggX1_matters_X1_isSource : GoodIn wsX1_matters wsX1_isSource := goodIn_r _ [5, 6, 7, 4, 8] (by decide +kernel) (by decide +kernel)
set_option maxRecDepth 20000 in
theorem gX1_matters_X1_isSource : GoodIn wsX1_matters (va_wsS RX1 70 yX1_isSource wsX1_isSource) := goodIn_app (goodIn_of _ (by decide +kernel)) ggX1_matters_X1_isSource
set_option maxRecDepth 20000 in
theorem ggX1_matters_X1_isAtom : GoodIn wsX1_matters wsX1_isAtom := goodIn_r _ [11, 6, 7, 4, 8] (by decide +kernel) (by decide +kernel)
set_option maxRecDepth 20000 in
theorem gX1_matters_X1_isAtom : GoodIn wsX1_matters (va_wsS RX1 59 yX1_isAtom wsX1_isAtom) := goodIn_app (goodIn_of _ (by decide +kernel)) ggX1_matters_X1_isAtom
set_option maxRecDepth 20000 in
theorem ggX1_matters_X1_isHeard : GoodIn wsX1_matters wsX1_isHeard := goodIn_r _ [15, 16, 17, 18, 59, 60, 61, 62, 63, 64, 65, 66, 67, 68, 69, 70, 71] (by decide +kernel) (by decide +kernel)
set_option maxRecDepth 20000 in
theorem gX1_matters_X1_isHeard : GoodIn wsX1_matters (wsV RX1 73 RX1 yX1_isHeard wsX1_isHeard) := goodIn_app (goodIn_of _ (by decide +kernel)) ggX1_matters_X1_isHeard
set_option maxRecDepth 20000 in
theorem ggX1_matters_X1_present : GoodIn wsX1_matters wsX1_present := goodIn_r _ [22, 23, 24, 25, 4, 26, 12, 13, 14, 15, 16, 17, 18, 27, 28, 29, 30, 31, 32, 33, 34, 35, 36, 37, 38, 39, 40, 41, 42, 43, 44, 45, 46, 47, 48, 49, 50, 51, 52, 53, 54, 55, 6, 7, 8, 59, 60, 61, 62, 63, 64, 65, 66, 67, 68, 69, 70, 71] (by decide +kernel) (by decide +kernel)
set_option maxRecDepth 20000 in
theorem gX1_matters_X1_present : GoodIn wsX1_matters (wsV RX1 100 RX1 yX1_present wsX1_present) := goodIn_app (goodIn_of _ (by decide +kernel)) ggX1_matters_X1_present
set_option maxRecDepth 20000 in
theorem ggX1_matters_X1_valueIn : GoodIn wsX1_matters wsX1_valueIn := goodIn_r _ [58] (by decide +kernel) (by decide +kernel)
set_option maxRecDepth 20000 in
theorem gX1_matters_X1_valueIn : GoodIn wsX1_matters (va_wsS RX1 103 yX1_valueIn wsX1_valueIn) := goodIn_app (goodIn_of _ (by decide +kernel)) ggX1_matters_X1_valueIn
set_option maxRecDepth 20000 in
theorem ggX1_matters_X1_heardSet : GoodIn wsX1_matters wsX1_heardSet := goodIn_r _ [26, 12, 13, 14, 4, 15, 16, 17, 18, 59, 60, 61, 62, 63, 64, 65, 66, 67, 68, 69, 70, 71] (by decide +kernel) (by decide +kernel)
set_option maxRecDepth 20000 in
theorem gX1_matters_X1_heardSet : GoodIn wsX1_matters (wsV RX1 80 RX1 yX1_heardSet wsX1_heardSet) := goodIn_app (goodIn_of _ (by decide +kernel)) ggX1_matters_X1_heardSet
set_option maxRecDepth 20000 in
theorem ggX1_matters_X1_settle : GoodIn wsX1_matters wsX1_settle := goodIn_r _ [30, 31, 32, 33, 4, 34, 35, 36, 37, 38, 39, 40, 41, 42, 43, 44, 45, 46, 47, 48, 49, 50, 51, 52, 53, 54, 55, 6, 7, 8, 59, 60, 61, 62, 63, 64, 65, 66, 67, 68, 69, 70, 71] (by decide +kernel) (by decide +kernel)
set_option maxRecDepth 20000 in
theorem gX1_matters_X1_settle : GoodIn wsX1_matters (wsV RX1 97 RX1 yX1_settle wsX1_settle) := goodIn_app (goodIn_of _ (by decide +kernel)) ggX1_matters_X1_settle
theorem dX1_matters_0 : decode cX1_matters 0 = .ok (.aload_n 0, 1) := by decide +kernel
theorem dX1_matters_1 : decode cX1_matters 1 = .ok (.iload_n 1, 1) := by decide +kernel
theorem dX1_matters_2 : decode cX1_matters 2 = .ok (.invokestatic 70, 3) := by decide +kernel
theorem dX1_matters_5 : decode cX1_matters 5 = .ok (.ifCond .eq 14, 3) := by decide +kernel
theorem dX1_matters_8 : decode cX1_matters 8 = .ok (.iload_n 2, 1) := by decide +kernel
theorem dX1_matters_9 : decode cX1_matters 9 = .ok (.invokestatic 59, 3) := by decide +kernel
theorem dX1_matters_12 : decode cX1_matters 12 = .ok (.ifCond .eq 7, 3) := by decide +kernel
theorem dX1_matters_15 : decode cX1_matters 15 = .ok (.iconst 0, 1) := by decide +kernel
theorem dX1_matters_16 : decode cX1_matters 16 = .ok (.goto 4, 3) := by decide +kernel
theorem dX1_matters_19 : decode cX1_matters 19 = .ok (.iconst 1, 1) := by decide +kernel
theorem dX1_matters_20 : decode cX1_matters 20 = .ok (.putfield 45, 3) := by decide +kernel
theorem dX1_matters_23 : decode cX1_matters 23 = .ok (.aload_n 0, 1) := by decide +kernel
theorem dX1_matters_24 : decode cX1_matters 24 = .ok (.getfield 45, 3) := by decide +kernel
theorem dX1_matters_27 : decode cX1_matters 27 = .ok (.ifCond .ne 11, 3) := by decide +kernel
theorem dX1_matters_30 : decode cX1_matters 30 = .ok (.aload_n 0, 1) := by decide +kernel
theorem dX1_matters_31 : decode cX1_matters 31 = .ok (.iload_n 1, 1) := by decide +kernel
theorem dX1_matters_32 : decode cX1_matters 32 = .ok (.invokevirtual 73, 3) := by decide +kernel
theorem dX1_matters_35 : decode cX1_matters 35 = .ok (.ifCond .ne 5, 3) := by decide +kernel
theorem dX1_matters_38 : decode cX1_matters 38 = .ok (.iconst 0, 1) := by decide +kernel
theorem dX1_matters_39 : decode cX1_matters 39 = .ok (.ireturn, 1) := by decide +kernel
theorem dX1_matters_40 : decode cX1_matters 40 = .ok (.aload_n 0, 1) := by decide +kernel
theorem dX1_matters_41 : decode cX1_matters 41 = .ok (.invokevirtual 100, 3) := by decide +kernel
theorem dX1_matters_44 : decode cX1_matters 44 = .ok (.iload_n 2, 1) := by decide +kernel
theorem dX1_matters_45 : decode cX1_matters 45 = .ok (.invokestatic 103, 3) := by decide +kernel
theorem dX1_matters_48 : decode cX1_matters 48 = .ok (.aload_n 0, 1) := by decide +kernel
theorem dX1_matters_49 : decode cX1_matters 49 = .ok (.aload_n 0, 1) := by decide +kernel
theorem dX1_matters_50 : decode cX1_matters 50 = .ok (.invokevirtual 80, 3) := by decide +kernel
theorem dX1_matters_53 : decode cX1_matters 53 = .ok (.iconst 1, 1) := by decide +kernel
theorem dX1_matters_54 : decode cX1_matters 54 = .ok (.iload_n 1, 1) := by decide +kernel
theorem dX1_matters_55 : decode cX1_matters 55 = .ok (.ishl, 1) := by decide +kernel
theorem dX1_matters_56 : decode cX1_matters 56 = .ok (.iconst (-1), 1) := by decide +kernel
theorem dX1_matters_57 : decode cX1_matters 57 = .ok (.ixor, 1) := by decide +kernel
theorem dX1_matters_58 : decode cX1_matters 58 = .ok (.iand, 1) := by decide +kernel
theorem dX1_matters_59 : decode cX1_matters 59 = .ok (.invokevirtual 97, 3) := by decide +kernel
theorem dX1_matters_62 : decode cX1_matters 62 = .ok (.iload_n 2, 1) := by decide +kernel
theorem dX1_matters_63 : decode cX1_matters 63 = .ok (.invokestatic 103, 3) := by decide +kernel
theorem dX1_matters_66 : decode cX1_matters 66 = .ok (.if_icmp .eq 7, 3) := by decide +kernel
theorem dX1_matters_69 : decode cX1_matters 69 = .ok (.iconst 1, 1) := by decide +kernel
theorem dX1_matters_70 : decode cX1_matters 70 = .ok (.goto 4, 3) := by decide +kernel
theorem dX1_matters_73 : decode cX1_matters 73 = .ok (.iconst 0, 1) := by decide +kernel
theorem dX1_matters_74 : decode cX1_matters 74 = .ok (.ireturn, 1) := by decide +kernel
set_option maxRecDepth 20000 in
theorem ggX1_silence_X1_heardSet : GoodIn wsX1_silence wsX1_heardSet := goodIn_r _ [7, 8, 9, 10, 6, 11, 12, 2, 13, 52, 53, 54, 55, 56, 57, 58, 59, 60, 61, 62, 63, 64] (by decide +kernel) (by decide +kernel)
set_option maxRecDepth 20000 in
theorem gX1_silence_X1_heardSet : GoodIn wsX1_silence (wsV RX1 80 RX1 yX1_heardSet wsX1_heardSet) := goodIn_app (goodIn_of _ (by decide +kernel)) ggX1_silence_X1_heardSet
set_option maxRecDepth 20000 in
theorem ggX1_silence_X1_has : GoodIn wsX1_silence wsX1_has := goodIn_r _ [16] (by decide +kernel) (by decide +kernel)
set_option maxRecDepth 20000 in
theorem gX1_silence_X1_has : GoodIn wsX1_silence (va_wsS RX1 76 yX1_has wsX1_has) := goodIn_app (goodIn_of _ (by decide +kernel)) ggX1_silence_X1_has
set_option maxRecDepth 20000 in
theorem ggX1_silence_X1_settle : GoodIn wsX1_silence wsX1_settle := goodIn_r _ [20, 21, 22, 23, 6, 24, 25, 26, 27, 28, 29, 14, 15, 16, 30, 31, 32, 33, 34, 35, 36, 37, 38, 39, 40, 41, 42, 43, 44, 45, 52, 53, 54, 55, 56, 57, 58, 59, 60, 61, 62, 63, 64] (by decide +kernel) (by decide +kernel)
set_option maxRecDepth 20000 in
theorem gX1_silence_X1_settle : GoodIn wsX1_silence (wsV RX1 97 RX1 yX1_settle wsX1_settle) := goodIn_app (goodIn_of _ (by decide +kernel)) ggX1_silence_X1_settle
set_option maxRecDepth 20000 in
theorem ggX1_silence_X1_having : GoodIn wsX1_silence wsX1_having := goodIn_r _ [48, 49, 50, 6, 51] (by decide +kernel) (by decide +kernel)
set_option maxRecDepth 20000 in
theorem gX1_silence_X1_having : GoodIn wsX1_silence (va_wsS RX1 109 yX1_having wsX1_having) := goodIn_app (goodIn_of _ (by decide +kernel)) ggX1_silence_X1_having
theorem dX1_silence_0 : decode cX1_silence 0 = .ok (.aload_n 0, 1) := by decide +kernel
theorem dX1_silence_1 : decode cX1_silence 1 = .ok (.iconst 0, 1) := by decide +kernel
theorem dX1_silence_2 : decode cX1_silence 2 = .ok (.putfield 45, 3) := by decide +kernel
theorem dX1_silence_5 : decode cX1_silence 5 = .ok (.aload_n 0, 1) := by decide +kernel
theorem dX1_silence_6 : decode cX1_silence 6 = .ok (.invokevirtual 80, 3) := by decide +kernel
theorem dX1_silence_9 : decode cX1_silence 9 = .ok (.istore_n 1, 1) := by decide +kernel
theorem dX1_silence_10 : decode cX1_silence 10 = .ok (.iconst (-1), 1) := by decide +kernel
theorem dX1_silence_11 : decode cX1_silence 11 = .ok (.istore_n 2, 1) := by decide +kernel
theorem dX1_silence_12 : decode cX1_silence 12 = .ok (.iconst 0, 1) := by decide +kernel
theorem dX1_silence_13 : decode cX1_silence 13 = .ok (.istore_n 3, 1) := by decide +kernel
theorem dX1_silence_14 : decode cX1_silence 14 = .ok (.iconst 0, 1) := by decide +kernel
theorem dX1_silence_15 : decode cX1_silence 15 = .ok (.istore 4, 2) := by decide +kernel
theorem dX1_silence_17 : decode cX1_silence 17 = .ok (.iload 4, 2) := by decide +kernel
theorem dX1_silence_19 : decode cX1_silence 19 = .ok (.bipush 64, 2) := by decide +kernel
theorem dX1_silence_21 : decode cX1_silence 21 = .ok (.if_icmp .ge 103, 3) := by decide +kernel
theorem dX1_silence_24 : decode cX1_silence 24 = .ok (.iload 4, 2) := by decide +kernel
theorem dX1_silence_26 : decode cX1_silence 26 = .ok (.iload_n 1, 1) := by decide +kernel
theorem dX1_silence_27 : decode cX1_silence 27 = .ok (.iconst (-1), 1) := by decide +kernel
theorem dX1_silence_28 : decode cX1_silence 28 = .ok (.ixor, 1) := by decide +kernel
theorem dX1_silence_29 : decode cX1_silence 29 = .ok (.iand, 1) := by decide +kernel
theorem dX1_silence_30 : decode cX1_silence 30 = .ok (.ifCond .eq 6, 3) := by decide +kernel
theorem dX1_silence_33 : decode cX1_silence 33 = .ok (.goto 85, 3) := by decide +kernel
theorem dX1_silence_36 : decode cX1_silence 36 = .ok (.iconst 0, 1) := by decide +kernel
theorem dX1_silence_37 : decode cX1_silence 37 = .ok (.istore 5, 2) := by decide +kernel
theorem dX1_silence_39 : decode cX1_silence 39 = .ok (.iconst 0, 1) := by decide +kernel
theorem dX1_silence_40 : decode cX1_silence 40 = .ok (.istore 6, 2) := by decide +kernel
theorem dX1_silence_42 : decode cX1_silence 42 = .ok (.iload 6, 2) := by decide +kernel
theorem dX1_silence_44 : decode cX1_silence 44 = .ok (.bipush 6, 2) := by decide +kernel
theorem dX1_silence_46 : decode cX1_silence 46 = .ok (.if_icmp .ge 35, 3) := by decide +kernel
theorem dX1_silence_49 : decode cX1_silence 49 = .ok (.iload 5, 2) := by decide +kernel
theorem dX1_silence_51 : decode cX1_silence 51 = .ok (.iload 4, 2) := by decide +kernel
theorem dX1_silence_53 : decode cX1_silence 53 = .ok (.iload 6, 2) := by decide +kernel
theorem dX1_silence_55 : decode cX1_silence 55 = .ok (.invokestatic 76, 3) := by decide +kernel
theorem dX1_silence_58 : decode cX1_silence 58 = .ok (.ifCond .eq 13, 3) := by decide +kernel
theorem dX1_silence_61 : decode cX1_silence 61 = .ok (.aload_n 0, 1) := by decide +kernel
theorem dX1_silence_62 : decode cX1_silence 62 = .ok (.getfield 23, 3) := by decide +kernel
theorem dX1_silence_65 : decode cX1_silence 65 = .ok (.iload 6, 2) := by decide +kernel
theorem dX1_silence_67 : decode cX1_silence 67 = .ok (.iaload, 1) := by decide +kernel
theorem dX1_silence_68 : decode cX1_silence 68 = .ok (.goto 4, 3) := by decide +kernel
theorem dX1_silence_71 : decode cX1_silence 71 = .ok (.iconst 0, 1) := by decide +kernel
theorem dX1_silence_72 : decode cX1_silence 72 = .ok (.iadd, 1) := by decide +kernel
theorem dX1_silence_73 : decode cX1_silence 73 = .ok (.istore 5, 2) := by decide +kernel
theorem dX1_silence_75 : decode cX1_silence 75 = .ok (.iinc 6 1, 3) := by decide +kernel
theorem dX1_silence_78 : decode cX1_silence 78 = .ok (.goto (-36), 3) := by decide +kernel
theorem dX1_silence_81 : decode cX1_silence 81 = .ok (.iload_n 2, 1) := by decide +kernel
theorem dX1_silence_82 : decode cX1_silence 82 = .ok (.iconst (-1), 1) := by decide +kernel
theorem dX1_silence_83 : decode cX1_silence 83 = .ok (.if_icmp .eq 9, 3) := by decide +kernel
theorem dX1_silence_86 : decode cX1_silence 86 = .ok (.iload 5, 2) := by decide +kernel
theorem dX1_silence_88 : decode cX1_silence 88 = .ok (.iload_n 3, 1) := by decide +kernel
theorem dX1_silence_89 : decode cX1_silence 89 = .ok (.if_icmp .ge 29, 3) := by decide +kernel
theorem dX1_silence_92 : decode cX1_silence 92 = .ok (.aload_n 0, 1) := by decide +kernel
theorem dX1_silence_93 : decode cX1_silence 93 = .ok (.iload_n 1, 1) := by decide +kernel
theorem dX1_silence_94 : decode cX1_silence 94 = .ok (.iload 4, 2) := by decide +kernel
theorem dX1_silence_96 : decode cX1_silence 96 = .ok (.iconst (-1), 1) := by decide +kernel
theorem dX1_silence_97 : decode cX1_silence 97 = .ok (.ixor, 1) := by decide +kernel
theorem dX1_silence_98 : decode cX1_silence 98 = .ok (.iand, 1) := by decide +kernel
theorem dX1_silence_99 : decode cX1_silence 99 = .ok (.invokevirtual 97, 3) := by decide +kernel
theorem dX1_silence_102 : decode cX1_silence 102 = .ok (.iconst 3, 1) := by decide +kernel
theorem dX1_silence_103 : decode cX1_silence 103 = .ok (.invokestatic 109, 3) := by decide +kernel
theorem dX1_silence_106 : decode cX1_silence 106 = .ok (.ifCond .eq 6, 3) := by decide +kernel
theorem dX1_silence_109 : decode cX1_silence 109 = .ok (.goto 9, 3) := by decide +kernel
theorem dX1_silence_112 : decode cX1_silence 112 = .ok (.iload 4, 2) := by decide +kernel
theorem dX1_silence_114 : decode cX1_silence 114 = .ok (.istore_n 2, 1) := by decide +kernel
theorem dX1_silence_115 : decode cX1_silence 115 = .ok (.iload 5, 2) := by decide +kernel
theorem dX1_silence_117 : decode cX1_silence 117 = .ok (.istore_n 3, 1) := by decide +kernel
theorem dX1_silence_118 : decode cX1_silence 118 = .ok (.iinc 4 1, 3) := by decide +kernel
theorem dX1_silence_121 : decode cX1_silence 121 = .ok (.goto (-104), 3) := by decide +kernel
theorem dX1_silence_124 : decode cX1_silence 124 = .ok (.iload_n 2, 1) := by decide +kernel
theorem dX1_silence_125 : decode cX1_silence 125 = .ok (.ireturn, 1) := by decide +kernel
set_option maxRecDepth 20000 in
theorem ggX1_contradicted_X1_isSource : GoodIn wsX1_contradicted wsX1_isSource := goodIn_r _ [6, 7, 8, 5, 9] (by decide +kernel) (by decide +kernel)
set_option maxRecDepth 20000 in
theorem gX1_contradicted_X1_isSource : GoodIn wsX1_contradicted (va_wsS RX1 70 yX1_isSource wsX1_isSource) := goodIn_app (goodIn_of _ (by decide +kernel)) ggX1_contradicted_X1_isSource
set_option maxRecDepth 20000 in
theorem ggX1_contradicted_X1_no : GoodIn wsX1_contradicted wsX1_no := goodIn_r _ [13, 1, 60, 61, 62, 63, 64, 65, 66, 67, 68, 69, 70, 71, 72] (by decide +kernel) (by decide +kernel)
set_option maxRecDepth 20000 in
theorem gX1_contradicted_X1_no : GoodIn wsX1_contradicted (wsV RX1 55 RX1 yX1_no wsX1_no) := goodIn_app (goodIn_of _ (by decide +kernel)) ggX1_contradicted_X1_no
set_option maxRecDepth 20000 in
theorem ggX1_contradicted_X1_present : GoodIn wsX1_contradicted wsX1_present := goodIn_r _ [17, 18, 19, 20, 5, 21, 22, 23, 24, 25, 26, 27, 28, 29, 30, 31, 32, 33, 34, 35, 36, 37, 38, 39, 40, 2, 41, 42, 43, 44, 45, 46, 47, 48, 49, 50, 51, 52, 53, 54, 55, 56, 7, 8, 9, 60, 61, 62, 63, 64, 65, 66, 67, 68, 69, 70, 71, 72] (by decide +kernel) (by decide +kernel)
set_option maxRecDepth 20000 in
theorem gX1_contradicted_X1_present : GoodIn wsX1_contradicted (wsV RX1 100 RX1 yX1_present wsX1_present) := goodIn_app (goodIn_of _ (by decide +kernel)) ggX1_contradicted_X1_present
set_option maxRecDepth 20000 in
theorem ggX1_contradicted_X1_valueIn : GoodIn wsX1_contradicted wsX1_valueIn := goodIn_r _ [59] (by decide +kernel) (by decide +kernel)
set_option maxRecDepth 20000 in
theorem gX1_contradicted_X1_valueIn : GoodIn wsX1_contradicted (va_wsS RX1 103 yX1_valueIn wsX1_valueIn) := goodIn_app (goodIn_of _ (by decide +kernel)) ggX1_contradicted_X1_valueIn
theorem dX1_contradicted_0 : decode cX1_contradicted 0 = .ok (.aload_n 0, 1) := by decide +kernel
theorem dX1_contradicted_1 : decode cX1_contradicted 1 = .ok (.iconst 0, 1) := by decide +kernel
theorem dX1_contradicted_2 : decode cX1_contradicted 2 = .ok (.putfield 45, 3) := by decide +kernel
theorem dX1_contradicted_5 : decode cX1_contradicted 5 = .ok (.iload_n 1, 1) := by decide +kernel
theorem dX1_contradicted_6 : decode cX1_contradicted 6 = .ok (.invokestatic 70, 3) := by decide +kernel
theorem dX1_contradicted_9 : decode cX1_contradicted 9 = .ok (.ifCond .ne 9, 3) := by decide +kernel
theorem dX1_contradicted_12 : decode cX1_contradicted 12 = .ok (.aload_n 0, 1) := by decide +kernel
theorem dX1_contradicted_13 : decode cX1_contradicted 13 = .ok (.iconst 1, 1) := by decide +kernel
theorem dX1_contradicted_14 : decode cX1_contradicted 14 = .ok (.invokevirtual 55, 3) := by decide +kernel
theorem dX1_contradicted_17 : decode cX1_contradicted 17 = .ok (.ireturn, 1) := by decide +kernel
theorem dX1_contradicted_18 : decode cX1_contradicted 18 = .ok (.aload_n 0, 1) := by decide +kernel
theorem dX1_contradicted_19 : decode cX1_contradicted 19 = .ok (.invokevirtual 100, 3) := by decide +kernel
theorem dX1_contradicted_22 : decode cX1_contradicted 22 = .ok (.istore_n 2, 1) := by decide +kernel
theorem dX1_contradicted_23 : decode cX1_contradicted 23 = .ok (.iconst 0, 1) := by decide +kernel
theorem dX1_contradicted_24 : decode cX1_contradicted 24 = .ok (.istore_n 3, 1) := by decide +kernel
theorem dX1_contradicted_25 : decode cX1_contradicted 25 = .ok (.iconst 0, 1) := by decide +kernel
theorem dX1_contradicted_26 : decode cX1_contradicted 26 = .ok (.istore 4, 2) := by decide +kernel
theorem dX1_contradicted_28 : decode cX1_contradicted 28 = .ok (.iload 4, 2) := by decide +kernel
theorem dX1_contradicted_30 : decode cX1_contradicted 30 = .ok (.bipush 6, 2) := by decide +kernel
theorem dX1_contradicted_32 : decode cX1_contradicted 32 = .ok (.if_icmp .ge 67, 3) := by decide +kernel
theorem dX1_contradicted_35 : decode cX1_contradicted 35 = .ok (.aload_n 0, 1) := by decide +kernel
theorem dX1_contradicted_36 : decode cX1_contradicted 36 = .ok (.getfield 29, 3) := by decide +kernel
theorem dX1_contradicted_39 : decode cX1_contradicted 39 = .ok (.bipush 6, 2) := by decide +kernel
theorem dX1_contradicted_41 : decode cX1_contradicted 41 = .ok (.iload_n 1, 1) := by decide +kernel
theorem dX1_contradicted_42 : decode cX1_contradicted 42 = .ok (.imul, 1) := by decide +kernel
theorem dX1_contradicted_43 : decode cX1_contradicted 43 = .ok (.iload 4, 2) := by decide +kernel
theorem dX1_contradicted_45 : decode cX1_contradicted 45 = .ok (.iadd, 1) := by decide +kernel
theorem dX1_contradicted_46 : decode cX1_contradicted 46 = .ok (.iaload, 1) := by decide +kernel
theorem dX1_contradicted_47 : decode cX1_contradicted 47 = .ok (.istore 5, 2) := by decide +kernel
theorem dX1_contradicted_49 : decode cX1_contradicted 49 = .ok (.iload_n 2, 1) := by decide +kernel
theorem dX1_contradicted_50 : decode cX1_contradicted 50 = .ok (.iload 4, 2) := by decide +kernel
theorem dX1_contradicted_52 : decode cX1_contradicted 52 = .ok (.invokestatic 103, 3) := by decide +kernel
theorem dX1_contradicted_55 : decode cX1_contradicted 55 = .ok (.istore 6, 2) := by decide +kernel
theorem dX1_contradicted_57 : decode cX1_contradicted 57 = .ok (.iload_n 3, 1) := by decide +kernel
theorem dX1_contradicted_58 : decode cX1_contradicted 58 = .ok (.iload 5, 2) := by decide +kernel
theorem dX1_contradicted_60 : decode cX1_contradicted 60 = .ok (.iconst 1, 1) := by decide +kernel
theorem dX1_contradicted_61 : decode cX1_contradicted 61 = .ok (.iand, 1) := by decide +kernel
theorem dX1_contradicted_62 : decode cX1_contradicted 62 = .ok (.ifCond .eq 10, 3) := by decide +kernel
theorem dX1_contradicted_65 : decode cX1_contradicted 65 = .ok (.iload 6, 2) := by decide +kernel
theorem dX1_contradicted_67 : decode cX1_contradicted 67 = .ok (.iconst 2, 1) := by decide +kernel
theorem dX1_contradicted_68 : decode cX1_contradicted 68 = .ok (.iand, 1) := by decide +kernel
theorem dX1_contradicted_69 : decode cX1_contradicted 69 = .ok (.ifCond .ne 17, 3) := by decide +kernel
theorem dX1_contradicted_72 : decode cX1_contradicted 72 = .ok (.iload 5, 2) := by decide +kernel
theorem dX1_contradicted_74 : decode cX1_contradicted 74 = .ok (.iconst 2, 1) := by decide +kernel
theorem dX1_contradicted_75 : decode cX1_contradicted 75 = .ok (.iand, 1) := by decide +kernel
theorem dX1_contradicted_76 : decode cX1_contradicted 76 = .ok (.ifCond .eq 14, 3) := by decide +kernel
theorem dX1_contradicted_79 : decode cX1_contradicted 79 = .ok (.iload 6, 2) := by decide +kernel
theorem dX1_contradicted_81 : decode cX1_contradicted 81 = .ok (.iconst 1, 1) := by decide +kernel
theorem dX1_contradicted_82 : decode cX1_contradicted 82 = .ok (.iand, 1) := by decide +kernel
theorem dX1_contradicted_83 : decode cX1_contradicted 83 = .ok (.ifCond .eq 7, 3) := by decide +kernel
theorem dX1_contradicted_86 : decode cX1_contradicted 86 = .ok (.iconst 1, 1) := by decide +kernel
theorem dX1_contradicted_87 : decode cX1_contradicted 87 = .ok (.goto 4, 3) := by decide +kernel
theorem dX1_contradicted_90 : decode cX1_contradicted 90 = .ok (.iconst 0, 1) := by decide +kernel
theorem dX1_contradicted_91 : decode cX1_contradicted 91 = .ok (.iadd, 1) := by decide +kernel
theorem dX1_contradicted_92 : decode cX1_contradicted 92 = .ok (.istore_n 3, 1) := by decide +kernel
theorem dX1_contradicted_93 : decode cX1_contradicted 93 = .ok (.iinc 4 1, 3) := by decide +kernel
theorem dX1_contradicted_96 : decode cX1_contradicted 96 = .ok (.goto (-68), 3) := by decide +kernel
theorem dX1_contradicted_99 : decode cX1_contradicted 99 = .ok (.iload_n 3, 1) := by decide +kernel
theorem dX1_contradicted_100 : decode cX1_contradicted 100 = .ok (.ireturn, 1) := by decide +kernel
set_option maxRecDepth 20000 in
theorem ggX1_setLogic_X1_isIn : GoodIn wsX1_setLogic wsX1_isIn := goodIn_r _ [6] (by decide +kernel) (by decide +kernel)
set_option maxRecDepth 20000 in
theorem gX1_setLogic_X1_isIn : GoodIn wsX1_setLogic (va_wsS RX1 51 yX1_isIn wsX1_isIn) := goodIn_app (goodIn_of _ (by decide +kernel)) ggX1_setLogic_X1_isIn
set_option maxRecDepth 20000 in
theorem ggX1_setLogic_X1_no : GoodIn wsX1_setLogic wsX1_no := goodIn_r _ [10, 1, 11, 12, 13, 14, 15, 16, 17, 18, 19, 20, 21, 22, 23] (by decide +kernel) (by decide +kernel)
set_option maxRecDepth 20000 in
theorem gX1_setLogic_X1_no : GoodIn wsX1_setLogic (wsV RX1 55 RX1 yX1_no wsX1_no) := goodIn_app (goodIn_of _ (by decide +kernel)) ggX1_setLogic_X1_no
theorem dX1_setLogic_0 : decode cX1_setLogic 0 = .ok (.aload_n 0, 1) := by decide +kernel
theorem dX1_setLogic_1 : decode cX1_setLogic 1 = .ok (.iconst 0, 1) := by decide +kernel
theorem dX1_setLogic_2 : decode cX1_setLogic 2 = .ok (.putfield 45, 3) := by decide +kernel
theorem dX1_setLogic_5 : decode cX1_setLogic 5 = .ok (.iload_n 1, 1) := by decide +kernel
theorem dX1_setLogic_6 : decode cX1_setLogic 6 = .ok (.iconst 1, 1) := by decide +kernel
theorem dX1_setLogic_7 : decode cX1_setLogic 7 = .ok (.bipush 15, 2) := by decide +kernel
theorem dX1_setLogic_9 : decode cX1_setLogic 9 = .ok (.invokestatic 51, 3) := by decide +kernel
theorem dX1_setLogic_12 : decode cX1_setLogic 12 = .ok (.ifCond .ne 9, 3) := by decide +kernel
theorem dX1_setLogic_15 : decode cX1_setLogic 15 = .ok (.aload_n 0, 1) := by decide +kernel
theorem dX1_setLogic_16 : decode cX1_setLogic 16 = .ok (.iconst 1, 1) := by decide +kernel
theorem dX1_setLogic_17 : decode cX1_setLogic 17 = .ok (.invokevirtual 55, 3) := by decide +kernel
theorem dX1_setLogic_20 : decode cX1_setLogic 20 = .ok (.ireturn, 1) := by decide +kernel
theorem dX1_setLogic_21 : decode cX1_setLogic 21 = .ok (.aload_n 0, 1) := by decide +kernel
theorem dX1_setLogic_22 : decode cX1_setLogic 22 = .ok (.getfield 39, 3) := by decide +kernel
theorem dX1_setLogic_25 : decode cX1_setLogic 25 = .ok (.istore_n 2, 1) := by decide +kernel
theorem dX1_setLogic_26 : decode cX1_setLogic 26 = .ok (.aload_n 0, 1) := by decide +kernel
theorem dX1_setLogic_27 : decode cX1_setLogic 27 = .ok (.iload_n 1, 1) := by decide +kernel
theorem dX1_setLogic_28 : decode cX1_setLogic 28 = .ok (.putfield 39, 3) := by decide +kernel
theorem dX1_setLogic_31 : decode cX1_setLogic 31 = .ok (.iload_n 2, 1) := by decide +kernel
theorem dX1_setLogic_32 : decode cX1_setLogic 32 = .ok (.ireturn, 1) := by decide +kernel
set_option maxRecDepth 20000 in
theorem ggX1_counts_X1_valueIn : GoodIn wsX1_counts wsX1_valueIn := goodIn_r _ [5] (by decide +kernel) (by decide +kernel)
set_option maxRecDepth 20000 in
theorem gX1_counts_X1_valueIn : GoodIn wsX1_counts (va_wsS RX1 103 yX1_valueIn wsX1_valueIn) := goodIn_app (goodIn_of _ (by decide +kernel)) ggX1_counts_X1_valueIn
set_option maxRecDepth 20000 in
theorem ggX1_counts_X1_has : GoodIn wsX1_counts wsX1_has := goodIn_r _ [8] (by decide +kernel) (by decide +kernel)
set_option maxRecDepth 20000 in
theorem gX1_counts_X1_has : GoodIn wsX1_counts (va_wsS RX1 76 yX1_has wsX1_has) := goodIn_app (goodIn_of _ (by decide +kernel)) ggX1_counts_X1_has
theorem dX1_counts_0 : decode cX1_counts 0 = .ok (.iconst 1, 1) := by decide +kernel
theorem dX1_counts_1 : decode cX1_counts 1 = .ok (.istore_n 2, 1) := by decide +kernel
theorem dX1_counts_2 : decode cX1_counts 2 = .ok (.iconst 0, 1) := by decide +kernel
theorem dX1_counts_3 : decode cX1_counts 3 = .ok (.istore_n 3, 1) := by decide +kernel
theorem dX1_counts_4 : decode cX1_counts 4 = .ok (.iload_n 3, 1) := by decide +kernel
theorem dX1_counts_5 : decode cX1_counts 5 = .ok (.bipush 6, 2) := by decide +kernel
theorem dX1_counts_7 : decode cX1_counts 7 = .ok (.if_icmp .ge 34, 3) := by decide +kernel
theorem dX1_counts_10 : decode cX1_counts 10 = .ok (.iload_n 2, 1) := by decide +kernel
theorem dX1_counts_11 : decode cX1_counts 11 = .ok (.ifCond .eq 22, 3) := by decide +kernel
theorem dX1_counts_14 : decode cX1_counts 14 = .ok (.aload_n 0, 1) := by decide +kernel
theorem dX1_counts_15 : decode cX1_counts 15 = .ok (.getfield 39, 3) := by decide +kernel
theorem dX1_counts_18 : decode cX1_counts 18 = .ok (.iload_n 1, 1) := by decide +kernel
theorem dX1_counts_19 : decode cX1_counts 19 = .ok (.iload_n 3, 1) := by decide +kernel
theorem dX1_counts_20 : decode cX1_counts 20 = .ok (.invokestatic 103, 3) := by decide +kernel
theorem dX1_counts_23 : decode cX1_counts 23 = .ok (.invokestatic 76, 3) := by decide +kernel
theorem dX1_counts_26 : decode cX1_counts 26 = .ok (.ifCond .eq 7, 3) := by decide +kernel
theorem dX1_counts_29 : decode cX1_counts 29 = .ok (.iconst 1, 1) := by decide +kernel
theorem dX1_counts_30 : decode cX1_counts 30 = .ok (.goto 4, 3) := by decide +kernel
theorem dX1_counts_33 : decode cX1_counts 33 = .ok (.iconst 0, 1) := by decide +kernel
theorem dX1_counts_34 : decode cX1_counts 34 = .ok (.istore_n 2, 1) := by decide +kernel
theorem dX1_counts_35 : decode cX1_counts 35 = .ok (.iinc 3 1, 3) := by decide +kernel
theorem dX1_counts_38 : decode cX1_counts 38 = .ok (.goto (-34), 3) := by decide +kernel
theorem dX1_counts_41 : decode cX1_counts 41 = .ok (.iload_n 2, 1) := by decide +kernel
theorem dX1_counts_42 : decode cX1_counts 42 = .ok (.ireturn, 1) := by decide +kernel
set_option maxRecDepth 20000 in
theorem ggX1_isYes_X1_worth : GoodIn wsX1_isYes wsX1_worth := goodIn_r _ [5, 6, 7, 8, 9, 10, 11, 4, 12, 13, 14, 15, 16, 17, 18, 19, 20, 21, 22, 23, 24, 25] (by decide +kernel) (by decide +kernel)
set_option maxRecDepth 20000 in
theorem gX1_isYes_X1_worth : GoodIn wsX1_isYes (wsV RX1 88 RX1 yX1_worth wsX1_worth) := goodIn_app (goodIn_of _ (by decide +kernel)) ggX1_isYes_X1_worth
theorem dX1_isYes_0 : decode cX1_isYes 0 = .ok (.aload_n 0, 1) := by decide +kernel
theorem dX1_isYes_1 : decode cX1_isYes 1 = .ok (.iload_n 1, 1) := by decide +kernel
theorem dX1_isYes_2 : decode cX1_isYes 2 = .ok (.iload_n 2, 1) := by decide +kernel
theorem dX1_isYes_3 : decode cX1_isYes 3 = .ok (.invokevirtual 88, 3) := by decide +kernel
theorem dX1_isYes_6 : decode cX1_isYes 6 = .ok (.iconst 1, 1) := by decide +kernel
theorem dX1_isYes_7 : decode cX1_isYes 7 = .ok (.iand, 1) := by decide +kernel
theorem dX1_isYes_8 : decode cX1_isYes 8 = .ok (.ifCond .eq 7, 3) := by decide +kernel
theorem dX1_isYes_11 : decode cX1_isYes 11 = .ok (.iconst 1, 1) := by decide +kernel
theorem dX1_isYes_12 : decode cX1_isYes 12 = .ok (.goto 4, 3) := by decide +kernel
theorem dX1_isYes_15 : decode cX1_isYes 15 = .ok (.iconst 0, 1) := by decide +kernel
theorem dX1_isYes_16 : decode cX1_isYes 16 = .ok (.ireturn, 1) := by decide +kernel
set_option maxRecDepth 20000 in
theorem ggX1_models_X1_isFormula : GoodIn wsX1_models wsX1_isFormula := goodIn_r _ [6, 7, 8, 9, 5, 10, 38, 39, 40, 41, 42, 43, 44, 45, 46, 47, 48, 49, 50] (by decide +kernel) (by decide +kernel)
set_option maxRecDepth 20000 in
theorem gX1_models_X1_isFormula : GoodIn wsX1_models (wsV RX1 67 RX1 yX1_isFormula wsX1_isFormula) := goodIn_app (goodIn_of _ (by decide +kernel)) ggX1_models_X1_isFormula
set_option maxRecDepth 20000 in
theorem ggX1_models_X1_no : GoodIn wsX1_models wsX1_no := goodIn_r _ [14, 1, 38, 39, 40, 41, 42, 43, 44, 45, 46, 47, 48, 49, 50] (by decide +kernel) (by decide +kernel)
set_option maxRecDepth 20000 in
theorem gX1_models_X1_no : GoodIn wsX1_models (wsV RX1 55 RX1 yX1_no wsX1_no) := goodIn_app (goodIn_of _ (by decide +kernel)) ggX1_models_X1_no
set_option maxRecDepth 20000 in
theorem ggX1_models_X1_counts : GoodIn wsX1_models wsX1_counts := goodIn_r _ [18, 19, 20, 21, 5, 22, 23, 24, 25, 38, 39, 40, 41, 42, 43, 44, 45, 46, 47, 48, 49, 50] (by decide +kernel) (by decide +kernel)
set_option maxRecDepth 20000 in
theorem gX1_models_X1_counts : GoodIn wsX1_models (wsV RX1 117 RX1 yX1_counts wsX1_counts) := goodIn_app (goodIn_of _ (by decide +kernel)) ggX1_models_X1_counts
set_option maxRecDepth 20000 in
theorem ggX1_models_X1_isYes : GoodIn wsX1_models wsX1_isYes := goodIn_r _ [29, 30, 31, 32, 5, 33, 34, 35, 36, 37, 8, 9, 10, 38, 39, 40, 41, 42, 43, 44, 45, 46, 47, 48, 49, 50] (by decide +kernel) (by decide +kernel)
set_option maxRecDepth 20000 in
theorem gX1_models_X1_isYes : GoodIn wsX1_models (wsV RX1 120 RX1 yX1_isYes wsX1_isYes) := goodIn_app (goodIn_of _ (by decide +kernel)) ggX1_models_X1_isYes
theorem dX1_models_0 : decode cX1_models 0 = .ok (.aload_n 0, 1) := by decide +kernel
theorem dX1_models_1 : decode cX1_models 1 = .ok (.iconst 0, 1) := by decide +kernel
theorem dX1_models_2 : decode cX1_models 2 = .ok (.putfield 45, 3) := by decide +kernel
theorem dX1_models_5 : decode cX1_models 5 = .ok (.aload_n 0, 1) := by decide +kernel
theorem dX1_models_6 : decode cX1_models 6 = .ok (.iload_n 1, 1) := by decide +kernel
theorem dX1_models_7 : decode cX1_models 7 = .ok (.invokevirtual 67, 3) := by decide +kernel
theorem dX1_models_10 : decode cX1_models 10 = .ok (.ifCond .ne 9, 3) := by decide +kernel
theorem dX1_models_13 : decode cX1_models 13 = .ok (.aload_n 0, 1) := by decide +kernel
theorem dX1_models_14 : decode cX1_models 14 = .ok (.iconst 1, 1) := by decide +kernel
theorem dX1_models_15 : decode cX1_models 15 = .ok (.invokevirtual 55, 3) := by decide +kernel
theorem dX1_models_18 : decode cX1_models 18 = .ok (.ireturn, 1) := by decide +kernel
theorem dX1_models_19 : decode cX1_models 19 = .ok (.iconst 0, 1) := by decide +kernel
theorem dX1_models_20 : decode cX1_models 20 = .ok (.istore_n 2, 1) := by decide +kernel
theorem dX1_models_21 : decode cX1_models 21 = .ok (.iconst 0, 1) := by decide +kernel
theorem dX1_models_22 : decode cX1_models 22 = .ok (.istore_n 3, 1) := by decide +kernel
theorem dX1_models_23 : decode cX1_models 23 = .ok (.iload_n 3, 1) := by decide +kernel
theorem dX1_models_24 : decode cX1_models 24 = .ok (.sipush 4096, 3) := by decide +kernel
theorem dX1_models_27 : decode cX1_models 27 = .ok (.if_icmp .ge 34, 3) := by decide +kernel
theorem dX1_models_30 : decode cX1_models 30 = .ok (.iload_n 2, 1) := by decide +kernel
theorem dX1_models_31 : decode cX1_models 31 = .ok (.aload_n 0, 1) := by decide +kernel
theorem dX1_models_32 : decode cX1_models 32 = .ok (.iload_n 3, 1) := by decide +kernel
theorem dX1_models_33 : decode cX1_models 33 = .ok (.invokevirtual 117, 3) := by decide +kernel
theorem dX1_models_36 : decode cX1_models 36 = .ok (.ifCond .eq 16, 3) := by decide +kernel
theorem dX1_models_39 : decode cX1_models 39 = .ok (.aload_n 0, 1) := by decide +kernel
theorem dX1_models_40 : decode cX1_models 40 = .ok (.iload_n 1, 1) := by decide +kernel
theorem dX1_models_41 : decode cX1_models 41 = .ok (.iload_n 3, 1) := by decide +kernel
theorem dX1_models_42 : decode cX1_models 42 = .ok (.invokevirtual 120, 3) := by decide +kernel
theorem dX1_models_45 : decode cX1_models 45 = .ok (.ifCond .eq 7, 3) := by decide +kernel
theorem dX1_models_48 : decode cX1_models 48 = .ok (.iconst 1, 1) := by decide +kernel
theorem dX1_models_49 : decode cX1_models 49 = .ok (.goto 4, 3) := by decide +kernel
theorem dX1_models_52 : decode cX1_models 52 = .ok (.iconst 0, 1) := by decide +kernel
theorem dX1_models_53 : decode cX1_models 53 = .ok (.iadd, 1) := by decide +kernel
theorem dX1_models_54 : decode cX1_models 54 = .ok (.istore_n 2, 1) := by decide +kernel
theorem dX1_models_55 : decode cX1_models 55 = .ok (.iinc 3 1, 3) := by decide +kernel
theorem dX1_models_58 : decode cX1_models 58 = .ok (.goto (-35), 3) := by decide +kernel
theorem dX1_models_61 : decode cX1_models 61 = .ok (.iload_n 2, 1) := by decide +kernel
theorem dX1_models_62 : decode cX1_models 62 = .ok (.ireturn, 1) := by decide +kernel
set_option maxRecDepth 20000 in
theorem ggX1_range_X1_isFormula : GoodIn wsX1_range wsX1_isFormula := goodIn_r _ [6, 7, 8, 9, 5, 10, 34, 35, 36, 37, 38, 39, 40, 41, 42, 43, 44, 45, 46] (by decide +kernel) (by decide +kernel)
set_option maxRecDepth 20000 in
theorem gX1_range_X1_isFormula : GoodIn wsX1_range (wsV RX1 67 RX1 yX1_isFormula wsX1_isFormula) := goodIn_app (goodIn_of _ (by decide +kernel)) ggX1_range_X1_isFormula
set_option maxRecDepth 20000 in
theorem ggX1_range_X1_no : GoodIn wsX1_range wsX1_no := goodIn_r _ [14, 1, 34, 35, 36, 37, 38, 39, 40, 41, 42, 43, 44, 45, 46] (by decide +kernel) (by decide +kernel)
set_option maxRecDepth 20000 in
theorem gX1_range_X1_no : GoodIn wsX1_range (wsV RX1 55 RX1 yX1_no wsX1_no) := goodIn_app (goodIn_of _ (by decide +kernel)) ggX1_range_X1_no
set_option maxRecDepth 20000 in
theorem ggX1_range_X1_counts : GoodIn wsX1_range wsX1_counts := goodIn_r _ [18, 19, 20, 21, 5, 22, 23, 24, 25, 34, 35, 36, 37, 38, 39, 40, 41, 42, 43, 44, 45, 46] (by decide +kernel) (by decide +kernel)
set_option maxRecDepth 20000 in
theorem gX1_range_X1_counts : GoodIn wsX1_range (wsV RX1 117 RX1 yX1_counts wsX1_counts) := goodIn_app (goodIn_of _ (by decide +kernel)) ggX1_range_X1_counts
set_option maxRecDepth 20000 in
theorem ggX1_range_X1_worth : GoodIn wsX1_range wsX1_worth := goodIn_r _ [29, 30, 31, 32, 33, 8, 9, 5, 10, 34, 35, 36, 37, 38, 39, 40, 41, 42, 43, 44, 45, 46] (by decide +kernel) (by decide +kernel)
set_option maxRecDepth 20000 in
theorem gX1_range_X1_worth : GoodIn wsX1_range (wsV RX1 88 RX1 yX1_worth wsX1_worth) := goodIn_app (goodIn_of _ (by decide +kernel)) ggX1_range_X1_worth
theorem dX1_range_0 : decode cX1_range 0 = .ok (.aload_n 0, 1) := by decide +kernel
theorem dX1_range_1 : decode cX1_range 1 = .ok (.iconst 0, 1) := by decide +kernel
theorem dX1_range_2 : decode cX1_range 2 = .ok (.putfield 45, 3) := by decide +kernel
theorem dX1_range_5 : decode cX1_range 5 = .ok (.aload_n 0, 1) := by decide +kernel
theorem dX1_range_6 : decode cX1_range 6 = .ok (.iload_n 1, 1) := by decide +kernel
theorem dX1_range_7 : decode cX1_range 7 = .ok (.invokevirtual 67, 3) := by decide +kernel
theorem dX1_range_10 : decode cX1_range 10 = .ok (.ifCond .ne 9, 3) := by decide +kernel
theorem dX1_range_13 : decode cX1_range 13 = .ok (.aload_n 0, 1) := by decide +kernel
theorem dX1_range_14 : decode cX1_range 14 = .ok (.iconst 1, 1) := by decide +kernel
theorem dX1_range_15 : decode cX1_range 15 = .ok (.invokevirtual 55, 3) := by decide +kernel
theorem dX1_range_18 : decode cX1_range 18 = .ok (.ireturn, 1) := by decide +kernel
theorem dX1_range_19 : decode cX1_range 19 = .ok (.iconst 0, 1) := by decide +kernel
theorem dX1_range_20 : decode cX1_range 20 = .ok (.istore_n 2, 1) := by decide +kernel
theorem dX1_range_21 : decode cX1_range 21 = .ok (.iconst 0, 1) := by decide +kernel
theorem dX1_range_22 : decode cX1_range 22 = .ok (.istore_n 3, 1) := by decide +kernel
theorem dX1_range_23 : decode cX1_range 23 = .ok (.iload_n 3, 1) := by decide +kernel
theorem dX1_range_24 : decode cX1_range 24 = .ok (.sipush 4096, 3) := by decide +kernel
theorem dX1_range_27 : decode cX1_range 27 = .ok (.if_icmp .ge 28, 3) := by decide +kernel
theorem dX1_range_30 : decode cX1_range 30 = .ok (.aload_n 0, 1) := by decide +kernel
theorem dX1_range_31 : decode cX1_range 31 = .ok (.iload_n 3, 1) := by decide +kernel
theorem dX1_range_32 : decode cX1_range 32 = .ok (.invokevirtual 117, 3) := by decide +kernel
theorem dX1_range_35 : decode cX1_range 35 = .ok (.ifCond .eq 14, 3) := by decide +kernel
theorem dX1_range_38 : decode cX1_range 38 = .ok (.iload_n 2, 1) := by decide +kernel
theorem dX1_range_39 : decode cX1_range 39 = .ok (.iconst 1, 1) := by decide +kernel
theorem dX1_range_40 : decode cX1_range 40 = .ok (.aload_n 0, 1) := by decide +kernel
theorem dX1_range_41 : decode cX1_range 41 = .ok (.iload_n 1, 1) := by decide +kernel
theorem dX1_range_42 : decode cX1_range 42 = .ok (.iload_n 3, 1) := by decide +kernel
theorem dX1_range_43 : decode cX1_range 43 = .ok (.invokevirtual 88, 3) := by decide +kernel
theorem dX1_range_46 : decode cX1_range 46 = .ok (.ishl, 1) := by decide +kernel
theorem dX1_range_47 : decode cX1_range 47 = .ok (.ior, 1) := by decide +kernel
theorem dX1_range_48 : decode cX1_range 48 = .ok (.istore_n 2, 1) := by decide +kernel
theorem dX1_range_49 : decode cX1_range 49 = .ok (.iinc 3 1, 3) := by decide +kernel
theorem dX1_range_52 : decode cX1_range 52 = .ok (.goto (-29), 3) := by decide +kernel
theorem dX1_range_55 : decode cX1_range 55 = .ok (.iload_n 2, 1) := by decide +kernel
theorem dX1_range_56 : decode cX1_range 56 = .ok (.ireturn, 1) := by decide +kernel
set_option maxRecDepth 20000 in
theorem ggX1_firstAgainst_X1_counts : GoodIn wsX1_firstAgainst wsX1_counts := goodIn_r _ [5, 6, 7, 8, 4, 9, 10, 11, 12, 28, 29, 30, 31, 32, 33, 34, 35, 36, 37, 38, 39, 40] (by decide +kernel) (by decide +kernel)
set_option maxRecDepth 20000 in
theorem gX1_firstAgainst_X1_counts : GoodIn wsX1_firstAgainst (wsV RX1 117 RX1 yX1_counts wsX1_counts) := goodIn_app (goodIn_of _ (by decide +kernel)) ggX1_firstAgainst_X1_counts
set_option maxRecDepth 20000 in
theorem ggX1_firstAgainst_X1_isYes : GoodIn wsX1_firstAgainst wsX1_isYes := goodIn_r _ [16, 17, 18, 19, 4, 20, 21, 22, 23, 24, 25, 26, 27, 28, 29, 30, 31, 32, 33, 34, 35, 36, 37, 38, 39, 40] (by decide +kernel) (by decide +kernel)
set_option maxRecDepth 20000 in
theorem gX1_firstAgainst_X1_isYes : GoodIn wsX1_firstAgainst (wsV RX1 120 RX1 yX1_isYes wsX1_isYes) := goodIn_app (goodIn_of _ (by decide +kernel)) ggX1_firstAgainst_X1_isYes
theorem dX1_firstAgainst_0 : decode cX1_firstAgainst 0 = .ok (.iconst 0, 1) := by decide +kernel
theorem dX1_firstAgainst_1 : decode cX1_firstAgainst 1 = .ok (.istore_n 3, 1) := by decide +kernel
theorem dX1_firstAgainst_2 : decode cX1_firstAgainst 2 = .ok (.iload_n 3, 1) := by decide +kernel
theorem dX1_firstAgainst_3 : decode cX1_firstAgainst 3 = .ok (.sipush 4096, 3) := by decide +kernel
theorem dX1_firstAgainst_6 : decode cX1_firstAgainst 6 = .ok (.if_icmp .ge 37, 3) := by decide +kernel
theorem dX1_firstAgainst_9 : decode cX1_firstAgainst 9 = .ok (.aload_n 0, 1) := by decide +kernel
theorem dX1_firstAgainst_10 : decode cX1_firstAgainst 10 = .ok (.iload_n 3, 1) := by decide +kernel
theorem dX1_firstAgainst_11 : decode cX1_firstAgainst 11 = .ok (.invokevirtual 117, 3) := by decide +kernel
theorem dX1_firstAgainst_14 : decode cX1_firstAgainst 14 = .ok (.ifCond .eq 23, 3) := by decide +kernel
theorem dX1_firstAgainst_17 : decode cX1_firstAgainst 17 = .ok (.aload_n 0, 1) := by decide +kernel
theorem dX1_firstAgainst_18 : decode cX1_firstAgainst 18 = .ok (.iload_n 1, 1) := by decide +kernel
theorem dX1_firstAgainst_19 : decode cX1_firstAgainst 19 = .ok (.iload_n 3, 1) := by decide +kernel
theorem dX1_firstAgainst_20 : decode cX1_firstAgainst 20 = .ok (.invokevirtual 120, 3) := by decide +kernel
theorem dX1_firstAgainst_23 : decode cX1_firstAgainst 23 = .ok (.ifCond .eq 14, 3) := by decide +kernel
theorem dX1_firstAgainst_26 : decode cX1_firstAgainst 26 = .ok (.aload_n 0, 1) := by decide +kernel
theorem dX1_firstAgainst_27 : decode cX1_firstAgainst 27 = .ok (.iload_n 2, 1) := by decide +kernel
theorem dX1_firstAgainst_28 : decode cX1_firstAgainst 28 = .ok (.iload_n 3, 1) := by decide +kernel
theorem dX1_firstAgainst_29 : decode cX1_firstAgainst 29 = .ok (.invokevirtual 120, 3) := by decide +kernel
theorem dX1_firstAgainst_32 : decode cX1_firstAgainst 32 = .ok (.ifCond .ne 5, 3) := by decide +kernel
theorem dX1_firstAgainst_35 : decode cX1_firstAgainst 35 = .ok (.iload_n 3, 1) := by decide +kernel
theorem dX1_firstAgainst_36 : decode cX1_firstAgainst 36 = .ok (.ireturn, 1) := by decide +kernel
theorem dX1_firstAgainst_37 : decode cX1_firstAgainst 37 = .ok (.iinc 3 1, 3) := by decide +kernel
theorem dX1_firstAgainst_40 : decode cX1_firstAgainst 40 = .ok (.goto (-38), 3) := by decide +kernel
theorem dX1_firstAgainst_43 : decode cX1_firstAgainst 43 = .ok (.iconst (-1), 1) := by decide +kernel
theorem dX1_firstAgainst_44 : decode cX1_firstAgainst 44 = .ok (.ireturn, 1) := by decide +kernel
set_option maxRecDepth 20000 in
theorem ggX1_entails_X1_isFormula : GoodIn wsX1_entails wsX1_isFormula := goodIn_r _ [6, 7, 8, 9, 5, 10, 38, 39, 40, 41, 42, 43, 44, 45, 46, 47, 48, 49, 50] (by decide +kernel) (by decide +kernel)
set_option maxRecDepth 20000 in
theorem gX1_entails_X1_isFormula : GoodIn wsX1_entails (wsV RX1 67 RX1 yX1_isFormula wsX1_isFormula) := goodIn_app (goodIn_of _ (by decide +kernel)) ggX1_entails_X1_isFormula
set_option maxRecDepth 20000 in
theorem ggX1_entails_X1_firstAgainst : GoodIn wsX1_entails wsX1_firstAgainst := goodIn_r _ [14, 15, 16, 17, 5, 18, 19, 20, 21, 22, 23, 24, 25, 26, 27, 28, 29, 30, 31, 32, 33, 34, 35, 36, 37, 8, 9, 10, 38, 39, 40, 41, 42, 43, 44, 45, 46, 47, 48, 49, 50] (by decide +kernel) (by decide +kernel)
set_option maxRecDepth 20000 in
theorem gX1_entails_X1_firstAgainst : GoodIn wsX1_entails (wsV RX1 123 RX1 yX1_firstAgainst wsX1_firstAgainst) := goodIn_app (goodIn_of _ (by decide +kernel)) ggX1_entails_X1_firstAgainst
theorem dX1_entails_0 : decode cX1_entails 0 = .ok (.aload_n 0, 1) := by decide +kernel
theorem dX1_entails_1 : decode cX1_entails 1 = .ok (.aload_n 0, 1) := by decide +kernel
theorem dX1_entails_2 : decode cX1_entails 2 = .ok (.iload_n 1, 1) := by decide +kernel
theorem dX1_entails_3 : decode cX1_entails 3 = .ok (.invokevirtual 67, 3) := by decide +kernel
theorem dX1_entails_6 : decode cX1_entails 6 = .ok (.ifCond .eq 15, 3) := by decide +kernel
theorem dX1_entails_9 : decode cX1_entails 9 = .ok (.aload_n 0, 1) := by decide +kernel
theorem dX1_entails_10 : decode cX1_entails 10 = .ok (.iload_n 2, 1) := by decide +kernel
theorem dX1_entails_11 : decode cX1_entails 11 = .ok (.invokevirtual 67, 3) := by decide +kernel
theorem dX1_entails_14 : decode cX1_entails 14 = .ok (.ifCond .eq 7, 3) := by decide +kernel
theorem dX1_entails_17 : decode cX1_entails 17 = .ok (.iconst 0, 1) := by decide +kernel
theorem dX1_entails_18 : decode cX1_entails 18 = .ok (.goto 4, 3) := by decide +kernel
theorem dX1_entails_21 : decode cX1_entails 21 = .ok (.iconst 1, 1) := by decide +kernel
theorem dX1_entails_22 : decode cX1_entails 22 = .ok (.putfield 45, 3) := by decide +kernel
theorem dX1_entails_25 : decode cX1_entails 25 = .ok (.aload_n 0, 1) := by decide +kernel
theorem dX1_entails_26 : decode cX1_entails 26 = .ok (.getfield 45, 3) := by decide +kernel
theorem dX1_entails_29 : decode cX1_entails 29 = .ok (.ifCond .ne 17, 3) := by decide +kernel
theorem dX1_entails_32 : decode cX1_entails 32 = .ok (.aload_n 0, 1) := by decide +kernel
theorem dX1_entails_33 : decode cX1_entails 33 = .ok (.iload_n 1, 1) := by decide +kernel
theorem dX1_entails_34 : decode cX1_entails 34 = .ok (.iload_n 2, 1) := by decide +kernel
theorem dX1_entails_35 : decode cX1_entails 35 = .ok (.invokevirtual 123, 3) := by decide +kernel
theorem dX1_entails_38 : decode cX1_entails 38 = .ok (.iconst (-1), 1) := by decide +kernel
theorem dX1_entails_39 : decode cX1_entails 39 = .ok (.if_icmp .ne 7, 3) := by decide +kernel
theorem dX1_entails_42 : decode cX1_entails 42 = .ok (.iconst 1, 1) := by decide +kernel
theorem dX1_entails_43 : decode cX1_entails 43 = .ok (.goto 4, 3) := by decide +kernel
theorem dX1_entails_46 : decode cX1_entails 46 = .ok (.iconst 0, 1) := by decide +kernel
theorem dX1_entails_47 : decode cX1_entails 47 = .ok (.ireturn, 1) := by decide +kernel
set_option maxRecDepth 20000 in
theorem ggX1_against_X1_isFormula : GoodIn wsX1_against wsX1_isFormula := goodIn_r _ [6, 7, 8, 9, 5, 10, 42, 43, 44, 45, 46, 47, 48, 49, 50, 51, 52, 53, 54] (by decide +kernel) (by decide +kernel)
set_option maxRecDepth 20000 in
theorem gX1_against_X1_isFormula : GoodIn wsX1_against (wsV RX1 67 RX1 yX1_isFormula wsX1_isFormula) := goodIn_app (goodIn_of _ (by decide +kernel)) ggX1_against_X1_isFormula
set_option maxRecDepth 20000 in
theorem ggX1_against_X1_firstAgainst : GoodIn wsX1_against wsX1_firstAgainst := goodIn_r _ [14, 15, 16, 17, 5, 18, 19, 20, 21, 22, 23, 24, 25, 26, 27, 28, 29, 30, 31, 32, 33, 34, 35, 36, 37, 8, 9, 10, 42, 43, 44, 45, 46, 47, 48, 49, 50, 51, 52, 53, 54] (by decide +kernel) (by decide +kernel)
set_option maxRecDepth 20000 in
theorem gX1_against_X1_firstAgainst : GoodIn wsX1_against (wsV RX1 123 RX1 yX1_firstAgainst wsX1_firstAgainst) := goodIn_app (goodIn_of _ (by decide +kernel)) ggX1_against_X1_firstAgainst
set_option maxRecDepth 20000 in
theorem ggX1_against_X1_no : GoodIn wsX1_against wsX1_no := goodIn_r _ [41, 1, 42, 43, 44, 45, 46, 47, 48, 49, 50, 51, 52, 53, 54] (by decide +kernel) (by decide +kernel)
set_option maxRecDepth 20000 in
theorem gX1_against_X1_no : GoodIn wsX1_against (wsV RX1 55 RX1 yX1_no wsX1_no) := goodIn_app (goodIn_of _ (by decide +kernel)) ggX1_against_X1_no
theorem dX1_against_0 : decode cX1_against 0 = .ok (.aload_n 0, 1) := by decide +kernel
theorem dX1_against_1 : decode cX1_against 1 = .ok (.iconst 0, 1) := by decide +kernel
theorem dX1_against_2 : decode cX1_against 2 = .ok (.putfield 45, 3) := by decide +kernel
theorem dX1_against_5 : decode cX1_against 5 = .ok (.aload_n 0, 1) := by decide +kernel
theorem dX1_against_6 : decode cX1_against 6 = .ok (.iload_n 1, 1) := by decide +kernel
theorem dX1_against_7 : decode cX1_against 7 = .ok (.invokevirtual 67, 3) := by decide +kernel
theorem dX1_against_10 : decode cX1_against 10 = .ok (.ifCond .eq 20, 3) := by decide +kernel
theorem dX1_against_13 : decode cX1_against 13 = .ok (.aload_n 0, 1) := by decide +kernel
theorem dX1_against_14 : decode cX1_against 14 = .ok (.iload_n 2, 1) := by decide +kernel
theorem dX1_against_15 : decode cX1_against 15 = .ok (.invokevirtual 67, 3) := by decide +kernel
theorem dX1_against_18 : decode cX1_against 18 = .ok (.ifCond .eq 12, 3) := by decide +kernel
theorem dX1_against_21 : decode cX1_against 21 = .ok (.aload_n 0, 1) := by decide +kernel
theorem dX1_against_22 : decode cX1_against 22 = .ok (.iload_n 1, 1) := by decide +kernel
theorem dX1_against_23 : decode cX1_against 23 = .ok (.iload_n 2, 1) := by decide +kernel
theorem dX1_against_24 : decode cX1_against 24 = .ok (.invokevirtual 123, 3) := by decide +kernel
theorem dX1_against_27 : decode cX1_against 27 = .ok (.goto 8, 3) := by decide +kernel
theorem dX1_against_30 : decode cX1_against 30 = .ok (.aload_n 0, 1) := by decide +kernel
theorem dX1_against_31 : decode cX1_against 31 = .ok (.iconst 1, 1) := by decide +kernel
theorem dX1_against_32 : decode cX1_against 32 = .ok (.invokevirtual 55, 3) := by decide +kernel
theorem dX1_against_35 : decode cX1_against 35 = .ok (.ireturn, 1) := by decide +kernel
set_option maxRecDepth 20000 in
theorem ggX1_areEqual_X1_isFormula : GoodIn wsX1_areEqual wsX1_isFormula := goodIn_r _ [6, 7, 8, 9, 5, 10, 30, 31, 32, 33, 34, 35, 36, 37, 38, 39, 40, 41, 42] (by decide +kernel) (by decide +kernel)
set_option maxRecDepth 20000 in
theorem gX1_areEqual_X1_isFormula : GoodIn wsX1_areEqual (wsV RX1 67 RX1 yX1_isFormula wsX1_isFormula) := goodIn_app (goodIn_of _ (by decide +kernel)) ggX1_areEqual_X1_isFormula
set_option maxRecDepth 20000 in
theorem ggX1_areEqual_X1_counts : GoodIn wsX1_areEqual wsX1_counts := goodIn_r _ [14, 15, 16, 17, 5, 18, 19, 20, 21, 30, 31, 32, 33, 34, 35, 36, 37, 38, 39, 40, 41, 42] (by decide +kernel) (by decide +kernel)
set_option maxRecDepth 20000 in
theorem gX1_areEqual_X1_counts : GoodIn wsX1_areEqual (wsV RX1 117 RX1 yX1_counts wsX1_counts) := goodIn_app (goodIn_of _ (by decide +kernel)) ggX1_areEqual_X1_counts
set_option maxRecDepth 20000 in
theorem ggX1_areEqual_X1_worth : GoodIn wsX1_areEqual wsX1_worth := goodIn_r _ [25, 26, 27, 28, 29, 8, 9, 5, 10, 30, 31, 32, 33, 34, 35, 36, 37, 38, 39, 40, 41, 42] (by decide +kernel) (by decide +kernel)
set_option maxRecDepth 20000 in
theorem gX1_areEqual_X1_worth : GoodIn wsX1_areEqual (wsV RX1 88 RX1 yX1_worth wsX1_worth) := goodIn_app (goodIn_of _ (by decide +kernel)) ggX1_areEqual_X1_worth
theorem dX1_areEqual_0 : decode cX1_areEqual 0 = .ok (.aload_n 0, 1) := by decide +kernel
theorem dX1_areEqual_1 : decode cX1_areEqual 1 = .ok (.aload_n 0, 1) := by decide +kernel
theorem dX1_areEqual_2 : decode cX1_areEqual 2 = .ok (.iload_n 1, 1) := by decide +kernel
theorem dX1_areEqual_3 : decode cX1_areEqual 3 = .ok (.invokevirtual 67, 3) := by decide +kernel
theorem dX1_areEqual_6 : decode cX1_areEqual 6 = .ok (.ifCond .eq 15, 3) := by decide +kernel
theorem dX1_areEqual_9 : decode cX1_areEqual 9 = .ok (.aload_n 0, 1) := by decide +kernel
theorem dX1_areEqual_10 : decode cX1_areEqual 10 = .ok (.iload_n 2, 1) := by decide +kernel
theorem dX1_areEqual_11 : decode cX1_areEqual 11 = .ok (.invokevirtual 67, 3) := by decide +kernel
theorem dX1_areEqual_14 : decode cX1_areEqual 14 = .ok (.ifCond .eq 7, 3) := by decide +kernel
theorem dX1_areEqual_17 : decode cX1_areEqual 17 = .ok (.iconst 0, 1) := by decide +kernel
theorem dX1_areEqual_18 : decode cX1_areEqual 18 = .ok (.goto 4, 3) := by decide +kernel
theorem dX1_areEqual_21 : decode cX1_areEqual 21 = .ok (.iconst 1, 1) := by decide +kernel
theorem dX1_areEqual_22 : decode cX1_areEqual 22 = .ok (.putfield 45, 3) := by decide +kernel
theorem dX1_areEqual_25 : decode cX1_areEqual 25 = .ok (.aload_n 0, 1) := by decide +kernel
theorem dX1_areEqual_26 : decode cX1_areEqual 26 = .ok (.getfield 45, 3) := by decide +kernel
theorem dX1_areEqual_29 : decode cX1_areEqual 29 = .ok (.ifCond .ne 7, 3) := by decide +kernel
theorem dX1_areEqual_32 : decode cX1_areEqual 32 = .ok (.iconst 1, 1) := by decide +kernel
theorem dX1_areEqual_33 : decode cX1_areEqual 33 = .ok (.goto 4, 3) := by decide +kernel
theorem dX1_areEqual_36 : decode cX1_areEqual 36 = .ok (.iconst 0, 1) := by decide +kernel
theorem dX1_areEqual_37 : decode cX1_areEqual 37 = .ok (.istore_n 3, 1) := by decide +kernel
theorem dX1_areEqual_38 : decode cX1_areEqual 38 = .ok (.iconst 0, 1) := by decide +kernel
theorem dX1_areEqual_39 : decode cX1_areEqual 39 = .ok (.istore 4, 2) := by decide +kernel
theorem dX1_areEqual_41 : decode cX1_areEqual 41 = .ok (.iload 4, 2) := by decide +kernel
theorem dX1_areEqual_43 : decode cX1_areEqual 43 = .ok (.sipush 4096, 3) := by decide +kernel
theorem dX1_areEqual_46 : decode cX1_areEqual 46 = .ok (.if_icmp .ge 45, 3) := by decide +kernel
theorem dX1_areEqual_49 : decode cX1_areEqual 49 = .ok (.iload_n 3, 1) := by decide +kernel
theorem dX1_areEqual_50 : decode cX1_areEqual 50 = .ok (.ifCond .eq 41, 3) := by decide +kernel
theorem dX1_areEqual_53 : decode cX1_areEqual 53 = .ok (.aload_n 0, 1) := by decide +kernel
theorem dX1_areEqual_54 : decode cX1_areEqual 54 = .ok (.iload 4, 2) := by decide +kernel
theorem dX1_areEqual_56 : decode cX1_areEqual 56 = .ok (.invokevirtual 117, 3) := by decide +kernel
theorem dX1_areEqual_59 : decode cX1_areEqual 59 = .ok (.ifCond .eq 20, 3) := by decide +kernel
theorem dX1_areEqual_62 : decode cX1_areEqual 62 = .ok (.aload_n 0, 1) := by decide +kernel
theorem dX1_areEqual_63 : decode cX1_areEqual 63 = .ok (.iload_n 1, 1) := by decide +kernel
theorem dX1_areEqual_64 : decode cX1_areEqual 64 = .ok (.iload 4, 2) := by decide +kernel
theorem dX1_areEqual_66 : decode cX1_areEqual 66 = .ok (.invokevirtual 88, 3) := by decide +kernel
theorem dX1_areEqual_69 : decode cX1_areEqual 69 = .ok (.aload_n 0, 1) := by decide +kernel
theorem dX1_areEqual_70 : decode cX1_areEqual 70 = .ok (.iload_n 2, 1) := by decide +kernel
theorem dX1_areEqual_71 : decode cX1_areEqual 71 = .ok (.iload 4, 2) := by decide +kernel
theorem dX1_areEqual_73 : decode cX1_areEqual 73 = .ok (.invokevirtual 88, 3) := by decide +kernel
theorem dX1_areEqual_76 : decode cX1_areEqual 76 = .ok (.if_icmp .ne 7, 3) := by decide +kernel
theorem dX1_areEqual_79 : decode cX1_areEqual 79 = .ok (.iconst 1, 1) := by decide +kernel
theorem dX1_areEqual_80 : decode cX1_areEqual 80 = .ok (.goto 4, 3) := by decide +kernel
theorem dX1_areEqual_83 : decode cX1_areEqual 83 = .ok (.iconst 0, 1) := by decide +kernel
theorem dX1_areEqual_84 : decode cX1_areEqual 84 = .ok (.istore_n 3, 1) := by decide +kernel
theorem dX1_areEqual_85 : decode cX1_areEqual 85 = .ok (.iinc 4 1, 3) := by decide +kernel
theorem dX1_areEqual_88 : decode cX1_areEqual 88 = .ok (.goto (-47), 3) := by decide +kernel
theorem dX1_areEqual_91 : decode cX1_areEqual 91 = .ok (.iload_n 3, 1) := by decide +kernel
theorem dX1_areEqual_92 : decode cX1_areEqual 92 = .ok (.ireturn, 1) := by decide +kernel
set_option maxRecDepth 20000 in
theorem ggX1_depends_X1_isFormula : GoodIn wsX1_depends wsX1_isFormula := goodIn_r _ [6, 7, 8, 9, 5, 10, 40, 41, 42, 43, 44, 45, 46, 47, 48, 49, 50, 51, 52] (by decide +kernel) (by decide +kernel)
set_option maxRecDepth 20000 in
theorem gX1_depends_X1_isFormula : GoodIn wsX1_depends (wsV RX1 67 RX1 yX1_isFormula wsX1_isFormula) := goodIn_app (goodIn_of _ (by decide +kernel)) ggX1_depends_X1_isFormula
set_option maxRecDepth 20000 in
theorem ggX1_depends_X1_isAtom : GoodIn wsX1_depends wsX1_isAtom := goodIn_r _ [13, 8, 9, 5, 10] (by decide +kernel) (by decide +kernel)
set_option maxRecDepth 20000 in
theorem gX1_depends_X1_isAtom : GoodIn wsX1_depends (va_wsS RX1 59 yX1_isAtom wsX1_isAtom) := goodIn_app (goodIn_of _ (by decide +kernel)) ggX1_depends_X1_isAtom
set_option maxRecDepth 20000 in
theorem ggX1_depends_X1_valueIn : GoodIn wsX1_depends wsX1_valueIn := goodIn_r _ [16] (by decide +kernel) (by decide +kernel)
set_option maxRecDepth 20000 in
theorem gX1_depends_X1_valueIn : GoodIn wsX1_depends (va_wsS RX1 103 yX1_valueIn wsX1_valueIn) := goodIn_app (goodIn_of _ (by decide +kernel)) ggX1_depends_X1_valueIn
set_option maxRecDepth 20000 in
theorem ggX1_depends_X1_counts : GoodIn wsX1_depends wsX1_counts := goodIn_r _ [20, 21, 14, 15, 5, 16, 22, 23, 24, 40, 41, 42, 43, 44, 45, 46, 47, 48, 49, 50, 51, 52] (by decide +kernel) (by decide +kernel)
set_option maxRecDepth 20000 in
theorem gX1_depends_X1_counts : GoodIn wsX1_depends (wsV RX1 117 RX1 yX1_counts wsX1_counts) := goodIn_app (goodIn_of _ (by decide +kernel)) ggX1_depends_X1_counts
set_option maxRecDepth 20000 in
theorem ggX1_depends_X1_worth : GoodIn wsX1_depends wsX1_worth := goodIn_r _ [28, 29, 30, 31, 32, 8, 9, 5, 10, 40, 41, 42, 43, 44, 45, 46, 47, 48, 49, 50, 51, 52] (by decide +kernel) (by decide +kernel)
set_option maxRecDepth 20000 in
theorem gX1_depends_X1_worth : GoodIn wsX1_depends (wsV RX1 88 RX1 yX1_worth wsX1_worth) := goodIn_app (goodIn_of _ (by decide +kernel)) ggX1_depends_X1_worth
set_option maxRecDepth 20000 in
theorem ggX1_depends_J6_bitCount_0f7a4 : GoodIn wsX1_depends wsJ6_bitCount_0f7a4 := goodIn_r _ [36, 37, 38, 39] (by decide +kernel) (by decide +kernel)
set_option maxRecDepth 20000 in
theorem gX1_depends_J6_bitCount_0f7a4 : GoodIn wsX1_depends (va_wsS RX1 112 yJ6_bitCount_0f7a4 wsJ6_bitCount_0f7a4) := goodIn_app (goodIn_of _ (by decide +kernel)) ggX1_depends_J6_bitCount_0f7a4
theorem dX1_depends_0 : decode cX1_depends 0 = .ok (.aload_n 0, 1) := by decide +kernel
theorem dX1_depends_1 : decode cX1_depends 1 = .ok (.aload_n 0, 1) := by decide +kernel
theorem dX1_depends_2 : decode cX1_depends 2 = .ok (.iload_n 1, 1) := by decide +kernel
theorem dX1_depends_3 : decode cX1_depends 3 = .ok (.invokevirtual 67, 3) := by decide +kernel
theorem dX1_depends_6 : decode cX1_depends 6 = .ok (.ifCond .eq 14, 3) := by decide +kernel
theorem dX1_depends_9 : decode cX1_depends 9 = .ok (.iload_n 2, 1) := by decide +kernel
theorem dX1_depends_10 : decode cX1_depends 10 = .ok (.invokestatic 59, 3) := by decide +kernel
theorem dX1_depends_13 : decode cX1_depends 13 = .ok (.ifCond .eq 7, 3) := by decide +kernel
theorem dX1_depends_16 : decode cX1_depends 16 = .ok (.iconst 0, 1) := by decide +kernel
theorem dX1_depends_17 : decode cX1_depends 17 = .ok (.goto 4, 3) := by decide +kernel
theorem dX1_depends_20 : decode cX1_depends 20 = .ok (.iconst 1, 1) := by decide +kernel
theorem dX1_depends_21 : decode cX1_depends 21 = .ok (.putfield 45, 3) := by decide +kernel
theorem dX1_depends_24 : decode cX1_depends 24 = .ok (.iconst 0, 1) := by decide +kernel
theorem dX1_depends_25 : decode cX1_depends 25 = .ok (.istore_n 3, 1) := by decide +kernel
theorem dX1_depends_26 : decode cX1_depends 26 = .ok (.iconst 1, 1) := by decide +kernel
theorem dX1_depends_27 : decode cX1_depends 27 = .ok (.iconst 2, 1) := by decide +kernel
theorem dX1_depends_28 : decode cX1_depends 28 = .ok (.iconst 5, 1) := by decide +kernel
theorem dX1_depends_29 : decode cX1_depends 29 = .ok (.iload_n 2, 1) := by decide +kernel
theorem dX1_depends_30 : decode cX1_depends 30 = .ok (.isub, 1) := by decide +kernel
theorem dX1_depends_31 : decode cX1_depends 31 = .ok (.imul, 1) := by decide +kernel
theorem dX1_depends_32 : decode cX1_depends 32 = .ok (.ishl, 1) := by decide +kernel
theorem dX1_depends_33 : decode cX1_depends 33 = .ok (.istore 4, 2) := by decide +kernel
theorem dX1_depends_35 : decode cX1_depends 35 = .ok (.iconst 0, 1) := by decide +kernel
theorem dX1_depends_36 : decode cX1_depends 36 = .ok (.istore 5, 2) := by decide +kernel
theorem dX1_depends_38 : decode cX1_depends 38 = .ok (.iload 5, 2) := by decide +kernel
theorem dX1_depends_40 : decode cX1_depends 40 = .ok (.sipush 4096, 3) := by decide +kernel
theorem dX1_depends_43 : decode cX1_depends 43 = .ok (.if_icmp .ge 100, 3) := by decide +kernel
theorem dX1_depends_46 : decode cX1_depends 46 = .ok (.aload_n 0, 1) := by decide +kernel
theorem dX1_depends_47 : decode cX1_depends 47 = .ok (.getfield 45, 3) := by decide +kernel
theorem dX1_depends_50 : decode cX1_depends 50 = .ok (.ifCond .ne 93, 3) := by decide +kernel
theorem dX1_depends_53 : decode cX1_depends 53 = .ok (.iload_n 3, 1) := by decide +kernel
theorem dX1_depends_54 : decode cX1_depends 54 = .ok (.ifCond .ne 89, 3) := by decide +kernel
theorem dX1_depends_57 : decode cX1_depends 57 = .ok (.iload 5, 2) := by decide +kernel
theorem dX1_depends_59 : decode cX1_depends 59 = .ok (.iload_n 2, 1) := by decide +kernel
theorem dX1_depends_60 : decode cX1_depends 60 = .ok (.invokestatic 103, 3) := by decide +kernel
theorem dX1_depends_63 : decode cX1_depends 63 = .ok (.ifCond .eq 6, 3) := by decide +kernel
theorem dX1_depends_66 : decode cX1_depends 66 = .ok (.goto 71, 3) := by decide +kernel
theorem dX1_depends_69 : decode cX1_depends 69 = .ok (.iconst 0, 1) := by decide +kernel
theorem dX1_depends_70 : decode cX1_depends 70 = .ok (.istore 6, 2) := by decide +kernel
theorem dX1_depends_72 : decode cX1_depends 72 = .ok (.iconst 0, 1) := by decide +kernel
theorem dX1_depends_73 : decode cX1_depends 73 = .ok (.istore 7, 2) := by decide +kernel
theorem dX1_depends_75 : decode cX1_depends 75 = .ok (.iload 7, 2) := by decide +kernel
theorem dX1_depends_77 : decode cX1_depends 77 = .ok (.iconst 4, 1) := by decide +kernel
theorem dX1_depends_78 : decode cX1_depends 78 = .ok (.if_icmp .ge 44, 3) := by decide +kernel
theorem dX1_depends_81 : decode cX1_depends 81 = .ok (.aload_n 0, 1) := by decide +kernel
theorem dX1_depends_82 : decode cX1_depends 82 = .ok (.iload 5, 2) := by decide +kernel
theorem dX1_depends_84 : decode cX1_depends 84 = .ok (.iload 7, 2) := by decide +kernel
theorem dX1_depends_86 : decode cX1_depends 86 = .ok (.iload 4, 2) := by decide +kernel
theorem dX1_depends_88 : decode cX1_depends 88 = .ok (.imul, 1) := by decide +kernel
theorem dX1_depends_89 : decode cX1_depends 89 = .ok (.iadd, 1) := by decide +kernel
theorem dX1_depends_90 : decode cX1_depends 90 = .ok (.invokevirtual 117, 3) := by decide +kernel
theorem dX1_depends_93 : decode cX1_depends 93 = .ok (.ifCond .eq 23, 3) := by decide +kernel
theorem dX1_depends_96 : decode cX1_depends 96 = .ok (.iload 6, 2) := by decide +kernel
theorem dX1_depends_98 : decode cX1_depends 98 = .ok (.iconst 1, 1) := by decide +kernel
theorem dX1_depends_99 : decode cX1_depends 99 = .ok (.aload_n 0, 1) := by decide +kernel
theorem dX1_depends_100 : decode cX1_depends 100 = .ok (.iload_n 1, 1) := by decide +kernel
theorem dX1_depends_101 : decode cX1_depends 101 = .ok (.iload 5, 2) := by decide +kernel
theorem dX1_depends_103 : decode cX1_depends 103 = .ok (.iload 7, 2) := by decide +kernel
theorem dX1_depends_105 : decode cX1_depends 105 = .ok (.iload 4, 2) := by decide +kernel
theorem dX1_depends_107 : decode cX1_depends 107 = .ok (.imul, 1) := by decide +kernel
theorem dX1_depends_108 : decode cX1_depends 108 = .ok (.iadd, 1) := by decide +kernel
theorem dX1_depends_109 : decode cX1_depends 109 = .ok (.invokevirtual 88, 3) := by decide +kernel
theorem dX1_depends_112 : decode cX1_depends 112 = .ok (.ishl, 1) := by decide +kernel
theorem dX1_depends_113 : decode cX1_depends 113 = .ok (.ior, 1) := by decide +kernel
theorem dX1_depends_114 : decode cX1_depends 114 = .ok (.istore 6, 2) := by decide +kernel
theorem dX1_depends_116 : decode cX1_depends 116 = .ok (.iinc 7 1, 3) := by decide +kernel
theorem dX1_depends_119 : decode cX1_depends 119 = .ok (.goto (-44), 3) := by decide +kernel
theorem dX1_depends_122 : decode cX1_depends 122 = .ok (.iload 6, 2) := by decide +kernel
theorem dX1_depends_124 : decode cX1_depends 124 = .ok (.invokestatic 112, 3) := by decide +kernel
theorem dX1_depends_127 : decode cX1_depends 127 = .ok (.iconst 1, 1) := by decide +kernel
theorem dX1_depends_128 : decode cX1_depends 128 = .ok (.if_icmp .le 7, 3) := by decide +kernel
theorem dX1_depends_131 : decode cX1_depends 131 = .ok (.iconst 1, 1) := by decide +kernel
theorem dX1_depends_132 : decode cX1_depends 132 = .ok (.goto 4, 3) := by decide +kernel
theorem dX1_depends_135 : decode cX1_depends 135 = .ok (.iconst 0, 1) := by decide +kernel
theorem dX1_depends_136 : decode cX1_depends 136 = .ok (.istore_n 3, 1) := by decide +kernel
theorem dX1_depends_137 : decode cX1_depends 137 = .ok (.iinc 5 1, 3) := by decide +kernel
theorem dX1_depends_140 : decode cX1_depends 140 = .ok (.goto (-102), 3) := by decide +kernel
theorem dX1_depends_143 : decode cX1_depends 143 = .ok (.iload_n 3, 1) := by decide +kernel
theorem dX1_depends_144 : decode cX1_depends 144 = .ok (.ireturn, 1) := by decide +kernel
set_option maxRecDepth 20000 in
theorem ggX1_valueAt_X1_isFormula : GoodIn wsX1_valueAt wsX1_isFormula := goodIn_r _ [6, 7, 8, 9, 5, 10, 23, 24, 25, 26, 27, 28, 29, 30, 31, 32, 33, 34, 35] (by decide +kernel) (by decide +kernel)
set_option maxRecDepth 20000 in
theorem gX1_valueAt_X1_isFormula : GoodIn wsX1_valueAt (wsV RX1 67 RX1 yX1_isFormula wsX1_isFormula) := goodIn_app (goodIn_of _ (by decide +kernel)) ggX1_valueAt_X1_isFormula
set_option maxRecDepth 20000 in
theorem ggX1_valueAt_X1_no : GoodIn wsX1_valueAt wsX1_no := goodIn_r _ [14, 1, 23, 24, 25, 26, 27, 28, 29, 30, 31, 32, 33, 34, 35] (by decide +kernel) (by decide +kernel)
set_option maxRecDepth 20000 in
theorem gX1_valueAt_X1_no : GoodIn wsX1_valueAt (wsV RX1 55 RX1 yX1_no wsX1_no) := goodIn_app (goodIn_of _ (by decide +kernel)) ggX1_valueAt_X1_no
set_option maxRecDepth 20000 in
theorem ggX1_valueAt_X1_isIn : GoodIn wsX1_valueAt wsX1_isIn := goodIn_r _ [10] (by decide +kernel) (by decide +kernel)
set_option maxRecDepth 20000 in
theorem gX1_valueAt_X1_isIn : GoodIn wsX1_valueAt (va_wsS RX1 51 yX1_isIn wsX1_isIn) := goodIn_app (goodIn_of _ (by decide +kernel)) ggX1_valueAt_X1_isIn
set_option maxRecDepth 20000 in
theorem ggX1_valueAt_X1_worth : GoodIn wsX1_valueAt wsX1_worth := goodIn_r _ [18, 19, 20, 21, 22, 8, 9, 5, 10, 23, 24, 25, 26, 27, 28, 29, 30, 31, 32, 33, 34, 35] (by decide +kernel) (by decide +kernel)
set_option maxRecDepth 20000 in
theorem gX1_valueAt_X1_worth : GoodIn wsX1_valueAt (wsV RX1 88 RX1 yX1_worth wsX1_worth) := goodIn_app (goodIn_of _ (by decide +kernel)) ggX1_valueAt_X1_worth
theorem dX1_valueAt_0 : decode cX1_valueAt 0 = .ok (.aload_n 0, 1) := by decide +kernel
theorem dX1_valueAt_1 : decode cX1_valueAt 1 = .ok (.iconst 0, 1) := by decide +kernel
theorem dX1_valueAt_2 : decode cX1_valueAt 2 = .ok (.putfield 45, 3) := by decide +kernel
theorem dX1_valueAt_5 : decode cX1_valueAt 5 = .ok (.aload_n 0, 1) := by decide +kernel
theorem dX1_valueAt_6 : decode cX1_valueAt 6 = .ok (.iload_n 1, 1) := by decide +kernel
theorem dX1_valueAt_7 : decode cX1_valueAt 7 = .ok (.invokevirtual 67, 3) := by decide +kernel
theorem dX1_valueAt_10 : decode cX1_valueAt 10 = .ok (.ifCond .ne 9, 3) := by decide +kernel
theorem dX1_valueAt_13 : decode cX1_valueAt 13 = .ok (.aload_n 0, 1) := by decide +kernel
theorem dX1_valueAt_14 : decode cX1_valueAt 14 = .ok (.iconst 1, 1) := by decide +kernel
theorem dX1_valueAt_15 : decode cX1_valueAt 15 = .ok (.invokevirtual 55, 3) := by decide +kernel
theorem dX1_valueAt_18 : decode cX1_valueAt 18 = .ok (.ireturn, 1) := by decide +kernel
theorem dX1_valueAt_19 : decode cX1_valueAt 19 = .ok (.iload_n 2, 1) := by decide +kernel
theorem dX1_valueAt_20 : decode cX1_valueAt 20 = .ok (.iconst 0, 1) := by decide +kernel
theorem dX1_valueAt_21 : decode cX1_valueAt 21 = .ok (.sipush 4095, 3) := by decide +kernel
theorem dX1_valueAt_24 : decode cX1_valueAt 24 = .ok (.invokestatic 51, 3) := by decide +kernel
theorem dX1_valueAt_27 : decode cX1_valueAt 27 = .ok (.ifCond .eq 12, 3) := by decide +kernel
theorem dX1_valueAt_30 : decode cX1_valueAt 30 = .ok (.aload_n 0, 1) := by decide +kernel
theorem dX1_valueAt_31 : decode cX1_valueAt 31 = .ok (.iload_n 1, 1) := by decide +kernel
theorem dX1_valueAt_32 : decode cX1_valueAt 32 = .ok (.iload_n 2, 1) := by decide +kernel
theorem dX1_valueAt_33 : decode cX1_valueAt 33 = .ok (.invokevirtual 88, 3) := by decide +kernel
theorem dX1_valueAt_36 : decode cX1_valueAt 36 = .ok (.goto 8, 3) := by decide +kernel
theorem dX1_valueAt_39 : decode cX1_valueAt 39 = .ok (.aload_n 0, 1) := by decide +kernel
theorem dX1_valueAt_40 : decode cX1_valueAt 40 = .ok (.iconst 2, 1) := by decide +kernel
theorem dX1_valueAt_41 : decode cX1_valueAt 41 = .ok (.invokevirtual 55, 3) := by decide +kernel
theorem dX1_valueAt_44 : decode cX1_valueAt 44 = .ok (.ireturn, 1) := by decide +kernel
set_option maxRecDepth 20000 in
theorem ggX1_digest_X1_heardSet : GoodIn wsX1_digest wsX1_heardSet := goodIn_r _ [16, 17, 18, 19, 15, 20, 8, 7, 6, 57, 58, 59, 60, 61, 62, 63, 64, 65, 66, 67, 68, 69] (by decide +kernel) (by decide +kernel)
set_option maxRecDepth 20000 in
theorem gX1_digest_X1_heardSet : GoodIn wsX1_digest (wsV RX1 80 RX1 yX1_heardSet wsX1_heardSet) := goodIn_app (goodIn_of _ (by decide +kernel)) ggX1_digest_X1_heardSet
set_option maxRecDepth 20000 in
theorem ggX1_digest_X1_settle : GoodIn wsX1_digest wsX1_settle := goodIn_r _ [24, 25, 26, 27, 15, 28, 29, 30, 31, 32, 9, 33, 34, 35, 36, 37, 38, 39, 10, 40, 41, 42, 43, 5, 44, 45, 46, 47, 48, 49, 57, 58, 59, 60, 61, 62, 63, 64, 65, 66, 67, 68, 69] (by decide +kernel) (by decide +kernel)
set_option maxRecDepth 20000 in
theorem gX1_digest_X1_settle : GoodIn wsX1_digest (wsV RX1 97 RX1 yX1_settle wsX1_settle) := goodIn_app (goodIn_of _ (by decide +kernel)) ggX1_digest_X1_settle
set_option maxRecDepth 20000 in
theorem ggX1_digest_X1_givenBy : GoodIn wsX1_digest wsX1_givenBy := goodIn_r _ [32, 9, 33, 34, 15, 35, 57, 58, 59, 60, 61, 62, 63, 64, 65, 66, 67, 68, 69] (by decide +kernel) (by decide +kernel)
set_option maxRecDepth 20000 in
theorem gX1_digest_X1_givenBy : GoodIn wsX1_digest (wsV RX1 84 RX1 yX1_givenBy wsX1_givenBy) := goodIn_app (goodIn_of _ (by decide +kernel)) ggX1_digest_X1_givenBy
set_option maxRecDepth 20000 in
theorem ggX1_digest_X1_valueIn : GoodIn wsX1_digest wsX1_valueIn := goodIn_r _ [52] (by decide +kernel) (by decide +kernel)
set_option maxRecDepth 20000 in
theorem gX1_digest_X1_valueIn : GoodIn wsX1_digest (va_wsS RX1 103 yX1_valueIn wsX1_valueIn) := goodIn_app (goodIn_of _ (by decide +kernel)) ggX1_digest_X1_valueIn
set_option maxRecDepth 20000 in
theorem ggX1_digest_X1_roundCount : GoodIn wsX1_digest wsX1_roundCount := goodIn_r _ [56, 12, 13, 14, 15, 16, 17, 18, 19, 20, 8, 7, 6, 25, 26, 27, 28, 29, 30, 31, 32, 9, 33, 34, 35, 36, 37, 38, 39, 10, 40, 41, 42, 43, 5, 44, 45, 46, 47, 48, 49, 57, 58, 59, 60, 61, 62, 63, 64, 65, 66, 67, 68, 69] (by decide +kernel) (by decide +kernel)
set_option maxRecDepth 20000 in
theorem gX1_digest_X1_roundCount : GoodIn wsX1_digest (wsV RX1 106 RX1 yX1_roundCount wsX1_roundCount) := goodIn_app (goodIn_of _ (by decide +kernel)) ggX1_digest_X1_roundCount
theorem dX1_digest_0 : decode cX1_digest 0 = .ok (.aload_n 0, 1) := by decide +kernel
theorem dX1_digest_1 : decode cX1_digest 1 = .ok (.iconst 0, 1) := by decide +kernel
theorem dX1_digest_2 : decode cX1_digest 2 = .ok (.putfield 45, 3) := by decide +kernel
theorem dX1_digest_5 : decode cX1_digest 5 = .ok (.ldc2_w 126, 3) := by decide +kernel
theorem dX1_digest_8 : decode cX1_digest 8 = .ok (.aload_n 0, 1) := by decide +kernel
theorem dX1_digest_9 : decode cX1_digest 9 = .ok (.getfield 48, 3) := by decide +kernel
theorem dX1_digest_12 : decode cX1_digest 12 = .ok (.i2l, 1) := by decide +kernel
theorem dX1_digest_13 : decode cX1_digest 13 = .ok (.ladd, 1) := by decide +kernel
theorem dX1_digest_14 : decode cX1_digest 14 = .ok (.lstore_n 1, 1) := by decide +kernel
theorem dX1_digest_15 : decode cX1_digest 15 = .ok (.iconst 0, 1) := by decide +kernel
theorem dX1_digest_16 : decode cX1_digest 16 = .ok (.istore_n 3, 1) := by decide +kernel
theorem dX1_digest_17 : decode cX1_digest 17 = .ok (.iload_n 3, 1) := by decide +kernel
theorem dX1_digest_18 : decode cX1_digest 18 = .ok (.aload_n 0, 1) := by decide +kernel
theorem dX1_digest_19 : decode cX1_digest 19 = .ok (.getfield 48, 3) := by decide +kernel
theorem dX1_digest_22 : decode cX1_digest 22 = .ok (.if_icmp .ge 23, 3) := by decide +kernel
theorem dX1_digest_25 : decode cX1_digest 25 = .ok (.lload_n 1, 1) := by decide +kernel
theorem dX1_digest_26 : decode cX1_digest 26 = .ok (.ldc2_w 128, 3) := by decide +kernel
theorem dX1_digest_29 : decode cX1_digest 29 = .ok (.lmul, 1) := by decide +kernel
theorem dX1_digest_30 : decode cX1_digest 30 = .ok (.aload_n 0, 1) := by decide +kernel
theorem dX1_digest_31 : decode cX1_digest 31 = .ok (.getfield 9, 3) := by decide +kernel
theorem dX1_digest_34 : decode cX1_digest 34 = .ok (.iload_n 3, 1) := by decide +kernel
theorem dX1_digest_35 : decode cX1_digest 35 = .ok (.iaload, 1) := by decide +kernel
theorem dX1_digest_36 : decode cX1_digest 36 = .ok (.i2l, 1) := by decide +kernel
theorem dX1_digest_37 : decode cX1_digest 37 = .ok (.ladd, 1) := by decide +kernel
theorem dX1_digest_38 : decode cX1_digest 38 = .ok (.lstore_n 1, 1) := by decide +kernel
theorem dX1_digest_39 : decode cX1_digest 39 = .ok (.iinc 3 1, 3) := by decide +kernel
theorem dX1_digest_42 : decode cX1_digest 42 = .ok (.goto (-25), 3) := by decide +kernel
theorem dX1_digest_45 : decode cX1_digest 45 = .ok (.lload_n 1, 1) := by decide +kernel
theorem dX1_digest_46 : decode cX1_digest 46 = .ok (.ldc2_w 128, 3) := by decide +kernel
theorem dX1_digest_49 : decode cX1_digest 49 = .ok (.lmul, 1) := by decide +kernel
theorem dX1_digest_50 : decode cX1_digest 50 = .ok (.aload_n 0, 1) := by decide +kernel
theorem dX1_digest_51 : decode cX1_digest 51 = .ok (.getfield 32, 3) := by decide +kernel
theorem dX1_digest_54 : decode cX1_digest 54 = .ok (.i2l, 1) := by decide +kernel
theorem dX1_digest_55 : decode cX1_digest 55 = .ok (.ladd, 1) := by decide +kernel
theorem dX1_digest_56 : decode cX1_digest 56 = .ok (.lstore_n 1, 1) := by decide +kernel
theorem dX1_digest_57 : decode cX1_digest 57 = .ok (.iconst 0, 1) := by decide +kernel
theorem dX1_digest_58 : decode cX1_digest 58 = .ok (.istore_n 3, 1) := by decide +kernel
theorem dX1_digest_59 : decode cX1_digest 59 = .ok (.iload_n 3, 1) := by decide +kernel
theorem dX1_digest_60 : decode cX1_digest 60 = .ok (.bipush 6, 2) := by decide +kernel
theorem dX1_digest_62 : decode cX1_digest 62 = .ok (.if_icmp .ge 78, 3) := by decide +kernel
theorem dX1_digest_65 : decode cX1_digest 65 = .ok (.lload_n 1, 1) := by decide +kernel
theorem dX1_digest_66 : decode cX1_digest 66 = .ok (.ldc2_w 128, 3) := by decide +kernel
theorem dX1_digest_69 : decode cX1_digest 69 = .ok (.lmul, 1) := by decide +kernel
theorem dX1_digest_70 : decode cX1_digest 70 = .ok (.aload_n 0, 1) := by decide +kernel
theorem dX1_digest_71 : decode cX1_digest 71 = .ok (.getfield 23, 3) := by decide +kernel
theorem dX1_digest_74 : decode cX1_digest 74 = .ok (.iload_n 3, 1) := by decide +kernel
theorem dX1_digest_75 : decode cX1_digest 75 = .ok (.iaload, 1) := by decide +kernel
theorem dX1_digest_76 : decode cX1_digest 76 = .ok (.i2l, 1) := by decide +kernel
theorem dX1_digest_77 : decode cX1_digest 77 = .ok (.ladd, 1) := by decide +kernel
theorem dX1_digest_78 : decode cX1_digest 78 = .ok (.ldc2_w 128, 3) := by decide +kernel
theorem dX1_digest_81 : decode cX1_digest 81 = .ok (.lmul, 1) := by decide +kernel
theorem dX1_digest_82 : decode cX1_digest 82 = .ok (.aload_n 0, 1) := by decide +kernel
theorem dX1_digest_83 : decode cX1_digest 83 = .ok (.getfield 26, 3) := by decide +kernel
theorem dX1_digest_86 : decode cX1_digest 86 = .ok (.iload_n 3, 1) := by decide +kernel
theorem dX1_digest_87 : decode cX1_digest 87 = .ok (.baload, 1) := by decide +kernel
theorem dX1_digest_88 : decode cX1_digest 88 = .ok (.ifCond .eq 7, 3) := by decide +kernel
theorem dX1_digest_91 : decode cX1_digest 91 = .ok (.lconst 1, 1) := by decide +kernel
theorem dX1_digest_92 : decode cX1_digest 92 = .ok (.goto 4, 3) := by decide +kernel
theorem dX1_digest_95 : decode cX1_digest 95 = .ok (.lconst 0, 1) := by decide +kernel
theorem dX1_digest_96 : decode cX1_digest 96 = .ok (.ladd, 1) := by decide +kernel
theorem dX1_digest_97 : decode cX1_digest 97 = .ok (.lstore_n 1, 1) := by decide +kernel
theorem dX1_digest_98 : decode cX1_digest 98 = .ok (.iconst 0, 1) := by decide +kernel
theorem dX1_digest_99 : decode cX1_digest 99 = .ok (.istore 4, 2) := by decide +kernel
theorem dX1_digest_101 : decode cX1_digest 101 = .ok (.iload 4, 2) := by decide +kernel
theorem dX1_digest_103 : decode cX1_digest 103 = .ok (.bipush 6, 2) := by decide +kernel
theorem dX1_digest_105 : decode cX1_digest 105 = .ok (.if_icmp .ge 29, 3) := by decide +kernel
theorem dX1_digest_108 : decode cX1_digest 108 = .ok (.lload_n 1, 1) := by decide +kernel
theorem dX1_digest_109 : decode cX1_digest 109 = .ok (.ldc2_w 128, 3) := by decide +kernel
theorem dX1_digest_112 : decode cX1_digest 112 = .ok (.lmul, 1) := by decide +kernel
theorem dX1_digest_113 : decode cX1_digest 113 = .ok (.aload_n 0, 1) := by decide +kernel
theorem dX1_digest_114 : decode cX1_digest 114 = .ok (.getfield 29, 3) := by decide +kernel
theorem dX1_digest_117 : decode cX1_digest 117 = .ok (.bipush 6, 2) := by decide +kernel
theorem dX1_digest_119 : decode cX1_digest 119 = .ok (.iload_n 3, 1) := by decide +kernel
theorem dX1_digest_120 : decode cX1_digest 120 = .ok (.imul, 1) := by decide +kernel
theorem dX1_digest_121 : decode cX1_digest 121 = .ok (.iload 4, 2) := by decide +kernel
theorem dX1_digest_123 : decode cX1_digest 123 = .ok (.iadd, 1) := by decide +kernel
theorem dX1_digest_124 : decode cX1_digest 124 = .ok (.iaload, 1) := by decide +kernel
theorem dX1_digest_125 : decode cX1_digest 125 = .ok (.i2l, 1) := by decide +kernel
theorem dX1_digest_126 : decode cX1_digest 126 = .ok (.ladd, 1) := by decide +kernel
theorem dX1_digest_127 : decode cX1_digest 127 = .ok (.lstore_n 1, 1) := by decide +kernel
theorem dX1_digest_128 : decode cX1_digest 128 = .ok (.iinc 4 1, 3) := by decide +kernel
theorem dX1_digest_131 : decode cX1_digest 131 = .ok (.goto (-30), 3) := by decide +kernel
theorem dX1_digest_134 : decode cX1_digest 134 = .ok (.iinc 3 1, 3) := by decide +kernel
theorem dX1_digest_137 : decode cX1_digest 137 = .ok (.goto (-78), 3) := by decide +kernel
theorem dX1_digest_140 : decode cX1_digest 140 = .ok (.aload_n 0, 1) := by decide +kernel
theorem dX1_digest_141 : decode cX1_digest 141 = .ok (.invokevirtual 80, 3) := by decide +kernel
theorem dX1_digest_144 : decode cX1_digest 144 = .ok (.istore_n 3, 1) := by decide +kernel
theorem dX1_digest_145 : decode cX1_digest 145 = .ok (.aload_n 0, 1) := by decide +kernel
theorem dX1_digest_146 : decode cX1_digest 146 = .ok (.iload_n 3, 1) := by decide +kernel
theorem dX1_digest_147 : decode cX1_digest 147 = .ok (.invokevirtual 97, 3) := by decide +kernel
theorem dX1_digest_150 : decode cX1_digest 150 = .ok (.istore 4, 2) := by decide +kernel
theorem dX1_digest_152 : decode cX1_digest 152 = .ok (.iconst 0, 1) := by decide +kernel
theorem dX1_digest_153 : decode cX1_digest 153 = .ok (.istore 5, 2) := by decide +kernel
theorem dX1_digest_155 : decode cX1_digest 155 = .ok (.iload 5, 2) := by decide +kernel
theorem dX1_digest_157 : decode cX1_digest 157 = .ok (.bipush 6, 2) := by decide +kernel
theorem dX1_digest_159 : decode cX1_digest 159 = .ok (.if_icmp .ge 50, 3) := by decide +kernel
theorem dX1_digest_162 : decode cX1_digest 162 = .ok (.lload_n 1, 1) := by decide +kernel
theorem dX1_digest_163 : decode cX1_digest 163 = .ok (.ldc2_w 128, 3) := by decide +kernel
theorem dX1_digest_166 : decode cX1_digest 166 = .ok (.lmul, 1) := by decide +kernel
theorem dX1_digest_167 : decode cX1_digest 167 = .ok (.aload_n 0, 1) := by decide +kernel
theorem dX1_digest_168 : decode cX1_digest 168 = .ok (.getfield 36, 3) := by decide +kernel
theorem dX1_digest_171 : decode cX1_digest 171 = .ok (.iload 5, 2) := by decide +kernel
theorem dX1_digest_173 : decode cX1_digest 173 = .ok (.iaload, 1) := by decide +kernel
theorem dX1_digest_174 : decode cX1_digest 174 = .ok (.i2l, 1) := by decide +kernel
theorem dX1_digest_175 : decode cX1_digest 175 = .ok (.ladd, 1) := by decide +kernel
theorem dX1_digest_176 : decode cX1_digest 176 = .ok (.ldc2_w 128, 3) := by decide +kernel
theorem dX1_digest_179 : decode cX1_digest 179 = .ok (.lmul, 1) := by decide +kernel
theorem dX1_digest_180 : decode cX1_digest 180 = .ok (.aload_n 0, 1) := by decide +kernel
theorem dX1_digest_181 : decode cX1_digest 181 = .ok (.iload_n 3, 1) := by decide +kernel
theorem dX1_digest_182 : decode cX1_digest 182 = .ok (.iload 5, 2) := by decide +kernel
theorem dX1_digest_184 : decode cX1_digest 184 = .ok (.invokevirtual 84, 3) := by decide +kernel
theorem dX1_digest_187 : decode cX1_digest 187 = .ok (.i2l, 1) := by decide +kernel
theorem dX1_digest_188 : decode cX1_digest 188 = .ok (.ladd, 1) := by decide +kernel
theorem dX1_digest_189 : decode cX1_digest 189 = .ok (.ldc2_w 128, 3) := by decide +kernel
theorem dX1_digest_192 : decode cX1_digest 192 = .ok (.lmul, 1) := by decide +kernel
theorem dX1_digest_193 : decode cX1_digest 193 = .ok (.iload 4, 2) := by decide +kernel
theorem dX1_digest_195 : decode cX1_digest 195 = .ok (.iload 5, 2) := by decide +kernel
theorem dX1_digest_197 : decode cX1_digest 197 = .ok (.invokestatic 103, 3) := by decide +kernel
theorem dX1_digest_200 : decode cX1_digest 200 = .ok (.i2l, 1) := by decide +kernel
theorem dX1_digest_201 : decode cX1_digest 201 = .ok (.ladd, 1) := by decide +kernel
theorem dX1_digest_202 : decode cX1_digest 202 = .ok (.lstore_n 1, 1) := by decide +kernel
theorem dX1_digest_203 : decode cX1_digest 203 = .ok (.iinc 5 1, 3) := by decide +kernel
theorem dX1_digest_206 : decode cX1_digest 206 = .ok (.goto (-51), 3) := by decide +kernel
theorem dX1_digest_209 : decode cX1_digest 209 = .ok (.lload_n 1, 1) := by decide +kernel
theorem dX1_digest_210 : decode cX1_digest 210 = .ok (.ldc2_w 128, 3) := by decide +kernel
theorem dX1_digest_213 : decode cX1_digest 213 = .ok (.lmul, 1) := by decide +kernel
theorem dX1_digest_214 : decode cX1_digest 214 = .ok (.aload_n 0, 1) := by decide +kernel
theorem dX1_digest_215 : decode cX1_digest 215 = .ok (.invokevirtual 106, 3) := by decide +kernel
theorem dX1_digest_218 : decode cX1_digest 218 = .ok (.i2l, 1) := by decide +kernel
theorem dX1_digest_219 : decode cX1_digest 219 = .ok (.ladd, 1) := by decide +kernel
theorem dX1_digest_220 : decode cX1_digest 220 = .ok (.ldc2_w 128, 3) := by decide +kernel
theorem dX1_digest_223 : decode cX1_digest 223 = .ok (.lmul, 1) := by decide +kernel
theorem dX1_digest_224 : decode cX1_digest 224 = .ok (.aload_n 0, 1) := by decide +kernel
theorem dX1_digest_225 : decode cX1_digest 225 = .ok (.getfield 39, 3) := by decide +kernel
theorem dX1_digest_228 : decode cX1_digest 228 = .ok (.i2l, 1) := by decide +kernel
theorem dX1_digest_229 : decode cX1_digest 229 = .ok (.ladd, 1) := by decide +kernel
theorem dX1_digest_230 : decode cX1_digest 230 = .ok (.lreturn, 1) := by decide +kernel
theorem dJ6_bitCount_0f7a4_0 : decode cJ6_bitCount_0f7a4 0 = .ok (.iload_n 0, 1) := by decide +kernel
theorem dJ6_bitCount_0f7a4_1 : decode cJ6_bitCount_0f7a4 1 = .ok (.iload_n 0, 1) := by decide +kernel
theorem dJ6_bitCount_0f7a4_2 : decode cJ6_bitCount_0f7a4 2 = .ok (.iconst 1, 1) := by decide +kernel
theorem dJ6_bitCount_0f7a4_3 : decode cJ6_bitCount_0f7a4 3 = .ok (.iushr, 1) := by decide +kernel
theorem dJ6_bitCount_0f7a4_4 : decode cJ6_bitCount_0f7a4 4 = .ok (.ldc_w 265, 3) := by decide +kernel
theorem dJ6_bitCount_0f7a4_7 : decode cJ6_bitCount_0f7a4 7 = .ok (.iand, 1) := by decide +kernel
theorem dJ6_bitCount_0f7a4_8 : decode cJ6_bitCount_0f7a4 8 = .ok (.isub, 1) := by decide +kernel
theorem dJ6_bitCount_0f7a4_9 : decode cJ6_bitCount_0f7a4 9 = .ok (.istore_n 0, 1) := by decide +kernel
theorem dJ6_bitCount_0f7a4_10 : decode cJ6_bitCount_0f7a4 10 = .ok (.iload_n 0, 1) := by decide +kernel
theorem dJ6_bitCount_0f7a4_11 : decode cJ6_bitCount_0f7a4 11 = .ok (.ldc_w 266, 3) := by decide +kernel
theorem dJ6_bitCount_0f7a4_14 : decode cJ6_bitCount_0f7a4 14 = .ok (.iand, 1) := by decide +kernel
theorem dJ6_bitCount_0f7a4_15 : decode cJ6_bitCount_0f7a4 15 = .ok (.iload_n 0, 1) := by decide +kernel
theorem dJ6_bitCount_0f7a4_16 : decode cJ6_bitCount_0f7a4 16 = .ok (.iconst 2, 1) := by decide +kernel
theorem dJ6_bitCount_0f7a4_17 : decode cJ6_bitCount_0f7a4 17 = .ok (.iushr, 1) := by decide +kernel
theorem dJ6_bitCount_0f7a4_18 : decode cJ6_bitCount_0f7a4 18 = .ok (.ldc_w 266, 3) := by decide +kernel
theorem dJ6_bitCount_0f7a4_21 : decode cJ6_bitCount_0f7a4 21 = .ok (.iand, 1) := by decide +kernel
theorem dJ6_bitCount_0f7a4_22 : decode cJ6_bitCount_0f7a4 22 = .ok (.iadd, 1) := by decide +kernel
theorem dJ6_bitCount_0f7a4_23 : decode cJ6_bitCount_0f7a4 23 = .ok (.istore_n 0, 1) := by decide +kernel
theorem dJ6_bitCount_0f7a4_24 : decode cJ6_bitCount_0f7a4 24 = .ok (.iload_n 0, 1) := by decide +kernel
theorem dJ6_bitCount_0f7a4_25 : decode cJ6_bitCount_0f7a4 25 = .ok (.iload_n 0, 1) := by decide +kernel
theorem dJ6_bitCount_0f7a4_26 : decode cJ6_bitCount_0f7a4 26 = .ok (.iconst 4, 1) := by decide +kernel
theorem dJ6_bitCount_0f7a4_27 : decode cJ6_bitCount_0f7a4 27 = .ok (.iushr, 1) := by decide +kernel
theorem dJ6_bitCount_0f7a4_28 : decode cJ6_bitCount_0f7a4 28 = .ok (.iadd, 1) := by decide +kernel
theorem dJ6_bitCount_0f7a4_29 : decode cJ6_bitCount_0f7a4 29 = .ok (.ldc_w 267, 3) := by decide +kernel
theorem dJ6_bitCount_0f7a4_32 : decode cJ6_bitCount_0f7a4 32 = .ok (.iand, 1) := by decide +kernel
theorem dJ6_bitCount_0f7a4_33 : decode cJ6_bitCount_0f7a4 33 = .ok (.istore_n 0, 1) := by decide +kernel
theorem dJ6_bitCount_0f7a4_34 : decode cJ6_bitCount_0f7a4 34 = .ok (.iload_n 0, 1) := by decide +kernel
theorem dJ6_bitCount_0f7a4_35 : decode cJ6_bitCount_0f7a4 35 = .ok (.iload_n 0, 1) := by decide +kernel
theorem dJ6_bitCount_0f7a4_36 : decode cJ6_bitCount_0f7a4 36 = .ok (.bipush 8, 2) := by decide +kernel
theorem dJ6_bitCount_0f7a4_38 : decode cJ6_bitCount_0f7a4 38 = .ok (.iushr, 1) := by decide +kernel
theorem dJ6_bitCount_0f7a4_39 : decode cJ6_bitCount_0f7a4 39 = .ok (.iadd, 1) := by decide +kernel
theorem dJ6_bitCount_0f7a4_40 : decode cJ6_bitCount_0f7a4 40 = .ok (.istore_n 0, 1) := by decide +kernel
theorem dJ6_bitCount_0f7a4_41 : decode cJ6_bitCount_0f7a4 41 = .ok (.iload_n 0, 1) := by decide +kernel
theorem dJ6_bitCount_0f7a4_42 : decode cJ6_bitCount_0f7a4 42 = .ok (.iload_n 0, 1) := by decide +kernel
theorem dJ6_bitCount_0f7a4_43 : decode cJ6_bitCount_0f7a4 43 = .ok (.bipush 16, 2) := by decide +kernel
theorem dJ6_bitCount_0f7a4_45 : decode cJ6_bitCount_0f7a4 45 = .ok (.iushr, 1) := by decide +kernel
theorem dJ6_bitCount_0f7a4_46 : decode cJ6_bitCount_0f7a4 46 = .ok (.iadd, 1) := by decide +kernel
theorem dJ6_bitCount_0f7a4_47 : decode cJ6_bitCount_0f7a4 47 = .ok (.istore_n 0, 1) := by decide +kernel
theorem dJ6_bitCount_0f7a4_48 : decode cJ6_bitCount_0f7a4 48 = .ok (.iload_n 0, 1) := by decide +kernel
theorem dJ6_bitCount_0f7a4_49 : decode cJ6_bitCount_0f7a4 49 = .ok (.bipush 63, 2) := by decide +kernel
theorem dJ6_bitCount_0f7a4_51 : decode cJ6_bitCount_0f7a4 51 = .ok (.iand, 1) := by decide +kernel
theorem dJ6_bitCount_0f7a4_52 : decode cJ6_bitCount_0f7a4 52 = .ok (.ireturn, 1) := by decide +kernel
theorem dJ13_bitCount_95d88_0 : decode cJ13_bitCount_95d88 0 = .ok (.lload_n 0, 1) := by decide +kernel
theorem dJ13_bitCount_95d88_1 : decode cJ13_bitCount_95d88 1 = .ok (.lload_n 0, 1) := by decide +kernel
theorem dJ13_bitCount_95d88_2 : decode cJ13_bitCount_95d88 2 = .ok (.iconst 1, 1) := by decide +kernel
theorem dJ13_bitCount_95d88_3 : decode cJ13_bitCount_95d88 3 = .ok (.lushr, 1) := by decide +kernel
theorem dJ13_bitCount_95d88_4 : decode cJ13_bitCount_95d88 4 = .ok (.ldc2_w 314, 3) := by decide +kernel
theorem dJ13_bitCount_95d88_7 : decode cJ13_bitCount_95d88 7 = .ok (.land, 1) := by decide +kernel
theorem dJ13_bitCount_95d88_8 : decode cJ13_bitCount_95d88 8 = .ok (.lsub, 1) := by decide +kernel
theorem dJ13_bitCount_95d88_9 : decode cJ13_bitCount_95d88 9 = .ok (.lstore_n 0, 1) := by decide +kernel
theorem dJ13_bitCount_95d88_10 : decode cJ13_bitCount_95d88 10 = .ok (.lload_n 0, 1) := by decide +kernel
theorem dJ13_bitCount_95d88_11 : decode cJ13_bitCount_95d88 11 = .ok (.ldc2_w 316, 3) := by decide +kernel
theorem dJ13_bitCount_95d88_14 : decode cJ13_bitCount_95d88 14 = .ok (.land, 1) := by decide +kernel
theorem dJ13_bitCount_95d88_15 : decode cJ13_bitCount_95d88 15 = .ok (.lload_n 0, 1) := by decide +kernel
theorem dJ13_bitCount_95d88_16 : decode cJ13_bitCount_95d88 16 = .ok (.iconst 2, 1) := by decide +kernel
theorem dJ13_bitCount_95d88_17 : decode cJ13_bitCount_95d88 17 = .ok (.lushr, 1) := by decide +kernel
theorem dJ13_bitCount_95d88_18 : decode cJ13_bitCount_95d88 18 = .ok (.ldc2_w 316, 3) := by decide +kernel
theorem dJ13_bitCount_95d88_21 : decode cJ13_bitCount_95d88 21 = .ok (.land, 1) := by decide +kernel
theorem dJ13_bitCount_95d88_22 : decode cJ13_bitCount_95d88 22 = .ok (.ladd, 1) := by decide +kernel
theorem dJ13_bitCount_95d88_23 : decode cJ13_bitCount_95d88 23 = .ok (.lstore_n 0, 1) := by decide +kernel
theorem dJ13_bitCount_95d88_24 : decode cJ13_bitCount_95d88 24 = .ok (.lload_n 0, 1) := by decide +kernel
theorem dJ13_bitCount_95d88_25 : decode cJ13_bitCount_95d88 25 = .ok (.lload_n 0, 1) := by decide +kernel
theorem dJ13_bitCount_95d88_26 : decode cJ13_bitCount_95d88 26 = .ok (.iconst 4, 1) := by decide +kernel
theorem dJ13_bitCount_95d88_27 : decode cJ13_bitCount_95d88 27 = .ok (.lushr, 1) := by decide +kernel
theorem dJ13_bitCount_95d88_28 : decode cJ13_bitCount_95d88 28 = .ok (.ladd, 1) := by decide +kernel
theorem dJ13_bitCount_95d88_29 : decode cJ13_bitCount_95d88 29 = .ok (.ldc2_w 318, 3) := by decide +kernel
theorem dJ13_bitCount_95d88_32 : decode cJ13_bitCount_95d88 32 = .ok (.land, 1) := by decide +kernel
theorem dJ13_bitCount_95d88_33 : decode cJ13_bitCount_95d88 33 = .ok (.lstore_n 0, 1) := by decide +kernel
theorem dJ13_bitCount_95d88_34 : decode cJ13_bitCount_95d88 34 = .ok (.lload_n 0, 1) := by decide +kernel
theorem dJ13_bitCount_95d88_35 : decode cJ13_bitCount_95d88 35 = .ok (.lload_n 0, 1) := by decide +kernel
theorem dJ13_bitCount_95d88_36 : decode cJ13_bitCount_95d88 36 = .ok (.bipush 8, 2) := by decide +kernel
theorem dJ13_bitCount_95d88_38 : decode cJ13_bitCount_95d88 38 = .ok (.lushr, 1) := by decide +kernel
theorem dJ13_bitCount_95d88_39 : decode cJ13_bitCount_95d88 39 = .ok (.ladd, 1) := by decide +kernel
theorem dJ13_bitCount_95d88_40 : decode cJ13_bitCount_95d88 40 = .ok (.lstore_n 0, 1) := by decide +kernel
theorem dJ13_bitCount_95d88_41 : decode cJ13_bitCount_95d88 41 = .ok (.lload_n 0, 1) := by decide +kernel
theorem dJ13_bitCount_95d88_42 : decode cJ13_bitCount_95d88 42 = .ok (.lload_n 0, 1) := by decide +kernel
theorem dJ13_bitCount_95d88_43 : decode cJ13_bitCount_95d88 43 = .ok (.bipush 16, 2) := by decide +kernel
theorem dJ13_bitCount_95d88_45 : decode cJ13_bitCount_95d88 45 = .ok (.lushr, 1) := by decide +kernel
theorem dJ13_bitCount_95d88_46 : decode cJ13_bitCount_95d88 46 = .ok (.ladd, 1) := by decide +kernel
theorem dJ13_bitCount_95d88_47 : decode cJ13_bitCount_95d88 47 = .ok (.lstore_n 0, 1) := by decide +kernel
theorem dJ13_bitCount_95d88_48 : decode cJ13_bitCount_95d88 48 = .ok (.lload_n 0, 1) := by decide +kernel
theorem dJ13_bitCount_95d88_49 : decode cJ13_bitCount_95d88 49 = .ok (.lload_n 0, 1) := by decide +kernel
theorem dJ13_bitCount_95d88_50 : decode cJ13_bitCount_95d88 50 = .ok (.bipush 32, 2) := by decide +kernel
theorem dJ13_bitCount_95d88_52 : decode cJ13_bitCount_95d88 52 = .ok (.lushr, 1) := by decide +kernel
theorem dJ13_bitCount_95d88_53 : decode cJ13_bitCount_95d88 53 = .ok (.ladd, 1) := by decide +kernel
theorem dJ13_bitCount_95d88_54 : decode cJ13_bitCount_95d88 54 = .ok (.lstore_n 0, 1) := by decide +kernel
theorem dJ13_bitCount_95d88_55 : decode cJ13_bitCount_95d88 55 = .ok (.lload_n 0, 1) := by decide +kernel
theorem dJ13_bitCount_95d88_56 : decode cJ13_bitCount_95d88 56 = .ok (.l2i, 1) := by decide +kernel
theorem dJ13_bitCount_95d88_57 : decode cJ13_bitCount_95d88 57 = .ok (.bipush 127, 2) := by decide +kernel
theorem dJ13_bitCount_95d88_59 : decode cJ13_bitCount_95d88 59 = .ok (.iand, 1) := by decide +kernel
theorem dJ13_bitCount_95d88_60 : decode cJ13_bitCount_95d88 60 = .ok (.ireturn, 1) := by decide +kernel
