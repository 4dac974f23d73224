theorem dX0_init_0 : decode cX0_init 0 = .ok (.aload_n 0, 1) := by decide +kernel
theorem dX0_init_1 : decode cX0_init 1 = .ok (.invokespecial 3, 3) := by decide +kernel
theorem dX0_init_4 : decode cX0_init 4 = .ok (.aload_n 0, 1) := by decide +kernel
theorem dX0_init_5 : decode cX0_init 5 = .ok (.iconst 0, 1) := by decide +kernel
theorem dX0_init_6 : decode cX0_init 6 = .ok (.putfield 9, 3) := by decide +kernel
theorem dX0_init_9 : decode cX0_init 9 = .ok (.aload_n 0, 1) := by decide +kernel
theorem dX0_init_10 : decode cX0_init 10 = .ok (.bipush 40, 2) := by decide +kernel
theorem dX0_init_12 : decode cX0_init 12 = .ok (.newarray .int, 2) := by decide +kernel
theorem dX0_init_14 : decode cX0_init 14 = .ok (.putfield 13, 3) := by decide +kernel
theorem dX0_init_17 : decode cX0_init 17 = .ok (.aload_n 0, 1) := by decide +kernel
theorem dX0_init_18 : decode cX0_init 18 = .ok (.bipush 40, 2) := by decide +kernel
theorem dX0_init_20 : decode cX0_init 20 = .ok (.newarray .boolean, 2) := by decide +kernel
theorem dX0_init_22 : decode cX0_init 22 = .ok (.putfield 17, 3) := by decide +kernel
theorem dX0_init_25 : decode cX0_init 25 = .ok (.aload_n 0, 1) := by decide +kernel
theorem dX0_init_26 : decode cX0_init 26 = .ok (.sipush 2560, 3) := by decide +kernel
theorem dX0_init_29 : decode cX0_init 29 = .ok (.newarray .long, 2) := by decide +kernel
theorem dX0_init_31 : decode cX0_init 31 = .ok (.putfield 21, 3) := by decide +kernel
theorem dX0_init_34 : decode cX0_init 34 = .ok (.aload_n 0, 1) := by decide +kernel
theorem dX0_init_35 : decode cX0_init 35 = .ok (.sipush 2560, 3) := by decide +kernel
theorem dX0_init_38 : decode cX0_init 38 = .ok (.newarray .long, 2) := by decide +kernel
theorem dX0_init_40 : decode cX0_init 40 = .ok (.putfield 25, 3) := by decide +kernel
theorem dX0_init_43 : decode cX0_init 43 = .ok (.aload_n 0, 1) := by decide +kernel
theorem dX0_init_44 : decode cX0_init 44 = .ok (.bipush 6, 2) := by decide +kernel
theorem dX0_init_46 : decode cX0_init 46 = .ok (.newarray .int, 2) := by decide +kernel
theorem dX0_init_48 : decode cX0_init 48 = .ok (.putfield 28, 3) := by decide +kernel
theorem dX0_init_51 : decode cX0_init 51 = .ok (.aload_n 0, 1) := by decide +kernel
theorem dX0_init_52 : decode cX0_init 52 = .ok (.bipush 6, 2) := by decide +kernel
theorem dX0_init_54 : decode cX0_init 54 = .ok (.newarray .boolean, 2) := by decide +kernel
theorem dX0_init_56 : decode cX0_init 56 = .ok (.putfield 31, 3) := by decide +kernel
theorem dX0_init_59 : decode cX0_init 59 = .ok (.aload_n 0, 1) := by decide +kernel
theorem dX0_init_60 : decode cX0_init 60 = .ok (.bipush 6, 2) := by decide +kernel
theorem dX0_init_62 : decode cX0_init 62 = .ok (.newarray .int, 2) := by decide +kernel
theorem dX0_init_64 : decode cX0_init 64 = .ok (.putfield 34, 3) := by decide +kernel
theorem dX0_init_67 : decode cX0_init 67 = .ok (.iconst 0, 1) := by decide +kernel
theorem dX0_init_68 : decode cX0_init 68 = .ok (.istore_n 1, 1) := by decide +kernel
theorem dX0_init_69 : decode cX0_init 69 = .ok (.iload_n 1, 1) := by decide +kernel
theorem dX0_init_70 : decode cX0_init 70 = .ok (.bipush 6, 2) := by decide +kernel
theorem dX0_init_72 : decode cX0_init 72 = .ok (.if_icmp .ge 24, 3) := by decide +kernel
theorem dX0_init_75 : decode cX0_init 75 = .ok (.aload_n 0, 1) := by decide +kernel
theorem dX0_init_76 : decode cX0_init 76 = .ok (.getfield 28, 3) := by decide +kernel
theorem dX0_init_79 : decode cX0_init 79 = .ok (.iload_n 1, 1) := by decide +kernel
theorem dX0_init_80 : decode cX0_init 80 = .ok (.bipush 50, 2) := by decide +kernel
theorem dX0_init_82 : decode cX0_init 82 = .ok (.iastore, 1) := by decide +kernel
theorem dX0_init_83 : decode cX0_init 83 = .ok (.aload_n 0, 1) := by decide +kernel
theorem dX0_init_84 : decode cX0_init 84 = .ok (.getfield 31, 3) := by decide +kernel
theorem dX0_init_87 : decode cX0_init 87 = .ok (.iload_n 1, 1) := by decide +kernel
theorem dX0_init_88 : decode cX0_init 88 = .ok (.iconst 1, 1) := by decide +kernel
theorem dX0_init_89 : decode cX0_init 89 = .ok (.bastore, 1) := by decide +kernel
theorem dX0_init_90 : decode cX0_init 90 = .ok (.iinc 1 1, 3) := by decide +kernel
theorem dX0_init_93 : decode cX0_init 93 = .ok (.goto (-24), 3) := by decide +kernel
theorem dX0_init_96 : decode cX0_init 96 = .ok (.aload_n 0, 1) := by decide +kernel
theorem dX0_init_97 : decode cX0_init 97 = .ok (.iconst 1, 1) := by decide +kernel
theorem dX0_init_98 : decode cX0_init 98 = .ok (.putfield 37, 3) := by decide +kernel
theorem dX0_init_101 : decode cX0_init 101 = .ok (.aload_n 0, 1) := by decide +kernel
theorem dX0_init_102 : decode cX0_init 102 = .ok (.bipush 6, 2) := by decide +kernel
theorem dX0_init_104 : decode cX0_init 104 = .ok (.newarray .int, 2) := by decide +kernel
theorem dX0_init_106 : decode cX0_init 106 = .ok (.putfield 40, 3) := by decide +kernel
theorem dX0_init_109 : decode cX0_init 109 = .ok (.iconst 0, 1) := by decide +kernel
theorem dX0_init_110 : decode cX0_init 110 = .ok (.istore_n 1, 1) := by decide +kernel
theorem dX0_init_111 : decode cX0_init 111 = .ok (.iload_n 1, 1) := by decide +kernel
theorem dX0_init_112 : decode cX0_init 112 = .ok (.bipush 6, 2) := by decide +kernel
theorem dX0_init_114 : decode cX0_init 114 = .ok (.if_icmp .ge 16, 3) := by decide +kernel
theorem dX0_init_117 : decode cX0_init 117 = .ok (.aload_n 0, 1) := by decide +kernel
theorem dX0_init_118 : decode cX0_init 118 = .ok (.getfield 40, 3) := by decide +kernel
theorem dX0_init_121 : decode cX0_init 121 = .ok (.iload_n 1, 1) := by decide +kernel
theorem dX0_init_122 : decode cX0_init 122 = .ok (.iconst (-1), 1) := by decide +kernel
theorem dX0_init_123 : decode cX0_init 123 = .ok (.iastore, 1) := by decide +kernel
theorem dX0_init_124 : decode cX0_init 124 = .ok (.iinc 1 1, 3) := by decide +kernel
theorem dX0_init_127 : decode cX0_init 127 = .ok (.goto (-16), 3) := by decide +kernel
theorem dX0_init_130 : decode cX0_init 130 = .ok (.aload_n 0, 1) := by decide +kernel
theorem dX0_init_131 : decode cX0_init 131 = .ok (.bipush 15, 2) := by decide +kernel
theorem dX0_init_133 : decode cX0_init 133 = .ok (.putfield 43, 3) := by decide +kernel
theorem dX0_init_136 : decode cX0_init 136 = .ok (.aload_n 0, 1) := by decide +kernel
theorem dX0_init_137 : decode cX0_init 137 = .ok (.ldc2_w 46, 3) := by decide +kernel
theorem dX0_init_140 : decode cX0_init 140 = .ok (.putfield 48, 3) := by decide +kernel
theorem dX0_init_143 : decode cX0_init 143 = .ok (.return_, 1) := by decide +kernel
set_option maxRecDepth 20000 in
theorem ggX0_atom_X0_requireAtom : GoodIn wsX0_atom wsX0_requireAtom := goodIn_ca (goodIn_r _ [7, 8, 9] (by decide +kernel) (by decide +kernel)) (goodIn_sub (fun _ h => List.mem_cons_of_mem _ (List.mem_append_left _ (List.mem_append_right _ h))) (by decide +kernel))
set_option maxRecDepth 20000 in
theorem gX0_atom_X0_requireAtom : GoodIn wsX0_atom (va_wsS RX0 52 yX0_requireAtom wsX0_requireAtom) := goodIn_app (goodIn_of _ (by decide +kernel)) ggX0_atom_X0_requireAtom
set_option maxRecDepth 20000 in
theorem ggX0_atom_X0_requireRoom : GoodIn wsX0_atom wsX0_requireRoom := goodIn_ca (goodIn_r _ [13, 14, 15, 1, 33, 34, 35, 36, 37, 38, 39, 40, 41, 42, 43, 44] (by decide +kernel) (by decide +kernel)) (goodIn_sub (fun _ h => List.mem_cons_of_mem _ (List.mem_append_right _ h)) (by decide +kernel))
set_option maxRecDepth 20000 in
theorem gX0_atom_X0_requireRoom : GoodIn wsX0_atom (wsV RX0 56 RX0 yX0_requireRoom wsX0_requireRoom) := goodIn_app (goodIn_of _ (by decide +kernel)) ggX0_atom_X0_requireRoom
set_option maxRecDepth 20000 in
theorem ggX0_atom_X0_placeOf : GoodIn wsX0_atom wsX0_placeOf := goodIn_r _ [18] (by decide +kernel) (by decide +kernel)
set_option maxRecDepth 20000 in
theorem gX0_atom_X0_placeOf : GoodIn wsX0_atom (va_wsS RX0 59 yX0_placeOf wsX0_placeOf) := goodIn_app (goodIn_of _ (by decide +kernel)) ggX0_atom_X0_placeOf
set_option maxRecDepth 20000 in
theorem ggX0_atom_X0_rowOf : GoodIn wsX0_atom wsX0_rowOf := goodIn_r _ [21] (by decide +kernel) (by decide +kernel)
set_option maxRecDepth 20000 in
theorem gX0_atom_X0_rowOf : GoodIn wsX0_atom (va_wsS RX0 63 yX0_rowOf wsX0_rowOf) := goodIn_app (goodIn_of _ (by decide +kernel)) ggX0_atom_X0_rowOf
set_option maxRecDepth 20000 in
theorem ggX0_atom_X0_valuationsWithBit : GoodIn wsX0_atom wsX0_valuationsWithBit := goodIn_r _ [24, 25, 26] (by decide +kernel) (by decide +kernel)
set_option maxRecDepth 20000 in
theorem gX0_atom_X0_valuationsWithBit : GoodIn wsX0_atom (va_wsS RX0 66 yX0_valuationsWithBit wsX0_valuationsWithBit) := goodIn_app (goodIn_of _ (by decide +kernel)) ggX0_atom_X0_valuationsWithBit
set_option maxRecDepth 20000 in
theorem ggX0_atom_X0_addFormula : GoodIn wsX0_atom wsX0_addFormula := goodIn_r _ [30, 1, 31, 32, 33, 34, 35, 36, 37, 38, 39, 40, 41, 42, 43, 44] (by decide +kernel) (by decide +kernel)
set_option maxRecDepth 20000 in
theorem gX0_atom_X0_addFormula : GoodIn wsX0_atom (wsV RX0 70 RX0 yX0_addFormula wsX0_addFormula) := goodIn_app (goodIn_of _ (by decide +kernel)) ggX0_atom_X0_addFormula
theorem dX0_atom_0 : decode cX0_atom 0 = .ok (.iload_n 1, 1) := by decide +kernel
theorem dX0_atom_1 : decode cX0_atom 1 = .ok (.invokestatic 52, 3) := by decide +kernel
theorem dX0_atom_4 : decode cX0_atom 4 = .ok (.aload_n 0, 1) := by decide +kernel
theorem dX0_atom_5 : decode cX0_atom 5 = .ok (.invokevirtual 56, 3) := by decide +kernel
theorem dX0_atom_8 : decode cX0_atom 8 = .ok (.iload_n 1, 1) := by decide +kernel
theorem dX0_atom_9 : decode cX0_atom 9 = .ok (.invokestatic 59, 3) := by decide +kernel
theorem dX0_atom_12 : decode cX0_atom 12 = .ok (.istore_n 2, 1) := by decide +kernel
theorem dX0_atom_13 : decode cX0_atom 13 = .ok (.aload_n 0, 1) := by decide +kernel
theorem dX0_atom_14 : decode cX0_atom 14 = .ok (.getfield 9, 3) := by decide +kernel
theorem dX0_atom_17 : decode cX0_atom 17 = .ok (.invokestatic 63, 3) := by decide +kernel
theorem dX0_atom_20 : decode cX0_atom 20 = .ok (.istore_n 3, 1) := by decide +kernel
theorem dX0_atom_21 : decode cX0_atom 21 = .ok (.iconst 0, 1) := by decide +kernel
theorem dX0_atom_22 : decode cX0_atom 22 = .ok (.istore 4, 2) := by decide +kernel
theorem dX0_atom_24 : decode cX0_atom 24 = .ok (.iload 4, 2) := by decide +kernel
theorem dX0_atom_26 : decode cX0_atom 26 = .ok (.bipush 64, 2) := by decide +kernel
theorem dX0_atom_28 : decode cX0_atom 28 = .ok (.if_icmp .ge 41, 3) := by decide +kernel
theorem dX0_atom_31 : decode cX0_atom 31 = .ok (.aload_n 0, 1) := by decide +kernel
theorem dX0_atom_32 : decode cX0_atom 32 = .ok (.getfield 21, 3) := by decide +kernel
theorem dX0_atom_35 : decode cX0_atom 35 = .ok (.iload_n 3, 1) := by decide +kernel
theorem dX0_atom_36 : decode cX0_atom 36 = .ok (.iload 4, 2) := by decide +kernel
theorem dX0_atom_38 : decode cX0_atom 38 = .ok (.iadd, 1) := by decide +kernel
theorem dX0_atom_39 : decode cX0_atom 39 = .ok (.iload_n 2, 1) := by decide +kernel
theorem dX0_atom_40 : decode cX0_atom 40 = .ok (.iload 4, 2) := by decide +kernel
theorem dX0_atom_42 : decode cX0_atom 42 = .ok (.invokestatic 66, 3) := by decide +kernel
theorem dX0_atom_45 : decode cX0_atom 45 = .ok (.lastore, 1) := by decide +kernel
theorem dX0_atom_46 : decode cX0_atom 46 = .ok (.aload_n 0, 1) := by decide +kernel
theorem dX0_atom_47 : decode cX0_atom 47 = .ok (.getfield 25, 3) := by decide +kernel
theorem dX0_atom_50 : decode cX0_atom 50 = .ok (.iload_n 3, 1) := by decide +kernel
theorem dX0_atom_51 : decode cX0_atom 51 = .ok (.iload 4, 2) := by decide +kernel
theorem dX0_atom_53 : decode cX0_atom 53 = .ok (.iadd, 1) := by decide +kernel
theorem dX0_atom_54 : decode cX0_atom 54 = .ok (.iload_n 2, 1) := by decide +kernel
theorem dX0_atom_55 : decode cX0_atom 55 = .ok (.iconst 1, 1) := by decide +kernel
theorem dX0_atom_56 : decode cX0_atom 56 = .ok (.iadd, 1) := by decide +kernel
theorem dX0_atom_57 : decode cX0_atom 57 = .ok (.iload 4, 2) := by decide +kernel
theorem dX0_atom_59 : decode cX0_atom 59 = .ok (.invokestatic 66, 3) := by decide +kernel
theorem dX0_atom_62 : decode cX0_atom 62 = .ok (.lastore, 1) := by decide +kernel
theorem dX0_atom_63 : decode cX0_atom 63 = .ok (.iinc 4 1, 3) := by decide +kernel
theorem dX0_atom_66 : decode cX0_atom 66 = .ok (.goto (-42), 3) := by decide +kernel
theorem dX0_atom_69 : decode cX0_atom 69 = .ok (.aload_n 0, 1) := by decide +kernel
theorem dX0_atom_70 : decode cX0_atom 70 = .ok (.iconst 0, 1) := by decide +kernel
theorem dX0_atom_71 : decode cX0_atom 71 = .ok (.iconst 1, 1) := by decide +kernel
theorem dX0_atom_72 : decode cX0_atom 72 = .ok (.invokevirtual 70, 3) := by decide +kernel
theorem dX0_atom_75 : decode cX0_atom 75 = .ok (.ireturn, 1) := by decide +kernel
set_option maxRecDepth 20000 in
theorem ggX0_constant_X0_requireValue : GoodIn wsX0_constant wsX0_requireValue := goodIn_ca (goodIn_r _ [8, 9, 10] (by decide +kernel) (by decide +kernel)) (goodIn_sub (fun _ h => List.mem_cons_of_mem _ (List.mem_append_left _ (List.mem_append_right _ h))) (by decide +kernel))
set_option maxRecDepth 20000 in
theorem gX0_constant_X0_requireValue : GoodIn wsX0_constant (va_wsS RX0 74 yX0_requireValue wsX0_requireValue) := goodIn_app (goodIn_of _ (by decide +kernel)) ggX0_constant_X0_requireValue
set_option maxRecDepth 20000 in
theorem ggX0_constant_X0_requireRoom : GoodIn wsX0_constant wsX0_requireRoom := goodIn_ca (goodIn_r _ [14, 15, 16, 1, 26, 27, 28, 29, 30, 31, 32, 33, 34, 35, 36, 37] (by decide +kernel) (by decide +kernel)) (goodIn_sub (fun _ h => List.mem_cons_of_mem _ (List.mem_append_right _ h)) (by decide +kernel))
set_option maxRecDepth 20000 in
theorem gX0_constant_X0_requireRoom : GoodIn wsX0_constant (wsV RX0 56 RX0 yX0_requireRoom wsX0_requireRoom) := goodIn_app (goodIn_of _ (by decide +kernel)) ggX0_constant_X0_requireRoom
set_option maxRecDepth 20000 in
theorem ggX0_constant_X0_rowOf : GoodIn wsX0_constant wsX0_rowOf := goodIn_r _ [19] (by decide +kernel) (by decide +kernel)
set_option maxRecDepth 20000 in
theorem gX0_constant_X0_rowOf : GoodIn wsX0_constant (va_wsS RX0 63 yX0_rowOf wsX0_rowOf) := goodIn_app (goodIn_of _ (by decide +kernel)) ggX0_constant_X0_rowOf
set_option maxRecDepth 20000 in
theorem ggX0_constant_X0_addFormula : GoodIn wsX0_constant wsX0_addFormula := goodIn_r _ [23, 1, 24, 25, 26, 27, 28, 29, 30, 31, 32, 33, 34, 35, 36, 37] (by decide +kernel) (by decide +kernel)
set_option maxRecDepth 20000 in
theorem gX0_constant_X0_addFormula : GoodIn wsX0_constant (wsV RX0 70 RX0 yX0_addFormula wsX0_addFormula) := goodIn_app (goodIn_of _ (by decide +kernel)) ggX0_constant_X0_addFormula
theorem dX0_constant_0 : decode cX0_constant 0 = .ok (.iload_n 1, 1) := by decide +kernel
theorem dX0_constant_1 : decode cX0_constant 1 = .ok (.invokestatic 74, 3) := by decide +kernel
theorem dX0_constant_4 : decode cX0_constant 4 = .ok (.aload_n 0, 1) := by decide +kernel
theorem dX0_constant_5 : decode cX0_constant 5 = .ok (.invokevirtual 56, 3) := by decide +kernel
theorem dX0_constant_8 : decode cX0_constant 8 = .ok (.aload_n 0, 1) := by decide +kernel
theorem dX0_constant_9 : decode cX0_constant 9 = .ok (.getfield 9, 3) := by decide +kernel
theorem dX0_constant_12 : decode cX0_constant 12 = .ok (.invokestatic 63, 3) := by decide +kernel
theorem dX0_constant_15 : decode cX0_constant 15 = .ok (.istore_n 2, 1) := by decide +kernel
theorem dX0_constant_16 : decode cX0_constant 16 = .ok (.iconst 0, 1) := by decide +kernel
theorem dX0_constant_17 : decode cX0_constant 17 = .ok (.istore_n 3, 1) := by decide +kernel
theorem dX0_constant_18 : decode cX0_constant 18 = .ok (.iload_n 3, 1) := by decide +kernel
theorem dX0_constant_19 : decode cX0_constant 19 = .ok (.bipush 64, 2) := by decide +kernel
theorem dX0_constant_21 : decode cX0_constant 21 = .ok (.if_icmp .ge 51, 3) := by decide +kernel
theorem dX0_constant_24 : decode cX0_constant 24 = .ok (.aload_n 0, 1) := by decide +kernel
theorem dX0_constant_25 : decode cX0_constant 25 = .ok (.getfield 21, 3) := by decide +kernel
theorem dX0_constant_28 : decode cX0_constant 28 = .ok (.iload_n 2, 1) := by decide +kernel
theorem dX0_constant_29 : decode cX0_constant 29 = .ok (.iload_n 3, 1) := by decide +kernel
theorem dX0_constant_30 : decode cX0_constant 30 = .ok (.iadd, 1) := by decide +kernel
theorem dX0_constant_31 : decode cX0_constant 31 = .ok (.iload_n 1, 1) := by decide +kernel
theorem dX0_constant_32 : decode cX0_constant 32 = .ok (.iconst 1, 1) := by decide +kernel
theorem dX0_constant_33 : decode cX0_constant 33 = .ok (.iand, 1) := by decide +kernel
theorem dX0_constant_34 : decode cX0_constant 34 = .ok (.ifCond .eq 9, 3) := by decide +kernel
theorem dX0_constant_37 : decode cX0_constant 37 = .ok (.ldc2_w 46, 3) := by decide +kernel
theorem dX0_constant_40 : decode cX0_constant 40 = .ok (.goto 4, 3) := by decide +kernel
theorem dX0_constant_43 : decode cX0_constant 43 = .ok (.lconst 0, 1) := by decide +kernel
theorem dX0_constant_44 : decode cX0_constant 44 = .ok (.lastore, 1) := by decide +kernel
theorem dX0_constant_45 : decode cX0_constant 45 = .ok (.aload_n 0, 1) := by decide +kernel
theorem dX0_constant_46 : decode cX0_constant 46 = .ok (.getfield 25, 3) := by decide +kernel
theorem dX0_constant_49 : decode cX0_constant 49 = .ok (.iload_n 2, 1) := by decide +kernel
theorem dX0_constant_50 : decode cX0_constant 50 = .ok (.iload_n 3, 1) := by decide +kernel
theorem dX0_constant_51 : decode cX0_constant 51 = .ok (.iadd, 1) := by decide +kernel
theorem dX0_constant_52 : decode cX0_constant 52 = .ok (.iload_n 1, 1) := by decide +kernel
theorem dX0_constant_53 : decode cX0_constant 53 = .ok (.iconst 2, 1) := by decide +kernel
theorem dX0_constant_54 : decode cX0_constant 54 = .ok (.iand, 1) := by decide +kernel
theorem dX0_constant_55 : decode cX0_constant 55 = .ok (.ifCond .eq 9, 3) := by decide +kernel
theorem dX0_constant_58 : decode cX0_constant 58 = .ok (.ldc2_w 46, 3) := by decide +kernel
theorem dX0_constant_61 : decode cX0_constant 61 = .ok (.goto 4, 3) := by decide +kernel
theorem dX0_constant_64 : decode cX0_constant 64 = .ok (.lconst 0, 1) := by decide +kernel
theorem dX0_constant_65 : decode cX0_constant 65 = .ok (.lastore, 1) := by decide +kernel
theorem dX0_constant_66 : decode cX0_constant 66 = .ok (.iinc 3 1, 3) := by decide +kernel
theorem dX0_constant_69 : decode cX0_constant 69 = .ok (.goto (-51), 3) := by decide +kernel
theorem dX0_constant_72 : decode cX0_constant 72 = .ok (.aload_n 0, 1) := by decide +kernel
theorem dX0_constant_73 : decode cX0_constant 73 = .ok (.iconst 1, 1) := by decide +kernel
theorem dX0_constant_74 : decode cX0_constant 74 = .ok (.iconst 1, 1) := by decide +kernel
theorem dX0_constant_75 : decode cX0_constant 75 = .ok (.invokevirtual 70, 3) := by decide +kernel
theorem dX0_constant_78 : decode cX0_constant 78 = .ok (.ireturn, 1) := by decide +kernel
set_option maxRecDepth 20000 in
theorem ggX0_turn_X0_requireFormula : GoodIn wsX0_turn wsX0_requireFormula := goodIn_ca (goodIn_r _ [12, 13, 14, 3, 29, 30, 31, 32, 33, 34, 35, 36, 37, 38, 39, 40] (by decide +kernel) (by decide +kernel)) (goodIn_sub (fun _ h => List.mem_cons_of_mem _ (List.mem_append_left _ (List.mem_append_right _ h))) (by decide +kernel))
set_option maxRecDepth 20000 in
theorem gX0_turn_X0_requireFormula : GoodIn wsX0_turn (wsV RX0 77 RX0 yX0_requireFormula wsX0_requireFormula) := goodIn_app (goodIn_of _ (by decide +kernel)) ggX0_turn_X0_requireFormula
set_option maxRecDepth 20000 in
theorem ggX0_turn_X0_requireRoom : GoodIn wsX0_turn wsX0_requireRoom := goodIn_ca (goodIn_r _ [18, 19, 20, 3, 29, 30, 31, 32, 33, 34, 35, 36, 37, 38, 39, 40] (by decide +kernel) (by decide +kernel)) (goodIn_sub (fun _ h => List.mem_cons_of_mem _ (List.mem_append_right _ h)) (by decide +kernel))
set_option maxRecDepth 20000 in
theorem gX0_turn_X0_requireRoom : GoodIn wsX0_turn (wsV RX0 56 RX0 yX0_requireRoom wsX0_requireRoom) := goodIn_app (goodIn_of _ (by decide +kernel)) ggX0_turn_X0_requireRoom
set_option maxRecDepth 20000 in
theorem ggX0_turn_X0_rowOf : GoodIn wsX0_turn wsX0_rowOf := goodIn_r _ [23] (by decide +kernel) (by decide +kernel)
set_option maxRecDepth 20000 in
theorem gX0_turn_X0_rowOf : GoodIn wsX0_turn (va_wsS RX0 63 yX0_rowOf wsX0_rowOf) := goodIn_app (goodIn_of _ (by decide +kernel)) ggX0_turn_X0_rowOf
set_option maxRecDepth 20000 in
theorem ggX0_turn_X0_addFormula : GoodIn wsX0_turn wsX0_addFormula := goodIn_r _ [27, 3, 28, 7, 29, 30, 31, 32, 33, 34, 35, 36, 37, 38, 39, 40] (by decide +kernel) (by decide +kernel)
set_option maxRecDepth 20000 in
theorem gX0_turn_X0_addFormula : GoodIn wsX0_turn (wsV RX0 70 RX0 yX0_addFormula wsX0_addFormula) := goodIn_app (goodIn_of _ (by decide +kernel)) ggX0_turn_X0_addFormula
theorem dX0_turn_0 : decode cX0_turn 0 = .ok (.aload_n 0, 1) := by decide +kernel
theorem dX0_turn_1 : decode cX0_turn 1 = .ok (.iload_n 2, 1) := by decide +kernel
theorem dX0_turn_2 : decode cX0_turn 2 = .ok (.invokevirtual 77, 3) := by decide +kernel
theorem dX0_turn_5 : decode cX0_turn 5 = .ok (.iload_n 1, 1) := by decide +kernel
theorem dX0_turn_6 : decode cX0_turn 6 = .ok (.iconst 2, 1) := by decide +kernel
theorem dX0_turn_7 : decode cX0_turn 7 = .ok (.if_icmp .eq 19, 3) := by decide +kernel
theorem dX0_turn_10 : decode cX0_turn 10 = .ok (.iload_n 1, 1) := by decide +kernel
theorem dX0_turn_11 : decode cX0_turn 11 = .ok (.bipush 8, 2) := by decide +kernel
theorem dX0_turn_13 : decode cX0_turn 13 = .ok (.if_icmp .eq 13, 3) := by decide +kernel
theorem dX0_turn_16 : decode cX0_turn 16 = .ok (.new 80, 3) := by decide +kernel
theorem dX0_turn_19 : decode cX0_turn 19 = .ok (.dup, 1) := by decide +kernel
theorem dX0_turn_20 : decode cX0_turn 20 = .ok (.ldc 82, 2) := by decide +kernel
theorem dX0_turn_22 : decode cX0_turn 22 = .ok (.invokespecial 84, 3) := by decide +kernel
theorem dX0_turn_25 : decode cX0_turn 25 = .ok (.athrow, 1) := by decide +kernel
theorem dX0_turn_26 : decode cX0_turn 26 = .ok (.aload_n 0, 1) := by decide +kernel
theorem dX0_turn_27 : decode cX0_turn 27 = .ok (.invokevirtual 56, 3) := by decide +kernel
theorem dX0_turn_30 : decode cX0_turn 30 = .ok (.aload_n 0, 1) := by decide +kernel
theorem dX0_turn_31 : decode cX0_turn 31 = .ok (.getfield 9, 3) := by decide +kernel
theorem dX0_turn_34 : decode cX0_turn 34 = .ok (.invokestatic 63, 3) := by decide +kernel
theorem dX0_turn_37 : decode cX0_turn 37 = .ok (.istore_n 3, 1) := by decide +kernel
theorem dX0_turn_38 : decode cX0_turn 38 = .ok (.iload_n 2, 1) := by decide +kernel
theorem dX0_turn_39 : decode cX0_turn 39 = .ok (.invokestatic 63, 3) := by decide +kernel
theorem dX0_turn_42 : decode cX0_turn 42 = .ok (.istore 4, 2) := by decide +kernel
theorem dX0_turn_44 : decode cX0_turn 44 = .ok (.iconst 0, 1) := by decide +kernel
theorem dX0_turn_45 : decode cX0_turn 45 = .ok (.istore 5, 2) := by decide +kernel
theorem dX0_turn_47 : decode cX0_turn 47 = .ok (.iload 5, 2) := by decide +kernel
theorem dX0_turn_49 : decode cX0_turn 49 = .ok (.bipush 64, 2) := by decide +kernel
theorem dX0_turn_51 : decode cX0_turn 51 = .ok (.if_icmp .ge 83, 3) := by decide +kernel
theorem dX0_turn_54 : decode cX0_turn 54 = .ok (.aload_n 0, 1) := by decide +kernel
theorem dX0_turn_55 : decode cX0_turn 55 = .ok (.getfield 21, 3) := by decide +kernel
theorem dX0_turn_58 : decode cX0_turn 58 = .ok (.iload 4, 2) := by decide +kernel
theorem dX0_turn_60 : decode cX0_turn 60 = .ok (.iload 5, 2) := by decide +kernel
theorem dX0_turn_62 : decode cX0_turn 62 = .ok (.iadd, 1) := by decide +kernel
theorem dX0_turn_63 : decode cX0_turn 63 = .ok (.laload, 1) := by decide +kernel
theorem dX0_turn_64 : decode cX0_turn 64 = .ok (.lstore 6, 2) := by decide +kernel
theorem dX0_turn_66 : decode cX0_turn 66 = .ok (.aload_n 0, 1) := by decide +kernel
theorem dX0_turn_67 : decode cX0_turn 67 = .ok (.getfield 25, 3) := by decide +kernel
theorem dX0_turn_70 : decode cX0_turn 70 = .ok (.iload 4, 2) := by decide +kernel
theorem dX0_turn_72 : decode cX0_turn 72 = .ok (.iload 5, 2) := by decide +kernel
theorem dX0_turn_74 : decode cX0_turn 74 = .ok (.iadd, 1) := by decide +kernel
theorem dX0_turn_75 : decode cX0_turn 75 = .ok (.laload, 1) := by decide +kernel
theorem dX0_turn_76 : decode cX0_turn 76 = .ok (.lstore 8, 2) := by decide +kernel
theorem dX0_turn_78 : decode cX0_turn 78 = .ok (.aload_n 0, 1) := by decide +kernel
theorem dX0_turn_79 : decode cX0_turn 79 = .ok (.getfield 21, 3) := by decide +kernel
theorem dX0_turn_82 : decode cX0_turn 82 = .ok (.iload_n 3, 1) := by decide +kernel
theorem dX0_turn_83 : decode cX0_turn 83 = .ok (.iload 5, 2) := by decide +kernel
theorem dX0_turn_85 : decode cX0_turn 85 = .ok (.iadd, 1) := by decide +kernel
theorem dX0_turn_86 : decode cX0_turn 86 = .ok (.iload_n 1, 1) := by decide +kernel
theorem dX0_turn_87 : decode cX0_turn 87 = .ok (.iconst 2, 1) := by decide +kernel
theorem dX0_turn_88 : decode cX0_turn 88 = .ok (.if_icmp .ne 8, 3) := by decide +kernel
theorem dX0_turn_91 : decode cX0_turn 91 = .ok (.lload 8, 2) := by decide +kernel
theorem dX0_turn_93 : decode cX0_turn 93 = .ok (.goto 9, 3) := by decide +kernel
theorem dX0_turn_96 : decode cX0_turn 96 = .ok (.lload 8, 2) := by decide +kernel
theorem dX0_turn_98 : decode cX0_turn 98 = .ok (.ldc2_w 46, 3) := by decide +kernel
theorem dX0_turn_101 : decode cX0_turn 101 = .ok (.lxor, 1) := by decide +kernel
theorem dX0_turn_102 : decode cX0_turn 102 = .ok (.lastore, 1) := by decide +kernel
theorem dX0_turn_103 : decode cX0_turn 103 = .ok (.aload_n 0, 1) := by decide +kernel
theorem dX0_turn_104 : decode cX0_turn 104 = .ok (.getfield 25, 3) := by decide +kernel
theorem dX0_turn_107 : decode cX0_turn 107 = .ok (.iload_n 3, 1) := by decide +kernel
theorem dX0_turn_108 : decode cX0_turn 108 = .ok (.iload 5, 2) := by decide +kernel
theorem dX0_turn_110 : decode cX0_turn 110 = .ok (.iadd, 1) := by decide +kernel
theorem dX0_turn_111 : decode cX0_turn 111 = .ok (.iload_n 1, 1) := by decide +kernel
theorem dX0_turn_112 : decode cX0_turn 112 = .ok (.iconst 2, 1) := by decide +kernel
theorem dX0_turn_113 : decode cX0_turn 113 = .ok (.if_icmp .ne 8, 3) := by decide +kernel
theorem dX0_turn_116 : decode cX0_turn 116 = .ok (.lload 6, 2) := by decide +kernel
theorem dX0_turn_118 : decode cX0_turn 118 = .ok (.goto 9, 3) := by decide +kernel
theorem dX0_turn_121 : decode cX0_turn 121 = .ok (.lload 6, 2) := by decide +kernel
theorem dX0_turn_123 : decode cX0_turn 123 = .ok (.ldc2_w 46, 3) := by decide +kernel
theorem dX0_turn_126 : decode cX0_turn 126 = .ok (.lxor, 1) := by decide +kernel
theorem dX0_turn_127 : decode cX0_turn 127 = .ok (.lastore, 1) := by decide +kernel
theorem dX0_turn_128 : decode cX0_turn 128 = .ok (.iinc 5 1, 3) := by decide +kernel
theorem dX0_turn_131 : decode cX0_turn 131 = .ok (.goto (-84), 3) := by decide +kernel
theorem dX0_turn_134 : decode cX0_turn 134 = .ok (.aload_n 0, 1) := by decide +kernel
theorem dX0_turn_135 : decode cX0_turn 135 = .ok (.iload_n 1, 1) := by decide +kernel
theorem dX0_turn_136 : decode cX0_turn 136 = .ok (.iload_n 1, 1) := by decide +kernel
theorem dX0_turn_137 : decode cX0_turn 137 = .ok (.iconst 2, 1) := by decide +kernel
theorem dX0_turn_138 : decode cX0_turn 138 = .ok (.if_icmp .ne 16, 3) := by decide +kernel
theorem dX0_turn_141 : decode cX0_turn 141 = .ok (.aload_n 0, 1) := by decide +kernel
theorem dX0_turn_142 : decode cX0_turn 142 = .ok (.getfield 17, 3) := by decide +kernel
theorem dX0_turn_145 : decode cX0_turn 145 = .ok (.iload_n 2, 1) := by decide +kernel
theorem dX0_turn_146 : decode cX0_turn 146 = .ok (.baload, 1) := by decide +kernel
theorem dX0_turn_147 : decode cX0_turn 147 = .ok (.ifCond .eq 7, 3) := by decide +kernel
theorem dX0_turn_150 : decode cX0_turn 150 = .ok (.iconst 1, 1) := by decide +kernel
theorem dX0_turn_151 : decode cX0_turn 151 = .ok (.goto 4, 3) := by decide +kernel
theorem dX0_turn_154 : decode cX0_turn 154 = .ok (.iconst 0, 1) := by decide +kernel
theorem dX0_turn_155 : decode cX0_turn 155 = .ok (.invokevirtual 70, 3) := by decide +kernel
theorem dX0_turn_158 : decode cX0_turn 158 = .ok (.ireturn, 1) := by decide +kernel
set_option maxRecDepth 20000 in
theorem ggX0_join_X0_requireFormula : GoodIn wsX0_join wsX0_requireFormula := goodIn_ca (goodIn_r _ [11, 12, 13, 3, 35, 36, 37, 38, 39, 40, 41, 42, 43, 44, 45, 46] (by decide +kernel) (by decide +kernel)) (goodIn_sub (fun _ h => List.mem_cons_of_mem _ (List.mem_append_left _ (List.mem_append_right _ h))) (by decide +kernel))
set_option maxRecDepth 20000 in
theorem gX0_join_X0_requireFormula : GoodIn wsX0_join (wsV RX0 77 RX0 yX0_requireFormula wsX0_requireFormula) := goodIn_app (goodIn_of _ (by decide +kernel)) ggX0_join_X0_requireFormula
set_option maxRecDepth 20000 in
theorem ggX0_join_X0_requireRoom : GoodIn wsX0_join wsX0_requireRoom := goodIn_ca (goodIn_r _ [17, 18, 19, 3, 35, 36, 37, 38, 39, 40, 41, 42, 43, 44, 45, 46] (by decide +kernel) (by decide +kernel)) (goodIn_sub (fun _ h => List.mem_cons_of_mem _ (List.mem_append_right _ h)) (by decide +kernel))
set_option maxRecDepth 20000 in
theorem gX0_join_X0_requireRoom : GoodIn wsX0_join (wsV RX0 56 RX0 yX0_requireRoom wsX0_requireRoom) := goodIn_app (goodIn_of _ (by decide +kernel)) ggX0_join_X0_requireRoom
set_option maxRecDepth 20000 in
theorem ggX0_join_X0_rowOf : GoodIn wsX0_join wsX0_rowOf := goodIn_r _ [22] (by decide +kernel) (by decide +kernel)
set_option maxRecDepth 20000 in
theorem gX0_join_X0_rowOf : GoodIn wsX0_join (va_wsS RX0 63 yX0_rowOf wsX0_rowOf) := goodIn_app (goodIn_of _ (by decide +kernel)) ggX0_join_X0_rowOf
set_option maxRecDepth 20000 in
theorem ggX0_join_X0_joinTrue : GoodIn wsX0_join wsX0_joinTrue := goodIn_r _ [25, 26] (by decide +kernel) (by decide +kernel)
set_option maxRecDepth 20000 in
theorem gX0_join_X0_joinTrue : GoodIn wsX0_join (va_wsS RX0 89 yX0_joinTrue wsX0_joinTrue) := goodIn_app (goodIn_of _ (by decide +kernel)) ggX0_join_X0_joinTrue
set_option maxRecDepth 20000 in
theorem ggX0_join_X0_joinFalse : GoodIn wsX0_join wsX0_joinFalse := goodIn_r _ [29] (by decide +kernel) (by decide +kernel)
set_option maxRecDepth 20000 in
theorem gX0_join_X0_joinFalse : GoodIn wsX0_join (va_wsS RX0 93 yX0_joinFalse wsX0_joinFalse) := goodIn_app (goodIn_of _ (by decide +kernel)) ggX0_join_X0_joinFalse
set_option maxRecDepth 20000 in
theorem ggX0_join_X0_addFormula : GoodIn wsX0_join wsX0_addFormula := goodIn_r _ [33, 3, 34, 6, 35, 36, 37, 38, 39, 40, 41, 42, 43, 44, 45, 46] (by decide +kernel) (by decide +kernel)
set_option maxRecDepth 20000 in
theorem gX0_join_X0_addFormula : GoodIn wsX0_join (wsV RX0 70 RX0 yX0_addFormula wsX0_addFormula) := goodIn_app (goodIn_of _ (by decide +kernel)) ggX0_join_X0_addFormula
theorem dX0_join_0 : decode cX0_join 0 = .ok (.aload_n 0, 1) := by decide +kernel
theorem dX0_join_1 : decode cX0_join 1 = .ok (.iload_n 2, 1) := by decide +kernel
theorem dX0_join_2 : decode cX0_join 2 = .ok (.invokevirtual 77, 3) := by decide +kernel
theorem dX0_join_5 : decode cX0_join 5 = .ok (.aload_n 0, 1) := by decide +kernel
theorem dX0_join_6 : decode cX0_join 6 = .ok (.iload_n 3, 1) := by decide +kernel
theorem dX0_join_7 : decode cX0_join 7 = .ok (.invokevirtual 77, 3) := by decide +kernel
theorem dX0_join_10 : decode cX0_join 10 = .ok (.iload_n 1, 1) := by decide +kernel
theorem dX0_join_11 : decode cX0_join 11 = .ok (.iconst 3, 1) := by decide +kernel
theorem dX0_join_12 : decode cX0_join 12 = .ok (.if_icmp .lt 9, 3) := by decide +kernel
theorem dX0_join_15 : decode cX0_join 15 = .ok (.iload_n 1, 1) := by decide +kernel
theorem dX0_join_16 : decode cX0_join 16 = .ok (.bipush 7, 2) := by decide +kernel
theorem dX0_join_18 : decode cX0_join 18 = .ok (.if_icmp .le 13, 3) := by decide +kernel
theorem dX0_join_21 : decode cX0_join 21 = .ok (.new 80, 3) := by decide +kernel
theorem dX0_join_24 : decode cX0_join 24 = .ok (.dup, 1) := by decide +kernel
theorem dX0_join_25 : decode cX0_join 25 = .ok (.ldc 87, 2) := by decide +kernel
theorem dX0_join_27 : decode cX0_join 27 = .ok (.invokespecial 84, 3) := by decide +kernel
theorem dX0_join_30 : decode cX0_join 30 = .ok (.athrow, 1) := by decide +kernel
theorem dX0_join_31 : decode cX0_join 31 = .ok (.aload_n 0, 1) := by decide +kernel
theorem dX0_join_32 : decode cX0_join 32 = .ok (.invokevirtual 56, 3) := by decide +kernel
theorem dX0_join_35 : decode cX0_join 35 = .ok (.aload_n 0, 1) := by decide +kernel
theorem dX0_join_36 : decode cX0_join 36 = .ok (.getfield 9, 3) := by decide +kernel
theorem dX0_join_39 : decode cX0_join 39 = .ok (.invokestatic 63, 3) := by decide +kernel
theorem dX0_join_42 : decode cX0_join 42 = .ok (.istore 4, 2) := by decide +kernel
theorem dX0_join_44 : decode cX0_join 44 = .ok (.iload_n 2, 1) := by decide +kernel
theorem dX0_join_45 : decode cX0_join 45 = .ok (.invokestatic 63, 3) := by decide +kernel
theorem dX0_join_48 : decode cX0_join 48 = .ok (.istore 5, 2) := by decide +kernel
theorem dX0_join_50 : decode cX0_join 50 = .ok (.iload_n 3, 1) := by decide +kernel
theorem dX0_join_51 : decode cX0_join 51 = .ok (.invokestatic 63, 3) := by decide +kernel
theorem dX0_join_54 : decode cX0_join 54 = .ok (.istore 6, 2) := by decide +kernel
theorem dX0_join_56 : decode cX0_join 56 = .ok (.iconst 0, 1) := by decide +kernel
theorem dX0_join_57 : decode cX0_join 57 = .ok (.istore 7, 2) := by decide +kernel
theorem dX0_join_59 : decode cX0_join 59 = .ok (.iload 7, 2) := by decide +kernel
theorem dX0_join_61 : decode cX0_join 61 = .ok (.bipush 64, 2) := by decide +kernel
theorem dX0_join_63 : decode cX0_join 63 = .ok (.if_icmp .ge 83, 3) := by decide +kernel
theorem dX0_join_66 : decode cX0_join 66 = .ok (.aload_n 0, 1) := by decide +kernel
theorem dX0_join_67 : decode cX0_join 67 = .ok (.getfield 21, 3) := by decide +kernel
theorem dX0_join_70 : decode cX0_join 70 = .ok (.iload 5, 2) := by decide +kernel
theorem dX0_join_72 : decode cX0_join 72 = .ok (.iload 7, 2) := by decide +kernel
theorem dX0_join_74 : decode cX0_join 74 = .ok (.iadd, 1) := by decide +kernel
theorem dX0_join_75 : decode cX0_join 75 = .ok (.laload, 1) := by decide +kernel
theorem dX0_join_76 : decode cX0_join 76 = .ok (.lstore 8, 2) := by decide +kernel
theorem dX0_join_78 : decode cX0_join 78 = .ok (.aload_n 0, 1) := by decide +kernel
theorem dX0_join_79 : decode cX0_join 79 = .ok (.getfield 21, 3) := by decide +kernel
theorem dX0_join_82 : decode cX0_join 82 = .ok (.iload 4, 2) := by decide +kernel
theorem dX0_join_84 : decode cX0_join 84 = .ok (.iload 7, 2) := by decide +kernel
theorem dX0_join_86 : decode cX0_join 86 = .ok (.iadd, 1) := by decide +kernel
theorem dX0_join_87 : decode cX0_join 87 = .ok (.iload_n 1, 1) := by decide +kernel
theorem dX0_join_88 : decode cX0_join 88 = .ok (.lload 8, 2) := by decide +kernel
theorem dX0_join_90 : decode cX0_join 90 = .ok (.aload_n 0, 1) := by decide +kernel
theorem dX0_join_91 : decode cX0_join 91 = .ok (.getfield 21, 3) := by decide +kernel
theorem dX0_join_94 : decode cX0_join 94 = .ok (.iload 6, 2) := by decide +kernel
theorem dX0_join_96 : decode cX0_join 96 = .ok (.iload 7, 2) := by decide +kernel
theorem dX0_join_98 : decode cX0_join 98 = .ok (.iadd, 1) := by decide +kernel
theorem dX0_join_99 : decode cX0_join 99 = .ok (.laload, 1) := by decide +kernel
theorem dX0_join_100 : decode cX0_join 100 = .ok (.invokestatic 89, 3) := by decide +kernel
theorem dX0_join_103 : decode cX0_join 103 = .ok (.lastore, 1) := by decide +kernel
theorem dX0_join_104 : decode cX0_join 104 = .ok (.aload_n 0, 1) := by decide +kernel
theorem dX0_join_105 : decode cX0_join 105 = .ok (.getfield 25, 3) := by decide +kernel
theorem dX0_join_108 : decode cX0_join 108 = .ok (.iload 4, 2) := by decide +kernel
theorem dX0_join_110 : decode cX0_join 110 = .ok (.iload 7, 2) := by decide +kernel
theorem dX0_join_112 : decode cX0_join 112 = .ok (.iadd, 1) := by decide +kernel
theorem dX0_join_113 : decode cX0_join 113 = .ok (.iload_n 1, 1) := by decide +kernel
theorem dX0_join_114 : decode cX0_join 114 = .ok (.lload 8, 2) := by decide +kernel
theorem dX0_join_116 : decode cX0_join 116 = .ok (.aload_n 0, 1) := by decide +kernel
theorem dX0_join_117 : decode cX0_join 117 = .ok (.getfield 25, 3) := by decide +kernel
theorem dX0_join_120 : decode cX0_join 120 = .ok (.iload 5, 2) := by decide +kernel
theorem dX0_join_122 : decode cX0_join 122 = .ok (.iload 7, 2) := by decide +kernel
theorem dX0_join_124 : decode cX0_join 124 = .ok (.iadd, 1) := by decide +kernel
theorem dX0_join_125 : decode cX0_join 125 = .ok (.laload, 1) := by decide +kernel
theorem dX0_join_126 : decode cX0_join 126 = .ok (.aload_n 0, 1) := by decide +kernel
theorem dX0_join_127 : decode cX0_join 127 = .ok (.getfield 25, 3) := by decide +kernel
theorem dX0_join_130 : decode cX0_join 130 = .ok (.iload 6, 2) := by decide +kernel
theorem dX0_join_132 : decode cX0_join 132 = .ok (.iload 7, 2) := by decide +kernel
theorem dX0_join_134 : decode cX0_join 134 = .ok (.iadd, 1) := by decide +kernel
theorem dX0_join_135 : decode cX0_join 135 = .ok (.laload, 1) := by decide +kernel
theorem dX0_join_136 : decode cX0_join 136 = .ok (.invokestatic 93, 3) := by decide +kernel
theorem dX0_join_139 : decode cX0_join 139 = .ok (.lastore, 1) := by decide +kernel
theorem dX0_join_140 : decode cX0_join 140 = .ok (.iinc 7 1, 3) := by decide +kernel
theorem dX0_join_143 : decode cX0_join 143 = .ok (.goto (-84), 3) := by decide +kernel
theorem dX0_join_146 : decode cX0_join 146 = .ok (.aload_n 0, 1) := by decide +kernel
theorem dX0_join_147 : decode cX0_join 147 = .ok (.iload_n 1, 1) := by decide +kernel
theorem dX0_join_148 : decode cX0_join 148 = .ok (.iload_n 1, 1) := by decide +kernel
theorem dX0_join_149 : decode cX0_join 149 = .ok (.bipush 7, 2) := by decide +kernel
theorem dX0_join_151 : decode cX0_join 151 = .ok (.if_icmp .eq 25, 3) := by decide +kernel
theorem dX0_join_154 : decode cX0_join 154 = .ok (.aload_n 0, 1) := by decide +kernel
theorem dX0_join_155 : decode cX0_join 155 = .ok (.getfield 17, 3) := by decide +kernel
theorem dX0_join_158 : decode cX0_join 158 = .ok (.iload_n 2, 1) := by decide +kernel
theorem dX0_join_159 : decode cX0_join 159 = .ok (.baload, 1) := by decide +kernel
theorem dX0_join_160 : decode cX0_join 160 = .ok (.ifCond .eq 16, 3) := by decide +kernel
theorem dX0_join_163 : decode cX0_join 163 = .ok (.aload_n 0, 1) := by decide +kernel
theorem dX0_join_164 : decode cX0_join 164 = .ok (.getfield 17, 3) := by decide +kernel
theorem dX0_join_167 : decode cX0_join 167 = .ok (.iload_n 3, 1) := by decide +kernel
theorem dX0_join_168 : decode cX0_join 168 = .ok (.baload, 1) := by decide +kernel
theorem dX0_join_169 : decode cX0_join 169 = .ok (.ifCond .eq 7, 3) := by decide +kernel
theorem dX0_join_172 : decode cX0_join 172 = .ok (.iconst 1, 1) := by decide +kernel
theorem dX0_join_173 : decode cX0_join 173 = .ok (.goto 4, 3) := by decide +kernel
theorem dX0_join_176 : decode cX0_join 176 = .ok (.iconst 0, 1) := by decide +kernel
theorem dX0_join_177 : decode cX0_join 177 = .ok (.invokevirtual 70, 3) := by decide +kernel
theorem dX0_join_180 : decode cX0_join 180 = .ok (.ireturn, 1) := by decide +kernel
theorem dX0_formulaCount_0 : decode cX0_formulaCount 0 = .ok (.aload_n 0, 1) := by decide +kernel
theorem dX0_formulaCount_1 : decode cX0_formulaCount 1 = .ok (.getfield 9, 3) := by decide +kernel
theorem dX0_formulaCount_4 : decode cX0_formulaCount 4 = .ok (.ireturn, 1) := by decide +kernel
set_option maxRecDepth 20000 in
theorem ggX0_isSteady_X0_requireFormula : GoodIn wsX0_isSteady wsX0_requireFormula := goodIn_ca (goodIn_r _ [6, 7, 8, 9, 10, 11, 12, 13, 14, 15, 16, 17, 18, 19, 20, 21] (by decide +kernel) (by decide +kernel)) (goodIn_sub (fun _ h => List.mem_cons_of_mem _ (List.mem_append_right _ h)) (by decide +kernel))
set_option maxRecDepth 20000 in
theorem gX0_isSteady_X0_requireFormula : GoodIn wsX0_isSteady (wsV RX0 77 RX0 yX0_requireFormula wsX0_requireFormula) := goodIn_app (goodIn_of _ (by decide +kernel)) ggX0_isSteady_X0_requireFormula
theorem dX0_isSteady_0 : decode cX0_isSteady 0 = .ok (.aload_n 0, 1) := by decide +kernel
theorem dX0_isSteady_1 : decode cX0_isSteady 1 = .ok (.iload_n 1, 1) := by decide +kernel
theorem dX0_isSteady_2 : decode cX0_isSteady 2 = .ok (.invokevirtual 77, 3) := by decide +kernel
theorem dX0_isSteady_5 : decode cX0_isSteady 5 = .ok (.aload_n 0, 1) := by decide +kernel
theorem dX0_isSteady_6 : decode cX0_isSteady 6 = .ok (.getfield 17, 3) := by decide +kernel
theorem dX0_isSteady_9 : decode cX0_isSteady 9 = .ok (.iload_n 1, 1) := by decide +kernel
theorem dX0_isSteady_10 : decode cX0_isSteady 10 = .ok (.baload, 1) := by decide +kernel
theorem dX0_isSteady_11 : decode cX0_isSteady 11 = .ok (.ireturn, 1) := by decide +kernel
set_option maxRecDepth 20000 in
theorem ggX0_report_X0_requireSource : GoodIn wsX0_report wsX0_requireSource := goodIn_ca (goodIn_r _ [5, 6, 7] (by decide +kernel) (by decide +kernel)) (goodIn_sub (fun _ h => List.mem_cons_of_mem _ (List.mem_append_left _ (List.mem_append_right _ h))) (by decide +kernel))
set_option maxRecDepth 20000 in
theorem gX0_report_X0_requireSource : GoodIn wsX0_report (va_wsS RX0 97 yX0_requireSource wsX0_requireSource) := goodIn_app (goodIn_of _ (by decide +kernel)) ggX0_report_X0_requireSource
set_option maxRecDepth 20000 in
theorem ggX0_report_X0_requireAtom : GoodIn wsX0_report wsX0_requireAtom := goodIn_ca (goodIn_r _ [10, 6, 7] (by decide +kernel) (by decide +kernel)) (goodIn_sub (fun _ h => List.mem_cons_of_mem _ (List.mem_append_left _ (List.mem_append_right _ h))) (by decide +kernel))
set_option maxRecDepth 20000 in
theorem gX0_report_X0_requireAtom : GoodIn wsX0_report (va_wsS RX0 52 yX0_requireAtom wsX0_requireAtom) := goodIn_app (goodIn_of _ (by decide +kernel)) ggX0_report_X0_requireAtom
set_option maxRecDepth 20000 in
theorem ggX0_report_X0_requireValue : GoodIn wsX0_report wsX0_requireValue := goodIn_ca (goodIn_r _ [13, 14, 15] (by decide +kernel) (by decide +kernel)) (goodIn_sub (fun _ h => List.mem_cons_of_mem _ (List.mem_append_right _ h)) (by decide +kernel))
set_option maxRecDepth 20000 in
theorem gX0_report_X0_requireValue : GoodIn wsX0_report (va_wsS RX0 74 yX0_requireValue wsX0_requireValue) := goodIn_app (goodIn_of _ (by decide +kernel)) ggX0_report_X0_requireValue
set_option maxRecDepth 20000 in
theorem ggX0_report_X0_valueIn : GoodIn wsX0_report wsX0_valueIn := goodIn_r _ [18, 19, 20, 4, 21] (by decide +kernel) (by decide +kernel)
set_option maxRecDepth 20000 in
theorem gX0_report_X0_valueIn : GoodIn wsX0_report (va_wsS RX0 100 yX0_valueIn wsX0_valueIn) := goodIn_app (goodIn_of _ (by decide +kernel)) ggX0_report_X0_valueIn
set_option maxRecDepth 20000 in
theorem ggX0_report_X0_placeOf : GoodIn wsX0_report wsX0_placeOf := goodIn_r _ [21] (by decide +kernel) (by decide +kernel)
set_option maxRecDepth 20000 in
theorem gX0_report_X0_placeOf : GoodIn wsX0_report (va_wsS RX0 59 yX0_placeOf wsX0_placeOf) := goodIn_app (goodIn_of _ (by decide +kernel)) ggX0_report_X0_placeOf
theorem dX0_report_0 : decode cX0_report 0 = .ok (.iload_n 1, 1) := by decide +kernel
theorem dX0_report_1 : decode cX0_report 1 = .ok (.invokestatic 97, 3) := by decide +kernel
theorem dX0_report_4 : decode cX0_report 4 = .ok (.iload_n 2, 1) := by decide +kernel
theorem dX0_report_5 : decode cX0_report 5 = .ok (.invokestatic 52, 3) := by decide +kernel
theorem dX0_report_8 : decode cX0_report 8 = .ok (.iload_n 3, 1) := by decide +kernel
theorem dX0_report_9 : decode cX0_report 9 = .ok (.invokestatic 74, 3) := by decide +kernel
theorem dX0_report_12 : decode cX0_report 12 = .ok (.aload_n 0, 1) := by decide +kernel
theorem dX0_report_13 : decode cX0_report 13 = .ok (.getfield 34, 3) := by decide +kernel
theorem dX0_report_16 : decode cX0_report 16 = .ok (.iload_n 1, 1) := by decide +kernel
theorem dX0_report_17 : decode cX0_report 17 = .ok (.iaload, 1) := by decide +kernel
theorem dX0_report_18 : decode cX0_report 18 = .ok (.iload_n 2, 1) := by decide +kernel
theorem dX0_report_19 : decode cX0_report 19 = .ok (.invokestatic 100, 3) := by decide +kernel
theorem dX0_report_22 : decode cX0_report 22 = .ok (.istore 4, 2) := by decide +kernel
theorem dX0_report_24 : decode cX0_report 24 = .ok (.aload_n 0, 1) := by decide +kernel
theorem dX0_report_25 : decode cX0_report 25 = .ok (.getfield 34, 3) := by decide +kernel
theorem dX0_report_28 : decode cX0_report 28 = .ok (.iload_n 1, 1) := by decide +kernel
theorem dX0_report_29 : decode cX0_report 29 = .ok (.iaload, 1) := by decide +kernel
theorem dX0_report_30 : decode cX0_report 30 = .ok (.iconst 3, 1) := by decide +kernel
theorem dX0_report_31 : decode cX0_report 31 = .ok (.iload_n 2, 1) := by decide +kernel
theorem dX0_report_32 : decode cX0_report 32 = .ok (.invokestatic 59, 3) := by decide +kernel
theorem dX0_report_35 : decode cX0_report 35 = .ok (.ishl, 1) := by decide +kernel
theorem dX0_report_36 : decode cX0_report 36 = .ok (.iconst (-1), 1) := by decide +kernel
theorem dX0_report_37 : decode cX0_report 37 = .ok (.ixor, 1) := by decide +kernel
theorem dX0_report_38 : decode cX0_report 38 = .ok (.iand, 1) := by decide +kernel
theorem dX0_report_39 : decode cX0_report 39 = .ok (.istore 5, 2) := by decide +kernel
theorem dX0_report_41 : decode cX0_report 41 = .ok (.aload_n 0, 1) := by decide +kernel
theorem dX0_report_42 : decode cX0_report 42 = .ok (.getfield 34, 3) := by decide +kernel
theorem dX0_report_45 : decode cX0_report 45 = .ok (.iload_n 1, 1) := by decide +kernel
theorem dX0_report_46 : decode cX0_report 46 = .ok (.iload 5, 2) := by decide +kernel
theorem dX0_report_48 : decode cX0_report 48 = .ok (.iload_n 3, 1) := by decide +kernel
theorem dX0_report_49 : decode cX0_report 49 = .ok (.iload_n 2, 1) := by decide +kernel
theorem dX0_report_50 : decode cX0_report 50 = .ok (.invokestatic 59, 3) := by decide +kernel
theorem dX0_report_53 : decode cX0_report 53 = .ok (.ishl, 1) := by decide +kernel
theorem dX0_report_54 : decode cX0_report 54 = .ok (.ior, 1) := by decide +kernel
theorem dX0_report_55 : decode cX0_report 55 = .ok (.iastore, 1) := by decide +kernel
theorem dX0_report_56 : decode cX0_report 56 = .ok (.iload 4, 2) := by decide +kernel
theorem dX0_report_58 : decode cX0_report 58 = .ok (.ireturn, 1) := by decide +kernel
set_option maxRecDepth 20000 in
theorem ggX0_setTrust_X0_requireSource : GoodIn wsX0_setTrust wsX0_requireSource := goodIn_ca (goodIn_r _ [5, 6, 7] (by decide +kernel) (by decide +kernel)) (goodIn_sub (fun _ h => List.mem_cons_of_mem _ (List.mem_append_left _ (List.mem_append_right _ h))) (by decide +kernel))
set_option maxRecDepth 20000 in
theorem gX0_setTrust_X0_requireSource : GoodIn wsX0_setTrust (va_wsS RX0 97 yX0_requireSource wsX0_requireSource) := goodIn_app (goodIn_of _ (by decide +kernel)) ggX0_setTrust_X0_requireSource
set_option maxRecDepth 20000 in
theorem ggX0_setTrust_X0_requireTrust : GoodIn wsX0_setTrust wsX0_requireTrust := goodIn_ca (goodIn_r _ [10, 11, 12] (by decide +kernel) (by decide +kernel)) (goodIn_sub (fun _ h => List.mem_cons_of_mem _ (List.mem_append_right _ h)) (by decide +kernel))
set_option maxRecDepth 20000 in
theorem gX0_setTrust_X0_requireTrust : GoodIn wsX0_setTrust (va_wsS RX0 104 yX0_requireTrust wsX0_requireTrust) := goodIn_app (goodIn_of _ (by decide +kernel)) ggX0_setTrust_X0_requireTrust
theorem dX0_setTrust_0 : decode cX0_setTrust 0 = .ok (.iload_n 1, 1) := by decide +kernel
theorem dX0_setTrust_1 : decode cX0_setTrust 1 = .ok (.invokestatic 97, 3) := by decide +kernel
theorem dX0_setTrust_4 : decode cX0_setTrust 4 = .ok (.iload_n 2, 1) := by decide +kernel
theorem dX0_setTrust_5 : decode cX0_setTrust 5 = .ok (.invokestatic 104, 3) := by decide +kernel
theorem dX0_setTrust_8 : decode cX0_setTrust 8 = .ok (.aload_n 0, 1) := by decide +kernel
theorem dX0_setTrust_9 : decode cX0_setTrust 9 = .ok (.getfield 28, 3) := by decide +kernel
theorem dX0_setTrust_12 : decode cX0_setTrust 12 = .ok (.iload_n 1, 1) := by decide +kernel
theorem dX0_setTrust_13 : decode cX0_setTrust 13 = .ok (.iaload, 1) := by decide +kernel
theorem dX0_setTrust_14 : decode cX0_setTrust 14 = .ok (.istore_n 3, 1) := by decide +kernel
theorem dX0_setTrust_15 : decode cX0_setTrust 15 = .ok (.aload_n 0, 1) := by decide +kernel
theorem dX0_setTrust_16 : decode cX0_setTrust 16 = .ok (.getfield 28, 3) := by decide +kernel
theorem dX0_setTrust_19 : decode cX0_setTrust 19 = .ok (.iload_n 1, 1) := by decide +kernel
theorem dX0_setTrust_20 : decode cX0_setTrust 20 = .ok (.iload_n 2, 1) := by decide +kernel
theorem dX0_setTrust_21 : decode cX0_setTrust 21 = .ok (.iastore, 1) := by decide +kernel
theorem dX0_setTrust_22 : decode cX0_setTrust 22 = .ok (.iload_n 3, 1) := by decide +kernel
theorem dX0_setTrust_23 : decode cX0_setTrust 23 = .ok (.ireturn, 1) := by decide +kernel
set_option maxRecDepth 20000 in
theorem ggX0_setLeastTrust_X0_requireTrust : GoodIn wsX0_setLeastTrust wsX0_requireTrust := goodIn_ca (goodIn_r _ [5, 6, 7] (by decide +kernel) (by decide +kernel)) (goodIn_sub (fun _ h => List.mem_cons_of_mem _ (List.mem_append_right _ h)) (by decide +kernel))
set_option maxRecDepth 20000 in
theorem gX0_setLeastTrust_X0_requireTrust : GoodIn wsX0_setLeastTrust (va_wsS RX0 104 yX0_requireTrust wsX0_requireTrust) := goodIn_app (goodIn_of _ (by decide +kernel)) ggX0_setLeastTrust_X0_requireTrust
theorem dX0_setLeastTrust_0 : decode cX0_setLeastTrust 0 = .ok (.iload_n 1, 1) := by decide +kernel
theorem dX0_setLeastTrust_1 : decode cX0_setLeastTrust 1 = .ok (.invokestatic 104, 3) := by decide +kernel
theorem dX0_setLeastTrust_4 : decode cX0_setLeastTrust 4 = .ok (.aload_n 0, 1) := by decide +kernel
theorem dX0_setLeastTrust_5 : decode cX0_setLeastTrust 5 = .ok (.getfield 37, 3) := by decide +kernel
theorem dX0_setLeastTrust_8 : decode cX0_setLeastTrust 8 = .ok (.istore_n 2, 1) := by decide +kernel
theorem dX0_setLeastTrust_9 : decode cX0_setLeastTrust 9 = .ok (.aload_n 0, 1) := by decide +kernel
theorem dX0_setLeastTrust_10 : decode cX0_setLeastTrust 10 = .ok (.iload_n 1, 1) := by decide +kernel
theorem dX0_setLeastTrust_11 : decode cX0_setLeastTrust 11 = .ok (.putfield 37, 3) := by decide +kernel
theorem dX0_setLeastTrust_14 : decode cX0_setLeastTrust 14 = .ok (.iload_n 2, 1) := by decide +kernel
theorem dX0_setLeastTrust_15 : decode cX0_setLeastTrust 15 = .ok (.ireturn, 1) := by decide +kernel
set_option maxRecDepth 20000 in
theorem ggX0_let_X0_requireSource : GoodIn wsX0_let wsX0_requireSource := goodIn_ca (goodIn_r _ [5, 6, 7] (by decide +kernel) (by decide +kernel)) (goodIn_sub (fun _ h => List.mem_cons_of_mem _ (List.mem_append_right _ h)) (by decide +kernel))
set_option maxRecDepth 20000 in
theorem gX0_let_X0_requireSource : GoodIn wsX0_let (va_wsS RX0 97 yX0_requireSource wsX0_requireSource) := goodIn_app (goodIn_of _ (by decide +kernel)) ggX0_let_X0_requireSource
set_option maxRecDepth 20000 in
theorem ggX0_let_X0_isHeard : GoodIn wsX0_let wsX0_isHeard := goodIn_r _ [11, 1, 12, 13, 14, 15, 16, 17, 18, 19, 20, 21, 22, 23, 24, 25] (by decide +kernel) (by decide +kernel)
set_option maxRecDepth 20000 in
theorem gX0_let_X0_isHeard : GoodIn wsX0_let (wsV RX0 107 RX0 yX0_isHeard wsX0_isHeard) := goodIn_app (goodIn_of _ (by decide +kernel)) ggX0_let_X0_isHeard
theorem dX0_let_0 : decode cX0_let 0 = .ok (.iload_n 1, 1) := by decide +kernel
theorem dX0_let_1 : decode cX0_let 1 = .ok (.invokestatic 97, 3) := by decide +kernel
theorem dX0_let_4 : decode cX0_let 4 = .ok (.aload_n 0, 1) := by decide +kernel
theorem dX0_let_5 : decode cX0_let 5 = .ok (.getfield 31, 3) := by decide +kernel
theorem dX0_let_8 : decode cX0_let 8 = .ok (.iload_n 1, 1) := by decide +kernel
theorem dX0_let_9 : decode cX0_let 9 = .ok (.iload_n 2, 1) := by decide +kernel
theorem dX0_let_10 : decode cX0_let 10 = .ok (.bastore, 1) := by decide +kernel
theorem dX0_let_11 : decode cX0_let 11 = .ok (.aload_n 0, 1) := by decide +kernel
theorem dX0_let_12 : decode cX0_let 12 = .ok (.iload_n 1, 1) := by decide +kernel
theorem dX0_let_13 : decode cX0_let 13 = .ok (.invokevirtual 107, 3) := by decide +kernel
theorem dX0_let_16 : decode cX0_let 16 = .ok (.ireturn, 1) := by decide +kernel
set_option maxRecDepth 20000 in
theorem ggX0_setRule_X0_requireAtom : GoodIn wsX0_setRule wsX0_requireAtom := goodIn_ca (goodIn_r _ [5, 6, 7] (by decide +kernel) (by decide +kernel)) (goodIn_sub (fun _ h => List.mem_cons_of_mem _ (List.mem_append_left _ (List.mem_append_right _ h))) (by decide +kernel))
set_option maxRecDepth 20000 in
theorem gX0_setRule_X0_requireAtom : GoodIn wsX0_setRule (va_wsS RX0 52 yX0_requireAtom wsX0_requireAtom) := goodIn_app (goodIn_of _ (by decide +kernel)) ggX0_setRule_X0_requireAtom
set_option maxRecDepth 20000 in
theorem ggX0_setRule_X0_requireFormula : GoodIn wsX0_setRule wsX0_requireFormula := goodIn_ca (goodIn_r _ [11, 6, 7, 12, 20, 21, 22, 23, 24, 25, 26, 27, 28, 29, 30, 31] (by decide +kernel) (by decide +kernel)) (goodIn_sub (fun _ h => List.mem_cons_of_mem _ (List.mem_append_left _ (List.mem_append_right _ h))) (by decide +kernel))
set_option maxRecDepth 20000 in
theorem gX0_setRule_X0_requireFormula : GoodIn wsX0_setRule (wsV RX0 77 RX0 yX0_requireFormula wsX0_requireFormula) := goodIn_app (goodIn_of _ (by decide +kernel)) ggX0_setRule_X0_requireFormula
set_option maxRecDepth 20000 in
theorem ggX0_setRule_X0_requireSteady : GoodIn wsX0_setRule wsX0_requireSteady := goodIn_ca (goodIn_r _ [16, 17, 18, 19, 20, 21, 22, 23, 24, 25, 26, 27, 28, 29, 30, 31] (by decide +kernel) (by decide +kernel)) (goodIn_sub (fun _ h => List.mem_cons_of_mem _ (List.mem_append_right _ h)) (by decide +kernel))
set_option maxRecDepth 20000 in
theorem gX0_setRule_X0_requireSteady : GoodIn wsX0_setRule (wsV RX0 111 RX0 yX0_requireSteady wsX0_requireSteady) := goodIn_app (goodIn_of _ (by decide +kernel)) ggX0_setRule_X0_requireSteady
theorem dX0_setRule_0 : decode cX0_setRule 0 = .ok (.iload_n 1, 1) := by decide +kernel
theorem dX0_setRule_1 : decode cX0_setRule 1 = .ok (.invokestatic 52, 3) := by decide +kernel
theorem dX0_setRule_4 : decode cX0_setRule 4 = .ok (.iload_n 2, 1) := by decide +kernel
theorem dX0_setRule_5 : decode cX0_setRule 5 = .ok (.iconst (-1), 1) := by decide +kernel
theorem dX0_setRule_6 : decode cX0_setRule 6 = .ok (.if_icmp .eq 13, 3) := by decide +kernel
theorem dX0_setRule_9 : decode cX0_setRule 9 = .ok (.aload_n 0, 1) := by decide +kernel
theorem dX0_setRule_10 : decode cX0_setRule 10 = .ok (.iload_n 2, 1) := by decide +kernel
theorem dX0_setRule_11 : decode cX0_setRule 11 = .ok (.invokevirtual 77, 3) := by decide +kernel
theorem dX0_setRule_14 : decode cX0_setRule 14 = .ok (.aload_n 0, 1) := by decide +kernel
theorem dX0_setRule_15 : decode cX0_setRule 15 = .ok (.iload_n 2, 1) := by decide +kernel
theorem dX0_setRule_16 : decode cX0_setRule 16 = .ok (.invokevirtual 111, 3) := by decide +kernel
theorem dX0_setRule_19 : decode cX0_setRule 19 = .ok (.aload_n 0, 1) := by decide +kernel
theorem dX0_setRule_20 : decode cX0_setRule 20 = .ok (.getfield 40, 3) := by decide +kernel
theorem dX0_setRule_23 : decode cX0_setRule 23 = .ok (.iload_n 1, 1) := by decide +kernel
theorem dX0_setRule_24 : decode cX0_setRule 24 = .ok (.iaload, 1) := by decide +kernel
theorem dX0_setRule_25 : decode cX0_setRule 25 = .ok (.istore_n 3, 1) := by decide +kernel
theorem dX0_setRule_26 : decode cX0_setRule 26 = .ok (.aload_n 0, 1) := by decide +kernel
theorem dX0_setRule_27 : decode cX0_setRule 27 = .ok (.getfield 40, 3) := by decide +kernel
theorem dX0_setRule_30 : decode cX0_setRule 30 = .ok (.iload_n 1, 1) := by decide +kernel
theorem dX0_setRule_31 : decode cX0_setRule 31 = .ok (.iload_n 2, 1) := by decide +kernel
theorem dX0_setRule_32 : decode cX0_setRule 32 = .ok (.iastore, 1) := by decide +kernel
theorem dX0_setRule_33 : decode cX0_setRule 33 = .ok (.iload_n 3, 1) := by decide +kernel
theorem dX0_setRule_34 : decode cX0_setRule 34 = .ok (.ireturn, 1) := by decide +kernel
set_option maxRecDepth 20000 in
theorem ggX0_given_X0_requireAtom : GoodIn wsX0_given wsX0_requireAtom := goodIn_ca (goodIn_r _ [4, 5, 6] (by decide +kernel) (by decide +kernel)) (goodIn_sub (fun _ h => List.mem_cons_of_mem _ (List.mem_append_right _ h)) (by decide +kernel))
set_option maxRecDepth 20000 in
theorem gX0_given_X0_requireAtom : GoodIn wsX0_given (va_wsS RX0 52 yX0_requireAtom wsX0_requireAtom) := goodIn_app (goodIn_of _ (by decide +kernel)) ggX0_given_X0_requireAtom
set_option maxRecDepth 20000 in
theorem ggX0_given_X0_heard : GoodIn wsX0_given wsX0_heard := goodIn_r _ [10, 11, 12, 13, 3, 14, 15, 16, 17, 29, 30, 31, 32, 33, 34, 35, 36, 37, 38, 39, 40] (by decide +kernel) (by decide +kernel)
set_option maxRecDepth 20000 in
theorem gX0_given_X0_heard : GoodIn wsX0_given (wsV RX0 114 RX0 yX0_heard wsX0_heard) := goodIn_app (goodIn_of _ (by decide +kernel)) ggX0_given_X0_heard
set_option maxRecDepth 20000 in
theorem ggX0_given_X0_givenState : GoodIn wsX0_given wsX0_givenState := goodIn_r _ [21, 22, 29, 30, 31, 32, 33, 34, 35, 36, 37, 38, 39, 40] (by decide +kernel) (by decide +kernel)
set_option maxRecDepth 20000 in
theorem gX0_given_X0_givenState : GoodIn wsX0_given (wsV RX0 118 RX0 yX0_givenState wsX0_givenState) := goodIn_app (goodIn_of _ (by decide +kernel)) ggX0_given_X0_givenState
set_option maxRecDepth 20000 in
theorem ggX0_given_X0_valueIn : GoodIn wsX0_given wsX0_valueIn := goodIn_r _ [25, 26, 27, 3, 28] (by decide +kernel) (by decide +kernel)
set_option maxRecDepth 20000 in
theorem gX0_given_X0_valueIn : GoodIn wsX0_given (va_wsS RX0 100 yX0_valueIn wsX0_valueIn) := goodIn_app (goodIn_of _ (by decide +kernel)) ggX0_given_X0_valueIn
theorem dX0_given_0 : decode cX0_given 0 = .ok (.iload_n 1, 1) := by decide +kernel
theorem dX0_given_1 : decode cX0_given 1 = .ok (.invokestatic 52, 3) := by decide +kernel
theorem dX0_given_4 : decode cX0_given 4 = .ok (.aload_n 0, 1) := by decide +kernel
theorem dX0_given_5 : decode cX0_given 5 = .ok (.aload_n 0, 1) := by decide +kernel
theorem dX0_given_6 : decode cX0_given 6 = .ok (.invokevirtual 114, 3) := by decide +kernel
theorem dX0_given_9 : decode cX0_given 9 = .ok (.invokevirtual 118, 3) := by decide +kernel
theorem dX0_given_12 : decode cX0_given 12 = .ok (.iload_n 1, 1) := by decide +kernel
theorem dX0_given_13 : decode cX0_given 13 = .ok (.invokestatic 100, 3) := by decide +kernel
theorem dX0_given_16 : decode cX0_given 16 = .ok (.ireturn, 1) := by decide +kernel
set_option maxRecDepth 20000 in
theorem ggX0_settled_X0_requireAtom : GoodIn wsX0_settled wsX0_requireAtom := goodIn_ca (goodIn_r _ [4, 5, 6] (by decide +kernel) (by decide +kernel)) (goodIn_sub (fun _ h => List.mem_cons_of_mem _ (List.mem_append_right _ h)) (by decide +kernel))
set_option maxRecDepth 20000 in
theorem gX0_settled_X0_requireAtom : GoodIn wsX0_settled (va_wsS RX0 52 yX0_requireAtom wsX0_requireAtom) := goodIn_app (goodIn_of _ (by decide +kernel)) ggX0_settled_X0_requireAtom
set_option maxRecDepth 20000 in
theorem ggX0_settled_X0_settledNow : GoodIn wsX0_settled wsX0_settledNow := goodIn_r _ [10, 11, 12, 13, 3, 14, 15, 16, 17, 18, 19, 20, 21, 22, 23, 24, 25, 26, 27, 28, 29, 30, 31, 32, 33, 34, 35, 36, 37, 38, 39, 40, 41, 42, 43, 44, 45, 46, 47, 51, 52, 53, 54, 55, 56, 57, 58, 59, 60, 61, 62] (by decide +kernel) (by decide +kernel)
set_option maxRecDepth 20000 in
theorem gX0_settled_X0_settledNow : GoodIn wsX0_settled (wsV RX0 121 RX0 yX0_settledNow wsX0_settledNow) := goodIn_app (goodIn_of _ (by decide +kernel)) ggX0_settled_X0_settledNow
set_option maxRecDepth 20000 in
theorem ggX0_settled_X0_valueIn : GoodIn wsX0_settled wsX0_valueIn := goodIn_r _ [50, 45, 46, 3, 47] (by decide +kernel) (by decide +kernel)
set_option maxRecDepth 20000 in
theorem gX0_settled_X0_valueIn : GoodIn wsX0_settled (va_wsS RX0 100 yX0_valueIn wsX0_valueIn) := goodIn_app (goodIn_of _ (by decide +kernel)) ggX0_settled_X0_valueIn
theorem dX0_settled_0 : decode cX0_settled 0 = .ok (.iload_n 1, 1) := by decide +kernel
theorem dX0_settled_1 : decode cX0_settled 1 = .ok (.invokestatic 52, 3) := by decide +kernel
theorem dX0_settled_4 : decode cX0_settled 4 = .ok (.aload_n 0, 1) := by decide +kernel
theorem dX0_settled_5 : decode cX0_settled 5 = .ok (.invokevirtual 121, 3) := by decide +kernel
theorem dX0_settled_8 : decode cX0_settled 8 = .ok (.iload_n 1, 1) := by decide +kernel
theorem dX0_settled_9 : decode cX0_settled 9 = .ok (.invokestatic 100, 3) := by decide +kernel
theorem dX0_settled_12 : decode cX0_settled 12 = .ok (.ireturn, 1) := by decide +kernel
set_option maxRecDepth 20000 in
theorem ggX0_rounds_X0_heard : GoodIn wsX0_rounds wsX0_heard := goodIn_r _ [5, 6, 7, 8, 4, 9, 10, 11, 12, 35, 36, 37, 38, 39, 40, 41, 42, 43, 44, 45, 46] (by decide +kernel) (by decide +kernel)
set_option maxRecDepth 20000 in
theorem gX0_rounds_X0_heard : GoodIn wsX0_rounds (wsV RX0 114 RX0 yX0_heard wsX0_heard) := goodIn_app (goodIn_of _ (by decide +kernel)) ggX0_rounds_X0_heard
set_option maxRecDepth 20000 in
theorem ggX0_rounds_X0_givenState : GoodIn wsX0_rounds wsX0_givenState := goodIn_r _ [16, 17, 35, 36, 37, 38, 39, 40, 41, 42, 43, 44, 45, 46] (by decide +kernel) (by decide +kernel)
set_option maxRecDepth 20000 in
theorem gX0_rounds_X0_givenState : GoodIn wsX0_rounds (wsV RX0 118 RX0 yX0_givenState wsX0_givenState) := goodIn_app (goodIn_of _ (by decide +kernel)) ggX0_rounds_X0_givenState
set_option maxRecDepth 20000 in
theorem ggX0_rounds_X0_nextState : GoodIn wsX0_rounds wsX0_nextState := goodIn_r _ [21, 22, 23, 24, 25, 4, 26, 27, 28, 29, 30, 31, 32, 33, 34, 35, 36, 37, 38, 39, 40, 41, 42, 43, 44, 45, 46] (by decide +kernel) (by decide +kernel)
set_option maxRecDepth 20000 in
theorem gX0_rounds_X0_nextState : GoodIn wsX0_rounds (wsV RX0 124 RX0 yX0_nextState wsX0_nextState) := goodIn_app (goodIn_of _ (by decide +kernel)) ggX0_rounds_X0_nextState
theorem dX0_rounds_0 : decode cX0_rounds 0 = .ok (.aload_n 0, 1) := by decide +kernel
theorem dX0_rounds_1 : decode cX0_rounds 1 = .ok (.aload_n 0, 1) := by decide +kernel
theorem dX0_rounds_2 : decode cX0_rounds 2 = .ok (.invokevirtual 114, 3) := by decide +kernel
theorem dX0_rounds_5 : decode cX0_rounds 5 = .ok (.invokevirtual 118, 3) := by decide +kernel
theorem dX0_rounds_8 : decode cX0_rounds 8 = .ok (.istore_n 1, 1) := by decide +kernel
theorem dX0_rounds_9 : decode cX0_rounds 9 = .ok (.iload_n 1, 1) := by decide +kernel
theorem dX0_rounds_10 : decode cX0_rounds 10 = .ok (.istore_n 2, 1) := by decide +kernel
theorem dX0_rounds_11 : decode cX0_rounds 11 = .ok (.iconst 0, 1) := by decide +kernel
theorem dX0_rounds_12 : decode cX0_rounds 12 = .ok (.istore_n 3, 1) := by decide +kernel
theorem dX0_rounds_13 : decode cX0_rounds 13 = .ok (.iload_n 3, 1) := by decide +kernel
theorem dX0_rounds_14 : decode cX0_rounds 14 = .ok (.bipush 12, 2) := by decide +kernel
theorem dX0_rounds_16 : decode cX0_rounds 16 = .ok (.if_icmp .ge 28, 3) := by decide +kernel
theorem dX0_rounds_19 : decode cX0_rounds 19 = .ok (.aload_n 0, 1) := by decide +kernel
theorem dX0_rounds_20 : decode cX0_rounds 20 = .ok (.iload_n 1, 1) := by decide +kernel
theorem dX0_rounds_21 : decode cX0_rounds 21 = .ok (.iload_n 2, 1) := by decide +kernel
theorem dX0_rounds_22 : decode cX0_rounds 22 = .ok (.invokevirtual 124, 3) := by decide +kernel
theorem dX0_rounds_25 : decode cX0_rounds 25 = .ok (.istore 4, 2) := by decide +kernel
theorem dX0_rounds_27 : decode cX0_rounds 27 = .ok (.iload 4, 2) := by decide +kernel
theorem dX0_rounds_29 : decode cX0_rounds 29 = .ok (.iload_n 2, 1) := by decide +kernel
theorem dX0_rounds_30 : decode cX0_rounds 30 = .ok (.if_icmp .ne 5, 3) := by decide +kernel
theorem dX0_rounds_33 : decode cX0_rounds 33 = .ok (.iload_n 3, 1) := by decide +kernel
theorem dX0_rounds_34 : decode cX0_rounds 34 = .ok (.ireturn, 1) := by decide +kernel
theorem dX0_rounds_35 : decode cX0_rounds 35 = .ok (.iload 4, 2) := by decide +kernel
theorem dX0_rounds_37 : decode cX0_rounds 37 = .ok (.istore_n 2, 1) := by decide +kernel
theorem dX0_rounds_38 : decode cX0_rounds 38 = .ok (.iinc 3 1, 3) := by decide +kernel
theorem dX0_rounds_41 : decode cX0_rounds 41 = .ok (.goto (-28), 3) := by decide +kernel
theorem dX0_rounds_44 : decode cX0_rounds 44 = .ok (.bipush 12, 2) := by decide +kernel
theorem dX0_rounds_46 : decode cX0_rounds 46 = .ok (.ireturn, 1) := by decide +kernel
set_option maxRecDepth 20000 in
theorem ggX0_since_X0_requireAtom : GoodIn wsX0_since wsX0_requireAtom := goodIn_ca (goodIn_r _ [4, 5, 6] (by decide +kernel) (by decide +kernel)) (goodIn_sub (fun _ h => List.mem_cons_of_mem _ (List.mem_append_right _ h)) (by decide +kernel))
set_option maxRecDepth 20000 in
theorem gX0_since_X0_requireAtom : GoodIn wsX0_since (va_wsS RX0 52 yX0_requireAtom wsX0_requireAtom) := goodIn_app (goodIn_of _ (by decide +kernel)) ggX0_since_X0_requireAtom
set_option maxRecDepth 20000 in
theorem ggX0_since_X0_heard : GoodIn wsX0_since wsX0_heard := goodIn_r _ [10, 11, 12, 13, 3, 14, 15, 16, 17, 46, 47, 48, 49, 50, 51, 52, 53, 54, 55, 56, 57] (by decide +kernel) (by decide +kernel)
set_option maxRecDepth 20000 in
theorem gX0_since_X0_heard : GoodIn wsX0_since (wsV RX0 114 RX0 yX0_heard wsX0_heard) := goodIn_app (goodIn_of _ (by decide +kernel)) ggX0_since_X0_heard
set_option maxRecDepth 20000 in
theorem ggX0_since_X0_givenState : GoodIn wsX0_since wsX0_givenState := goodIn_r _ [21, 22, 46, 47, 48, 49, 50, 51, 52, 53, 54, 55, 56, 57] (by decide +kernel) (by decide +kernel)
set_option maxRecDepth 20000 in
theorem gX0_since_X0_givenState : GoodIn wsX0_since (wsV RX0 118 RX0 yX0_givenState wsX0_givenState) := goodIn_app (goodIn_of _ (by decide +kernel)) ggX0_since_X0_givenState
set_option maxRecDepth 20000 in
theorem ggX0_since_X0_valueIn : GoodIn wsX0_since wsX0_valueIn := goodIn_r _ [25, 26, 27, 3, 28] (by decide +kernel) (by decide +kernel)
set_option maxRecDepth 20000 in
theorem gX0_since_X0_valueIn : GoodIn wsX0_since (va_wsS RX0 100 yX0_valueIn wsX0_valueIn) := goodIn_app (goodIn_of _ (by decide +kernel)) ggX0_since_X0_valueIn
set_option maxRecDepth 20000 in
theorem ggX0_since_X0_isTold : GoodIn wsX0_since wsX0_isTold := goodIn_r _ [31] (by decide +kernel) (by decide +kernel)
set_option maxRecDepth 20000 in
theorem gX0_since_X0_isTold : GoodIn wsX0_since (va_wsS RX0 127 yX0_isTold wsX0_isTold) := goodIn_app (goodIn_of _ (by decide +kernel)) ggX0_since_X0_isTold
set_option maxRecDepth 20000 in
theorem ggX0_since_X0_nextState : GoodIn wsX0_since wsX0_nextState := goodIn_r _ [35, 36, 37, 38, 39, 3, 40, 41, 42, 43, 44, 45, 26, 27, 28, 46, 47, 48, 49, 50, 51, 52, 53, 54, 55, 56, 57] (by decide +kernel) (by decide +kernel)
set_option maxRecDepth 20000 in
theorem gX0_since_X0_nextState : GoodIn wsX0_since (wsV RX0 124 RX0 yX0_nextState wsX0_nextState) := goodIn_app (goodIn_of _ (by decide +kernel)) ggX0_since_X0_nextState
theorem dX0_since_0 : decode cX0_since 0 = .ok (.iload_n 1, 1) := by decide +kernel
theorem dX0_since_1 : decode cX0_since 1 = .ok (.invokestatic 52, 3) := by decide +kernel
theorem dX0_since_4 : decode cX0_since 4 = .ok (.aload_n 0, 1) := by decide +kernel
theorem dX0_since_5 : decode cX0_since 5 = .ok (.aload_n 0, 1) := by decide +kernel
theorem dX0_since_6 : decode cX0_since 6 = .ok (.invokevirtual 114, 3) := by decide +kernel
theorem dX0_since_9 : decode cX0_since 9 = .ok (.invokevirtual 118, 3) := by decide +kernel
theorem dX0_since_12 : decode cX0_since 12 = .ok (.istore_n 3, 1) := by decide +kernel
theorem dX0_since_13 : decode cX0_since 13 = .ok (.iload_n 3, 1) := by decide +kernel
theorem dX0_since_14 : decode cX0_since 14 = .ok (.istore 4, 2) := by decide +kernel
theorem dX0_since_16 : decode cX0_since 16 = .ok (.iconst 0, 1) := by decide +kernel
theorem dX0_since_17 : decode cX0_since 17 = .ok (.istore 5, 2) := by decide +kernel
theorem dX0_since_19 : decode cX0_since 19 = .ok (.iload 5, 2) := by decide +kernel
theorem dX0_since_21 : decode cX0_since 21 = .ok (.bipush 12, 2) := by decide +kernel
theorem dX0_since_23 : decode cX0_since 23 = .ok (.if_icmp .gt 34, 3) := by decide +kernel
theorem dX0_since_26 : decode cX0_since 26 = .ok (.iload 4, 2) := by decide +kernel
theorem dX0_since_28 : decode cX0_since 28 = .ok (.iload_n 1, 1) := by decide +kernel
theorem dX0_since_29 : decode cX0_since 29 = .ok (.invokestatic 100, 3) := by decide +kernel
theorem dX0_since_32 : decode cX0_since 32 = .ok (.iload_n 2, 1) := by decide +kernel
theorem dX0_since_33 : decode cX0_since 33 = .ok (.invokestatic 127, 3) := by decide +kernel
theorem dX0_since_36 : decode cX0_since 36 = .ok (.ifCond .eq 6, 3) := by decide +kernel
theorem dX0_since_39 : decode cX0_since 39 = .ok (.iload 5, 2) := by decide +kernel
theorem dX0_since_41 : decode cX0_since 41 = .ok (.ireturn, 1) := by decide +kernel
theorem dX0_since_42 : decode cX0_since 42 = .ok (.aload_n 0, 1) := by decide +kernel
theorem dX0_since_43 : decode cX0_since 43 = .ok (.iload_n 3, 1) := by decide +kernel
theorem dX0_since_44 : decode cX0_since 44 = .ok (.iload 4, 2) := by decide +kernel
theorem dX0_since_46 : decode cX0_since 46 = .ok (.invokevirtual 124, 3) := by decide +kernel
theorem dX0_since_49 : decode cX0_since 49 = .ok (.istore 4, 2) := by decide +kernel
theorem dX0_since_51 : decode cX0_since 51 = .ok (.iinc 5 1, 3) := by decide +kernel
theorem dX0_since_54 : decode cX0_since 54 = .ok (.goto (-35), 3) := by decide +kernel
theorem dX0_since_57 : decode cX0_since 57 = .ok (.iconst (-1), 1) := by decide +kernel
theorem dX0_since_58 : decode cX0_since 58 = .ok (.ireturn, 1) := by decide +kernel
set_option maxRecDepth 20000 in
theorem ggX0_value_X0_requireFormula : GoodIn wsX0_value wsX0_requireFormula := goodIn_ca (goodIn_r _ [5, 6, 7, 8, 50, 51, 52, 53, 54, 55, 56, 57, 58, 59, 60, 61] (by decide +kernel) (by decide +kernel)) (goodIn_sub (fun _ h => List.mem_cons_of_mem _ (List.mem_append_right _ h)) (by decide +kernel))
set_option maxRecDepth 20000 in
theorem gX0_value_X0_requireFormula : GoodIn wsX0_value (wsV RX0 77 RX0 yX0_requireFormula wsX0_requireFormula) := goodIn_app (goodIn_of _ (by decide +kernel)) ggX0_value_X0_requireFormula
set_option maxRecDepth 20000 in
theorem ggX0_value_X0_settledNow : GoodIn wsX0_value wsX0_settledNow := goodIn_r _ [12, 13, 14, 15, 4, 16, 17, 18, 19, 20, 21, 22, 23, 24, 25, 26, 27, 28, 29, 30, 31, 32, 33, 34, 35, 36, 37, 38, 39, 40, 41, 42, 43, 44, 45, 46, 47, 48, 49, 50, 51, 52, 53, 54, 55, 56, 57, 58, 59, 60, 61] (by decide +kernel) (by decide +kernel)
set_option maxRecDepth 20000 in
theorem gX0_value_X0_settledNow : GoodIn wsX0_value (wsV RX0 121 RX0 yX0_settledNow wsX0_settledNow) := goodIn_app (goodIn_of _ (by decide +kernel)) ggX0_value_X0_settledNow
set_option maxRecDepth 20000 in
theorem ggX0_value_X0_lookUp : GoodIn wsX0_value wsX0_lookUp := goodIn_r _ [41, 42, 43, 44, 45, 4, 46, 50, 51, 52, 53, 54, 55, 56, 57, 58, 59, 60, 61] (by decide +kernel) (by decide +kernel)
set_option maxRecDepth 20000 in
theorem gX0_value_X0_lookUp : GoodIn wsX0_value (wsV RX0 131 RX0 yX0_lookUp wsX0_lookUp) := goodIn_app (goodIn_of _ (by decide +kernel)) ggX0_value_X0_lookUp
theorem dX0_value_0 : decode cX0_value 0 = .ok (.aload_n 0, 1) := by decide +kernel
theorem dX0_value_1 : decode cX0_value 1 = .ok (.iload_n 1, 1) := by decide +kernel
theorem dX0_value_2 : decode cX0_value 2 = .ok (.invokevirtual 77, 3) := by decide +kernel
theorem dX0_value_5 : decode cX0_value 5 = .ok (.aload_n 0, 1) := by decide +kernel
theorem dX0_value_6 : decode cX0_value 6 = .ok (.iload_n 1, 1) := by decide +kernel
theorem dX0_value_7 : decode cX0_value 7 = .ok (.aload_n 0, 1) := by decide +kernel
theorem dX0_value_8 : decode cX0_value 8 = .ok (.invokevirtual 121, 3) := by decide +kernel
theorem dX0_value_11 : decode cX0_value 11 = .ok (.invokevirtual 131, 3) := by decide +kernel
theorem dX0_value_14 : decode cX0_value 14 = .ok (.ireturn, 1) := by decide +kernel
set_option maxRecDepth 20000 in
theorem ggX0_conflicts_X0_settledNow : GoodIn wsX0_conflicts wsX0_settledNow := goodIn_r _ [5, 6, 7, 8, 4, 9, 10, 11, 12, 13, 14, 15, 16, 17, 18, 19, 20, 21, 22, 23, 24, 25, 26, 27, 28, 29, 30, 31, 32, 33, 34, 35, 36, 37, 38, 39, 40, 41, 42, 49, 50, 51, 52, 53, 54, 55, 56, 57, 58, 59, 60] (by decide +kernel) (by decide +kernel)
set_option maxRecDepth 20000 in
theorem gX0_conflicts_X0_settledNow : GoodIn wsX0_conflicts (wsV RX0 121 RX0 yX0_settledNow wsX0_settledNow) := goodIn_app (goodIn_of _ (by decide +kernel)) ggX0_conflicts_X0_settledNow
set_option maxRecDepth 20000 in
theorem ggX0_conflicts_X0_atomsWith : GoodIn wsX0_conflicts wsX0_atomsWith := goodIn_r _ [45, 46, 47, 4, 48, 40, 41, 42] (by decide +kernel) (by decide +kernel)
set_option maxRecDepth 20000 in
theorem gX0_conflicts_X0_atomsWith : GoodIn wsX0_conflicts (va_wsS RX0 134 yX0_atomsWith wsX0_atomsWith) := goodIn_app (goodIn_of _ (by decide +kernel)) ggX0_conflicts_X0_atomsWith
theorem dX0_conflicts_0 : decode cX0_conflicts 0 = .ok (.aload_n 0, 1) := by decide +kernel
theorem dX0_conflicts_1 : decode cX0_conflicts 1 = .ok (.invokevirtual 121, 3) := by decide +kernel
theorem dX0_conflicts_4 : decode cX0_conflicts 4 = .ok (.iconst 3, 1) := by decide +kernel
theorem dX0_conflicts_5 : decode cX0_conflicts 5 = .ok (.invokestatic 134, 3) := by decide +kernel
theorem dX0_conflicts_8 : decode cX0_conflicts 8 = .ok (.ireturn, 1) := by decide +kernel
set_option maxRecDepth 20000 in
theorem ggX0_gaps_X0_settledNow : GoodIn wsX0_gaps wsX0_settledNow := goodIn_r _ [5, 6, 7, 8, 4, 9, 10, 11, 12, 13, 14, 15, 16, 17, 18, 19, 20, 21, 22, 23, 24, 25, 26, 27, 28, 29, 30, 31, 32, 33, 34, 35, 36, 37, 38, 39, 40, 41, 42, 49, 50, 51, 52, 53, 54, 55, 56, 57, 58, 59, 60] (by decide +kernel) (by decide +kernel)
set_option maxRecDepth 20000 in
theorem gX0_gaps_X0_settledNow : GoodIn wsX0_gaps (wsV RX0 121 RX0 yX0_settledNow wsX0_settledNow) := goodIn_app (goodIn_of _ (by decide +kernel)) ggX0_gaps_X0_settledNow
set_option maxRecDepth 20000 in
theorem ggX0_gaps_X0_atomsWith : GoodIn wsX0_gaps wsX0_atomsWith := goodIn_r _ [45, 46, 47, 4, 48, 40, 41, 42] (by decide +kernel) (by decide +kernel)
set_option maxRecDepth 20000 in
theorem gX0_gaps_X0_atomsWith : GoodIn wsX0_gaps (va_wsS RX0 134 yX0_atomsWith wsX0_atomsWith) := goodIn_app (goodIn_of _ (by decide +kernel)) ggX0_gaps_X0_atomsWith
theorem dX0_gaps_0 : decode cX0_gaps 0 = .ok (.aload_n 0, 1) := by decide +kernel
theorem dX0_gaps_1 : decode cX0_gaps 1 = .ok (.invokevirtual 121, 3) := by decide +kernel
theorem dX0_gaps_4 : decode cX0_gaps 4 = .ok (.iconst 0, 1) := by decide +kernel
theorem dX0_gaps_5 : decode cX0_gaps 5 = .ok (.invokestatic 134, 3) := by decide +kernel
theorem dX0_gaps_8 : decode cX0_gaps 8 = .ok (.ireturn, 1) := by decide +kernel
set_option maxRecDepth 20000 in
theorem ggX0_discord_X0_settledNow : GoodIn wsX0_discord wsX0_settledNow := goodIn_r _ [5, 6, 7, 8, 4, 9, 10, 11, 12, 13, 14, 15, 16, 17, 18, 19, 20, 21, 22, 23, 24, 25, 26, 27, 28, 29, 30, 31, 32, 33, 34, 35, 36, 37, 38, 39, 40, 41, 42, 56, 57, 58, 59, 60, 61, 62, 63, 64, 65, 66, 67] (by decide +kernel) (by decide +kernel)
set_option maxRecDepth 20000 in
theorem gX0_discord_X0_settledNow : GoodIn wsX0_discord (wsV RX0 121 RX0 yX0_settledNow wsX0_settledNow) := goodIn_app (goodIn_of _ (by decide +kernel)) ggX0_discord_X0_settledNow
set_option maxRecDepth 20000 in
theorem ggX0_discord_X0_atomsWith : GoodIn wsX0_discord wsX0_atomsWith := goodIn_r _ [45, 46, 47, 4, 48, 40, 41, 42] (by decide +kernel) (by decide +kernel)
set_option maxRecDepth 20000 in
theorem gX0_discord_X0_atomsWith : GoodIn wsX0_discord (va_wsS RX0 134 yX0_atomsWith wsX0_atomsWith) := goodIn_app (goodIn_of _ (by decide +kernel)) ggX0_discord_X0_atomsWith
set_option maxRecDepth 20000 in
theorem ggX0_discord_J6_bitCount_0f7a4 : GoodIn wsX0_discord wsJ6_bitCount_0f7a4 := goodIn_r _ [52, 53, 54, 55] (by decide +kernel) (by decide +kernel)
set_option maxRecDepth 20000 in
theorem gX0_discord_J6_bitCount_0f7a4 : GoodIn wsX0_discord (va_wsS RX0 137 yJ6_bitCount_0f7a4 wsJ6_bitCount_0f7a4) := goodIn_app (goodIn_of _ (by decide +kernel)) ggX0_discord_J6_bitCount_0f7a4
theorem dX0_discord_0 : decode cX0_discord 0 = .ok (.aload_n 0, 1) := by decide +kernel
theorem dX0_discord_1 : decode cX0_discord 1 = .ok (.invokevirtual 121, 3) := by decide +kernel
theorem dX0_discord_4 : decode cX0_discord 4 = .ok (.istore_n 1, 1) := by decide +kernel
theorem dX0_discord_5 : decode cX0_discord 5 = .ok (.bipush 6, 2) := by decide +kernel
theorem dX0_discord_7 : decode cX0_discord 7 = .ok (.iload_n 1, 1) := by decide +kernel
theorem dX0_discord_8 : decode cX0_discord 8 = .ok (.iconst 0, 1) := by decide +kernel
theorem dX0_discord_9 : decode cX0_discord 9 = .ok (.invokestatic 134, 3) := by decide +kernel
theorem dX0_discord_12 : decode cX0_discord 12 = .ok (.invokestatic 137, 3) := by decide +kernel
theorem dX0_discord_15 : decode cX0_discord 15 = .ok (.isub, 1) := by decide +kernel
theorem dX0_discord_16 : decode cX0_discord 16 = .ok (.istore_n 2, 1) := by decide +kernel
theorem dX0_discord_17 : decode cX0_discord 17 = .ok (.iload_n 2, 1) := by decide +kernel
theorem dX0_discord_18 : decode cX0_discord 18 = .ok (.ifCond .ne 5, 3) := by decide +kernel
theorem dX0_discord_21 : decode cX0_discord 21 = .ok (.dconst 0, 1) := by decide +kernel
theorem dX0_discord_22 : decode cX0_discord 22 = .ok (.dreturn, 1) := by decide +kernel
theorem dX0_discord_23 : decode cX0_discord 23 = .ok (.iload_n 1, 1) := by decide +kernel
theorem dX0_discord_24 : decode cX0_discord 24 = .ok (.iconst 3, 1) := by decide +kernel
theorem dX0_discord_25 : decode cX0_discord 25 = .ok (.invokestatic 134, 3) := by decide +kernel
theorem dX0_discord_28 : decode cX0_discord 28 = .ok (.invokestatic 137, 3) := by decide +kernel
theorem dX0_discord_31 : decode cX0_discord 31 = .ok (.i2d, 1) := by decide +kernel
theorem dX0_discord_32 : decode cX0_discord 32 = .ok (.iload_n 2, 1) := by decide +kernel
theorem dX0_discord_33 : decode cX0_discord 33 = .ok (.i2d, 1) := by decide +kernel
theorem dX0_discord_34 : decode cX0_discord 34 = .ok (.ddiv, 1) := by decide +kernel
theorem dX0_discord_35 : decode cX0_discord 35 = .ok (.dreturn, 1) := by decide +kernel
set_option maxRecDepth 20000 in
theorem ggX0_heard_X0_isHeard : GoodIn wsX0_heard wsX0_isHeard := goodIn_r _ [5, 6, 7, 8, 9, 10, 11, 12, 13, 14, 15, 16, 17, 18, 19, 20] (by decide +kernel) (by decide +kernel)
set_option maxRecDepth 20000 in
theorem gX0_heard_X0_isHeard : GoodIn wsX0_heard (wsV RX0 107 RX0 yX0_isHeard wsX0_isHeard) := goodIn_app (goodIn_of _ (by decide +kernel)) ggX0_heard_X0_isHeard
theorem dX0_heard_0 : decode cX0_heard 0 = .ok (.iconst 0, 1) := by decide +kernel
theorem dX0_heard_1 : decode cX0_heard 1 = .ok (.istore_n 1, 1) := by decide +kernel
theorem dX0_heard_2 : decode cX0_heard 2 = .ok (.iconst 0, 1) := by decide +kernel
theorem dX0_heard_3 : decode cX0_heard 3 = .ok (.istore_n 2, 1) := by decide +kernel
theorem dX0_heard_4 : decode cX0_heard 4 = .ok (.iload_n 2, 1) := by decide +kernel
theorem dX0_heard_5 : decode cX0_heard 5 = .ok (.bipush 6, 2) := by decide +kernel
theorem dX0_heard_7 : decode cX0_heard 7 = .ok (.if_icmp .ge 23, 3) := by decide +kernel
theorem dX0_heard_10 : decode cX0_heard 10 = .ok (.aload_n 0, 1) := by decide +kernel
theorem dX0_heard_11 : decode cX0_heard 11 = .ok (.iload_n 2, 1) := by decide +kernel
theorem dX0_heard_12 : decode cX0_heard 12 = .ok (.invokevirtual 107, 3) := by decide +kernel
theorem dX0_heard_15 : decode cX0_heard 15 = .ok (.ifCond .eq 9, 3) := by decide +kernel
theorem dX0_heard_18 : decode cX0_heard 18 = .ok (.iload_n 1, 1) := by decide +kernel
theorem dX0_heard_19 : decode cX0_heard 19 = .ok (.iconst 1, 1) := by decide +kernel
theorem dX0_heard_20 : decode cX0_heard 20 = .ok (.iload_n 2, 1) := by decide +kernel
theorem dX0_heard_21 : decode cX0_heard 21 = .ok (.ishl, 1) := by decide +kernel
theorem dX0_heard_22 : decode cX0_heard 22 = .ok (.ior, 1) := by decide +kernel
theorem dX0_heard_23 : decode cX0_heard 23 = .ok (.istore_n 1, 1) := by decide +kernel
theorem dX0_heard_24 : decode cX0_heard 24 = .ok (.iinc 2 1, 3) := by decide +kernel
theorem dX0_heard_27 : decode cX0_heard 27 = .ok (.goto (-23), 3) := by decide +kernel
theorem dX0_heard_30 : decode cX0_heard 30 = .ok (.iload_n 1, 1) := by decide +kernel
theorem dX0_heard_31 : decode cX0_heard 31 = .ok (.ireturn, 1) := by decide +kernel
set_option maxRecDepth 20000 in
theorem ggX0_sayers_X0_requireAtom : GoodIn wsX0_sayers wsX0_requireAtom := goodIn_ca (goodIn_r _ [5, 6, 7] (by decide +kernel) (by decide +kernel)) (goodIn_sub (fun _ h => List.mem_cons_of_mem _ (List.mem_append_right _ h)) (by decide +kernel))
set_option maxRecDepth 20000 in
theorem gX0_sayers_X0_requireAtom : GoodIn wsX0_sayers (va_wsS RX0 52 yX0_requireAtom wsX0_requireAtom) := goodIn_app (goodIn_of _ (by decide +kernel)) ggX0_sayers_X0_requireAtom
set_option maxRecDepth 20000 in
theorem ggX0_sayers_X0_isHeard : GoodIn wsX0_sayers wsX0_isHeard := goodIn_r _ [11, 12, 13, 14, 24, 25, 26, 27, 28, 29, 30, 31, 32, 33, 34, 35] (by decide +kernel) (by decide +kernel)
set_option maxRecDepth 20000 in
theorem gX0_sayers_X0_isHeard : GoodIn wsX0_sayers (wsV RX0 107 RX0 yX0_isHeard wsX0_isHeard) := goodIn_app (goodIn_of _ (by decide +kernel)) ggX0_sayers_X0_isHeard
set_option maxRecDepth 20000 in
theorem ggX0_sayers_X0_valueIn : GoodIn wsX0_sayers wsX0_valueIn := goodIn_r _ [17, 18, 19, 4, 20] (by decide +kernel) (by decide +kernel)
set_option maxRecDepth 20000 in
theorem gX0_sayers_X0_valueIn : GoodIn wsX0_sayers (va_wsS RX0 100 yX0_valueIn wsX0_valueIn) := goodIn_app (goodIn_of _ (by decide +kernel)) ggX0_sayers_X0_valueIn
set_option maxRecDepth 20000 in
theorem ggX0_sayers_X0_isTold : GoodIn wsX0_sayers wsX0_isTold := goodIn_r _ [23] (by decide +kernel) (by decide +kernel)
set_option maxRecDepth 20000 in
theorem gX0_sayers_X0_isTold : GoodIn wsX0_sayers (va_wsS RX0 127 yX0_isTold wsX0_isTold) := goodIn_app (goodIn_of _ (by decide +kernel)) ggX0_sayers_X0_isTold
theorem dX0_sayers_0 : decode cX0_sayers 0 = .ok (.iload_n 1, 1) := by decide +kernel
theorem dX0_sayers_1 : decode cX0_sayers 1 = .ok (.invokestatic 52, 3) := by decide +kernel
theorem dX0_sayers_4 : decode cX0_sayers 4 = .ok (.iconst 0, 1) := by decide +kernel
theorem dX0_sayers_5 : decode cX0_sayers 5 = .ok (.istore_n 3, 1) := by decide +kernel
theorem dX0_sayers_6 : decode cX0_sayers 6 = .ok (.iconst 0, 1) := by decide +kernel
theorem dX0_sayers_7 : decode cX0_sayers 7 = .ok (.istore 4, 2) := by decide +kernel
theorem dX0_sayers_9 : decode cX0_sayers 9 = .ok (.iload 4, 2) := by decide +kernel
theorem dX0_sayers_11 : decode cX0_sayers 11 = .ok (.bipush 6, 2) := by decide +kernel
theorem dX0_sayers_13 : decode cX0_sayers 13 = .ok (.if_icmp .ge 43, 3) := by decide +kernel
theorem dX0_sayers_16 : decode cX0_sayers 16 = .ok (.aload_n 0, 1) := by decide +kernel
theorem dX0_sayers_17 : decode cX0_sayers 17 = .ok (.iload 4, 2) := by decide +kernel
theorem dX0_sayers_19 : decode cX0_sayers 19 = .ok (.invokevirtual 107, 3) := by decide +kernel
theorem dX0_sayers_22 : decode cX0_sayers 22 = .ok (.ifCond .eq 28, 3) := by decide +kernel
theorem dX0_sayers_25 : decode cX0_sayers 25 = .ok (.aload_n 0, 1) := by decide +kernel
theorem dX0_sayers_26 : decode cX0_sayers 26 = .ok (.getfield 34, 3) := by decide +kernel
theorem dX0_sayers_29 : decode cX0_sayers 29 = .ok (.iload 4, 2) := by decide +kernel
theorem dX0_sayers_31 : decode cX0_sayers 31 = .ok (.iaload, 1) := by decide +kernel
theorem dX0_sayers_32 : decode cX0_sayers 32 = .ok (.iload_n 1, 1) := by decide +kernel
theorem dX0_sayers_33 : decode cX0_sayers 33 = .ok (.invokestatic 100, 3) := by decide +kernel
theorem dX0_sayers_36 : decode cX0_sayers 36 = .ok (.iload_n 2, 1) := by decide +kernel
theorem dX0_sayers_37 : decode cX0_sayers 37 = .ok (.invokestatic 127, 3) := by decide +kernel
theorem dX0_sayers_40 : decode cX0_sayers 40 = .ok (.ifCond .eq 10, 3) := by decide +kernel
theorem dX0_sayers_43 : decode cX0_sayers 43 = .ok (.iload_n 3, 1) := by decide +kernel
theorem dX0_sayers_44 : decode cX0_sayers 44 = .ok (.iconst 1, 1) := by decide +kernel
theorem dX0_sayers_45 : decode cX0_sayers 45 = .ok (.iload 4, 2) := by decide +kernel
theorem dX0_sayers_47 : decode cX0_sayers 47 = .ok (.ishl, 1) := by decide +kernel
theorem dX0_sayers_48 : decode cX0_sayers 48 = .ok (.ior, 1) := by decide +kernel
theorem dX0_sayers_49 : decode cX0_sayers 49 = .ok (.istore_n 3, 1) := by decide +kernel
theorem dX0_sayers_50 : decode cX0_sayers 50 = .ok (.iinc 4 1, 3) := by decide +kernel
theorem dX0_sayers_53 : decode cX0_sayers 53 = .ok (.goto (-44), 3) := by decide +kernel
theorem dX0_sayers_56 : decode cX0_sayers 56 = .ok (.iload_n 3, 1) := by decide +kernel
theorem dX0_sayers_57 : decode cX0_sayers 57 = .ok (.ireturn, 1) := by decide +kernel
set_option maxRecDepth 20000 in
theorem ggX0_matters_X0_requireSource : GoodIn wsX0_matters wsX0_requireSource := goodIn_ca (goodIn_r _ [4, 5, 6] (by decide +kernel) (by decide +kernel)) (goodIn_sub (fun _ h => List.mem_cons_of_mem _ (List.mem_append_right _ h)) (by decide +kernel))
set_option maxRecDepth 20000 in
theorem gX0_matters_X0_requireSource : GoodIn wsX0_matters (va_wsS RX0 97 yX0_requireSource wsX0_requireSource) := goodIn_app (goodIn_of _ (by decide +kernel)) ggX0_matters_X0_requireSource
set_option maxRecDepth 20000 in
theorem ggX0_matters_X0_requireAtom : GoodIn wsX0_matters wsX0_requireAtom := goodIn_ca (goodIn_r _ [9, 5, 6] (by decide +kernel) (by decide +kernel)) (goodIn_sub (fun _ h => List.mem_cons_of_mem _ (List.mem_append_right _ h)) (by decide +kernel))
set_option maxRecDepth 20000 in
theorem gX0_matters_X0_requireAtom : GoodIn wsX0_matters (va_wsS RX0 52 yX0_requireAtom wsX0_requireAtom) := goodIn_app (goodIn_of _ (by decide +kernel)) ggX0_matters_X0_requireAtom
set_option maxRecDepth 20000 in
theorem ggX0_matters_X0_heard : GoodIn wsX0_matters wsX0_heard := goodIn_r _ [13, 14, 15, 16, 3, 17, 18, 19, 20, 50, 51, 52, 53, 54, 55, 56, 57, 58, 59, 60, 61] (by decide +kernel) (by decide +kernel)
set_option maxRecDepth 20000 in
theorem gX0_matters_X0_heard : GoodIn wsX0_matters (wsV RX0 114 RX0 yX0_heard wsX0_heard) := goodIn_app (goodIn_of _ (by decide +kernel)) ggX0_matters_X0_heard
set_option maxRecDepth 20000 in
theorem ggX0_matters_X0_settledState : GoodIn wsX0_matters wsX0_settledState := goodIn_r _ [24, 25, 26, 27, 3, 28, 29, 30, 31, 32, 33, 34, 35, 36, 37, 38, 39, 40, 41, 42, 43, 44, 45, 46, 50, 51, 52, 53, 54, 55, 56, 57, 58, 59, 60, 61] (by decide +kernel) (by decide +kernel)
set_option maxRecDepth 20000 in
theorem gX0_matters_X0_settledState : GoodIn wsX0_matters (wsV RX0 142 RX0 yX0_settledState wsX0_settledState) := goodIn_app (goodIn_of _ (by decide +kernel)) ggX0_matters_X0_settledState
set_option maxRecDepth 20000 in
theorem ggX0_matters_X0_valueIn : GoodIn wsX0_matters wsX0_valueIn := goodIn_r _ [49, 44, 45, 3, 46] (by decide +kernel) (by decide +kernel)
set_option maxRecDepth 20000 in
theorem gX0_matters_X0_valueIn : GoodIn wsX0_matters (va_wsS RX0 100 yX0_valueIn wsX0_valueIn) := goodIn_app (goodIn_of _ (by decide +kernel)) ggX0_matters_X0_valueIn
theorem dX0_matters_0 : decode cX0_matters 0 = .ok (.iload_n 1, 1) := by decide +kernel
theorem dX0_matters_1 : decode cX0_matters 1 = .ok (.invokestatic 97, 3) := by decide +kernel
theorem dX0_matters_4 : decode cX0_matters 4 = .ok (.iload_n 2, 1) := by decide +kernel
theorem dX0_matters_5 : decode cX0_matters 5 = .ok (.invokestatic 52, 3) := by decide +kernel
theorem dX0_matters_8 : decode cX0_matters 8 = .ok (.aload_n 0, 1) := by decide +kernel
theorem dX0_matters_9 : decode cX0_matters 9 = .ok (.invokevirtual 114, 3) := by decide +kernel
theorem dX0_matters_12 : decode cX0_matters 12 = .ok (.istore_n 3, 1) := by decide +kernel
theorem dX0_matters_13 : decode cX0_matters 13 = .ok (.iload_n 3, 1) := by decide +kernel
theorem dX0_matters_14 : decode cX0_matters 14 = .ok (.iconst 1, 1) := by decide +kernel
theorem dX0_matters_15 : decode cX0_matters 15 = .ok (.iload_n 1, 1) := by decide +kernel
theorem dX0_matters_16 : decode cX0_matters 16 = .ok (.ishl, 1) := by decide +kernel
theorem dX0_matters_17 : decode cX0_matters 17 = .ok (.iconst (-1), 1) := by decide +kernel
theorem dX0_matters_18 : decode cX0_matters 18 = .ok (.ixor, 1) := by decide +kernel
theorem dX0_matters_19 : decode cX0_matters 19 = .ok (.iand, 1) := by decide +kernel
theorem dX0_matters_20 : decode cX0_matters 20 = .ok (.istore 4, 2) := by decide +kernel
theorem dX0_matters_22 : decode cX0_matters 22 = .ok (.aload_n 0, 1) := by decide +kernel
theorem dX0_matters_23 : decode cX0_matters 23 = .ok (.iload_n 3, 1) := by decide +kernel
theorem dX0_matters_24 : decode cX0_matters 24 = .ok (.invokevirtual 142, 3) := by decide +kernel
theorem dX0_matters_27 : decode cX0_matters 27 = .ok (.iload_n 2, 1) := by decide +kernel
theorem dX0_matters_28 : decode cX0_matters 28 = .ok (.invokestatic 100, 3) := by decide +kernel
theorem dX0_matters_31 : decode cX0_matters 31 = .ok (.aload_n 0, 1) := by decide +kernel
theorem dX0_matters_32 : decode cX0_matters 32 = .ok (.iload 4, 2) := by decide +kernel
theorem dX0_matters_34 : decode cX0_matters 34 = .ok (.invokevirtual 142, 3) := by decide +kernel
theorem dX0_matters_37 : decode cX0_matters 37 = .ok (.iload_n 2, 1) := by decide +kernel
theorem dX0_matters_38 : decode cX0_matters 38 = .ok (.invokestatic 100, 3) := by decide +kernel
theorem dX0_matters_41 : decode cX0_matters 41 = .ok (.if_icmp .eq 7, 3) := by decide +kernel
theorem dX0_matters_44 : decode cX0_matters 44 = .ok (.iconst 1, 1) := by decide +kernel
theorem dX0_matters_45 : decode cX0_matters 45 = .ok (.goto 4, 3) := by decide +kernel
theorem dX0_matters_48 : decode cX0_matters 48 = .ok (.iconst 0, 1) := by decide +kernel
theorem dX0_matters_49 : decode cX0_matters 49 = .ok (.ireturn, 1) := by decide +kernel
set_option maxRecDepth 20000 in
theorem ggX0_silence_X0_heard : GoodIn wsX0_silence wsX0_heard := goodIn_r _ [5, 6, 7, 8, 4, 9, 10, 11, 12, 49, 50, 51, 52, 53, 54, 55, 56, 57, 58, 59, 60] (by decide +kernel) (by decide +kernel)
set_option maxRecDepth 20000 in
theorem gX0_silence_X0_heard : GoodIn wsX0_silence (wsV RX0 114 RX0 yX0_heard wsX0_heard) := goodIn_app (goodIn_of _ (by decide +kernel)) ggX0_silence_X0_heard
set_option maxRecDepth 20000 in
theorem ggX0_silence_X0_trustOf : GoodIn wsX0_silence wsX0_trustOf := goodIn_r _ [16, 11, 49, 50, 51, 52, 53, 54, 55, 56, 57, 58, 59, 60] (by decide +kernel) (by decide +kernel)
set_option maxRecDepth 20000 in
theorem gX0_silence_X0_trustOf : GoodIn wsX0_silence (wsV RX0 145 RX0 yX0_trustOf wsX0_trustOf) := goodIn_app (goodIn_of _ (by decide +kernel)) ggX0_silence_X0_trustOf
set_option maxRecDepth 20000 in
theorem ggX0_silence_X0_settledState : GoodIn wsX0_silence wsX0_settledState := goodIn_r _ [20, 21, 22, 23, 4, 24, 25, 26, 27, 28, 29, 30, 31, 32, 33, 34, 35, 36, 37, 38, 39, 40, 41, 42, 49, 50, 51, 52, 53, 54, 55, 56, 57, 58, 59, 60] (by decide +kernel) (by decide +kernel)
set_option maxRecDepth 20000 in
theorem gX0_silence_X0_settledState : GoodIn wsX0_silence (wsV RX0 142 RX0 yX0_settledState wsX0_settledState) := goodIn_app (goodIn_of _ (by decide +kernel)) ggX0_silence_X0_settledState
set_option maxRecDepth 20000 in
theorem ggX0_silence_X0_atomsWith : GoodIn wsX0_silence wsX0_atomsWith := goodIn_r _ [45, 46, 47, 4, 48, 40, 41, 42] (by decide +kernel) (by decide +kernel)
set_option maxRecDepth 20000 in
theorem gX0_silence_X0_atomsWith : GoodIn wsX0_silence (va_wsS RX0 134 yX0_atomsWith wsX0_atomsWith) := goodIn_app (goodIn_of _ (by decide +kernel)) ggX0_silence_X0_atomsWith
theorem dX0_silence_0 : decode cX0_silence 0 = .ok (.aload_n 0, 1) := by decide +kernel
theorem dX0_silence_1 : decode cX0_silence 1 = .ok (.invokevirtual 114, 3) := by decide +kernel
theorem dX0_silence_4 : decode cX0_silence 4 = .ok (.istore_n 1, 1) := by decide +kernel
theorem dX0_silence_5 : decode cX0_silence 5 = .ok (.iconst (-1), 1) := by decide +kernel
theorem dX0_silence_6 : decode cX0_silence 6 = .ok (.istore_n 2, 1) := by decide +kernel
theorem dX0_silence_7 : decode cX0_silence 7 = .ok (.sipush 601, 3) := by decide +kernel
theorem dX0_silence_10 : decode cX0_silence 10 = .ok (.istore_n 3, 1) := by decide +kernel
theorem dX0_silence_11 : decode cX0_silence 11 = .ok (.iconst 0, 1) := by decide +kernel
theorem dX0_silence_12 : decode cX0_silence 12 = .ok (.istore 4, 2) := by decide +kernel
theorem dX0_silence_14 : decode cX0_silence 14 = .ok (.iload 4, 2) := by decide +kernel
theorem dX0_silence_16 : decode cX0_silence 16 = .ok (.bipush 64, 2) := by decide +kernel
theorem dX0_silence_18 : decode cX0_silence 18 = .ok (.if_icmp .ge 55, 3) := by decide +kernel
theorem dX0_silence_21 : decode cX0_silence 21 = .ok (.iload 4, 2) := by decide +kernel
theorem dX0_silence_23 : decode cX0_silence 23 = .ok (.iload_n 1, 1) := by decide +kernel
theorem dX0_silence_24 : decode cX0_silence 24 = .ok (.iconst (-1), 1) := by decide +kernel
theorem dX0_silence_25 : decode cX0_silence 25 = .ok (.ixor, 1) := by decide +kernel
theorem dX0_silence_26 : decode cX0_silence 26 = .ok (.iand, 1) := by decide +kernel
theorem dX0_silence_27 : decode cX0_silence 27 = .ok (.ifCond .ne 40, 3) := by decide +kernel
theorem dX0_silence_30 : decode cX0_silence 30 = .ok (.aload_n 0, 1) := by decide +kernel
theorem dX0_silence_31 : decode cX0_silence 31 = .ok (.iload 4, 2) := by decide +kernel
theorem dX0_silence_33 : decode cX0_silence 33 = .ok (.invokevirtual 145, 3) := by decide +kernel
theorem dX0_silence_36 : decode cX0_silence 36 = .ok (.istore 5, 2) := by decide +kernel
theorem dX0_silence_38 : decode cX0_silence 38 = .ok (.iload 5, 2) := by decide +kernel
theorem dX0_silence_40 : decode cX0_silence 40 = .ok (.iload_n 3, 1) := by decide +kernel
theorem dX0_silence_41 : decode cX0_silence 41 = .ok (.if_icmp .ge 26, 3) := by decide +kernel
theorem dX0_silence_44 : decode cX0_silence 44 = .ok (.aload_n 0, 1) := by decide +kernel
theorem dX0_silence_45 : decode cX0_silence 45 = .ok (.iload_n 1, 1) := by decide +kernel
theorem dX0_silence_46 : decode cX0_silence 46 = .ok (.iload 4, 2) := by decide +kernel
theorem dX0_silence_48 : decode cX0_silence 48 = .ok (.iconst (-1), 1) := by decide +kernel
theorem dX0_silence_49 : decode cX0_silence 49 = .ok (.ixor, 1) := by decide +kernel
theorem dX0_silence_50 : decode cX0_silence 50 = .ok (.iand, 1) := by decide +kernel
theorem dX0_silence_51 : decode cX0_silence 51 = .ok (.invokevirtual 142, 3) := by decide +kernel
theorem dX0_silence_54 : decode cX0_silence 54 = .ok (.iconst 3, 1) := by decide +kernel
theorem dX0_silence_55 : decode cX0_silence 55 = .ok (.invokestatic 134, 3) := by decide +kernel
theorem dX0_silence_58 : decode cX0_silence 58 = .ok (.ifCond .ne 9, 3) := by decide +kernel
theorem dX0_silence_61 : decode cX0_silence 61 = .ok (.iload 4, 2) := by decide +kernel
theorem dX0_silence_63 : decode cX0_silence 63 = .ok (.istore_n 2, 1) := by decide +kernel
theorem dX0_silence_64 : decode cX0_silence 64 = .ok (.iload 5, 2) := by decide +kernel
theorem dX0_silence_66 : decode cX0_silence 66 = .ok (.istore_n 3, 1) := by decide +kernel
theorem dX0_silence_67 : decode cX0_silence 67 = .ok (.iinc 4 1, 3) := by decide +kernel
theorem dX0_silence_70 : decode cX0_silence 70 = .ok (.goto (-56), 3) := by decide +kernel
theorem dX0_silence_73 : decode cX0_silence 73 = .ok (.iload_n 2, 1) := by decide +kernel
theorem dX0_silence_74 : decode cX0_silence 74 = .ok (.ireturn, 1) := by decide +kernel
set_option maxRecDepth 20000 in
theorem ggX0_contradicted_X0_requireSource : GoodIn wsX0_contradicted wsX0_requireSource := goodIn_ca (goodIn_r _ [5, 6, 7] (by decide +kernel) (by decide +kernel)) (goodIn_sub (fun _ h => List.mem_cons_of_mem _ (List.mem_append_right _ h)) (by decide +kernel))
set_option maxRecDepth 20000 in
theorem gX0_contradicted_X0_requireSource : GoodIn wsX0_contradicted (va_wsS RX0 97 yX0_requireSource wsX0_requireSource) := goodIn_app (goodIn_of _ (by decide +kernel)) ggX0_contradicted_X0_requireSource
set_option maxRecDepth 20000 in
theorem ggX0_contradicted_X0_settledNow : GoodIn wsX0_contradicted wsX0_settledNow := goodIn_r _ [11, 12, 13, 14, 4, 15, 16, 17, 18, 19, 20, 21, 22, 23, 24, 25, 26, 27, 28, 29, 30, 1, 31, 32, 33, 34, 35, 36, 37, 38, 39, 40, 41, 42, 43, 44, 45, 46, 47, 57, 58, 59, 60, 61, 62, 63, 64, 65, 66, 67, 68] (by decide +kernel) (by decide +kernel)
set_option maxRecDepth 20000 in
theorem gX0_contradicted_X0_settledNow : GoodIn wsX0_contradicted (wsV RX0 121 RX0 yX0_settledNow wsX0_settledNow) := goodIn_app (goodIn_of _ (by decide +kernel)) ggX0_contradicted_X0_settledNow
set_option maxRecDepth 20000 in
theorem ggX0_contradicted_X0_valueIn : GoodIn wsX0_contradicted wsX0_valueIn := goodIn_r _ [50, 45, 46, 4, 47] (by decide +kernel) (by decide +kernel)
set_option maxRecDepth 20000 in
theorem gX0_contradicted_X0_valueIn : GoodIn wsX0_contradicted (va_wsS RX0 100 yX0_valueIn wsX0_valueIn) := goodIn_app (goodIn_of _ (by decide +kernel)) ggX0_contradicted_X0_valueIn
set_option maxRecDepth 20000 in
theorem ggX0_contradicted_X0_isAgainst : GoodIn wsX0_contradicted wsX0_isAgainst := goodIn_r _ [53, 54, 55, 4, 56] (by decide +kernel) (by decide +kernel)
set_option maxRecDepth 20000 in
theorem gX0_contradicted_X0_isAgainst : GoodIn wsX0_contradicted (va_wsS RX0 148 yX0_isAgainst wsX0_isAgainst) := goodIn_app (goodIn_of _ (by decide +kernel)) ggX0_contradicted_X0_isAgainst
theorem dX0_contradicted_0 : decode cX0_contradicted 0 = .ok (.iload_n 1, 1) := by decide +kernel
theorem dX0_contradicted_1 : decode cX0_contradicted 1 = .ok (.invokestatic 97, 3) := by decide +kernel
theorem dX0_contradicted_4 : decode cX0_contradicted 4 = .ok (.aload_n 0, 1) := by decide +kernel
theorem dX0_contradicted_5 : decode cX0_contradicted 5 = .ok (.invokevirtual 121, 3) := by decide +kernel
theorem dX0_contradicted_8 : decode cX0_contradicted 8 = .ok (.istore_n 2, 1) := by decide +kernel
theorem dX0_contradicted_9 : decode cX0_contradicted 9 = .ok (.iconst 0, 1) := by decide +kernel
theorem dX0_contradicted_10 : decode cX0_contradicted 10 = .ok (.istore_n 3, 1) := by decide +kernel
theorem dX0_contradicted_11 : decode cX0_contradicted 11 = .ok (.iconst 0, 1) := by decide +kernel
theorem dX0_contradicted_12 : decode cX0_contradicted 12 = .ok (.istore 4, 2) := by decide +kernel
theorem dX0_contradicted_14 : decode cX0_contradicted 14 = .ok (.iload 4, 2) := by decide +kernel
theorem dX0_contradicted_16 : decode cX0_contradicted 16 = .ok (.bipush 6, 2) := by decide +kernel
theorem dX0_contradicted_18 : decode cX0_contradicted 18 = .ok (.if_icmp .ge 35, 3) := by decide +kernel
theorem dX0_contradicted_21 : decode cX0_contradicted 21 = .ok (.aload_n 0, 1) := by decide +kernel
theorem dX0_contradicted_22 : decode cX0_contradicted 22 = .ok (.getfield 34, 3) := by decide +kernel
theorem dX0_contradicted_25 : decode cX0_contradicted 25 = .ok (.iload_n 1, 1) := by decide +kernel
theorem dX0_contradicted_26 : decode cX0_contradicted 26 = .ok (.iaload, 1) := by decide +kernel
theorem dX0_contradicted_27 : decode cX0_contradicted 27 = .ok (.iload 4, 2) := by decide +kernel
theorem dX0_contradicted_29 : decode cX0_contradicted 29 = .ok (.invokestatic 100, 3) := by decide +kernel
theorem dX0_contradicted_32 : decode cX0_contradicted 32 = .ok (.iload_n 2, 1) := by decide +kernel
theorem dX0_contradicted_33 : decode cX0_contradicted 33 = .ok (.iload 4, 2) := by decide +kernel
theorem dX0_contradicted_35 : decode cX0_contradicted 35 = .ok (.invokestatic 100, 3) := by decide +kernel
theorem dX0_contradicted_38 : decode cX0_contradicted 38 = .ok (.invokestatic 148, 3) := by decide +kernel
theorem dX0_contradicted_41 : decode cX0_contradicted 41 = .ok (.ifCond .eq 6, 3) := by decide +kernel
theorem dX0_contradicted_44 : decode cX0_contradicted 44 = .ok (.iinc 3 1, 3) := by decide +kernel
theorem dX0_contradicted_47 : decode cX0_contradicted 47 = .ok (.iinc 4 1, 3) := by decide +kernel
theorem dX0_contradicted_50 : decode cX0_contradicted 50 = .ok (.goto (-36), 3) := by decide +kernel
theorem dX0_contradicted_53 : decode cX0_contradicted 53 = .ok (.iload_n 3, 1) := by decide +kernel
theorem dX0_contradicted_54 : decode cX0_contradicted 54 = .ok (.ireturn, 1) := by decide +kernel
set_option maxRecDepth 20000 in
theorem ggX0_setLogic_X0_triplesOf : GoodIn wsX0_setLogic wsX0_triplesOf := goodIn_r _ [8] (by decide +kernel) (by decide +kernel)
set_option maxRecDepth 20000 in
theorem gX0_setLogic_X0_triplesOf : GoodIn wsX0_setLogic (va_wsS RX0 154 yX0_triplesOf wsX0_triplesOf) := goodIn_app (goodIn_of _ (by decide +kernel)) ggX0_setLogic_X0_triplesOf
theorem dX0_setLogic_0 : decode cX0_setLogic 0 = .ok (.iload_n 1, 1) := by decide +kernel
theorem dX0_setLogic_1 : decode cX0_setLogic 1 = .ok (.iconst 1, 1) := by decide +kernel
theorem dX0_setLogic_2 : decode cX0_setLogic 2 = .ok (.if_icmp .lt 9, 3) := by decide +kernel
theorem dX0_setLogic_5 : decode cX0_setLogic 5 = .ok (.iload_n 1, 1) := by decide +kernel
theorem dX0_setLogic_6 : decode cX0_setLogic 6 = .ok (.bipush 15, 2) := by decide +kernel
theorem dX0_setLogic_8 : decode cX0_setLogic 8 = .ok (.if_icmp .le 13, 3) := by decide +kernel
theorem dX0_setLogic_11 : decode cX0_setLogic 11 = .ok (.new 80, 3) := by decide +kernel
theorem dX0_setLogic_14 : decode cX0_setLogic 14 = .ok (.dup, 1) := by decide +kernel
theorem dX0_setLogic_15 : decode cX0_setLogic 15 = .ok (.ldc 152, 2) := by decide +kernel
theorem dX0_setLogic_17 : decode cX0_setLogic 17 = .ok (.invokespecial 84, 3) := by decide +kernel
theorem dX0_setLogic_20 : decode cX0_setLogic 20 = .ok (.athrow, 1) := by decide +kernel
theorem dX0_setLogic_21 : decode cX0_setLogic 21 = .ok (.aload_n 0, 1) := by decide +kernel
theorem dX0_setLogic_22 : decode cX0_setLogic 22 = .ok (.getfield 43, 3) := by decide +kernel
theorem dX0_setLogic_25 : decode cX0_setLogic 25 = .ok (.istore_n 2, 1) := by decide +kernel
theorem dX0_setLogic_26 : decode cX0_setLogic 26 = .ok (.aload_n 0, 1) := by decide +kernel
theorem dX0_setLogic_27 : decode cX0_setLogic 27 = .ok (.iload_n 1, 1) := by decide +kernel
theorem dX0_setLogic_28 : decode cX0_setLogic 28 = .ok (.putfield 43, 3) := by decide +kernel
theorem dX0_setLogic_31 : decode cX0_setLogic 31 = .ok (.aload_n 0, 1) := by decide +kernel
theorem dX0_setLogic_32 : decode cX0_setLogic 32 = .ok (.iload_n 1, 1) := by decide +kernel
theorem dX0_setLogic_33 : decode cX0_setLogic 33 = .ok (.invokestatic 154, 3) := by decide +kernel
theorem dX0_setLogic_36 : decode cX0_setLogic 36 = .ok (.putfield 48, 3) := by decide +kernel
theorem dX0_setLogic_39 : decode cX0_setLogic 39 = .ok (.iload_n 2, 1) := by decide +kernel
theorem dX0_setLogic_40 : decode cX0_setLogic 40 = .ok (.ireturn, 1) := by decide +kernel
set_option maxRecDepth 20000 in
theorem ggX0_models_X0_requireFormula : GoodIn wsX0_models wsX0_requireFormula := goodIn_ca (goodIn_r _ [6, 7, 8, 9, 25, 26, 27, 28, 29, 30, 31, 32, 33, 34, 35, 36] (by decide +kernel) (by decide +kernel)) (goodIn_sub (fun _ h => List.mem_cons_of_mem _ (List.mem_append_right _ h)) (by decide +kernel))
set_option maxRecDepth 20000 in
theorem gX0_models_X0_requireFormula : GoodIn wsX0_models (wsV RX0 77 RX0 yX0_requireFormula wsX0_requireFormula) := goodIn_app (goodIn_of _ (by decide +kernel)) ggX0_models_X0_requireFormula
set_option maxRecDepth 20000 in
theorem ggX0_models_X0_rowOf : GoodIn wsX0_models wsX0_rowOf := goodIn_r _ [12] (by decide +kernel) (by decide +kernel)
set_option maxRecDepth 20000 in
theorem gX0_models_X0_rowOf : GoodIn wsX0_models (va_wsS RX0 63 yX0_rowOf wsX0_rowOf) := goodIn_app (goodIn_of _ (by decide +kernel)) ggX0_models_X0_rowOf
set_option maxRecDepth 20000 in
theorem ggX0_models_X0_logicWord : GoodIn wsX0_models wsX0_logicWord := goodIn_r _ [16, 17, 25, 26, 27, 28, 29, 30, 31, 32, 33, 34, 35, 36] (by decide +kernel) (by decide +kernel)
set_option maxRecDepth 20000 in
theorem gX0_models_X0_logicWord : GoodIn wsX0_models (wsV RX0 158 RX0 yX0_logicWord wsX0_logicWord) := goodIn_app (goodIn_of _ (by decide +kernel)) ggX0_models_X0_logicWord
set_option maxRecDepth 20000 in
theorem ggX0_models_J13_bitCount_95d88 : GoodIn wsX0_models wsJ13_bitCount_95d88 := goodIn_r _ [21, 22, 23, 24] (by decide +kernel) (by decide +kernel)
set_option maxRecDepth 20000 in
theorem gX0_models_J13_bitCount_95d88 : GoodIn wsX0_models (va_wsS RX0 161 yJ13_bitCount_95d88 wsJ13_bitCount_95d88) := goodIn_app (goodIn_of _ (by decide +kernel)) ggX0_models_J13_bitCount_95d88
theorem dX0_models_0 : decode cX0_models 0 = .ok (.aload_n 0, 1) := by decide +kernel
theorem dX0_models_1 : decode cX0_models 1 = .ok (.iload_n 1, 1) := by decide +kernel
theorem dX0_models_2 : decode cX0_models 2 = .ok (.invokevirtual 77, 3) := by decide +kernel
theorem dX0_models_5 : decode cX0_models 5 = .ok (.iload_n 1, 1) := by decide +kernel
theorem dX0_models_6 : decode cX0_models 6 = .ok (.invokestatic 63, 3) := by decide +kernel
theorem dX0_models_9 : decode cX0_models 9 = .ok (.istore_n 2, 1) := by decide +kernel
theorem dX0_models_10 : decode cX0_models 10 = .ok (.iconst 0, 1) := by decide +kernel
theorem dX0_models_11 : decode cX0_models 11 = .ok (.istore_n 3, 1) := by decide +kernel
theorem dX0_models_12 : decode cX0_models 12 = .ok (.iconst 0, 1) := by decide +kernel
theorem dX0_models_13 : decode cX0_models 13 = .ok (.istore 4, 2) := by decide +kernel
theorem dX0_models_15 : decode cX0_models 15 = .ok (.iload 4, 2) := by decide +kernel
theorem dX0_models_17 : decode cX0_models 17 = .ok (.bipush 64, 2) := by decide +kernel
theorem dX0_models_19 : decode cX0_models 19 = .ok (.if_icmp .ge 31, 3) := by decide +kernel
theorem dX0_models_22 : decode cX0_models 22 = .ok (.iload_n 3, 1) := by decide +kernel
theorem dX0_models_23 : decode cX0_models 23 = .ok (.aload_n 0, 1) := by decide +kernel
theorem dX0_models_24 : decode cX0_models 24 = .ok (.getfield 21, 3) := by decide +kernel
theorem dX0_models_27 : decode cX0_models 27 = .ok (.iload_n 2, 1) := by decide +kernel
theorem dX0_models_28 : decode cX0_models 28 = .ok (.iload 4, 2) := by decide +kernel
theorem dX0_models_30 : decode cX0_models 30 = .ok (.iadd, 1) := by decide +kernel
theorem dX0_models_31 : decode cX0_models 31 = .ok (.laload, 1) := by decide +kernel
theorem dX0_models_32 : decode cX0_models 32 = .ok (.aload_n 0, 1) := by decide +kernel
theorem dX0_models_33 : decode cX0_models 33 = .ok (.iload 4, 2) := by decide +kernel
theorem dX0_models_35 : decode cX0_models 35 = .ok (.invokevirtual 158, 3) := by decide +kernel
theorem dX0_models_38 : decode cX0_models 38 = .ok (.land, 1) := by decide +kernel
theorem dX0_models_39 : decode cX0_models 39 = .ok (.invokestatic 161, 3) := by decide +kernel
theorem dX0_models_42 : decode cX0_models 42 = .ok (.iadd, 1) := by decide +kernel
theorem dX0_models_43 : decode cX0_models 43 = .ok (.istore_n 3, 1) := by decide +kernel
theorem dX0_models_44 : decode cX0_models 44 = .ok (.iinc 4 1, 3) := by decide +kernel
theorem dX0_models_47 : decode cX0_models 47 = .ok (.goto (-32), 3) := by decide +kernel
theorem dX0_models_50 : decode cX0_models 50 = .ok (.iload_n 3, 1) := by decide +kernel
theorem dX0_models_51 : decode cX0_models 51 = .ok (.ireturn, 1) := by decide +kernel
set_option maxRecDepth 20000 in
theorem ggX0_range_X0_requireFormula : GoodIn wsX0_range wsX0_requireFormula := goodIn_ca (goodIn_r _ [7, 8, 9, 10, 26, 27, 28, 29, 30, 31, 32, 33, 34, 35, 36, 37] (by decide +kernel) (by decide +kernel)) (goodIn_sub (fun _ h => List.mem_cons_of_mem _ (List.mem_append_right _ h)) (by decide +kernel))
set_option maxRecDepth 20000 in
theorem gX0_range_X0_requireFormula : GoodIn wsX0_range (wsV RX0 77 RX0 yX0_requireFormula wsX0_requireFormula) := goodIn_app (goodIn_of _ (by decide +kernel)) ggX0_range_X0_requireFormula
set_option maxRecDepth 20000 in
theorem ggX0_range_X0_rowOf : GoodIn wsX0_range wsX0_rowOf := goodIn_r _ [13] (by decide +kernel) (by decide +kernel)
set_option maxRecDepth 20000 in
theorem gX0_range_X0_rowOf : GoodIn wsX0_range (va_wsS RX0 63 yX0_rowOf wsX0_rowOf) := goodIn_app (goodIn_of _ (by decide +kernel)) ggX0_range_X0_rowOf
set_option maxRecDepth 20000 in
theorem ggX0_range_X0_pick : GoodIn wsX0_range wsX0_pick := goodIn_r _ [16, 17, 18, 19, 6, 20] (by decide +kernel) (by decide +kernel)
set_option maxRecDepth 20000 in
theorem gX0_range_X0_pick : GoodIn wsX0_range (va_wsS RX0 166 yX0_pick wsX0_pick) := goodIn_app (goodIn_of _ (by decide +kernel)) ggX0_range_X0_pick
set_option maxRecDepth 20000 in
theorem ggX0_range_X0_logicWord : GoodIn wsX0_range wsX0_logicWord := goodIn_r _ [24, 25, 26, 27, 28, 29, 30, 31, 32, 33, 34, 35, 36, 37] (by decide +kernel) (by decide +kernel)
set_option maxRecDepth 20000 in
theorem gX0_range_X0_logicWord : GoodIn wsX0_range (wsV RX0 158 RX0 yX0_logicWord wsX0_logicWord) := goodIn_app (goodIn_of _ (by decide +kernel)) ggX0_range_X0_logicWord
theorem dX0_range_0 : decode cX0_range 0 = .ok (.aload_n 0, 1) := by decide +kernel
theorem dX0_range_1 : decode cX0_range 1 = .ok (.iload_n 1, 1) := by decide +kernel
theorem dX0_range_2 : decode cX0_range 2 = .ok (.invokevirtual 77, 3) := by decide +kernel
theorem dX0_range_5 : decode cX0_range 5 = .ok (.iload_n 1, 1) := by decide +kernel
theorem dX0_range_6 : decode cX0_range 6 = .ok (.invokestatic 63, 3) := by decide +kernel
theorem dX0_range_9 : decode cX0_range 9 = .ok (.istore_n 2, 1) := by decide +kernel
theorem dX0_range_10 : decode cX0_range 10 = .ok (.iconst 0, 1) := by decide +kernel
theorem dX0_range_11 : decode cX0_range 11 = .ok (.istore_n 3, 1) := by decide +kernel
theorem dX0_range_12 : decode cX0_range 12 = .ok (.iconst 0, 1) := by decide +kernel
theorem dX0_range_13 : decode cX0_range 13 = .ok (.istore 4, 2) := by decide +kernel
theorem dX0_range_15 : decode cX0_range 15 = .ok (.iload 4, 2) := by decide +kernel
theorem dX0_range_17 : decode cX0_range 17 = .ok (.bipush 64, 2) := by decide +kernel
theorem dX0_range_19 : decode cX0_range 19 = .ok (.if_icmp .ge 70, 3) := by decide +kernel
theorem dX0_range_22 : decode cX0_range 22 = .ok (.iconst 0, 1) := by decide +kernel
theorem dX0_range_23 : decode cX0_range 23 = .ok (.istore 5, 2) := by decide +kernel
theorem dX0_range_25 : decode cX0_range 25 = .ok (.iload 5, 2) := by decide +kernel
theorem dX0_range_27 : decode cX0_range 27 = .ok (.iconst 3, 1) := by decide +kernel
theorem dX0_range_28 : decode cX0_range 28 = .ok (.if_icmp .gt 55, 3) := by decide +kernel
theorem dX0_range_31 : decode cX0_range 31 = .ok (.aload_n 0, 1) := by decide +kernel
theorem dX0_range_32 : decode cX0_range 32 = .ok (.getfield 21, 3) := by decide +kernel
theorem dX0_range_35 : decode cX0_range 35 = .ok (.iload_n 2, 1) := by decide +kernel
theorem dX0_range_36 : decode cX0_range 36 = .ok (.iload 4, 2) := by decide +kernel
theorem dX0_range_38 : decode cX0_range 38 = .ok (.iadd, 1) := by decide +kernel
theorem dX0_range_39 : decode cX0_range 39 = .ok (.laload, 1) := by decide +kernel
theorem dX0_range_40 : decode cX0_range 40 = .ok (.aload_n 0, 1) := by decide +kernel
theorem dX0_range_41 : decode cX0_range 41 = .ok (.getfield 25, 3) := by decide +kernel
theorem dX0_range_44 : decode cX0_range 44 = .ok (.iload_n 2, 1) := by decide +kernel
theorem dX0_range_45 : decode cX0_range 45 = .ok (.iload 4, 2) := by decide +kernel
theorem dX0_range_47 : decode cX0_range 47 = .ok (.iadd, 1) := by decide +kernel
theorem dX0_range_48 : decode cX0_range 48 = .ok (.laload, 1) := by decide +kernel
theorem dX0_range_49 : decode cX0_range 49 = .ok (.iload 5, 2) := by decide +kernel
theorem dX0_range_51 : decode cX0_range 51 = .ok (.invokestatic 166, 3) := by decide +kernel
theorem dX0_range_54 : decode cX0_range 54 = .ok (.lstore 6, 2) := by decide +kernel
theorem dX0_range_56 : decode cX0_range 56 = .ok (.lload 6, 2) := by decide +kernel
theorem dX0_range_58 : decode cX0_range 58 = .ok (.aload_n 0, 1) := by decide +kernel
theorem dX0_range_59 : decode cX0_range 59 = .ok (.iload 4, 2) := by decide +kernel
theorem dX0_range_61 : decode cX0_range 61 = .ok (.invokevirtual 158, 3) := by decide +kernel
theorem dX0_range_64 : decode cX0_range 64 = .ok (.land, 1) := by decide +kernel
theorem dX0_range_65 : decode cX0_range 65 = .ok (.lconst 0, 1) := by decide +kernel
theorem dX0_range_66 : decode cX0_range 66 = .ok (.lcmp, 1) := by decide +kernel
theorem dX0_range_67 : decode cX0_range 67 = .ok (.ifCond .eq 10, 3) := by decide +kernel
theorem dX0_range_70 : decode cX0_range 70 = .ok (.iload_n 3, 1) := by decide +kernel
theorem dX0_range_71 : decode cX0_range 71 = .ok (.iconst 1, 1) := by decide +kernel
theorem dX0_range_72 : decode cX0_range 72 = .ok (.iload 5, 2) := by decide +kernel
theorem dX0_range_74 : decode cX0_range 74 = .ok (.ishl, 1) := by decide +kernel
theorem dX0_range_75 : decode cX0_range 75 = .ok (.ior, 1) := by decide +kernel
theorem dX0_range_76 : decode cX0_range 76 = .ok (.istore_n 3, 1) := by decide +kernel
theorem dX0_range_77 : decode cX0_range 77 = .ok (.iinc 5 1, 3) := by decide +kernel
theorem dX0_range_80 : decode cX0_range 80 = .ok (.goto (-55), 3) := by decide +kernel
theorem dX0_range_83 : decode cX0_range 83 = .ok (.iinc 4 1, 3) := by decide +kernel
theorem dX0_range_86 : decode cX0_range 86 = .ok (.goto (-71), 3) := by decide +kernel
theorem dX0_range_89 : decode cX0_range 89 = .ok (.iload_n 3, 1) := by decide +kernel
theorem dX0_range_90 : decode cX0_range 90 = .ok (.ireturn, 1) := by decide +kernel
set_option maxRecDepth 20000 in
theorem ggX0_entails_X0_against : GoodIn wsX0_entails wsX0_against := goodIn_ca (goodIn_r _ [5, 6, 7, 8, 9, 10, 4, 11, 12, 13, 14, 15, 16, 17, 18, 19, 20, 21, 22, 23, 24, 25, 26, 27, 28, 29, 30, 31, 32, 33, 34, 35, 36, 37, 38, 39, 40, 41, 42, 43, 44] (by decide +kernel) (by decide +kernel)) (goodIn_sub (fun _ h => List.mem_cons_of_mem _ (List.mem_append_right _ h)) (by decide +kernel))
set_option maxRecDepth 20000 in
theorem gX0_entails_X0_against : GoodIn wsX0_entails (wsV RX0 170 RX0 yX0_against wsX0_against) := goodIn_app (goodIn_of _ (by decide +kernel)) ggX0_entails_X0_against
theorem dX0_entails_0 : decode cX0_entails 0 = .ok (.aload_n 0, 1) := by decide +kernel
theorem dX0_entails_1 : decode cX0_entails 1 = .ok (.iload_n 1, 1) := by decide +kernel
theorem dX0_entails_2 : decode cX0_entails 2 = .ok (.iload_n 2, 1) := by decide +kernel
theorem dX0_entails_3 : decode cX0_entails 3 = .ok (.invokevirtual 170, 3) := by decide +kernel
theorem dX0_entails_6 : decode cX0_entails 6 = .ok (.iconst (-1), 1) := by decide +kernel
theorem dX0_entails_7 : decode cX0_entails 7 = .ok (.if_icmp .ne 7, 3) := by decide +kernel
theorem dX0_entails_10 : decode cX0_entails 10 = .ok (.iconst 1, 1) := by decide +kernel
theorem dX0_entails_11 : decode cX0_entails 11 = .ok (.goto 4, 3) := by decide +kernel
theorem dX0_entails_14 : decode cX0_entails 14 = .ok (.iconst 0, 1) := by decide +kernel
theorem dX0_entails_15 : decode cX0_entails 15 = .ok (.ireturn, 1) := by decide +kernel
set_option maxRecDepth 20000 in
theorem ggX0_against_X0_requireFormula : GoodIn wsX0_against wsX0_requireFormula := goodIn_ca (goodIn_r _ [7, 8, 9, 10, 29, 30, 31, 32, 33, 34, 35, 36, 37, 38, 39, 40] (by decide +kernel) (by decide +kernel)) (goodIn_sub (fun _ h => List.mem_cons_of_mem _ (List.mem_append_right _ h)) (by decide +kernel))
set_option maxRecDepth 20000 in
theorem gX0_against_X0_requireFormula : GoodIn wsX0_against (wsV RX0 77 RX0 yX0_requireFormula wsX0_requireFormula) := goodIn_app (goodIn_of _ (by decide +kernel)) ggX0_against_X0_requireFormula
set_option maxRecDepth 20000 in
theorem ggX0_against_X0_rowOf : GoodIn wsX0_against wsX0_rowOf := goodIn_r _ [13] (by decide +kernel) (by decide +kernel)
set_option maxRecDepth 20000 in
theorem gX0_against_X0_rowOf : GoodIn wsX0_against (va_wsS RX0 63 yX0_rowOf wsX0_rowOf) := goodIn_app (goodIn_of _ (by decide +kernel)) ggX0_against_X0_rowOf
set_option maxRecDepth 20000 in
theorem ggX0_against_X0_logicWord : GoodIn wsX0_against wsX0_logicWord := goodIn_r _ [17, 18, 29, 30, 31, 32, 33, 34, 35, 36, 37, 38, 39, 40] (by decide +kernel) (by decide +kernel)
set_option maxRecDepth 20000 in
theorem gX0_against_X0_logicWord : GoodIn wsX0_against (wsV RX0 158 RX0 yX0_logicWord wsX0_logicWord) := goodIn_app (goodIn_of _ (by decide +kernel)) ggX0_against_X0_logicWord
set_option maxRecDepth 20000 in
theorem ggX0_against_X0_lowestBit : GoodIn wsX0_against wsX0_lowestBit := goodIn_r _ [21, 22, 23, 24, 25, 26, 27, 28] (by decide +kernel) (by decide +kernel)
set_option maxRecDepth 20000 in
theorem gX0_against_X0_lowestBit : GoodIn wsX0_against (va_wsS RX0 173 yX0_lowestBit wsX0_lowestBit) := goodIn_app (goodIn_of _ (by decide +kernel)) ggX0_against_X0_lowestBit
theorem dX0_against_0 : decode cX0_against 0 = .ok (.aload_n 0, 1) := by decide +kernel
theorem dX0_against_1 : decode cX0_against 1 = .ok (.iload_n 1, 1) := by decide +kernel
theorem dX0_against_2 : decode cX0_against 2 = .ok (.invokevirtual 77, 3) := by decide +kernel
theorem dX0_against_5 : decode cX0_against 5 = .ok (.aload_n 0, 1) := by decide +kernel
theorem dX0_against_6 : decode cX0_against 6 = .ok (.iload_n 2, 1) := by decide +kernel
theorem dX0_against_7 : decode cX0_against 7 = .ok (.invokevirtual 77, 3) := by decide +kernel
theorem dX0_against_10 : decode cX0_against 10 = .ok (.iload_n 1, 1) := by decide +kernel
theorem dX0_against_11 : decode cX0_against 11 = .ok (.invokestatic 63, 3) := by decide +kernel
theorem dX0_against_14 : decode cX0_against 14 = .ok (.istore_n 3, 1) := by decide +kernel
theorem dX0_against_15 : decode cX0_against 15 = .ok (.iload_n 2, 1) := by decide +kernel
theorem dX0_against_16 : decode cX0_against 16 = .ok (.invokestatic 63, 3) := by decide +kernel
theorem dX0_against_19 : decode cX0_against 19 = .ok (.istore 4, 2) := by decide +kernel
theorem dX0_against_21 : decode cX0_against 21 = .ok (.iconst 0, 1) := by decide +kernel
theorem dX0_against_22 : decode cX0_against 22 = .ok (.istore 5, 2) := by decide +kernel
theorem dX0_against_24 : decode cX0_against 24 = .ok (.iload 5, 2) := by decide +kernel
theorem dX0_against_26 : decode cX0_against 26 = .ok (.bipush 64, 2) := by decide +kernel
theorem dX0_against_28 : decode cX0_against 28 = .ok (.if_icmp .ge 61, 3) := by decide +kernel
theorem dX0_against_31 : decode cX0_against 31 = .ok (.aload_n 0, 1) := by decide +kernel
theorem dX0_against_32 : decode cX0_against 32 = .ok (.getfield 21, 3) := by decide +kernel
theorem dX0_against_35 : decode cX0_against 35 = .ok (.iload_n 3, 1) := by decide +kernel
theorem dX0_against_36 : decode cX0_against 36 = .ok (.iload 5, 2) := by decide +kernel
theorem dX0_against_38 : decode cX0_against 38 = .ok (.iadd, 1) := by decide +kernel
theorem dX0_against_39 : decode cX0_against 39 = .ok (.laload, 1) := by decide +kernel
theorem dX0_against_40 : decode cX0_against 40 = .ok (.aload_n 0, 1) := by decide +kernel
theorem dX0_against_41 : decode cX0_against 41 = .ok (.getfield 21, 3) := by decide +kernel
theorem dX0_against_44 : decode cX0_against 44 = .ok (.iload 4, 2) := by decide +kernel
theorem dX0_against_46 : decode cX0_against 46 = .ok (.iload 5, 2) := by decide +kernel
theorem dX0_against_48 : decode cX0_against 48 = .ok (.iadd, 1) := by decide +kernel
theorem dX0_against_49 : decode cX0_against 49 = .ok (.laload, 1) := by decide +kernel
theorem dX0_against_50 : decode cX0_against 50 = .ok (.ldc2_w 46, 3) := by decide +kernel
theorem dX0_against_53 : decode cX0_against 53 = .ok (.lxor, 1) := by decide +kernel
theorem dX0_against_54 : decode cX0_against 54 = .ok (.land, 1) := by decide +kernel
theorem dX0_against_55 : decode cX0_against 55 = .ok (.aload_n 0, 1) := by decide +kernel
theorem dX0_against_56 : decode cX0_against 56 = .ok (.iload 5, 2) := by decide +kernel
theorem dX0_against_58 : decode cX0_against 58 = .ok (.invokevirtual 158, 3) := by decide +kernel
theorem dX0_against_61 : decode cX0_against 61 = .ok (.land, 1) := by decide +kernel
theorem dX0_against_62 : decode cX0_against 62 = .ok (.lstore 6, 2) := by decide +kernel
theorem dX0_against_64 : decode cX0_against 64 = .ok (.lload 6, 2) := by decide +kernel
theorem dX0_against_66 : decode cX0_against 66 = .ok (.lconst 0, 1) := by decide +kernel
theorem dX0_against_67 : decode cX0_against 67 = .ok (.lcmp, 1) := by decide +kernel
theorem dX0_against_68 : decode cX0_against 68 = .ok (.ifCond .eq 15, 3) := by decide +kernel
theorem dX0_against_71 : decode cX0_against 71 = .ok (.iload 5, 2) := by decide +kernel
theorem dX0_against_73 : decode cX0_against 73 = .ok (.bipush 64, 2) := by decide +kernel
theorem dX0_against_75 : decode cX0_against 75 = .ok (.imul, 1) := by decide +kernel
theorem dX0_against_76 : decode cX0_against 76 = .ok (.lload 6, 2) := by decide +kernel
theorem dX0_against_78 : decode cX0_against 78 = .ok (.invokestatic 173, 3) := by decide +kernel
theorem dX0_against_81 : decode cX0_against 81 = .ok (.iadd, 1) := by decide +kernel
theorem dX0_against_82 : decode cX0_against 82 = .ok (.ireturn, 1) := by decide +kernel
theorem dX0_against_83 : decode cX0_against 83 = .ok (.iinc 5 1, 3) := by decide +kernel
theorem dX0_against_86 : decode cX0_against 86 = .ok (.goto (-62), 3) := by decide +kernel
theorem dX0_against_89 : decode cX0_against 89 = .ok (.iconst (-1), 1) := by decide +kernel
theorem dX0_against_90 : decode cX0_against 90 = .ok (.ireturn, 1) := by decide +kernel
set_option maxRecDepth 20000 in
theorem ggX0_areEqual_X0_requireFormula : GoodIn wsX0_areEqual wsX0_requireFormula := goodIn_ca (goodIn_r _ [5, 6, 7, 8, 23, 24, 25, 26, 27, 28, 29, 30, 31, 32, 33, 34] (by decide +kernel) (by decide +kernel)) (goodIn_sub (fun _ h => List.mem_cons_of_mem _ (List.mem_append_right _ h)) (by decide +kernel))
set_option maxRecDepth 20000 in
theorem gX0_areEqual_X0_requireFormula : GoodIn wsX0_areEqual (wsV RX0 77 RX0 yX0_requireFormula wsX0_requireFormula) := goodIn_app (goodIn_of _ (by decide +kernel)) ggX0_areEqual_X0_requireFormula
set_option maxRecDepth 20000 in
theorem ggX0_areEqual_X0_rowOf : GoodIn wsX0_areEqual wsX0_rowOf := goodIn_r _ [11] (by decide +kernel) (by decide +kernel)
set_option maxRecDepth 20000 in
theorem gX0_areEqual_X0_rowOf : GoodIn wsX0_areEqual (va_wsS RX0 63 yX0_rowOf wsX0_rowOf) := goodIn_app (goodIn_of _ (by decide +kernel)) ggX0_areEqual_X0_rowOf
set_option maxRecDepth 20000 in
theorem ggX0_areEqual_X0_differing : GoodIn wsX0_areEqual wsX0_differing := goodIn_r _ [15, 16, 17, 23, 24, 25, 26, 27, 28, 29, 30, 31, 32, 33, 34] (by decide +kernel) (by decide +kernel)
set_option maxRecDepth 20000 in
theorem gX0_areEqual_X0_differing : GoodIn wsX0_areEqual (wsV RX0 176 RX0 yX0_differing wsX0_differing) := goodIn_app (goodIn_of _ (by decide +kernel)) ggX0_areEqual_X0_differing
set_option maxRecDepth 20000 in
theorem ggX0_areEqual_X0_logicWord : GoodIn wsX0_areEqual wsX0_logicWord := goodIn_r _ [21, 22, 23, 24, 25, 26, 27, 28, 29, 30, 31, 32, 33, 34] (by decide +kernel) (by decide +kernel)
set_option maxRecDepth 20000 in
theorem gX0_areEqual_X0_logicWord : GoodIn wsX0_areEqual (wsV RX0 158 RX0 yX0_logicWord wsX0_logicWord) := goodIn_app (goodIn_of _ (by decide +kernel)) ggX0_areEqual_X0_logicWord
theorem dX0_areEqual_0 : decode cX0_areEqual 0 = .ok (.aload_n 0, 1) := by decide +kernel
theorem dX0_areEqual_1 : decode cX0_areEqual 1 = .ok (.iload_n 1, 1) := by decide +kernel
theorem dX0_areEqual_2 : decode cX0_areEqual 2 = .ok (.invokevirtual 77, 3) := by decide +kernel
theorem dX0_areEqual_5 : decode cX0_areEqual 5 = .ok (.aload_n 0, 1) := by decide +kernel
theorem dX0_areEqual_6 : decode cX0_areEqual 6 = .ok (.iload_n 2, 1) := by decide +kernel
theorem dX0_areEqual_7 : decode cX0_areEqual 7 = .ok (.invokevirtual 77, 3) := by decide +kernel
theorem dX0_areEqual_10 : decode cX0_areEqual 10 = .ok (.iload_n 1, 1) := by decide +kernel
theorem dX0_areEqual_11 : decode cX0_areEqual 11 = .ok (.invokestatic 63, 3) := by decide +kernel
theorem dX0_areEqual_14 : decode cX0_areEqual 14 = .ok (.istore_n 3, 1) := by decide +kernel
theorem dX0_areEqual_15 : decode cX0_areEqual 15 = .ok (.iload_n 2, 1) := by decide +kernel
theorem dX0_areEqual_16 : decode cX0_areEqual 16 = .ok (.invokestatic 63, 3) := by decide +kernel
theorem dX0_areEqual_19 : decode cX0_areEqual 19 = .ok (.istore 4, 2) := by decide +kernel
theorem dX0_areEqual_21 : decode cX0_areEqual 21 = .ok (.iconst 0, 1) := by decide +kernel
theorem dX0_areEqual_22 : decode cX0_areEqual 22 = .ok (.istore 5, 2) := by decide +kernel
theorem dX0_areEqual_24 : decode cX0_areEqual 24 = .ok (.iload 5, 2) := by decide +kernel
theorem dX0_areEqual_26 : decode cX0_areEqual 26 = .ok (.bipush 64, 2) := by decide +kernel
theorem dX0_areEqual_28 : decode cX0_areEqual 28 = .ok (.if_icmp .ge 37, 3) := by decide +kernel
theorem dX0_areEqual_31 : decode cX0_areEqual 31 = .ok (.aload_n 0, 1) := by decide +kernel
theorem dX0_areEqual_32 : decode cX0_areEqual 32 = .ok (.iload_n 3, 1) := by decide +kernel
theorem dX0_areEqual_33 : decode cX0_areEqual 33 = .ok (.iload 5, 2) := by decide +kernel
theorem dX0_areEqual_35 : decode cX0_areEqual 35 = .ok (.iadd, 1) := by decide +kernel
theorem dX0_areEqual_36 : decode cX0_areEqual 36 = .ok (.iload 4, 2) := by decide +kernel
theorem dX0_areEqual_38 : decode cX0_areEqual 38 = .ok (.iload 5, 2) := by decide +kernel
theorem dX0_areEqual_40 : decode cX0_areEqual 40 = .ok (.iadd, 1) := by decide +kernel
theorem dX0_areEqual_41 : decode cX0_areEqual 41 = .ok (.iconst 0, 1) := by decide +kernel
theorem dX0_areEqual_42 : decode cX0_areEqual 42 = .ok (.invokevirtual 176, 3) := by decide +kernel
theorem dX0_areEqual_45 : decode cX0_areEqual 45 = .ok (.aload_n 0, 1) := by decide +kernel
theorem dX0_areEqual_46 : decode cX0_areEqual 46 = .ok (.iload 5, 2) := by decide +kernel
theorem dX0_areEqual_48 : decode cX0_areEqual 48 = .ok (.invokevirtual 158, 3) := by decide +kernel
theorem dX0_areEqual_51 : decode cX0_areEqual 51 = .ok (.land, 1) := by decide +kernel
theorem dX0_areEqual_52 : decode cX0_areEqual 52 = .ok (.lconst 0, 1) := by decide +kernel
theorem dX0_areEqual_53 : decode cX0_areEqual 53 = .ok (.lcmp, 1) := by decide +kernel
theorem dX0_areEqual_54 : decode cX0_areEqual 54 = .ok (.ifCond .eq 5, 3) := by decide +kernel
theorem dX0_areEqual_57 : decode cX0_areEqual 57 = .ok (.iconst 0, 1) := by decide +kernel
theorem dX0_areEqual_58 : decode cX0_areEqual 58 = .ok (.ireturn, 1) := by decide +kernel
theorem dX0_areEqual_59 : decode cX0_areEqual 59 = .ok (.iinc 5 1, 3) := by decide +kernel
theorem dX0_areEqual_62 : decode cX0_areEqual 62 = .ok (.goto (-38), 3) := by decide +kernel
theorem dX0_areEqual_65 : decode cX0_areEqual 65 = .ok (.iconst 1, 1) := by decide +kernel
theorem dX0_areEqual_66 : decode cX0_areEqual 66 = .ok (.ireturn, 1) := by decide +kernel
set_option maxRecDepth 20000 in
theorem ggX0_depends_X0_requireFormula : GoodIn wsX0_depends wsX0_requireFormula := goodIn_ca (goodIn_r _ [6, 7, 8, 9, 55, 56, 57, 58, 59, 60, 61, 62, 63, 64, 65, 66] (by decide +kernel) (by decide +kernel)) (goodIn_sub (fun _ h => List.mem_cons_of_mem _ (List.mem_append_right _ h)) (by decide +kernel))
set_option maxRecDepth 20000 in
theorem gX0_depends_X0_requireFormula : GoodIn wsX0_depends (wsV RX0 77 RX0 yX0_requireFormula wsX0_requireFormula) := goodIn_app (goodIn_of _ (by decide +kernel)) ggX0_depends_X0_requireFormula
set_option maxRecDepth 20000 in
theorem ggX0_depends_X0_requireAtom : GoodIn wsX0_depends wsX0_requireAtom := goodIn_ca (goodIn_r _ [12, 7, 8] (by decide +kernel) (by decide +kernel)) (goodIn_sub (fun _ h => List.mem_cons_of_mem _ (List.mem_append_right _ h)) (by decide +kernel))
set_option maxRecDepth 20000 in
theorem gX0_depends_X0_requireAtom : GoodIn wsX0_depends (va_wsS RX0 52 yX0_requireAtom wsX0_requireAtom) := goodIn_app (goodIn_of _ (by decide +kernel)) ggX0_depends_X0_requireAtom
set_option maxRecDepth 20000 in
theorem ggX0_depends_X0_lowestBit : GoodIn wsX0_depends wsX0_lowestBit := goodIn_r _ [15, 16, 17, 18, 19, 20, 21, 22] (by decide +kernel) (by decide +kernel)
set_option maxRecDepth 20000 in
theorem gX0_depends_X0_lowestBit : GoodIn wsX0_depends (va_wsS RX0 173 yX0_lowestBit wsX0_lowestBit) := goodIn_app (goodIn_of _ (by decide +kernel)) ggX0_depends_X0_lowestBit
set_option maxRecDepth 20000 in
theorem ggX0_depends_X0_isChanged : GoodIn wsX0_depends wsX0_isChanged := goodIn_r _ [26, 27, 28, 5, 29, 30, 31, 32, 33, 34, 35, 36, 37, 38, 39, 40, 41, 42, 43, 44, 45, 46, 47, 48, 49, 50, 51, 52, 53, 54, 55, 56, 57, 58, 59, 60, 61, 62, 63, 64, 65, 66] (by decide +kernel) (by decide +kernel)
set_option maxRecDepth 20000 in
theorem gX0_depends_X0_isChanged : GoodIn wsX0_depends (wsV RX0 180 RX0 yX0_isChanged wsX0_isChanged) := goodIn_app (goodIn_of _ (by decide +kernel)) ggX0_depends_X0_isChanged
theorem dX0_depends_0 : decode cX0_depends 0 = .ok (.aload_n 0, 1) := by decide +kernel
theorem dX0_depends_1 : decode cX0_depends 1 = .ok (.iload_n 1, 1) := by decide +kernel
theorem dX0_depends_2 : decode cX0_depends 2 = .ok (.invokevirtual 77, 3) := by decide +kernel
theorem dX0_depends_5 : decode cX0_depends 5 = .ok (.iload_n 2, 1) := by decide +kernel
theorem dX0_depends_6 : decode cX0_depends 6 = .ok (.invokestatic 52, 3) := by decide +kernel
theorem dX0_depends_9 : decode cX0_depends 9 = .ok (.aload_n 0, 1) := by decide +kernel
theorem dX0_depends_10 : decode cX0_depends 10 = .ok (.getfield 43, 3) := by decide +kernel
theorem dX0_depends_13 : decode cX0_depends 13 = .ok (.i2l, 1) := by decide +kernel
theorem dX0_depends_14 : decode cX0_depends 14 = .ok (.invokestatic 173, 3) := by decide +kernel
theorem dX0_depends_17 : decode cX0_depends 17 = .ok (.istore_n 3, 1) := by decide +kernel
theorem dX0_depends_18 : decode cX0_depends 18 = .ok (.iload_n 3, 1) := by decide +kernel
theorem dX0_depends_19 : decode cX0_depends 19 = .ok (.iconst 1, 1) := by decide +kernel
theorem dX0_depends_20 : decode cX0_depends 20 = .ok (.iadd, 1) := by decide +kernel
theorem dX0_depends_21 : decode cX0_depends 21 = .ok (.istore 4, 2) := by decide +kernel
theorem dX0_depends_23 : decode cX0_depends 23 = .ok (.iload 4, 2) := by decide +kernel
theorem dX0_depends_25 : decode cX0_depends 25 = .ok (.iconst 3, 1) := by decide +kernel
theorem dX0_depends_26 : decode cX0_depends 26 = .ok (.if_icmp .gt 35, 3) := by decide +kernel
theorem dX0_depends_29 : decode cX0_depends 29 = .ok (.aload_n 0, 1) := by decide +kernel
theorem dX0_depends_30 : decode cX0_depends 30 = .ok (.getfield 43, 3) := by decide +kernel
theorem dX0_depends_33 : decode cX0_depends 33 = .ok (.iload 4, 2) := by decide +kernel
theorem dX0_depends_35 : decode cX0_depends 35 = .ok (.iushr, 1) := by decide +kernel
theorem dX0_depends_36 : decode cX0_depends 36 = .ok (.iconst 1, 1) := by decide +kernel
theorem dX0_depends_37 : decode cX0_depends 37 = .ok (.iand, 1) := by decide +kernel
theorem dX0_depends_38 : decode cX0_depends 38 = .ok (.ifCond .eq 17, 3) := by decide +kernel
theorem dX0_depends_41 : decode cX0_depends 41 = .ok (.aload_n 0, 1) := by decide +kernel
theorem dX0_depends_42 : decode cX0_depends 42 = .ok (.iload_n 1, 1) := by decide +kernel
theorem dX0_depends_43 : decode cX0_depends 43 = .ok (.iload_n 2, 1) := by decide +kernel
theorem dX0_depends_44 : decode cX0_depends 44 = .ok (.iload_n 3, 1) := by decide +kernel
theorem dX0_depends_45 : decode cX0_depends 45 = .ok (.iload 4, 2) := by decide +kernel
theorem dX0_depends_47 : decode cX0_depends 47 = .ok (.invokevirtual 180, 3) := by decide +kernel
theorem dX0_depends_50 : decode cX0_depends 50 = .ok (.ifCond .eq 5, 3) := by decide +kernel
theorem dX0_depends_53 : decode cX0_depends 53 = .ok (.iconst 1, 1) := by decide +kernel
theorem dX0_depends_54 : decode cX0_depends 54 = .ok (.ireturn, 1) := by decide +kernel
theorem dX0_depends_55 : decode cX0_depends 55 = .ok (.iinc 4 1, 3) := by decide +kernel
theorem dX0_depends_58 : decode cX0_depends 58 = .ok (.goto (-35), 3) := by decide +kernel
theorem dX0_depends_61 : decode cX0_depends 61 = .ok (.iconst 0, 1) := by decide +kernel
theorem dX0_depends_62 : decode cX0_depends 62 = .ok (.ireturn, 1) := by decide +kernel
set_option maxRecDepth 20000 in
theorem ggX0_valueAt_X0_requireFormula : GoodIn wsX0_valueAt wsX0_requireFormula := goodIn_ca (goodIn_r _ [7, 8, 9, 10, 20, 21, 22, 23, 24, 25, 26, 27, 28, 29, 30, 31] (by decide +kernel) (by decide +kernel)) (goodIn_sub (fun _ h => List.mem_cons_of_mem _ (List.mem_append_right _ h)) (by decide +kernel))
set_option maxRecDepth 20000 in
theorem gX0_valueAt_X0_requireFormula : GoodIn wsX0_valueAt (wsV RX0 77 RX0 yX0_requireFormula wsX0_requireFormula) := goodIn_app (goodIn_of _ (by decide +kernel)) ggX0_valueAt_X0_requireFormula
set_option maxRecDepth 20000 in
theorem ggX0_valueAt_X0_lookUp : GoodIn wsX0_valueAt wsX0_lookUp := goodIn_r _ [14, 15, 16, 17, 18, 6, 19, 20, 21, 22, 23, 24, 25, 26, 27, 28, 29, 30, 31] (by decide +kernel) (by decide +kernel)
set_option maxRecDepth 20000 in
theorem gX0_valueAt_X0_lookUp : GoodIn wsX0_valueAt (wsV RX0 131 RX0 yX0_lookUp wsX0_lookUp) := goodIn_app (goodIn_of _ (by decide +kernel)) ggX0_valueAt_X0_lookUp
theorem dX0_valueAt_0 : decode cX0_valueAt 0 = .ok (.aload_n 0, 1) := by decide +kernel
theorem dX0_valueAt_1 : decode cX0_valueAt 1 = .ok (.iload_n 1, 1) := by decide +kernel
theorem dX0_valueAt_2 : decode cX0_valueAt 2 = .ok (.invokevirtual 77, 3) := by decide +kernel
theorem dX0_valueAt_5 : decode cX0_valueAt 5 = .ok (.iload_n 2, 1) := by decide +kernel
theorem dX0_valueAt_6 : decode cX0_valueAt 6 = .ok (.ifCond .lt 10, 3) := by decide +kernel
theorem dX0_valueAt_9 : decode cX0_valueAt 9 = .ok (.iload_n 2, 1) := by decide +kernel
theorem dX0_valueAt_10 : decode cX0_valueAt 10 = .ok (.sipush 4096, 3) := by decide +kernel
theorem dX0_valueAt_13 : decode cX0_valueAt 13 = .ok (.if_icmp .lt 13, 3) := by decide +kernel
theorem dX0_valueAt_16 : decode cX0_valueAt 16 = .ok (.new 80, 3) := by decide +kernel
theorem dX0_valueAt_19 : decode cX0_valueAt 19 = .ok (.dup, 1) := by decide +kernel
theorem dX0_valueAt_20 : decode cX0_valueAt 20 = .ok (.ldc 184, 2) := by decide +kernel
theorem dX0_valueAt_22 : decode cX0_valueAt 22 = .ok (.invokespecial 84, 3) := by decide +kernel
theorem dX0_valueAt_25 : decode cX0_valueAt 25 = .ok (.athrow, 1) := by decide +kernel
theorem dX0_valueAt_26 : decode cX0_valueAt 26 = .ok (.aload_n 0, 1) := by decide +kernel
theorem dX0_valueAt_27 : decode cX0_valueAt 27 = .ok (.iload_n 1, 1) := by decide +kernel
theorem dX0_valueAt_28 : decode cX0_valueAt 28 = .ok (.iload_n 2, 1) := by decide +kernel
theorem dX0_valueAt_29 : decode cX0_valueAt 29 = .ok (.invokevirtual 131, 3) := by decide +kernel
theorem dX0_valueAt_32 : decode cX0_valueAt 32 = .ok (.ireturn, 1) := by decide +kernel
set_option maxRecDepth 20000 in
theorem ggX0_digest_X0_heard : GoodIn wsX0_digest wsX0_heard := goodIn_r _ [14, 15, 16, 17, 13, 18, 6, 5, 4, 58, 59, 60, 61, 62, 63, 64, 65, 66, 67, 68, 69] (by decide +kernel) (by decide +kernel)
set_option maxRecDepth 20000 in
theorem gX0_digest_X0_heard : GoodIn wsX0_digest (wsV RX0 114 RX0 yX0_heard wsX0_heard) := goodIn_app (goodIn_of _ (by decide +kernel)) ggX0_digest_X0_heard
set_option maxRecDepth 20000 in
theorem ggX0_digest_X0_givenState : GoodIn wsX0_digest wsX0_givenState := goodIn_r _ [22, 7, 58, 59, 60, 61, 62, 63, 64, 65, 66, 67, 68, 69] (by decide +kernel) (by decide +kernel)
set_option maxRecDepth 20000 in
theorem gX0_digest_X0_givenState : GoodIn wsX0_digest (wsV RX0 118 RX0 yX0_givenState wsX0_givenState) := goodIn_app (goodIn_of _ (by decide +kernel)) ggX0_digest_X0_givenState
set_option maxRecDepth 20000 in
theorem ggX0_digest_X0_settledNow : GoodIn wsX0_digest wsX0_settledNow := goodIn_r _ [26, 10, 11, 12, 13, 14, 15, 16, 17, 18, 6, 5, 4, 27, 28, 29, 30, 19, 20, 21, 22, 7, 31, 32, 33, 34, 8, 35, 36, 37, 38, 39, 40, 41, 42, 43, 44, 45, 46, 58, 59, 60, 61, 62, 63, 64, 65, 66, 67, 68, 69] (by decide +kernel) (by decide +kernel)
set_option maxRecDepth 20000 in
theorem gX0_digest_X0_settledNow : GoodIn wsX0_digest (wsV RX0 121 RX0 yX0_settledNow wsX0_settledNow) := goodIn_app (goodIn_of _ (by decide +kernel)) ggX0_digest_X0_settledNow
set_option maxRecDepth 20000 in
theorem ggX0_digest_X0_mix : GoodIn wsX0_digest wsX0_mix := goodIn_r _ [49, 50] (by decide +kernel) (by decide +kernel)
set_option maxRecDepth 20000 in
theorem gX0_digest_X0_mix : GoodIn wsX0_digest (va_wsS RX0 188 yX0_mix wsX0_mix) := goodIn_app (goodIn_of _ (by decide +kernel)) ggX0_digest_X0_mix
set_option maxRecDepth 20000 in
theorem ggX0_digest_X0_valueIn : GoodIn wsX0_digest wsX0_valueIn := goodIn_r _ [53, 44, 45, 13, 46] (by decide +kernel) (by decide +kernel)
set_option maxRecDepth 20000 in
theorem gX0_digest_X0_valueIn : GoodIn wsX0_digest (va_wsS RX0 100 yX0_valueIn wsX0_valueIn) := goodIn_app (goodIn_of _ (by decide +kernel)) ggX0_digest_X0_valueIn
set_option maxRecDepth 20000 in
theorem ggX0_digest_X0_rounds : GoodIn wsX0_digest wsX0_rounds := goodIn_r _ [57, 10, 11, 12, 13, 14, 15, 16, 17, 18, 6, 5, 4, 19, 20, 21, 22, 7, 31, 32, 33, 34, 8, 35, 36, 37, 38, 39, 40, 41, 42, 43, 44, 45, 46, 58, 59, 60, 61, 62, 63, 64, 65, 66, 67, 68, 69] (by decide +kernel) (by decide +kernel)
set_option maxRecDepth 20000 in
theorem gX0_digest_X0_rounds : GoodIn wsX0_digest (wsV RX0 192 RX0 yX0_rounds wsX0_rounds) := goodIn_app (goodIn_of _ (by decide +kernel)) ggX0_digest_X0_rounds
theorem dX0_digest_0 : decode cX0_digest 0 = .ok (.aload_n 0, 1) := by decide +kernel
theorem dX0_digest_1 : decode cX0_digest 1 = .ok (.aload_n 0, 1) := by decide +kernel
theorem dX0_digest_2 : decode cX0_digest 2 = .ok (.invokevirtual 114, 3) := by decide +kernel
theorem dX0_digest_5 : decode cX0_digest 5 = .ok (.invokevirtual 118, 3) := by decide +kernel
theorem dX0_digest_8 : decode cX0_digest 8 = .ok (.istore_n 1, 1) := by decide +kernel
theorem dX0_digest_9 : decode cX0_digest 9 = .ok (.aload_n 0, 1) := by decide +kernel
theorem dX0_digest_10 : decode cX0_digest 10 = .ok (.invokevirtual 121, 3) := by decide +kernel
theorem dX0_digest_13 : decode cX0_digest 13 = .ok (.istore_n 2, 1) := by decide +kernel
theorem dX0_digest_14 : decode cX0_digest 14 = .ok (.ldc2_w 186, 3) := by decide +kernel
theorem dX0_digest_17 : decode cX0_digest 17 = .ok (.aload_n 0, 1) := by decide +kernel
theorem dX0_digest_18 : decode cX0_digest 18 = .ok (.getfield 9, 3) := by decide +kernel
theorem dX0_digest_21 : decode cX0_digest 21 = .ok (.invokestatic 188, 3) := by decide +kernel
theorem dX0_digest_24 : decode cX0_digest 24 = .ok (.lstore_n 3, 1) := by decide +kernel
theorem dX0_digest_25 : decode cX0_digest 25 = .ok (.iconst 0, 1) := by decide +kernel
theorem dX0_digest_26 : decode cX0_digest 26 = .ok (.istore 5, 2) := by decide +kernel
theorem dX0_digest_28 : decode cX0_digest 28 = .ok (.iload 5, 2) := by decide +kernel
theorem dX0_digest_30 : decode cX0_digest 30 = .ok (.aload_n 0, 1) := by decide +kernel
theorem dX0_digest_31 : decode cX0_digest 31 = .ok (.getfield 9, 3) := by decide +kernel
theorem dX0_digest_34 : decode cX0_digest 34 = .ok (.if_icmp .ge 21, 3) := by decide +kernel
theorem dX0_digest_37 : decode cX0_digest 37 = .ok (.lload_n 3, 1) := by decide +kernel
theorem dX0_digest_38 : decode cX0_digest 38 = .ok (.aload_n 0, 1) := by decide +kernel
theorem dX0_digest_39 : decode cX0_digest 39 = .ok (.getfield 13, 3) := by decide +kernel
theorem dX0_digest_42 : decode cX0_digest 42 = .ok (.iload 5, 2) := by decide +kernel
theorem dX0_digest_44 : decode cX0_digest 44 = .ok (.iaload, 1) := by decide +kernel
theorem dX0_digest_45 : decode cX0_digest 45 = .ok (.invokestatic 188, 3) := by decide +kernel
theorem dX0_digest_48 : decode cX0_digest 48 = .ok (.lstore_n 3, 1) := by decide +kernel
theorem dX0_digest_49 : decode cX0_digest 49 = .ok (.iinc 5 1, 3) := by decide +kernel
theorem dX0_digest_52 : decode cX0_digest 52 = .ok (.goto (-24), 3) := by decide +kernel
theorem dX0_digest_55 : decode cX0_digest 55 = .ok (.lload_n 3, 1) := by decide +kernel
theorem dX0_digest_56 : decode cX0_digest 56 = .ok (.aload_n 0, 1) := by decide +kernel
theorem dX0_digest_57 : decode cX0_digest 57 = .ok (.getfield 37, 3) := by decide +kernel
theorem dX0_digest_60 : decode cX0_digest 60 = .ok (.invokestatic 188, 3) := by decide +kernel
theorem dX0_digest_63 : decode cX0_digest 63 = .ok (.lstore_n 3, 1) := by decide +kernel
theorem dX0_digest_64 : decode cX0_digest 64 = .ok (.iconst 0, 1) := by decide +kernel
theorem dX0_digest_65 : decode cX0_digest 65 = .ok (.istore 5, 2) := by decide +kernel
theorem dX0_digest_67 : decode cX0_digest 67 = .ok (.iload 5, 2) := by decide +kernel
theorem dX0_digest_69 : decode cX0_digest 69 = .ok (.bipush 6, 2) := by decide +kernel
theorem dX0_digest_71 : decode cX0_digest 71 = .ok (.if_icmp .ge 74, 3) := by decide +kernel
theorem dX0_digest_74 : decode cX0_digest 74 = .ok (.lload_n 3, 1) := by decide +kernel
theorem dX0_digest_75 : decode cX0_digest 75 = .ok (.aload_n 0, 1) := by decide +kernel
theorem dX0_digest_76 : decode cX0_digest 76 = .ok (.getfield 28, 3) := by decide +kernel
theorem dX0_digest_79 : decode cX0_digest 79 = .ok (.iload 5, 2) := by decide +kernel
theorem dX0_digest_81 : decode cX0_digest 81 = .ok (.iaload, 1) := by decide +kernel
theorem dX0_digest_82 : decode cX0_digest 82 = .ok (.invokestatic 188, 3) := by decide +kernel
theorem dX0_digest_85 : decode cX0_digest 85 = .ok (.lstore_n 3, 1) := by decide +kernel
theorem dX0_digest_86 : decode cX0_digest 86 = .ok (.lload_n 3, 1) := by decide +kernel
theorem dX0_digest_87 : decode cX0_digest 87 = .ok (.aload_n 0, 1) := by decide +kernel
theorem dX0_digest_88 : decode cX0_digest 88 = .ok (.getfield 31, 3) := by decide +kernel
theorem dX0_digest_91 : decode cX0_digest 91 = .ok (.iload 5, 2) := by decide +kernel
theorem dX0_digest_93 : decode cX0_digest 93 = .ok (.baload, 1) := by decide +kernel
theorem dX0_digest_94 : decode cX0_digest 94 = .ok (.ifCond .eq 7, 3) := by decide +kernel
theorem dX0_digest_97 : decode cX0_digest 97 = .ok (.iconst 1, 1) := by decide +kernel
theorem dX0_digest_98 : decode cX0_digest 98 = .ok (.goto 4, 3) := by decide +kernel
theorem dX0_digest_101 : decode cX0_digest 101 = .ok (.iconst 0, 1) := by decide +kernel
theorem dX0_digest_102 : decode cX0_digest 102 = .ok (.invokestatic 188, 3) := by decide +kernel
theorem dX0_digest_105 : decode cX0_digest 105 = .ok (.lstore_n 3, 1) := by decide +kernel
theorem dX0_digest_106 : decode cX0_digest 106 = .ok (.iconst 0, 1) := by decide +kernel
theorem dX0_digest_107 : decode cX0_digest 107 = .ok (.istore 6, 2) := by decide +kernel
theorem dX0_digest_109 : decode cX0_digest 109 = .ok (.iload 6, 2) := by decide +kernel
theorem dX0_digest_111 : decode cX0_digest 111 = .ok (.bipush 6, 2) := by decide +kernel
theorem dX0_digest_113 : decode cX0_digest 113 = .ok (.if_icmp .ge 26, 3) := by decide +kernel
theorem dX0_digest_116 : decode cX0_digest 116 = .ok (.lload_n 3, 1) := by decide +kernel
theorem dX0_digest_117 : decode cX0_digest 117 = .ok (.aload_n 0, 1) := by decide +kernel
theorem dX0_digest_118 : decode cX0_digest 118 = .ok (.getfield 34, 3) := by decide +kernel
theorem dX0_digest_121 : decode cX0_digest 121 = .ok (.iload 5, 2) := by decide +kernel
theorem dX0_digest_123 : decode cX0_digest 123 = .ok (.iaload, 1) := by decide +kernel
theorem dX0_digest_124 : decode cX0_digest 124 = .ok (.iload 6, 2) := by decide +kernel
theorem dX0_digest_126 : decode cX0_digest 126 = .ok (.invokestatic 100, 3) := by decide +kernel
theorem dX0_digest_129 : decode cX0_digest 129 = .ok (.invokestatic 188, 3) := by decide +kernel
theorem dX0_digest_132 : decode cX0_digest 132 = .ok (.lstore_n 3, 1) := by decide +kernel
theorem dX0_digest_133 : decode cX0_digest 133 = .ok (.iinc 6 1, 3) := by decide +kernel
theorem dX0_digest_136 : decode cX0_digest 136 = .ok (.goto (-27), 3) := by decide +kernel
theorem dX0_digest_139 : decode cX0_digest 139 = .ok (.iinc 5 1, 3) := by decide +kernel
theorem dX0_digest_142 : decode cX0_digest 142 = .ok (.goto (-75), 3) := by decide +kernel
theorem dX0_digest_145 : decode cX0_digest 145 = .ok (.iconst 0, 1) := by decide +kernel
theorem dX0_digest_146 : decode cX0_digest 146 = .ok (.istore 5, 2) := by decide +kernel
theorem dX0_digest_148 : decode cX0_digest 148 = .ok (.iload 5, 2) := by decide +kernel
theorem dX0_digest_150 : decode cX0_digest 150 = .ok (.bipush 6, 2) := by decide +kernel
theorem dX0_digest_152 : decode cX0_digest 152 = .ok (.if_icmp .ge 43, 3) := by decide +kernel
theorem dX0_digest_155 : decode cX0_digest 155 = .ok (.lload_n 3, 1) := by decide +kernel
theorem dX0_digest_156 : decode cX0_digest 156 = .ok (.aload_n 0, 1) := by decide +kernel
theorem dX0_digest_157 : decode cX0_digest 157 = .ok (.getfield 40, 3) := by decide +kernel
theorem dX0_digest_160 : decode cX0_digest 160 = .ok (.iload 5, 2) := by decide +kernel
theorem dX0_digest_162 : decode cX0_digest 162 = .ok (.iaload, 1) := by decide +kernel
theorem dX0_digest_163 : decode cX0_digest 163 = .ok (.invokestatic 188, 3) := by decide +kernel
theorem dX0_digest_166 : decode cX0_digest 166 = .ok (.lstore_n 3, 1) := by decide +kernel
theorem dX0_digest_167 : decode cX0_digest 167 = .ok (.lload_n 3, 1) := by decide +kernel
theorem dX0_digest_168 : decode cX0_digest 168 = .ok (.iload_n 1, 1) := by decide +kernel
theorem dX0_digest_169 : decode cX0_digest 169 = .ok (.iload 5, 2) := by decide +kernel
theorem dX0_digest_171 : decode cX0_digest 171 = .ok (.invokestatic 100, 3) := by decide +kernel
theorem dX0_digest_174 : decode cX0_digest 174 = .ok (.invokestatic 188, 3) := by decide +kernel
theorem dX0_digest_177 : decode cX0_digest 177 = .ok (.lstore_n 3, 1) := by decide +kernel
theorem dX0_digest_178 : decode cX0_digest 178 = .ok (.lload_n 3, 1) := by decide +kernel
theorem dX0_digest_179 : decode cX0_digest 179 = .ok (.iload_n 2, 1) := by decide +kernel
theorem dX0_digest_180 : decode cX0_digest 180 = .ok (.iload 5, 2) := by decide +kernel
theorem dX0_digest_182 : decode cX0_digest 182 = .ok (.invokestatic 100, 3) := by decide +kernel
theorem dX0_digest_185 : decode cX0_digest 185 = .ok (.invokestatic 188, 3) := by decide +kernel
theorem dX0_digest_188 : decode cX0_digest 188 = .ok (.lstore_n 3, 1) := by decide +kernel
theorem dX0_digest_189 : decode cX0_digest 189 = .ok (.iinc 5 1, 3) := by decide +kernel
theorem dX0_digest_192 : decode cX0_digest 192 = .ok (.goto (-44), 3) := by decide +kernel
theorem dX0_digest_195 : decode cX0_digest 195 = .ok (.lload_n 3, 1) := by decide +kernel
theorem dX0_digest_196 : decode cX0_digest 196 = .ok (.aload_n 0, 1) := by decide +kernel
theorem dX0_digest_197 : decode cX0_digest 197 = .ok (.invokevirtual 192, 3) := by decide +kernel
theorem dX0_digest_200 : decode cX0_digest 200 = .ok (.invokestatic 188, 3) := by decide +kernel
theorem dX0_digest_203 : decode cX0_digest 203 = .ok (.lstore_n 3, 1) := by decide +kernel
theorem dX0_digest_204 : decode cX0_digest 204 = .ok (.lload_n 3, 1) := by decide +kernel
theorem dX0_digest_205 : decode cX0_digest 205 = .ok (.aload_n 0, 1) := by decide +kernel
theorem dX0_digest_206 : decode cX0_digest 206 = .ok (.getfield 43, 3) := by decide +kernel
theorem dX0_digest_209 : decode cX0_digest 209 = .ok (.invokestatic 188, 3) := by decide +kernel
theorem dX0_digest_212 : decode cX0_digest 212 = .ok (.lreturn, 1) := by decide +kernel
theorem dX0_mix_0 : decode cX0_mix 0 = .ok (.lload_n 0, 1) := by decide +kernel
theorem dX0_mix_1 : decode cX0_mix 1 = .ok (.ldc2_w 195, 3) := by decide +kernel
theorem dX0_mix_4 : decode cX0_mix 4 = .ok (.lmul, 1) := by decide +kernel
theorem dX0_mix_5 : decode cX0_mix 5 = .ok (.iload_n 2, 1) := by decide +kernel
theorem dX0_mix_6 : decode cX0_mix 6 = .ok (.i2l, 1) := by decide +kernel
theorem dX0_mix_7 : decode cX0_mix 7 = .ok (.ladd, 1) := by decide +kernel
theorem dX0_mix_8 : decode cX0_mix 8 = .ok (.lreturn, 1) := by decide +kernel
theorem dX0_requireAtom_0 : decode cX0_requireAtom 0 = .ok (.iload_n 0, 1) := by decide +kernel
theorem dX0_requireAtom_1 : decode cX0_requireAtom 1 = .ok (.ifCond .lt 9, 3) := by decide +kernel
theorem dX0_requireAtom_4 : decode cX0_requireAtom 4 = .ok (.iload_n 0, 1) := by decide +kernel
theorem dX0_requireAtom_5 : decode cX0_requireAtom 5 = .ok (.bipush 6, 2) := by decide +kernel
theorem dX0_requireAtom_7 : decode cX0_requireAtom 7 = .ok (.if_icmp .lt 13, 3) := by decide +kernel
theorem dX0_requireAtom_10 : decode cX0_requireAtom 10 = .ok (.new 197, 3) := by decide +kernel
theorem dX0_requireAtom_13 : decode cX0_requireAtom 13 = .ok (.dup, 1) := by decide +kernel
theorem dX0_requireAtom_14 : decode cX0_requireAtom 14 = .ok (.ldc 199, 2) := by decide +kernel
theorem dX0_requireAtom_16 : decode cX0_requireAtom 16 = .ok (.invokespecial 201, 3) := by decide +kernel
theorem dX0_requireAtom_19 : decode cX0_requireAtom 19 = .ok (.athrow, 1) := by decide +kernel
theorem dX0_requireAtom_20 : decode cX0_requireAtom 20 = .ok (.return_, 1) := by decide +kernel
theorem dX0_requireSource_0 : decode cX0_requireSource 0 = .ok (.iload_n 0, 1) := by decide +kernel
theorem dX0_requireSource_1 : decode cX0_requireSource 1 = .ok (.ifCond .lt 9, 3) := by decide +kernel
theorem dX0_requireSource_4 : decode cX0_requireSource 4 = .ok (.iload_n 0, 1) := by decide +kernel
theorem dX0_requireSource_5 : decode cX0_requireSource 5 = .ok (.bipush 6, 2) := by decide +kernel
theorem dX0_requireSource_7 : decode cX0_requireSource 7 = .ok (.if_icmp .lt 13, 3) := by decide +kernel
theorem dX0_requireSource_10 : decode cX0_requireSource 10 = .ok (.new 197, 3) := by decide +kernel
theorem dX0_requireSource_13 : decode cX0_requireSource 13 = .ok (.dup, 1) := by decide +kernel
theorem dX0_requireSource_14 : decode cX0_requireSource 14 = .ok (.ldc 202, 2) := by decide +kernel
theorem dX0_requireSource_16 : decode cX0_requireSource 16 = .ok (.invokespecial 201, 3) := by decide +kernel
theorem dX0_requireSource_19 : decode cX0_requireSource 19 = .ok (.athrow, 1) := by decide +kernel
theorem dX0_requireSource_20 : decode cX0_requireSource 20 = .ok (.return_, 1) := by decide +kernel
theorem dX0_requireValue_0 : decode cX0_requireValue 0 = .ok (.iload_n 0, 1) := by decide +kernel
theorem dX0_requireValue_1 : decode cX0_requireValue 1 = .ok (.ifCond .lt 8, 3) := by decide +kernel
theorem dX0_requireValue_4 : decode cX0_requireValue 4 = .ok (.iload_n 0, 1) := by decide +kernel
theorem dX0_requireValue_5 : decode cX0_requireValue 5 = .ok (.iconst 3, 1) := by decide +kernel
theorem dX0_requireValue_6 : decode cX0_requireValue 6 = .ok (.if_icmp .le 13, 3) := by decide +kernel
theorem dX0_requireValue_9 : decode cX0_requireValue 9 = .ok (.new 80, 3) := by decide +kernel
theorem dX0_requireValue_12 : decode cX0_requireValue 12 = .ok (.dup, 1) := by decide +kernel
theorem dX0_requireValue_13 : decode cX0_requireValue 13 = .ok (.ldc 204, 2) := by decide +kernel
theorem dX0_requireValue_15 : decode cX0_requireValue 15 = .ok (.invokespecial 84, 3) := by decide +kernel
theorem dX0_requireValue_18 : decode cX0_requireValue 18 = .ok (.athrow, 1) := by decide +kernel
theorem dX0_requireValue_19 : decode cX0_requireValue 19 = .ok (.return_, 1) := by decide +kernel
theorem dX0_requireTrust_0 : decode cX0_requireTrust 0 = .ok (.iload_n 0, 1) := by decide +kernel
theorem dX0_requireTrust_1 : decode cX0_requireTrust 1 = .ok (.iconst 1, 1) := by decide +kernel
theorem dX0_requireTrust_2 : decode cX0_requireTrust 2 = .ok (.if_icmp .lt 9, 3) := by decide +kernel
theorem dX0_requireTrust_5 : decode cX0_requireTrust 5 = .ok (.iload_n 0, 1) := by decide +kernel
theorem dX0_requireTrust_6 : decode cX0_requireTrust 6 = .ok (.bipush 100, 2) := by decide +kernel
theorem dX0_requireTrust_8 : decode cX0_requireTrust 8 = .ok (.if_icmp .le 13, 3) := by decide +kernel
theorem dX0_requireTrust_11 : decode cX0_requireTrust 11 = .ok (.new 80, 3) := by decide +kernel
theorem dX0_requireTrust_14 : decode cX0_requireTrust 14 = .ok (.dup, 1) := by decide +kernel
theorem dX0_requireTrust_15 : decode cX0_requireTrust 15 = .ok (.ldc 206, 2) := by decide +kernel
theorem dX0_requireTrust_17 : decode cX0_requireTrust 17 = .ok (.invokespecial 84, 3) := by decide +kernel
theorem dX0_requireTrust_20 : decode cX0_requireTrust 20 = .ok (.athrow, 1) := by decide +kernel
theorem dX0_requireTrust_21 : decode cX0_requireTrust 21 = .ok (.return_, 1) := by decide +kernel
theorem dX0_requireFormula_0 : decode cX0_requireFormula 0 = .ok (.iload_n 1, 1) := by decide +kernel
theorem dX0_requireFormula_1 : decode cX0_requireFormula 1 = .ok (.ifCond .lt 11, 3) := by decide +kernel
theorem dX0_requireFormula_4 : decode cX0_requireFormula 4 = .ok (.iload_n 1, 1) := by decide +kernel
theorem dX0_requireFormula_5 : decode cX0_requireFormula 5 = .ok (.aload_n 0, 1) := by decide +kernel
theorem dX0_requireFormula_6 : decode cX0_requireFormula 6 = .ok (.getfield 9, 3) := by decide +kernel
theorem dX0_requireFormula_9 : decode cX0_requireFormula 9 = .ok (.if_icmp .lt 13, 3) := by decide +kernel
theorem dX0_requireFormula_12 : decode cX0_requireFormula 12 = .ok (.new 197, 3) := by decide +kernel
theorem dX0_requireFormula_15 : decode cX0_requireFormula 15 = .ok (.dup, 1) := by decide +kernel
theorem dX0_requireFormula_16 : decode cX0_requireFormula 16 = .ok (.ldc 208, 2) := by decide +kernel
theorem dX0_requireFormula_18 : decode cX0_requireFormula 18 = .ok (.invokespecial 201, 3) := by decide +kernel
theorem dX0_requireFormula_21 : decode cX0_requireFormula 21 = .ok (.athrow, 1) := by decide +kernel
theorem dX0_requireFormula_22 : decode cX0_requireFormula 22 = .ok (.return_, 1) := by decide +kernel
theorem dX0_requireSteady_0 : decode cX0_requireSteady 0 = .ok (.aload_n 0, 1) := by decide +kernel
theorem dX0_requireSteady_1 : decode cX0_requireSteady 1 = .ok (.getfield 17, 3) := by decide +kernel
theorem dX0_requireSteady_4 : decode cX0_requireSteady 4 = .ok (.iload_n 1, 1) := by decide +kernel
theorem dX0_requireSteady_5 : decode cX0_requireSteady 5 = .ok (.baload, 1) := by decide +kernel
theorem dX0_requireSteady_6 : decode cX0_requireSteady 6 = .ok (.ifCond .ne 13, 3) := by decide +kernel
theorem dX0_requireSteady_9 : decode cX0_requireSteady 9 = .ok (.new 80, 3) := by decide +kernel
theorem dX0_requireSteady_12 : decode cX0_requireSteady 12 = .ok (.dup, 1) := by decide +kernel
theorem dX0_requireSteady_13 : decode cX0_requireSteady 13 = .ok (.ldc 210, 2) := by decide +kernel
theorem dX0_requireSteady_15 : decode cX0_requireSteady 15 = .ok (.invokespecial 84, 3) := by decide +kernel
theorem dX0_requireSteady_18 : decode cX0_requireSteady 18 = .ok (.athrow, 1) := by decide +kernel
theorem dX0_requireSteady_19 : decode cX0_requireSteady 19 = .ok (.return_, 1) := by decide +kernel
theorem dX0_requireRoom_0 : decode cX0_requireRoom 0 = .ok (.aload_n 0, 1) := by decide +kernel
theorem dX0_requireRoom_1 : decode cX0_requireRoom 1 = .ok (.getfield 9, 3) := by decide +kernel
theorem dX0_requireRoom_4 : decode cX0_requireRoom 4 = .ok (.bipush 40, 2) := by decide +kernel
theorem dX0_requireRoom_6 : decode cX0_requireRoom 6 = .ok (.if_icmp .lt 13, 3) := by decide +kernel
theorem dX0_requireRoom_9 : decode cX0_requireRoom 9 = .ok (.new 212, 3) := by decide +kernel
theorem dX0_requireRoom_12 : decode cX0_requireRoom 12 = .ok (.dup, 1) := by decide +kernel
theorem dX0_requireRoom_13 : decode cX0_requireRoom 13 = .ok (.ldc 214, 2) := by decide +kernel
theorem dX0_requireRoom_15 : decode cX0_requireRoom 15 = .ok (.invokespecial 216, 3) := by decide +kernel
theorem dX0_requireRoom_18 : decode cX0_requireRoom 18 = .ok (.athrow, 1) := by decide +kernel
theorem dX0_requireRoom_19 : decode cX0_requireRoom 19 = .ok (.return_, 1) := by decide +kernel
theorem dX0_placeOf_0 : decode cX0_placeOf 0 = .ok (.iconst 2, 1) := by decide +kernel
theorem dX0_placeOf_1 : decode cX0_placeOf 1 = .ok (.iconst 5, 1) := by decide +kernel
theorem dX0_placeOf_2 : decode cX0_placeOf 2 = .ok (.iload_n 0, 1) := by decide +kernel
theorem dX0_placeOf_3 : decode cX0_placeOf 3 = .ok (.isub, 1) := by decide +kernel
theorem dX0_placeOf_4 : decode cX0_placeOf 4 = .ok (.imul, 1) := by decide +kernel
theorem dX0_placeOf_5 : decode cX0_placeOf 5 = .ok (.ireturn, 1) := by decide +kernel
set_option maxRecDepth 20000 in
theorem ggX0_valueIn_X0_placeOf : GoodIn wsX0_valueIn wsX0_placeOf := goodIn_r _ [4] (by decide +kernel) (by decide +kernel)
set_option maxRecDepth 20000 in
theorem gX0_valueIn_X0_placeOf : GoodIn wsX0_valueIn (va_wsS RX0 59 yX0_placeOf wsX0_placeOf) := goodIn_app (goodIn_of _ (by decide +kernel)) ggX0_valueIn_X0_placeOf
theorem dX0_valueIn_0 : decode cX0_valueIn 0 = .ok (.iload_n 0, 1) := by decide +kernel
theorem dX0_valueIn_1 : decode cX0_valueIn 1 = .ok (.iload_n 1, 1) := by decide +kernel
theorem dX0_valueIn_2 : decode cX0_valueIn 2 = .ok (.invokestatic 59, 3) := by decide +kernel
theorem dX0_valueIn_5 : decode cX0_valueIn 5 = .ok (.iushr, 1) := by decide +kernel
theorem dX0_valueIn_6 : decode cX0_valueIn 6 = .ok (.iconst 3, 1) := by decide +kernel
theorem dX0_valueIn_7 : decode cX0_valueIn 7 = .ok (.iand, 1) := by decide +kernel
theorem dX0_valueIn_8 : decode cX0_valueIn 8 = .ok (.ireturn, 1) := by decide +kernel
theorem dX0_isTold_0 : decode cX0_isTold 0 = .ok (.iload_n 0, 1) := by decide +kernel
theorem dX0_isTold_1 : decode cX0_isTold 1 = .ok (.iload_n 1, 1) := by decide +kernel
theorem dX0_isTold_2 : decode cX0_isTold 2 = .ok (.ifCond .eq 7, 3) := by decide +kernel
theorem dX0_isTold_5 : decode cX0_isTold 5 = .ok (.iconst 1, 1) := by decide +kernel
theorem dX0_isTold_6 : decode cX0_isTold 6 = .ok (.goto 4, 3) := by decide +kernel
theorem dX0_isTold_9 : decode cX0_isTold 9 = .ok (.iconst 2, 1) := by decide +kernel
theorem dX0_isTold_10 : decode cX0_isTold 10 = .ok (.iand, 1) := by decide +kernel
theorem dX0_isTold_11 : decode cX0_isTold 11 = .ok (.ifCond .eq 7, 3) := by decide +kernel
theorem dX0_isTold_14 : decode cX0_isTold 14 = .ok (.iconst 1, 1) := by decide +kernel
theorem dX0_isTold_15 : decode cX0_isTold 15 = .ok (.goto 4, 3) := by decide +kernel
theorem dX0_isTold_18 : decode cX0_isTold 18 = .ok (.iconst 0, 1) := by decide +kernel
theorem dX0_isTold_19 : decode cX0_isTold 19 = .ok (.ireturn, 1) := by decide +kernel
set_option maxRecDepth 20000 in
theorem ggX0_isAgainst_X0_isTold : GoodIn wsX0_isAgainst wsX0_isTold := goodIn_r _ [4] (by decide +kernel) (by decide +kernel)
set_option maxRecDepth 20000 in
theorem gX0_isAgainst_X0_isTold : GoodIn wsX0_isAgainst (va_wsS RX0 127 yX0_isTold wsX0_isTold) := goodIn_app (goodIn_of _ (by decide +kernel)) ggX0_isAgainst_X0_isTold
theorem dX0_isAgainst_0 : decode cX0_isAgainst 0 = .ok (.iload_n 0, 1) := by decide +kernel
theorem dX0_isAgainst_1 : decode cX0_isAgainst 1 = .ok (.iconst 1, 1) := by decide +kernel
theorem dX0_isAgainst_2 : decode cX0_isAgainst 2 = .ok (.invokestatic 127, 3) := by decide +kernel
theorem dX0_isAgainst_5 : decode cX0_isAgainst 5 = .ok (.ifCond .eq 11, 3) := by decide +kernel
theorem dX0_isAgainst_8 : decode cX0_isAgainst 8 = .ok (.iload_n 1, 1) := by decide +kernel
theorem dX0_isAgainst_9 : decode cX0_isAgainst 9 = .ok (.iconst 0, 1) := by decide +kernel
theorem dX0_isAgainst_10 : decode cX0_isAgainst 10 = .ok (.invokestatic 127, 3) := by decide +kernel
theorem dX0_isAgainst_13 : decode cX0_isAgainst 13 = .ok (.ifCond .ne 19, 3) := by decide +kernel
theorem dX0_isAgainst_16 : decode cX0_isAgainst 16 = .ok (.iload_n 0, 1) := by decide +kernel
theorem dX0_isAgainst_17 : decode cX0_isAgainst 17 = .ok (.iconst 0, 1) := by decide +kernel
theorem dX0_isAgainst_18 : decode cX0_isAgainst 18 = .ok (.invokestatic 127, 3) := by decide +kernel
theorem dX0_isAgainst_21 : decode cX0_isAgainst 21 = .ok (.ifCond .eq 15, 3) := by decide +kernel
theorem dX0_isAgainst_24 : decode cX0_isAgainst 24 = .ok (.iload_n 1, 1) := by decide +kernel
theorem dX0_isAgainst_25 : decode cX0_isAgainst 25 = .ok (.iconst 1, 1) := by decide +kernel
theorem dX0_isAgainst_26 : decode cX0_isAgainst 26 = .ok (.invokestatic 127, 3) := by decide +kernel
theorem dX0_isAgainst_29 : decode cX0_isAgainst 29 = .ok (.ifCond .eq 7, 3) := by decide +kernel
theorem dX0_isAgainst_32 : decode cX0_isAgainst 32 = .ok (.iconst 1, 1) := by decide +kernel
theorem dX0_isAgainst_33 : decode cX0_isAgainst 33 = .ok (.goto 4, 3) := by decide +kernel
theorem dX0_isAgainst_36 : decode cX0_isAgainst 36 = .ok (.iconst 0, 1) := by decide +kernel
theorem dX0_isAgainst_37 : decode cX0_isAgainst 37 = .ok (.ireturn, 1) := by decide +kernel
set_option maxRecDepth 20000 in
theorem ggX0_atomsWith_X0_valueIn : GoodIn wsX0_atomsWith wsX0_valueIn := goodIn_r _ [4, 5, 6, 3, 7] (by decide +kernel) (by decide +kernel)
set_option maxRecDepth 20000 in
theorem gX0_atomsWith_X0_valueIn : GoodIn wsX0_atomsWith (va_wsS RX0 100 yX0_valueIn wsX0_valueIn) := goodIn_app (goodIn_of _ (by decide +kernel)) ggX0_atomsWith_X0_valueIn
theorem dX0_atomsWith_0 : decode cX0_atomsWith 0 = .ok (.iconst 0, 1) := by decide +kernel
theorem dX0_atomsWith_1 : decode cX0_atomsWith 1 = .ok (.istore_n 2, 1) := by decide +kernel
theorem dX0_atomsWith_2 : decode cX0_atomsWith 2 = .ok (.iconst 0, 1) := by decide +kernel
theorem dX0_atomsWith_3 : decode cX0_atomsWith 3 = .ok (.istore_n 3, 1) := by decide +kernel
theorem dX0_atomsWith_4 : decode cX0_atomsWith 4 = .ok (.iload_n 3, 1) := by decide +kernel
theorem dX0_atomsWith_5 : decode cX0_atomsWith 5 = .ok (.bipush 6, 2) := by decide +kernel
theorem dX0_atomsWith_7 : decode cX0_atomsWith 7 = .ok (.if_icmp .ge 24, 3) := by decide +kernel
theorem dX0_atomsWith_10 : decode cX0_atomsWith 10 = .ok (.iload_n 0, 1) := by decide +kernel
theorem dX0_atomsWith_11 : decode cX0_atomsWith 11 = .ok (.iload_n 3, 1) := by decide +kernel
theorem dX0_atomsWith_12 : decode cX0_atomsWith 12 = .ok (.invokestatic 100, 3) := by decide +kernel
theorem dX0_atomsWith_15 : decode cX0_atomsWith 15 = .ok (.iload_n 1, 1) := by decide +kernel
theorem dX0_atomsWith_16 : decode cX0_atomsWith 16 = .ok (.if_icmp .ne 9, 3) := by decide +kernel
theorem dX0_atomsWith_19 : decode cX0_atomsWith 19 = .ok (.iload_n 2, 1) := by decide +kernel
theorem dX0_atomsWith_20 : decode cX0_atomsWith 20 = .ok (.iconst 1, 1) := by decide +kernel
theorem dX0_atomsWith_21 : decode cX0_atomsWith 21 = .ok (.iload_n 3, 1) := by decide +kernel
theorem dX0_atomsWith_22 : decode cX0_atomsWith 22 = .ok (.ishl, 1) := by decide +kernel
theorem dX0_atomsWith_23 : decode cX0_atomsWith 23 = .ok (.ior, 1) := by decide +kernel
theorem dX0_atomsWith_24 : decode cX0_atomsWith 24 = .ok (.istore_n 2, 1) := by decide +kernel
theorem dX0_atomsWith_25 : decode cX0_atomsWith 25 = .ok (.iinc 3 1, 3) := by decide +kernel
theorem dX0_atomsWith_28 : decode cX0_atomsWith 28 = .ok (.goto (-24), 3) := by decide +kernel
theorem dX0_atomsWith_31 : decode cX0_atomsWith 31 = .ok (.iload_n 2, 1) := by decide +kernel
theorem dX0_atomsWith_32 : decode cX0_atomsWith 32 = .ok (.ireturn, 1) := by decide +kernel
theorem dX0_rowOf_0 : decode cX0_rowOf 0 = .ok (.iload_n 0, 1) := by decide +kernel
theorem dX0_rowOf_1 : decode cX0_rowOf 1 = .ok (.bipush 64, 2) := by decide +kernel
theorem dX0_rowOf_3 : decode cX0_rowOf 3 = .ok (.imul, 1) := by decide +kernel
theorem dX0_rowOf_4 : decode cX0_rowOf 4 = .ok (.ireturn, 1) := by decide +kernel
theorem dX0_addFormula_0 : decode cX0_addFormula 0 = .ok (.aload_n 0, 1) := by decide +kernel
theorem dX0_addFormula_1 : decode cX0_addFormula 1 = .ok (.getfield 9, 3) := by decide +kernel
theorem dX0_addFormula_4 : decode cX0_addFormula 4 = .ok (.istore_n 3, 1) := by decide +kernel
theorem dX0_addFormula_5 : decode cX0_addFormula 5 = .ok (.aload_n 0, 1) := by decide +kernel
theorem dX0_addFormula_6 : decode cX0_addFormula 6 = .ok (.getfield 13, 3) := by decide +kernel
theorem dX0_addFormula_9 : decode cX0_addFormula 9 = .ok (.iload_n 3, 1) := by decide +kernel
theorem dX0_addFormula_10 : decode cX0_addFormula 10 = .ok (.iload_n 1, 1) := by decide +kernel
theorem dX0_addFormula_11 : decode cX0_addFormula 11 = .ok (.iastore, 1) := by decide +kernel
theorem dX0_addFormula_12 : decode cX0_addFormula 12 = .ok (.aload_n 0, 1) := by decide +kernel
theorem dX0_addFormula_13 : decode cX0_addFormula 13 = .ok (.getfield 17, 3) := by decide +kernel
theorem dX0_addFormula_16 : decode cX0_addFormula 16 = .ok (.iload_n 3, 1) := by decide +kernel
theorem dX0_addFormula_17 : decode cX0_addFormula 17 = .ok (.iload_n 2, 1) := by decide +kernel
theorem dX0_addFormula_18 : decode cX0_addFormula 18 = .ok (.bastore, 1) := by decide +kernel
theorem dX0_addFormula_19 : decode cX0_addFormula 19 = .ok (.aload_n 0, 1) := by decide +kernel
theorem dX0_addFormula_20 : decode cX0_addFormula 20 = .ok (.dup, 1) := by decide +kernel
theorem dX0_addFormula_21 : decode cX0_addFormula 21 = .ok (.getfield 9, 3) := by decide +kernel
theorem dX0_addFormula_24 : decode cX0_addFormula 24 = .ok (.iconst 1, 1) := by decide +kernel
theorem dX0_addFormula_25 : decode cX0_addFormula 25 = .ok (.iadd, 1) := by decide +kernel
theorem dX0_addFormula_26 : decode cX0_addFormula 26 = .ok (.putfield 9, 3) := by decide +kernel
theorem dX0_addFormula_29 : decode cX0_addFormula 29 = .ok (.iload_n 3, 1) := by decide +kernel
theorem dX0_addFormula_30 : decode cX0_addFormula 30 = .ok (.ireturn, 1) := by decide +kernel
theorem dX0_valuationsWithBit_0 : decode cX0_valuationsWithBit 0 = .ok (.iload_n 0, 1) := by decide +kernel
theorem dX0_valuationsWithBit_1 : decode cX0_valuationsWithBit 1 = .ok (.getstatic 217, 3) := by decide +kernel
theorem dX0_valuationsWithBit_4 : decode cX0_valuationsWithBit 4 = .ok (.arraylength, 1) := by decide +kernel
theorem dX0_valuationsWithBit_5 : decode cX0_valuationsWithBit 5 = .ok (.if_icmp .ge 9, 3) := by decide +kernel
theorem dX0_valuationsWithBit_8 : decode cX0_valuationsWithBit 8 = .ok (.getstatic 217, 3) := by decide +kernel
theorem dX0_valuationsWithBit_11 : decode cX0_valuationsWithBit 11 = .ok (.iload_n 0, 1) := by decide +kernel
theorem dX0_valuationsWithBit_12 : decode cX0_valuationsWithBit 12 = .ok (.laload, 1) := by decide +kernel
theorem dX0_valuationsWithBit_13 : decode cX0_valuationsWithBit 13 = .ok (.lreturn, 1) := by decide +kernel
theorem dX0_valuationsWithBit_14 : decode cX0_valuationsWithBit 14 = .ok (.iload_n 1, 1) := by decide +kernel
theorem dX0_valuationsWithBit_15 : decode cX0_valuationsWithBit 15 = .ok (.iload_n 0, 1) := by decide +kernel
theorem dX0_valuationsWithBit_16 : decode cX0_valuationsWithBit 16 = .ok (.getstatic 217, 3) := by decide +kernel
theorem dX0_valuationsWithBit_19 : decode cX0_valuationsWithBit 19 = .ok (.arraylength, 1) := by decide +kernel
theorem dX0_valuationsWithBit_20 : decode cX0_valuationsWithBit 20 = .ok (.isub, 1) := by decide +kernel
theorem dX0_valuationsWithBit_21 : decode cX0_valuationsWithBit 21 = .ok (.iushr, 1) := by decide +kernel
theorem dX0_valuationsWithBit_22 : decode cX0_valuationsWithBit 22 = .ok (.iconst 1, 1) := by decide +kernel
theorem dX0_valuationsWithBit_23 : decode cX0_valuationsWithBit 23 = .ok (.iand, 1) := by decide +kernel
theorem dX0_valuationsWithBit_24 : decode cX0_valuationsWithBit 24 = .ok (.ifCond .eq 9, 3) := by decide +kernel
theorem dX0_valuationsWithBit_27 : decode cX0_valuationsWithBit 27 = .ok (.ldc2_w 46, 3) := by decide +kernel
theorem dX0_valuationsWithBit_30 : decode cX0_valuationsWithBit 30 = .ok (.goto 4, 3) := by decide +kernel
theorem dX0_valuationsWithBit_33 : decode cX0_valuationsWithBit 33 = .ok (.lconst 0, 1) := by decide +kernel
theorem dX0_valuationsWithBit_34 : decode cX0_valuationsWithBit 34 = .ok (.lreturn, 1) := by decide +kernel
theorem dX0_joinTrue_0 : decode cX0_joinTrue 0 = .ok (.iload_n 0, 1) := by decide +kernel
theorem dX0_joinTrue_1 : decode cX0_joinTrue 1 = .ok (.tableswitch 39 3 6 #[31, 35, 31, 35], 31) := by decide +kernel
theorem dX0_joinTrue_32 : decode cX0_joinTrue 32 = .ok (.lload_n 1, 1) := by decide +kernel
theorem dX0_joinTrue_33 : decode cX0_joinTrue 33 = .ok (.lload_n 3, 1) := by decide +kernel
theorem dX0_joinTrue_34 : decode cX0_joinTrue 34 = .ok (.land, 1) := by decide +kernel
theorem dX0_joinTrue_35 : decode cX0_joinTrue 35 = .ok (.lreturn, 1) := by decide +kernel
theorem dX0_joinTrue_36 : decode cX0_joinTrue 36 = .ok (.lload_n 1, 1) := by decide +kernel
theorem dX0_joinTrue_37 : decode cX0_joinTrue 37 = .ok (.lload_n 3, 1) := by decide +kernel
theorem dX0_joinTrue_38 : decode cX0_joinTrue 38 = .ok (.lor, 1) := by decide +kernel
theorem dX0_joinTrue_39 : decode cX0_joinTrue 39 = .ok (.lreturn, 1) := by decide +kernel
theorem dX0_joinTrue_40 : decode cX0_joinTrue 40 = .ok (.lload_n 1, 1) := by decide +kernel
theorem dX0_joinTrue_41 : decode cX0_joinTrue 41 = .ok (.ldc2_w 46, 3) := by decide +kernel
theorem dX0_joinTrue_44 : decode cX0_joinTrue 44 = .ok (.lxor, 1) := by decide +kernel
theorem dX0_joinTrue_45 : decode cX0_joinTrue 45 = .ok (.lload_n 3, 1) := by decide +kernel
theorem dX0_joinTrue_46 : decode cX0_joinTrue 46 = .ok (.lor, 1) := by decide +kernel
theorem dX0_joinTrue_47 : decode cX0_joinTrue 47 = .ok (.lreturn, 1) := by decide +kernel
theorem dX0_joinFalse_0 : decode cX0_joinFalse 0 = .ok (.iload_n 0, 1) := by decide +kernel
theorem dX0_joinFalse_1 : decode cX0_joinFalse 1 = .ok (.tableswitch 41 3 6 #[36, 31, 31, 36], 31) := by decide +kernel
theorem dX0_joinFalse_32 : decode cX0_joinFalse 32 = .ok (.lload_n 3, 1) := by decide +kernel
theorem dX0_joinFalse_33 : decode cX0_joinFalse 33 = .ok (.lload 5, 2) := by decide +kernel
theorem dX0_joinFalse_35 : decode cX0_joinFalse 35 = .ok (.land, 1) := by decide +kernel
theorem dX0_joinFalse_36 : decode cX0_joinFalse 36 = .ok (.lreturn, 1) := by decide +kernel
theorem dX0_joinFalse_37 : decode cX0_joinFalse 37 = .ok (.lload_n 3, 1) := by decide +kernel
theorem dX0_joinFalse_38 : decode cX0_joinFalse 38 = .ok (.lload 5, 2) := by decide +kernel
theorem dX0_joinFalse_40 : decode cX0_joinFalse 40 = .ok (.lor, 1) := by decide +kernel
theorem dX0_joinFalse_41 : decode cX0_joinFalse 41 = .ok (.lreturn, 1) := by decide +kernel
theorem dX0_joinFalse_42 : decode cX0_joinFalse 42 = .ok (.lload_n 1, 1) := by decide +kernel
theorem dX0_joinFalse_43 : decode cX0_joinFalse 43 = .ok (.lload 5, 2) := by decide +kernel
theorem dX0_joinFalse_45 : decode cX0_joinFalse 45 = .ok (.land, 1) := by decide +kernel
theorem dX0_joinFalse_46 : decode cX0_joinFalse 46 = .ok (.lreturn, 1) := by decide +kernel
set_option maxRecDepth 20000 in
theorem ggX0_lookUp_X0_rowOf : GoodIn wsX0_lookUp wsX0_rowOf := goodIn_r _ [6] (by decide +kernel) (by decide +kernel)
set_option maxRecDepth 20000 in
theorem gX0_lookUp_X0_rowOf : GoodIn wsX0_lookUp (va_wsS RX0 63 yX0_rowOf wsX0_rowOf) := goodIn_app (goodIn_of _ (by decide +kernel)) ggX0_lookUp_X0_rowOf
theorem dX0_lookUp_0 : decode cX0_lookUp 0 = .ok (.iload_n 1, 1) := by decide +kernel
theorem dX0_lookUp_1 : decode cX0_lookUp 1 = .ok (.invokestatic 63, 3) := by decide +kernel
theorem dX0_lookUp_4 : decode cX0_lookUp 4 = .ok (.iload_n 2, 1) := by decide +kernel
theorem dX0_lookUp_5 : decode cX0_lookUp 5 = .ok (.bipush 64, 2) := by decide +kernel
theorem dX0_lookUp_7 : decode cX0_lookUp 7 = .ok (.idiv, 1) := by decide +kernel
theorem dX0_lookUp_8 : decode cX0_lookUp 8 = .ok (.iadd, 1) := by decide +kernel
theorem dX0_lookUp_9 : decode cX0_lookUp 9 = .ok (.istore_n 3, 1) := by decide +kernel
theorem dX0_lookUp_10 : decode cX0_lookUp 10 = .ok (.iload_n 2, 1) := by decide +kernel
theorem dX0_lookUp_11 : decode cX0_lookUp 11 = .ok (.bipush 64, 2) := by decide +kernel
theorem dX0_lookUp_13 : decode cX0_lookUp 13 = .ok (.irem, 1) := by decide +kernel
theorem dX0_lookUp_14 : decode cX0_lookUp 14 = .ok (.istore 4, 2) := by decide +kernel
theorem dX0_lookUp_16 : decode cX0_lookUp 16 = .ok (.aload_n 0, 1) := by decide +kernel
theorem dX0_lookUp_17 : decode cX0_lookUp 17 = .ok (.getfield 21, 3) := by decide +kernel
theorem dX0_lookUp_20 : decode cX0_lookUp 20 = .ok (.iload_n 3, 1) := by decide +kernel
theorem dX0_lookUp_21 : decode cX0_lookUp 21 = .ok (.laload, 1) := by decide +kernel
theorem dX0_lookUp_22 : decode cX0_lookUp 22 = .ok (.iload 4, 2) := by decide +kernel
theorem dX0_lookUp_24 : decode cX0_lookUp 24 = .ok (.lushr, 1) := by decide +kernel
theorem dX0_lookUp_25 : decode cX0_lookUp 25 = .ok (.lconst 1, 1) := by decide +kernel
theorem dX0_lookUp_26 : decode cX0_lookUp 26 = .ok (.land, 1) := by decide +kernel
theorem dX0_lookUp_27 : decode cX0_lookUp 27 = .ok (.l2i, 1) := by decide +kernel
theorem dX0_lookUp_28 : decode cX0_lookUp 28 = .ok (.istore 5, 2) := by decide +kernel
theorem dX0_lookUp_30 : decode cX0_lookUp 30 = .ok (.aload_n 0, 1) := by decide +kernel
theorem dX0_lookUp_31 : decode cX0_lookUp 31 = .ok (.getfield 25, 3) := by decide +kernel
theorem dX0_lookUp_34 : decode cX0_lookUp 34 = .ok (.iload_n 3, 1) := by decide +kernel
theorem dX0_lookUp_35 : decode cX0_lookUp 35 = .ok (.laload, 1) := by decide +kernel
theorem dX0_lookUp_36 : decode cX0_lookUp 36 = .ok (.iload 4, 2) := by decide +kernel
theorem dX0_lookUp_38 : decode cX0_lookUp 38 = .ok (.lushr, 1) := by decide +kernel
theorem dX0_lookUp_39 : decode cX0_lookUp 39 = .ok (.lconst 1, 1) := by decide +kernel
theorem dX0_lookUp_40 : decode cX0_lookUp 40 = .ok (.land, 1) := by decide +kernel
theorem dX0_lookUp_41 : decode cX0_lookUp 41 = .ok (.l2i, 1) := by decide +kernel
theorem dX0_lookUp_42 : decode cX0_lookUp 42 = .ok (.istore 6, 2) := by decide +kernel
theorem dX0_lookUp_44 : decode cX0_lookUp 44 = .ok (.iload 5, 2) := by decide +kernel
theorem dX0_lookUp_46 : decode cX0_lookUp 46 = .ok (.iconst 1, 1) := by decide +kernel
theorem dX0_lookUp_47 : decode cX0_lookUp 47 = .ok (.imul, 1) := by decide +kernel
theorem dX0_lookUp_48 : decode cX0_lookUp 48 = .ok (.iload 6, 2) := by decide +kernel
theorem dX0_lookUp_50 : decode cX0_lookUp 50 = .ok (.iconst 2, 1) := by decide +kernel
theorem dX0_lookUp_51 : decode cX0_lookUp 51 = .ok (.imul, 1) := by decide +kernel
theorem dX0_lookUp_52 : decode cX0_lookUp 52 = .ok (.iadd, 1) := by decide +kernel
theorem dX0_lookUp_53 : decode cX0_lookUp 53 = .ok (.ireturn, 1) := by decide +kernel
set_option maxRecDepth 20000 in
theorem ggX0_pick_X0_isTold : GoodIn wsX0_pick wsX0_isTold := goodIn_r _ [5] (by decide +kernel) (by decide +kernel)
set_option maxRecDepth 20000 in
theorem gX0_pick_X0_isTold : GoodIn wsX0_pick (va_wsS RX0 127 yX0_isTold wsX0_isTold) := goodIn_app (goodIn_of _ (by decide +kernel)) ggX0_pick_X0_isTold
theorem dX0_pick_0 : decode cX0_pick 0 = .ok (.iload 4, 2) := by decide +kernel
theorem dX0_pick_2 : decode cX0_pick 2 = .ok (.iconst 1, 1) := by decide +kernel
theorem dX0_pick_3 : decode cX0_pick 3 = .ok (.invokestatic 127, 3) := by decide +kernel
theorem dX0_pick_6 : decode cX0_pick 6 = .ok (.ifCond .eq 7, 3) := by decide +kernel
theorem dX0_pick_9 : decode cX0_pick 9 = .ok (.lload_n 0, 1) := by decide +kernel
theorem dX0_pick_10 : decode cX0_pick 10 = .ok (.goto 8, 3) := by decide +kernel
theorem dX0_pick_13 : decode cX0_pick 13 = .ok (.lload_n 0, 1) := by decide +kernel
theorem dX0_pick_14 : decode cX0_pick 14 = .ok (.ldc2_w 46, 3) := by decide +kernel
theorem dX0_pick_17 : decode cX0_pick 17 = .ok (.lxor, 1) := by decide +kernel
theorem dX0_pick_18 : decode cX0_pick 18 = .ok (.iload 4, 2) := by decide +kernel
theorem dX0_pick_20 : decode cX0_pick 20 = .ok (.iconst 0, 1) := by decide +kernel
theorem dX0_pick_21 : decode cX0_pick 21 = .ok (.invokestatic 127, 3) := by decide +kernel
theorem dX0_pick_24 : decode cX0_pick 24 = .ok (.ifCond .eq 7, 3) := by decide +kernel
theorem dX0_pick_27 : decode cX0_pick 27 = .ok (.lload_n 2, 1) := by decide +kernel
theorem dX0_pick_28 : decode cX0_pick 28 = .ok (.goto 8, 3) := by decide +kernel
theorem dX0_pick_31 : decode cX0_pick 31 = .ok (.lload_n 2, 1) := by decide +kernel
theorem dX0_pick_32 : decode cX0_pick 32 = .ok (.ldc2_w 46, 3) := by decide +kernel
theorem dX0_pick_35 : decode cX0_pick 35 = .ok (.lxor, 1) := by decide +kernel
theorem dX0_pick_36 : decode cX0_pick 36 = .ok (.land, 1) := by decide +kernel
theorem dX0_pick_37 : decode cX0_pick 37 = .ok (.lreturn, 1) := by decide +kernel
theorem dX0_isHeard_0 : decode cX0_isHeard 0 = .ok (.aload_n 0, 1) := by decide +kernel
theorem dX0_isHeard_1 : decode cX0_isHeard 1 = .ok (.getfield 31, 3) := by decide +kernel
theorem dX0_isHeard_4 : decode cX0_isHeard 4 = .ok (.iload_n 1, 1) := by decide +kernel
theorem dX0_isHeard_5 : decode cX0_isHeard 5 = .ok (.baload, 1) := by decide +kernel
theorem dX0_isHeard_6 : decode cX0_isHeard 6 = .ok (.ifCond .eq 20, 3) := by decide +kernel
theorem dX0_isHeard_9 : decode cX0_isHeard 9 = .ok (.aload_n 0, 1) := by decide +kernel
theorem dX0_isHeard_10 : decode cX0_isHeard 10 = .ok (.getfield 28, 3) := by decide +kernel
theorem dX0_isHeard_13 : decode cX0_isHeard 13 = .ok (.iload_n 1, 1) := by decide +kernel
theorem dX0_isHeard_14 : decode cX0_isHeard 14 = .ok (.iaload, 1) := by decide +kernel
theorem dX0_isHeard_15 : decode cX0_isHeard 15 = .ok (.aload_n 0, 1) := by decide +kernel
theorem dX0_isHeard_16 : decode cX0_isHeard 16 = .ok (.getfield 37, 3) := by decide +kernel
theorem dX0_isHeard_19 : decode cX0_isHeard 19 = .ok (.if_icmp .lt 7, 3) := by decide +kernel
theorem dX0_isHeard_22 : decode cX0_isHeard 22 = .ok (.iconst 1, 1) := by decide +kernel
theorem dX0_isHeard_23 : decode cX0_isHeard 23 = .ok (.goto 4, 3) := by decide +kernel
theorem dX0_isHeard_26 : decode cX0_isHeard 26 = .ok (.iconst 0, 1) := by decide +kernel
theorem dX0_isHeard_27 : decode cX0_isHeard 27 = .ok (.ireturn, 1) := by decide +kernel
theorem dX0_trustOf_0 : decode cX0_trustOf 0 = .ok (.iconst 0, 1) := by decide +kernel
theorem dX0_trustOf_1 : decode cX0_trustOf 1 = .ok (.istore_n 2, 1) := by decide +kernel
theorem dX0_trustOf_2 : decode cX0_trustOf 2 = .ok (.iconst 0, 1) := by decide +kernel
theorem dX0_trustOf_3 : decode cX0_trustOf 3 = .ok (.istore_n 3, 1) := by decide +kernel
theorem dX0_trustOf_4 : decode cX0_trustOf 4 = .ok (.iload_n 3, 1) := by decide +kernel
theorem dX0_trustOf_5 : decode cX0_trustOf 5 = .ok (.bipush 6, 2) := by decide +kernel
theorem dX0_trustOf_7 : decode cX0_trustOf 7 = .ok (.if_icmp .ge 26, 3) := by decide +kernel
theorem dX0_trustOf_10 : decode cX0_trustOf 10 = .ok (.iload_n 1, 1) := by decide +kernel
theorem dX0_trustOf_11 : decode cX0_trustOf 11 = .ok (.iload_n 3, 1) := by decide +kernel
theorem dX0_trustOf_12 : decode cX0_trustOf 12 = .ok (.iushr, 1) := by decide +kernel
theorem dX0_trustOf_13 : decode cX0_trustOf 13 = .ok (.iconst 1, 1) := by decide +kernel
theorem dX0_trustOf_14 : decode cX0_trustOf 14 = .ok (.iand, 1) := by decide +kernel
theorem dX0_trustOf_15 : decode cX0_trustOf 15 = .ok (.ifCond .eq 12, 3) := by decide +kernel
theorem dX0_trustOf_18 : decode cX0_trustOf 18 = .ok (.iload_n 2, 1) := by decide +kernel
theorem dX0_trustOf_19 : decode cX0_trustOf 19 = .ok (.aload_n 0, 1) := by decide +kernel
theorem dX0_trustOf_20 : decode cX0_trustOf 20 = .ok (.getfield 28, 3) := by decide +kernel
theorem dX0_trustOf_23 : decode cX0_trustOf 23 = .ok (.iload_n 3, 1) := by decide +kernel
theorem dX0_trustOf_24 : decode cX0_trustOf 24 = .ok (.iaload, 1) := by decide +kernel
theorem dX0_trustOf_25 : decode cX0_trustOf 25 = .ok (.iadd, 1) := by decide +kernel
theorem dX0_trustOf_26 : decode cX0_trustOf 26 = .ok (.istore_n 2, 1) := by decide +kernel
theorem dX0_trustOf_27 : decode cX0_trustOf 27 = .ok (.iinc 3 1, 3) := by decide +kernel
theorem dX0_trustOf_30 : decode cX0_trustOf 30 = .ok (.goto (-26), 3) := by decide +kernel
theorem dX0_trustOf_33 : decode cX0_trustOf 33 = .ok (.iload_n 2, 1) := by decide +kernel
theorem dX0_trustOf_34 : decode cX0_trustOf 34 = .ok (.ireturn, 1) := by decide +kernel
theorem dX0_givenState_0 : decode cX0_givenState 0 = .ok (.iconst 0, 1) := by decide +kernel
theorem dX0_givenState_1 : decode cX0_givenState 1 = .ok (.istore_n 2, 1) := by decide +kernel
theorem dX0_givenState_2 : decode cX0_givenState 2 = .ok (.iconst 0, 1) := by decide +kernel
theorem dX0_givenState_3 : decode cX0_givenState 3 = .ok (.istore_n 3, 1) := by decide +kernel
theorem dX0_givenState_4 : decode cX0_givenState 4 = .ok (.iload_n 3, 1) := by decide +kernel
theorem dX0_givenState_5 : decode cX0_givenState 5 = .ok (.bipush 6, 2) := by decide +kernel
theorem dX0_givenState_7 : decode cX0_givenState 7 = .ok (.if_icmp .ge 26, 3) := by decide +kernel
theorem dX0_givenState_10 : decode cX0_givenState 10 = .ok (.iload_n 1, 1) := by decide +kernel
theorem dX0_givenState_11 : decode cX0_givenState 11 = .ok (.iload_n 3, 1) := by decide +kernel
theorem dX0_givenState_12 : decode cX0_givenState 12 = .ok (.iushr, 1) := by decide +kernel
theorem dX0_givenState_13 : decode cX0_givenState 13 = .ok (.iconst 1, 1) := by decide +kernel
theorem dX0_givenState_14 : decode cX0_givenState 14 = .ok (.iand, 1) := by decide +kernel
theorem dX0_givenState_15 : decode cX0_givenState 15 = .ok (.ifCond .eq 12, 3) := by decide +kernel
theorem dX0_givenState_18 : decode cX0_givenState 18 = .ok (.iload_n 2, 1) := by decide +kernel
theorem dX0_givenState_19 : decode cX0_givenState 19 = .ok (.aload_n 0, 1) := by decide +kernel
theorem dX0_givenState_20 : decode cX0_givenState 20 = .ok (.getfield 34, 3) := by decide +kernel
theorem dX0_givenState_23 : decode cX0_givenState 23 = .ok (.iload_n 3, 1) := by decide +kernel
theorem dX0_givenState_24 : decode cX0_givenState 24 = .ok (.iaload, 1) := by decide +kernel
theorem dX0_givenState_25 : decode cX0_givenState 25 = .ok (.ior, 1) := by decide +kernel
theorem dX0_givenState_26 : decode cX0_givenState 26 = .ok (.istore_n 2, 1) := by decide +kernel
theorem dX0_givenState_27 : decode cX0_givenState 27 = .ok (.iinc 3 1, 3) := by decide +kernel
theorem dX0_givenState_30 : decode cX0_givenState 30 = .ok (.goto (-26), 3) := by decide +kernel
theorem dX0_givenState_33 : decode cX0_givenState 33 = .ok (.iload_n 2, 1) := by decide +kernel
theorem dX0_givenState_34 : decode cX0_givenState 34 = .ok (.ireturn, 1) := by decide +kernel
set_option maxRecDepth 20000 in
theorem ggX0_nextState_X0_lookUp : GoodIn wsX0_nextState wsX0_lookUp := goodIn_r _ [6, 7, 8, 9, 10, 5, 11, 15, 16, 17, 18, 19, 20, 21, 22, 23, 24, 25, 26] (by decide +kernel) (by decide +kernel)
set_option maxRecDepth 20000 in
theorem gX0_nextState_X0_lookUp : GoodIn wsX0_nextState (wsV RX0 131 RX0 yX0_lookUp wsX0_lookUp) := goodIn_app (goodIn_of _ (by decide +kernel)) ggX0_nextState_X0_lookUp
set_option maxRecDepth 20000 in
theorem ggX0_nextState_X0_placeOf : GoodIn wsX0_nextState wsX0_placeOf := goodIn_r _ [14] (by decide +kernel) (by decide +kernel)
set_option maxRecDepth 20000 in
theorem gX0_nextState_X0_placeOf : GoodIn wsX0_nextState (va_wsS RX0 59 yX0_placeOf wsX0_placeOf) := goodIn_app (goodIn_of _ (by decide +kernel)) ggX0_nextState_X0_placeOf
theorem dX0_nextState_0 : decode cX0_nextState 0 = .ok (.iload_n 1, 1) := by decide +kernel
theorem dX0_nextState_1 : decode cX0_nextState 1 = .ok (.istore_n 3, 1) := by decide +kernel
theorem dX0_nextState_2 : decode cX0_nextState 2 = .ok (.iconst 0, 1) := by decide +kernel
theorem dX0_nextState_3 : decode cX0_nextState 3 = .ok (.istore 4, 2) := by decide +kernel
theorem dX0_nextState_5 : decode cX0_nextState 5 = .ok (.iload 4, 2) := by decide +kernel
theorem dX0_nextState_7 : decode cX0_nextState 7 = .ok (.bipush 6, 2) := by decide +kernel
theorem dX0_nextState_9 : decode cX0_nextState 9 = .ok (.if_icmp .ge 41, 3) := by decide +kernel
theorem dX0_nextState_12 : decode cX0_nextState 12 = .ok (.aload_n 0, 1) := by decide +kernel
theorem dX0_nextState_13 : decode cX0_nextState 13 = .ok (.getfield 40, 3) := by decide +kernel
theorem dX0_nextState_16 : decode cX0_nextState 16 = .ok (.iload 4, 2) := by decide +kernel
theorem dX0_nextState_18 : decode cX0_nextState 18 = .ok (.iaload, 1) := by decide +kernel
theorem dX0_nextState_19 : decode cX0_nextState 19 = .ok (.iconst (-1), 1) := by decide +kernel
theorem dX0_nextState_20 : decode cX0_nextState 20 = .ok (.if_icmp .eq 24, 3) := by decide +kernel
theorem dX0_nextState_23 : decode cX0_nextState 23 = .ok (.iload_n 3, 1) := by decide +kernel
theorem dX0_nextState_24 : decode cX0_nextState 24 = .ok (.aload_n 0, 1) := by decide +kernel
theorem dX0_nextState_25 : decode cX0_nextState 25 = .ok (.aload_n 0, 1) := by decide +kernel
theorem dX0_nextState_26 : decode cX0_nextState 26 = .ok (.getfield 40, 3) := by decide +kernel
theorem dX0_nextState_29 : decode cX0_nextState 29 = .ok (.iload 4, 2) := by decide +kernel
theorem dX0_nextState_31 : decode cX0_nextState 31 = .ok (.iaload, 1) := by decide +kernel
theorem dX0_nextState_32 : decode cX0_nextState 32 = .ok (.iload_n 2, 1) := by decide +kernel
theorem dX0_nextState_33 : decode cX0_nextState 33 = .ok (.invokevirtual 131, 3) := by decide +kernel
theorem dX0_nextState_36 : decode cX0_nextState 36 = .ok (.iload 4, 2) := by decide +kernel
theorem dX0_nextState_38 : decode cX0_nextState 38 = .ok (.invokestatic 59, 3) := by decide +kernel
theorem dX0_nextState_41 : decode cX0_nextState 41 = .ok (.ishl, 1) := by decide +kernel
theorem dX0_nextState_42 : decode cX0_nextState 42 = .ok (.ior, 1) := by decide +kernel
theorem dX0_nextState_43 : decode cX0_nextState 43 = .ok (.istore_n 3, 1) := by decide +kernel
theorem dX0_nextState_44 : decode cX0_nextState 44 = .ok (.iinc 4 1, 3) := by decide +kernel
theorem dX0_nextState_47 : decode cX0_nextState 47 = .ok (.goto (-42), 3) := by decide +kernel
theorem dX0_nextState_50 : decode cX0_nextState 50 = .ok (.iload_n 3, 1) := by decide +kernel
theorem dX0_nextState_51 : decode cX0_nextState 51 = .ok (.ireturn, 1) := by decide +kernel
set_option maxRecDepth 20000 in
theorem ggX0_settledNow_X0_heard : GoodIn wsX0_settledNow wsX0_heard := goodIn_r _ [5, 6, 7, 8, 4, 9, 10, 11, 12, 39, 40, 41, 42, 43, 44, 45, 46, 47, 48, 49, 50] (by decide +kernel) (by decide +kernel)
set_option maxRecDepth 20000 in
theorem gX0_settledNow_X0_heard : GoodIn wsX0_settledNow (wsV RX0 114 RX0 yX0_heard wsX0_heard) := goodIn_app (goodIn_of _ (by decide +kernel)) ggX0_settledNow_X0_heard
set_option maxRecDepth 20000 in
theorem ggX0_settledNow_X0_settledState : GoodIn wsX0_settledNow wsX0_settledState := goodIn_r _ [16, 17, 18, 19, 4, 20, 21, 22, 23, 24, 25, 26, 27, 28, 29, 30, 31, 32, 33, 34, 35, 36, 37, 38, 39, 40, 41, 42, 43, 44, 45, 46, 47, 48, 49, 50] (by decide +kernel) (by decide +kernel)
set_option maxRecDepth 20000 in
theorem gX0_settledNow_X0_settledState : GoodIn wsX0_settledNow (wsV RX0 142 RX0 yX0_settledState wsX0_settledState) := goodIn_app (goodIn_of _ (by decide +kernel)) ggX0_settledNow_X0_settledState
theorem dX0_settledNow_0 : decode cX0_settledNow 0 = .ok (.aload_n 0, 1) := by decide +kernel
theorem dX0_settledNow_1 : decode cX0_settledNow 1 = .ok (.aload_n 0, 1) := by decide +kernel
theorem dX0_settledNow_2 : decode cX0_settledNow 2 = .ok (.invokevirtual 114, 3) := by decide +kernel
theorem dX0_settledNow_5 : decode cX0_settledNow 5 = .ok (.invokevirtual 142, 3) := by decide +kernel
theorem dX0_settledNow_8 : decode cX0_settledNow 8 = .ok (.ireturn, 1) := by decide +kernel
set_option maxRecDepth 20000 in
theorem ggX0_settledState_X0_givenState : GoodIn wsX0_settledState wsX0_givenState := goodIn_r _ [5, 6, 24, 25, 26, 27, 28, 29, 30, 31, 32, 33, 34, 35] (by decide +kernel) (by decide +kernel)
set_option maxRecDepth 20000 in
theorem gX0_settledState_X0_givenState : GoodIn wsX0_settledState (wsV RX0 118 RX0 yX0_givenState wsX0_givenState) := goodIn_app (goodIn_of _ (by decide +kernel)) ggX0_settledState_X0_givenState
set_option maxRecDepth 20000 in
theorem ggX0_settledState_X0_nextState : GoodIn wsX0_settledState wsX0_nextState := goodIn_r _ [10, 11, 12, 13, 14, 4, 15, 16, 17, 18, 19, 20, 21, 22, 23, 24, 25, 26, 27, 28, 29, 30, 31, 32, 33, 34, 35] (by decide +kernel) (by decide +kernel)
set_option maxRecDepth 20000 in
theorem gX0_settledState_X0_nextState : GoodIn wsX0_settledState (wsV RX0 124 RX0 yX0_nextState wsX0_nextState) := goodIn_app (goodIn_of _ (by decide +kernel)) ggX0_settledState_X0_nextState
theorem dX0_settledState_0 : decode cX0_settledState 0 = .ok (.aload_n 0, 1) := by decide +kernel
theorem dX0_settledState_1 : decode cX0_settledState 1 = .ok (.iload_n 1, 1) := by decide +kernel
theorem dX0_settledState_2 : decode cX0_settledState 2 = .ok (.invokevirtual 118, 3) := by decide +kernel
theorem dX0_settledState_5 : decode cX0_settledState 5 = .ok (.istore_n 2, 1) := by decide +kernel
theorem dX0_settledState_6 : decode cX0_settledState 6 = .ok (.iload_n 2, 1) := by decide +kernel
theorem dX0_settledState_7 : decode cX0_settledState 7 = .ok (.istore_n 3, 1) := by decide +kernel
theorem dX0_settledState_8 : decode cX0_settledState 8 = .ok (.iconst 0, 1) := by decide +kernel
theorem dX0_settledState_9 : decode cX0_settledState 9 = .ok (.istore 4, 2) := by decide +kernel
theorem dX0_settledState_11 : decode cX0_settledState 11 = .ok (.iload 4, 2) := by decide +kernel
theorem dX0_settledState_13 : decode cX0_settledState 13 = .ok (.bipush 12, 2) := by decide +kernel
theorem dX0_settledState_15 : decode cX0_settledState 15 = .ok (.if_icmp .ge 28, 3) := by decide +kernel
theorem dX0_settledState_18 : decode cX0_settledState 18 = .ok (.aload_n 0, 1) := by decide +kernel
theorem dX0_settledState_19 : decode cX0_settledState 19 = .ok (.iload_n 2, 1) := by decide +kernel
theorem dX0_settledState_20 : decode cX0_settledState 20 = .ok (.iload_n 3, 1) := by decide +kernel
theorem dX0_settledState_21 : decode cX0_settledState 21 = .ok (.invokevirtual 124, 3) := by decide +kernel
theorem dX0_settledState_24 : decode cX0_settledState 24 = .ok (.istore 5, 2) := by decide +kernel
theorem dX0_settledState_26 : decode cX0_settledState 26 = .ok (.iload 5, 2) := by decide +kernel
theorem dX0_settledState_28 : decode cX0_settledState 28 = .ok (.iload_n 3, 1) := by decide +kernel
theorem dX0_settledState_29 : decode cX0_settledState 29 = .ok (.if_icmp .ne 5, 3) := by decide +kernel
theorem dX0_settledState_32 : decode cX0_settledState 32 = .ok (.iload_n 3, 1) := by decide +kernel
theorem dX0_settledState_33 : decode cX0_settledState 33 = .ok (.ireturn, 1) := by decide +kernel
theorem dX0_settledState_34 : decode cX0_settledState 34 = .ok (.iload 5, 2) := by decide +kernel
theorem dX0_settledState_36 : decode cX0_settledState 36 = .ok (.istore_n 3, 1) := by decide +kernel
theorem dX0_settledState_37 : decode cX0_settledState 37 = .ok (.iinc 4 1, 3) := by decide +kernel
theorem dX0_settledState_40 : decode cX0_settledState 40 = .ok (.goto (-29), 3) := by decide +kernel
theorem dX0_settledState_43 : decode cX0_settledState 43 = .ok (.iload_n 3, 1) := by decide +kernel
theorem dX0_settledState_44 : decode cX0_settledState 44 = .ok (.ireturn, 1) := by decide +kernel
theorem dX0_triplesOf_0 : decode cX0_triplesOf 0 = .ok (.lconst 0, 1) := by decide +kernel
theorem dX0_triplesOf_1 : decode cX0_triplesOf 1 = .ok (.lstore_n 1, 1) := by decide +kernel
theorem dX0_triplesOf_2 : decode cX0_triplesOf 2 = .ok (.iconst 0, 1) := by decide +kernel
theorem dX0_triplesOf_3 : decode cX0_triplesOf 3 = .ok (.istore_n 3, 1) := by decide +kernel
theorem dX0_triplesOf_4 : decode cX0_triplesOf 4 = .ok (.iload_n 3, 1) := by decide +kernel
theorem dX0_triplesOf_5 : decode cX0_triplesOf 5 = .ok (.bipush 64, 2) := by decide +kernel
theorem dX0_triplesOf_7 : decode cX0_triplesOf 7 = .ok (.if_icmp .ge 51, 3) := by decide +kernel
theorem dX0_triplesOf_10 : decode cX0_triplesOf 10 = .ok (.iload_n 0, 1) := by decide +kernel
theorem dX0_triplesOf_11 : decode cX0_triplesOf 11 = .ok (.iload_n 3, 1) := by decide +kernel
theorem dX0_triplesOf_12 : decode cX0_triplesOf 12 = .ok (.iconst 4, 1) := by decide +kernel
theorem dX0_triplesOf_13 : decode cX0_triplesOf 13 = .ok (.iushr, 1) := by decide +kernel
theorem dX0_triplesOf_14 : decode cX0_triplesOf 14 = .ok (.iushr, 1) := by decide +kernel
theorem dX0_triplesOf_15 : decode cX0_triplesOf 15 = .ok (.istore 4, 2) := by decide +kernel
theorem dX0_triplesOf_17 : decode cX0_triplesOf 17 = .ok (.iload_n 0, 1) := by decide +kernel
theorem dX0_triplesOf_18 : decode cX0_triplesOf 18 = .ok (.iload_n 3, 1) := by decide +kernel
theorem dX0_triplesOf_19 : decode cX0_triplesOf 19 = .ok (.iconst 2, 1) := by decide +kernel
theorem dX0_triplesOf_20 : decode cX0_triplesOf 20 = .ok (.iushr, 1) := by decide +kernel
theorem dX0_triplesOf_21 : decode cX0_triplesOf 21 = .ok (.iconst 3, 1) := by decide +kernel
theorem dX0_triplesOf_22 : decode cX0_triplesOf 22 = .ok (.iand, 1) := by decide +kernel
theorem dX0_triplesOf_23 : decode cX0_triplesOf 23 = .ok (.iushr, 1) := by decide +kernel
theorem dX0_triplesOf_24 : decode cX0_triplesOf 24 = .ok (.istore 5, 2) := by decide +kernel
theorem dX0_triplesOf_26 : decode cX0_triplesOf 26 = .ok (.iload_n 0, 1) := by decide +kernel
theorem dX0_triplesOf_27 : decode cX0_triplesOf 27 = .ok (.iload_n 3, 1) := by decide +kernel
theorem dX0_triplesOf_28 : decode cX0_triplesOf 28 = .ok (.iconst 3, 1) := by decide +kernel
theorem dX0_triplesOf_29 : decode cX0_triplesOf 29 = .ok (.iand, 1) := by decide +kernel
theorem dX0_triplesOf_30 : decode cX0_triplesOf 30 = .ok (.iushr, 1) := by decide +kernel
theorem dX0_triplesOf_31 : decode cX0_triplesOf 31 = .ok (.istore 6, 2) := by decide +kernel
theorem dX0_triplesOf_33 : decode cX0_triplesOf 33 = .ok (.iload 4, 2) := by decide +kernel
theorem dX0_triplesOf_35 : decode cX0_triplesOf 35 = .ok (.iload 5, 2) := by decide +kernel
theorem dX0_triplesOf_37 : decode cX0_triplesOf 37 = .ok (.iand, 1) := by decide +kernel
theorem dX0_triplesOf_38 : decode cX0_triplesOf 38 = .ok (.iload 6, 2) := by decide +kernel
theorem dX0_triplesOf_40 : decode cX0_triplesOf 40 = .ok (.iand, 1) := by decide +kernel
theorem dX0_triplesOf_41 : decode cX0_triplesOf 41 = .ok (.iconst 1, 1) := by decide +kernel
theorem dX0_triplesOf_42 : decode cX0_triplesOf 42 = .ok (.iand, 1) := by decide +kernel
theorem dX0_triplesOf_43 : decode cX0_triplesOf 43 = .ok (.ifCond .eq 9, 3) := by decide +kernel
theorem dX0_triplesOf_46 : decode cX0_triplesOf 46 = .ok (.lload_n 1, 1) := by decide +kernel
theorem dX0_triplesOf_47 : decode cX0_triplesOf 47 = .ok (.lconst 1, 1) := by decide +kernel
theorem dX0_triplesOf_48 : decode cX0_triplesOf 48 = .ok (.iload_n 3, 1) := by decide +kernel
theorem dX0_triplesOf_49 : decode cX0_triplesOf 49 = .ok (.lshl, 1) := by decide +kernel
theorem dX0_triplesOf_50 : decode cX0_triplesOf 50 = .ok (.lor, 1) := by decide +kernel
theorem dX0_triplesOf_51 : decode cX0_triplesOf 51 = .ok (.lstore_n 1, 1) := by decide +kernel
theorem dX0_triplesOf_52 : decode cX0_triplesOf 52 = .ok (.iinc 3 1, 3) := by decide +kernel
theorem dX0_triplesOf_55 : decode cX0_triplesOf 55 = .ok (.goto (-51), 3) := by decide +kernel
theorem dX0_triplesOf_58 : decode cX0_triplesOf 58 = .ok (.lload_n 1, 1) := by decide +kernel
theorem dX0_triplesOf_59 : decode cX0_triplesOf 59 = .ok (.lreturn, 1) := by decide +kernel
theorem dX0_logicWord_0 : decode cX0_logicWord 0 = .ok (.aload_n 0, 1) := by decide +kernel
theorem dX0_logicWord_1 : decode cX0_logicWord 1 = .ok (.getfield 48, 3) := by decide +kernel
theorem dX0_logicWord_4 : decode cX0_logicWord 4 = .ok (.iload_n 1, 1) := by decide +kernel
theorem dX0_logicWord_5 : decode cX0_logicWord 5 = .ok (.lushr, 1) := by decide +kernel
theorem dX0_logicWord_6 : decode cX0_logicWord 6 = .ok (.lconst 1, 1) := by decide +kernel
theorem dX0_logicWord_7 : decode cX0_logicWord 7 = .ok (.land, 1) := by decide +kernel
theorem dX0_logicWord_8 : decode cX0_logicWord 8 = .ok (.lconst 0, 1) := by decide +kernel
theorem dX0_logicWord_9 : decode cX0_logicWord 9 = .ok (.lcmp, 1) := by decide +kernel
theorem dX0_logicWord_10 : decode cX0_logicWord 10 = .ok (.ifCond .eq 10, 3) := by decide +kernel
theorem dX0_logicWord_13 : decode cX0_logicWord 13 = .ok (.aload_n 0, 1) := by decide +kernel
theorem dX0_logicWord_14 : decode cX0_logicWord 14 = .ok (.getfield 48, 3) := by decide +kernel
theorem dX0_logicWord_17 : decode cX0_logicWord 17 = .ok (.goto 4, 3) := by decide +kernel
theorem dX0_logicWord_20 : decode cX0_logicWord 20 = .ok (.lconst 0, 1) := by decide +kernel
theorem dX0_logicWord_21 : decode cX0_logicWord 21 = .ok (.lreturn, 1) := by decide +kernel
set_option maxRecDepth 20000 in
theorem ggX0_lowestBit_J13_bitCount_95d88 : GoodIn wsX0_lowestBit wsJ13_bitCount_95d88 := goodIn_r _ [4, 5, 6, 7] (by decide +kernel) (by decide +kernel)
set_option maxRecDepth 20000 in
theorem gX0_lowestBit_J13_bitCount_95d88 : GoodIn wsX0_lowestBit (va_wsS RX0 161 yJ13_bitCount_95d88 wsJ13_bitCount_95d88) := goodIn_app (goodIn_of _ (by decide +kernel)) ggX0_lowestBit_J13_bitCount_95d88
theorem dX0_lowestBit_0 : decode cX0_lowestBit 0 = .ok (.lload_n 0, 1) := by decide +kernel
theorem dX0_lowestBit_1 : decode cX0_lowestBit 1 = .ok (.lload_n 0, 1) := by decide +kernel
theorem dX0_lowestBit_2 : decode cX0_lowestBit 2 = .ok (.lneg, 1) := by decide +kernel
theorem dX0_lowestBit_3 : decode cX0_lowestBit 3 = .ok (.land, 1) := by decide +kernel
theorem dX0_lowestBit_4 : decode cX0_lowestBit 4 = .ok (.lconst 1, 1) := by decide +kernel
theorem dX0_lowestBit_5 : decode cX0_lowestBit 5 = .ok (.lsub, 1) := by decide +kernel
theorem dX0_lowestBit_6 : decode cX0_lowestBit 6 = .ok (.invokestatic 161, 3) := by decide +kernel
theorem dX0_lowestBit_9 : decode cX0_lowestBit 9 = .ok (.ireturn, 1) := by decide +kernel
theorem dX0_differing_0 : decode cX0_differing 0 = .ok (.aload_n 0, 1) := by decide +kernel
theorem dX0_differing_1 : decode cX0_differing 1 = .ok (.getfield 21, 3) := by decide +kernel
theorem dX0_differing_4 : decode cX0_differing 4 = .ok (.iload_n 1, 1) := by decide +kernel
theorem dX0_differing_5 : decode cX0_differing 5 = .ok (.laload, 1) := by decide +kernel
theorem dX0_differing_6 : decode cX0_differing 6 = .ok (.aload_n 0, 1) := by decide +kernel
theorem dX0_differing_7 : decode cX0_differing 7 = .ok (.getfield 21, 3) := by decide +kernel
theorem dX0_differing_10 : decode cX0_differing 10 = .ok (.iload_n 2, 1) := by decide +kernel
theorem dX0_differing_11 : decode cX0_differing 11 = .ok (.laload, 1) := by decide +kernel
theorem dX0_differing_12 : decode cX0_differing 12 = .ok (.iload_n 3, 1) := by decide +kernel
theorem dX0_differing_13 : decode cX0_differing 13 = .ok (.lushr, 1) := by decide +kernel
theorem dX0_differing_14 : decode cX0_differing 14 = .ok (.lxor, 1) := by decide +kernel
theorem dX0_differing_15 : decode cX0_differing 15 = .ok (.lstore 4, 2) := by decide +kernel
theorem dX0_differing_17 : decode cX0_differing 17 = .ok (.aload_n 0, 1) := by decide +kernel
theorem dX0_differing_18 : decode cX0_differing 18 = .ok (.getfield 25, 3) := by decide +kernel
theorem dX0_differing_21 : decode cX0_differing 21 = .ok (.iload_n 1, 1) := by decide +kernel
theorem dX0_differing_22 : decode cX0_differing 22 = .ok (.laload, 1) := by decide +kernel
theorem dX0_differing_23 : decode cX0_differing 23 = .ok (.aload_n 0, 1) := by decide +kernel
theorem dX0_differing_24 : decode cX0_differing 24 = .ok (.getfield 25, 3) := by decide +kernel
theorem dX0_differing_27 : decode cX0_differing 27 = .ok (.iload_n 2, 1) := by decide +kernel
theorem dX0_differing_28 : decode cX0_differing 28 = .ok (.laload, 1) := by decide +kernel
theorem dX0_differing_29 : decode cX0_differing 29 = .ok (.iload_n 3, 1) := by decide +kernel
theorem dX0_differing_30 : decode cX0_differing 30 = .ok (.lushr, 1) := by decide +kernel
theorem dX0_differing_31 : decode cX0_differing 31 = .ok (.lxor, 1) := by decide +kernel
theorem dX0_differing_32 : decode cX0_differing 32 = .ok (.lstore 6, 2) := by decide +kernel
theorem dX0_differing_34 : decode cX0_differing 34 = .ok (.lload 4, 2) := by decide +kernel
theorem dX0_differing_36 : decode cX0_differing 36 = .ok (.lload 6, 2) := by decide +kernel
theorem dX0_differing_38 : decode cX0_differing 38 = .ok (.lor, 1) := by decide +kernel
theorem dX0_differing_39 : decode cX0_differing 39 = .ok (.lreturn, 1) := by decide +kernel
set_option maxRecDepth 20000 in
theorem ggX0_isChanged_X0_rowOf : GoodIn wsX0_isChanged wsX0_rowOf := goodIn_r _ [4] (by decide +kernel) (by decide +kernel)
set_option maxRecDepth 20000 in
theorem gX0_isChanged_X0_rowOf : GoodIn wsX0_isChanged (va_wsS RX0 63 yX0_rowOf wsX0_rowOf) := goodIn_app (goodIn_of _ (by decide +kernel)) ggX0_isChanged_X0_rowOf
set_option maxRecDepth 20000 in
theorem ggX0_isChanged_X0_placeOf : GoodIn wsX0_isChanged wsX0_placeOf := goodIn_r _ [7] (by decide +kernel) (by decide +kernel)
set_option maxRecDepth 20000 in
theorem gX0_isChanged_X0_placeOf : GoodIn wsX0_isChanged (va_wsS RX0 59 yX0_placeOf wsX0_placeOf) := goodIn_app (goodIn_of _ (by decide +kernel)) ggX0_isChanged_X0_placeOf
set_option maxRecDepth 20000 in
theorem ggX0_isChanged_X0_logicWord : GoodIn wsX0_isChanged wsX0_logicWord := goodIn_r _ [11, 12, 30, 31, 32, 33, 34, 35, 36, 37, 38, 39, 40, 41] (by decide +kernel) (by decide +kernel)
set_option maxRecDepth 20000 in
theorem gX0_isChanged_X0_logicWord : GoodIn wsX0_isChanged (wsV RX0 158 RX0 yX0_logicWord wsX0_logicWord) := goodIn_app (goodIn_of _ (by decide +kernel)) ggX0_isChanged_X0_logicWord
set_option maxRecDepth 20000 in
theorem ggX0_isChanged_X0_valuationsWithBit : GoodIn wsX0_isChanged wsX0_valuationsWithBit := goodIn_r _ [15, 16, 17] (by decide +kernel) (by decide +kernel)
set_option maxRecDepth 20000 in
theorem gX0_isChanged_X0_valuationsWithBit : GoodIn wsX0_isChanged (va_wsS RX0 66 yX0_valuationsWithBit wsX0_valuationsWithBit) := goodIn_app (goodIn_of _ (by decide +kernel)) ggX0_isChanged_X0_valuationsWithBit
set_option maxRecDepth 20000 in
theorem ggX0_isChanged_X0_pick : GoodIn wsX0_isChanged wsX0_pick := goodIn_r _ [20, 17, 21, 22, 3, 23] (by decide +kernel) (by decide +kernel)
set_option maxRecDepth 20000 in
theorem gX0_isChanged_X0_pick : GoodIn wsX0_isChanged (va_wsS RX0 166 yX0_pick wsX0_pick) := goodIn_app (goodIn_of _ (by decide +kernel)) ggX0_isChanged_X0_pick
set_option maxRecDepth 20000 in
theorem ggX0_isChanged_X0_differing : GoodIn wsX0_isChanged wsX0_differing := goodIn_r _ [27, 28, 29, 30, 31, 32, 33, 34, 35, 36, 37, 38, 39, 40, 41] (by decide +kernel) (by decide +kernel)
set_option maxRecDepth 20000 in
theorem gX0_isChanged_X0_differing : GoodIn wsX0_isChanged (wsV RX0 176 RX0 yX0_differing wsX0_differing) := goodIn_app (goodIn_of _ (by decide +kernel)) ggX0_isChanged_X0_differing
theorem dX0_isChanged_0 : decode cX0_isChanged 0 = .ok (.iload_n 1, 1) := by decide +kernel
theorem dX0_isChanged_1 : decode cX0_isChanged 1 = .ok (.invokestatic 63, 3) := by decide +kernel
theorem dX0_isChanged_4 : decode cX0_isChanged 4 = .ok (.istore 5, 2) := by decide +kernel
theorem dX0_isChanged_6 : decode cX0_isChanged 6 = .ok (.iload_n 2, 1) := by decide +kernel
theorem dX0_isChanged_7 : decode cX0_isChanged 7 = .ok (.invokestatic 59, 3) := by decide +kernel
theorem dX0_isChanged_10 : decode cX0_isChanged 10 = .ok (.istore 6, 2) := by decide +kernel
theorem dX0_isChanged_12 : decode cX0_isChanged 12 = .ok (.iload 4, 2) := by decide +kernel
theorem dX0_isChanged_14 : decode cX0_isChanged 14 = .ok (.iload_n 3, 1) := by decide +kernel
theorem dX0_isChanged_15 : decode cX0_isChanged 15 = .ok (.isub, 1) := by decide +kernel
theorem dX0_isChanged_16 : decode cX0_isChanged 16 = .ok (.iload 6, 2) := by decide +kernel
theorem dX0_isChanged_18 : decode cX0_isChanged 18 = .ok (.ishl, 1) := by decide +kernel
theorem dX0_isChanged_19 : decode cX0_isChanged 19 = .ok (.istore 7, 2) := by decide +kernel
theorem dX0_isChanged_21 : decode cX0_isChanged 21 = .ok (.iconst 0, 1) := by decide +kernel
theorem dX0_isChanged_22 : decode cX0_isChanged 22 = .ok (.istore 8, 2) := by decide +kernel
theorem dX0_isChanged_24 : decode cX0_isChanged 24 = .ok (.iload 8, 2) := by decide +kernel
theorem dX0_isChanged_26 : decode cX0_isChanged 26 = .ok (.bipush 64, 2) := by decide +kernel
theorem dX0_isChanged_28 : decode cX0_isChanged 28 = .ok (.if_icmp .ge 95, 3) := by decide +kernel
theorem dX0_isChanged_31 : decode cX0_isChanged 31 = .ok (.aload_n 0, 1) := by decide +kernel
theorem dX0_isChanged_32 : decode cX0_isChanged 32 = .ok (.iload 8, 2) := by decide +kernel
theorem dX0_isChanged_34 : decode cX0_isChanged 34 = .ok (.invokevirtual 158, 3) := by decide +kernel
theorem dX0_isChanged_37 : decode cX0_isChanged 37 = .ok (.iload 6, 2) := by decide +kernel
theorem dX0_isChanged_39 : decode cX0_isChanged 39 = .ok (.iload 8, 2) := by decide +kernel
theorem dX0_isChanged_41 : decode cX0_isChanged 41 = .ok (.invokestatic 66, 3) := by decide +kernel
theorem dX0_isChanged_44 : decode cX0_isChanged 44 = .ok (.iload 6, 2) := by decide +kernel
theorem dX0_isChanged_46 : decode cX0_isChanged 46 = .ok (.iconst 1, 1) := by decide +kernel
theorem dX0_isChanged_47 : decode cX0_isChanged 47 = .ok (.iadd, 1) := by decide +kernel
theorem dX0_isChanged_48 : decode cX0_isChanged 48 = .ok (.iload 8, 2) := by decide +kernel
theorem dX0_isChanged_50 : decode cX0_isChanged 50 = .ok (.invokestatic 66, 3) := by decide +kernel
theorem dX0_isChanged_53 : decode cX0_isChanged 53 = .ok (.iload_n 3, 1) := by decide +kernel
theorem dX0_isChanged_54 : decode cX0_isChanged 54 = .ok (.invokestatic 166, 3) := by decide +kernel
theorem dX0_isChanged_57 : decode cX0_isChanged 57 = .ok (.land, 1) := by decide +kernel
theorem dX0_isChanged_58 : decode cX0_isChanged 58 = .ok (.lstore 9, 2) := by decide +kernel
theorem dX0_isChanged_60 : decode cX0_isChanged 60 = .ok (.iload 8, 2) := by decide +kernel
theorem dX0_isChanged_62 : decode cX0_isChanged 62 = .ok (.iload 7, 2) := by decide +kernel
theorem dX0_isChanged_64 : decode cX0_isChanged 64 = .ok (.bipush 64, 2) := by decide +kernel
theorem dX0_isChanged_66 : decode cX0_isChanged 66 = .ok (.idiv, 1) := by decide +kernel
theorem dX0_isChanged_67 : decode cX0_isChanged 67 = .ok (.iadd, 1) := by decide +kernel
theorem dX0_isChanged_68 : decode cX0_isChanged 68 = .ok (.istore 11, 2) := by decide +kernel
theorem dX0_isChanged_70 : decode cX0_isChanged 70 = .ok (.iload 7, 2) := by decide +kernel
theorem dX0_isChanged_72 : decode cX0_isChanged 72 = .ok (.bipush 64, 2) := by decide +kernel
theorem dX0_isChanged_74 : decode cX0_isChanged 74 = .ok (.irem, 1) := by decide +kernel
theorem dX0_isChanged_75 : decode cX0_isChanged 75 = .ok (.istore 12, 2) := by decide +kernel
theorem dX0_isChanged_77 : decode cX0_isChanged 77 = .ok (.lload 9, 2) := by decide +kernel
theorem dX0_isChanged_79 : decode cX0_isChanged 79 = .ok (.lconst 0, 1) := by decide +kernel
theorem dX0_isChanged_80 : decode cX0_isChanged 80 = .ok (.lcmp, 1) := by decide +kernel
theorem dX0_isChanged_81 : decode cX0_isChanged 81 = .ok (.ifCond .eq 36, 3) := by decide +kernel
theorem dX0_isChanged_84 : decode cX0_isChanged 84 = .ok (.iload 11, 2) := by decide +kernel
theorem dX0_isChanged_86 : decode cX0_isChanged 86 = .ok (.bipush 64, 2) := by decide +kernel
theorem dX0_isChanged_88 : decode cX0_isChanged 88 = .ok (.if_icmp .ge 29, 3) := by decide +kernel
theorem dX0_isChanged_91 : decode cX0_isChanged 91 = .ok (.aload_n 0, 1) := by decide +kernel
theorem dX0_isChanged_92 : decode cX0_isChanged 92 = .ok (.iload 5, 2) := by decide +kernel
theorem dX0_isChanged_94 : decode cX0_isChanged 94 = .ok (.iload 8, 2) := by decide +kernel
theorem dX0_isChanged_96 : decode cX0_isChanged 96 = .ok (.iadd, 1) := by decide +kernel
theorem dX0_isChanged_97 : decode cX0_isChanged 97 = .ok (.iload 5, 2) := by decide +kernel
theorem dX0_isChanged_99 : decode cX0_isChanged 99 = .ok (.iload 11, 2) := by decide +kernel
theorem dX0_isChanged_101 : decode cX0_isChanged 101 = .ok (.iadd, 1) := by decide +kernel
theorem dX0_isChanged_102 : decode cX0_isChanged 102 = .ok (.iload 12, 2) := by decide +kernel
theorem dX0_isChanged_104 : decode cX0_isChanged 104 = .ok (.invokevirtual 176, 3) := by decide +kernel
theorem dX0_isChanged_107 : decode cX0_isChanged 107 = .ok (.lload 9, 2) := by decide +kernel
theorem dX0_isChanged_109 : decode cX0_isChanged 109 = .ok (.land, 1) := by decide +kernel
theorem dX0_isChanged_110 : decode cX0_isChanged 110 = .ok (.lconst 0, 1) := by decide +kernel
theorem dX0_isChanged_111 : decode cX0_isChanged 111 = .ok (.lcmp, 1) := by decide +kernel
theorem dX0_isChanged_112 : decode cX0_isChanged 112 = .ok (.ifCond .eq 5, 3) := by decide +kernel
theorem dX0_isChanged_115 : decode cX0_isChanged 115 = .ok (.iconst 1, 1) := by decide +kernel
theorem dX0_isChanged_116 : decode cX0_isChanged 116 = .ok (.ireturn, 1) := by decide +kernel
theorem dX0_isChanged_117 : decode cX0_isChanged 117 = .ok (.iinc 8 1, 3) := by decide +kernel
theorem dX0_isChanged_120 : decode cX0_isChanged 120 = .ok (.goto (-96), 3) := by decide +kernel
theorem dX0_isChanged_123 : decode cX0_isChanged 123 = .ok (.iconst 0, 1) := by decide +kernel
theorem dX0_isChanged_124 : decode cX0_isChanged 124 = .ok (.ireturn, 1) := by decide +kernel
