set_option maxRecDepth 20000 in
theorem ggL_law_X0_init : GoodIn wsL_law wsX0_init := goodIn_r _ [9, 10, 11, 12, 13, 14, 15, 16, 17, 6, 18, 19, 20, 21, 22, 23, 24, 25, 26, 27, 606, 607, 608, 609, 610, 611, 612, 613, 614, 615, 616, 617] (by decide +kernel) (by decide +kernel)
set_option maxRecDepth 20000 in
theorem gL_law_X0_init : GoodIn wsL_law (wsX0_init) := ggL_law_X0_init
set_option maxRecDepth 20000 in
theorem ggL_law_X1_init : GoodIn wsL_law wsX1_init := goodIn_r _ [30, 31, 11, 12, 14, 32, 33, 34, 16, 35, 36, 37, 38, 39, 40, 41, 42, 618, 619, 620, 621, 622, 623, 624, 625, 626, 627, 628, 629, 630] (by decide +kernel) (by decide +kernel)
set_option maxRecDepth 20000 in
theorem gL_law_X1_init : GoodIn wsL_law (wsX1_init) := ggL_law_X1_init
set_option maxRecDepth 20000 in
theorem ggL_law_L_atom : GoodIn wsL_law wsL_atom := goodIn_ca (goodIn_ca (goodIn_r _ [46, 47, 48, 49, 50, 51, 2, 52, 13, 18, 19, 53, 54, 55, 56, 57, 58, 59, 60, 61, 62, 63, 64, 65, 66, 67, 68, 69, 70, 71, 72, 73, 26, 74, 75, 76, 77, 15, 17, 606, 607, 608, 609, 610, 611, 612, 613, 614, 615, 616, 617] (by decide +kernel) (by decide +kernel)) (goodIn_sub (fun _ h => List.mem_append_left _ (List.mem_append_left _ (List.mem_append_right _ h))) (by decide +kernel))) (goodIn_sub (fun _ h => List.mem_append_left _ (List.mem_append_right _ h)) (by decide +kernel))
set_option maxRecDepth 20000 in
theorem gL_law_L_atom : GoodIn wsL_law (va_wsS RL 101 yL_atom wsL_atom) := goodIn_app (goodIn_of _ (by decide +kernel)) ggL_law_L_atom
set_option maxRecDepth 20000 in
theorem ggL_law_X1_atom : GoodIn wsL_law wsX1_atom := goodIn_r _ [81, 82, 83, 84, 5, 85, 86, 87, 88, 89, 90, 91, 92, 93, 32, 33, 34, 35, 94, 95, 96, 97, 618, 619, 620, 621, 622, 623, 624, 625, 626, 627, 628, 629, 630] (by decide +kernel) (by decide +kernel)
set_option maxRecDepth 20000 in
theorem gL_law_X1_atom : GoodIn wsL_law (wsV RL 106 RX1 yX1_atom wsX1_atom) := goodIn_app (goodIn_of _ (by decide +kernel)) ggL_law_X1_atom
set_option maxRecDepth 20000 in
theorem ggL_law_X1_thrown : GoodIn wsL_law wsX1_thrown := goodIn_r _ [101, 82, 618, 619, 620, 621, 622, 623, 624, 625, 626, 627, 628, 629, 630] (by decide +kernel) (by decide +kernel)
set_option maxRecDepth 20000 in
theorem gL_law_X1_thrown : GoodIn wsL_law (wsV RL 107 RX1 yX1_thrown wsX1_thrown) := goodIn_app (goodIn_of _ (by decide +kernel)) ggL_law_X1_thrown
set_option maxRecDepth 20000 in
theorem ggL_law_L_constant : GoodIn wsL_law wsL_constant := goodIn_ca (goodIn_ca (goodIn_r _ [104, 105, 48, 106, 107, 108, 2, 109, 13, 18, 26, 19, 110, 111, 112, 113, 114, 58, 59, 60, 61, 62, 63, 67, 68, 69, 74, 75, 76, 77, 15, 17, 606, 607, 608, 609, 610, 611, 612, 613, 614, 615, 616, 617] (by decide +kernel) (by decide +kernel)) (goodIn_sub (fun _ h => List.mem_append_right _ h) (by decide +kernel))) (goodIn_sub (fun _ h => List.mem_append_left _ (List.mem_append_right _ h)) (by decide +kernel))
set_option maxRecDepth 20000 in
theorem gL_law_L_constant : GoodIn wsL_law (va_wsS RL 111 yL_constant wsL_constant) := goodIn_app (goodIn_of _ (by decide +kernel)) ggL_law_L_constant
set_option maxRecDepth 20000 in
theorem ggL_law_X1_constant : GoodIn wsL_law wsX1_constant := goodIn_r _ [118, 82, 86, 87, 5, 88, 89, 90, 91, 92, 93, 32, 33, 34, 35, 94, 95, 96, 97, 618, 619, 620, 621, 622, 623, 624, 625, 626, 627, 628, 629, 630] (by decide +kernel) (by decide +kernel)
set_option maxRecDepth 20000 in
theorem gL_law_X1_constant : GoodIn wsL_law (wsV RL 113 RX1 yX1_constant wsX1_constant) := goodIn_app (goodIn_of _ (by decide +kernel)) ggL_law_X1_constant
set_option maxRecDepth 20000 in
theorem ggL_law_L_turn : GoodIn wsL_law wsL_turn := goodIn_ca (goodIn_ca (goodIn_ca (goodIn_r _ [121, 47, 105, 48, 122, 123, 124, 2, 125, 113, 114, 13, 18, 19, 26, 17, 126, 127, 128, 129, 56, 57, 58, 59, 60, 61, 62, 63, 67, 68, 69, 74, 75, 76, 77, 15, 606, 607, 608, 609, 610, 611, 612, 613, 614, 615, 616, 617] (by decide +kernel) (by decide +kernel)) (goodIn_sub (fun _ h => List.mem_append_right _ h) (by decide +kernel))) (goodIn_sub (fun _ h => List.mem_append_left _ (List.mem_append_left _ (List.mem_append_right _ h))) (by decide +kernel))) (goodIn_sub (fun _ h => List.mem_append_left _ (List.mem_append_right _ h)) (by decide +kernel))
set_option maxRecDepth 20000 in
theorem gL_law_L_turn : GoodIn wsL_law (va_wsS RL 114 yL_turn wsL_turn) := goodIn_app (goodIn_of _ (by decide +kernel)) ggL_law_L_turn
set_option maxRecDepth 20000 in
theorem ggL_law_X1_turn : GoodIn wsL_law wsX1_turn := goodIn_r _ [133, 82, 35, 134, 135, 136, 5, 137, 93, 86, 87, 88, 94, 95, 96, 97, 89, 90, 91, 92, 32, 33, 34, 618, 619, 620, 621, 622, 623, 624, 625, 626, 627, 628, 629, 630] (by decide +kernel) (by decide +kernel)
set_option maxRecDepth 20000 in
theorem gL_law_X1_turn : GoodIn wsL_law (wsV RL 117 RX1 yX1_turn wsX1_turn) := goodIn_app (goodIn_of _ (by decide +kernel)) ggL_law_X1_turn
set_option maxRecDepth 20000 in
theorem ggL_law_L_join : GoodIn wsL_law wsL_join := goodIn_ca (goodIn_ca (goodIn_ca (goodIn_r _ [140, 47, 105, 48, 141, 142, 143, 2, 144, 113, 114, 13, 18, 19, 17, 126, 127, 128, 129, 56, 57, 58, 59, 60, 61, 62, 63, 67, 68, 69, 145, 146, 147, 26, 148, 149, 150, 74, 75, 76, 77, 15, 606, 607, 608, 609, 610, 611, 612, 613, 614, 615, 616, 617] (by decide +kernel) (by decide +kernel)) (goodIn_sub (fun _ h => List.mem_append_right _ h) (by decide +kernel))) (goodIn_sub (fun _ h => List.mem_append_left _ (List.mem_append_left _ (List.mem_append_right _ h))) (by decide +kernel))) (goodIn_sub (fun _ h => List.mem_append_left _ (List.mem_append_right _ h)) (by decide +kernel))
set_option maxRecDepth 20000 in
theorem gL_law_L_join : GoodIn wsL_law (va_wsS RL 118 yL_join wsL_join) := goodIn_app (goodIn_of _ (by decide +kernel)) ggL_law_L_join
set_option maxRecDepth 20000 in
theorem ggL_law_X1_join : GoodIn wsL_law wsX1_join := goodIn_r _ [154, 82, 35, 134, 135, 136, 5, 137, 93, 86, 87, 88, 94, 95, 96, 97, 89, 90, 91, 92, 32, 33, 34, 618, 619, 620, 621, 622, 623, 624, 625, 626, 627, 628, 629, 630] (by decide +kernel) (by decide +kernel)
set_option maxRecDepth 20000 in
theorem gL_law_X1_join : GoodIn wsL_law (wsV RL 121 RX1 yX1_join wsX1_join) := goodIn_app (goodIn_of _ (by decide +kernel)) ggL_law_X1_join
set_option maxRecDepth 20000 in
theorem ggL_law_X0_formulaCount : GoodIn wsL_law wsX0_formulaCount := goodIn_r _ [158, 13, 606, 607, 608, 609, 610, 611, 612, 613, 614, 615, 616, 617] (by decide +kernel) (by decide +kernel)
set_option maxRecDepth 20000 in
theorem gL_law_X0_formulaCount : GoodIn wsL_law (wsV RL 122 RX0 yX0_formulaCount wsX0_formulaCount) := goodIn_app (goodIn_of _ (by decide +kernel)) ggL_law_X0_formulaCount
set_option maxRecDepth 20000 in
theorem ggL_law_X1_formulaCount : GoodIn wsL_law wsX1_formulaCount := goodIn_r _ [162, 82, 93, 618, 619, 620, 621, 622, 623, 624, 625, 626, 627, 628, 629, 630] (by decide +kernel) (by decide +kernel)
set_option maxRecDepth 20000 in
theorem gL_law_X1_formulaCount : GoodIn wsL_law (wsV RL 125 RX1 yX1_formulaCount wsX1_formulaCount) := goodIn_app (goodIn_of _ (by decide +kernel)) ggL_law_X1_formulaCount
set_option maxRecDepth 20000 in
theorem ggL_law_L_isSteady : GoodIn wsL_law wsL_isSteady := goodIn_ca (goodIn_r _ [165, 47, 166, 167, 168, 2, 169, 17, 126, 127, 128, 129, 56, 57, 13, 606, 607, 608, 609, 610, 611, 612, 613, 614, 615, 616, 617] (by decide +kernel) (by decide +kernel)) (goodIn_sub (fun _ h => List.mem_append_left _ (List.mem_append_left _ (List.mem_append_right _ h))) (by decide +kernel))
set_option maxRecDepth 20000 in
theorem gL_law_L_isSteady : GoodIn wsL_law (va_wsS RL 126 yL_isSteady wsL_isSteady) := goodIn_app (goodIn_of _ (by decide +kernel)) ggL_law_L_isSteady
set_option maxRecDepth 20000 in
theorem ggL_law_X1_isSteady : GoodIn wsL_law wsX1_isSteady := goodIn_r _ [173, 82, 35, 134, 135, 136, 5, 137, 93, 86, 87, 88, 618, 619, 620, 621, 622, 623, 624, 625, 626, 627, 628, 629, 630] (by decide +kernel) (by decide +kernel)
set_option maxRecDepth 20000 in
theorem gL_law_X1_isSteady : GoodIn wsL_law (wsV RL 128 RX1 yX1_isSteady wsX1_isSteady) := goodIn_app (goodIn_of _ (by decide +kernel)) ggL_law_X1_isSteady
set_option maxRecDepth 20000 in
theorem ggL_law_L_report : GoodIn wsL_law wsL_report := goodIn_ca (goodIn_ca (goodIn_r _ [176, 47, 105, 177, 178, 179, 2, 180, 22, 181, 182, 183, 56, 57, 53, 54, 55, 110, 111, 112, 113, 114, 184, 185, 186, 64, 65, 66, 606, 607, 608, 609, 610, 611, 612, 613, 614, 615, 616, 617] (by decide +kernel) (by decide +kernel)) (goodIn_sub (fun _ h => List.mem_append_left _ (List.mem_append_left _ (List.mem_append_right _ h))) (by decide +kernel))) (goodIn_sub (fun _ h => List.mem_append_right _ h) (by decide +kernel))
set_option maxRecDepth 20000 in
theorem gL_law_L_report : GoodIn wsL_law (va_wsS RL 129 yL_report wsL_report) := goodIn_app (goodIn_of _ (by decide +kernel)) ggL_law_L_report
set_option maxRecDepth 20000 in
theorem ggL_law_X1_report : GoodIn wsL_law wsX1_report := goodIn_r _ [190, 82, 38, 191, 192, 5, 193, 86, 87, 88, 83, 84, 85, 94, 95, 96, 97, 618, 619, 620, 621, 622, 623, 624, 625, 626, 627, 628, 629, 630] (by decide +kernel) (by decide +kernel)
set_option maxRecDepth 20000 in
theorem gL_law_X1_report : GoodIn wsL_law (wsV RL 131 RX1 yX1_report wsX1_report) := goodIn_app (goodIn_of _ (by decide +kernel)) ggL_law_X1_report
set_option maxRecDepth 20000 in
theorem ggL_law_L_setTrust : GoodIn wsL_law wsL_setTrust := goodIn_ca (goodIn_ca (goodIn_r _ [196, 47, 105, 197, 198, 199, 2, 200, 20, 181, 182, 183, 56, 57, 201, 202, 203, 113, 114, 606, 607, 608, 609, 610, 611, 612, 613, 614, 615, 616, 617] (by decide +kernel) (by decide +kernel)) (goodIn_sub (fun _ h => List.mem_append_left _ (List.mem_append_left _ (List.mem_append_right _ h))) (by decide +kernel))) (goodIn_sub (fun _ h => List.mem_append_right _ h) (by decide +kernel))
set_option maxRecDepth 20000 in
theorem gL_law_L_setTrust : GoodIn wsL_law (va_wsS RL 132 yL_setTrust wsL_setTrust) := goodIn_app (goodIn_of _ (by decide +kernel)) ggL_law_L_setTrust
set_option maxRecDepth 20000 in
theorem ggL_law_X1_setTrust : GoodIn wsL_law wsX1_setTrust := goodIn_r _ [207, 82, 36, 191, 192, 5, 193, 86, 87, 88, 94, 95, 96, 97, 618, 619, 620, 621, 622, 623, 624, 625, 626, 627, 628, 629, 630] (by decide +kernel) (by decide +kernel)
set_option maxRecDepth 20000 in
theorem gL_law_X1_setTrust : GoodIn wsL_law (wsV RL 134 RX1 yX1_setTrust wsX1_setTrust) := goodIn_app (goodIn_of _ (by decide +kernel)) ggL_law_X1_setTrust
set_option maxRecDepth 20000 in
theorem ggL_law_L_setLeastTrust : GoodIn wsL_law wsL_setLeastTrust := goodIn_ca (goodIn_r _ [210, 105, 211, 212, 213, 2, 214, 23, 201, 202, 203, 113, 114, 606, 607, 608, 609, 610, 611, 612, 613, 614, 615, 616, 617] (by decide +kernel) (by decide +kernel)) (goodIn_sub (fun _ h => List.mem_append_right _ h) (by decide +kernel))
set_option maxRecDepth 20000 in
theorem gL_law_L_setLeastTrust : GoodIn wsL_law (va_wsS RL 135 yL_setLeastTrust wsL_setLeastTrust) := goodIn_app (goodIn_of _ (by decide +kernel)) ggL_law_L_setLeastTrust
set_option maxRecDepth 20000 in
theorem ggL_law_X1_setLeastTrust : GoodIn wsL_law wsX1_setLeastTrust := goodIn_r _ [218, 82, 39, 86, 87, 5, 88, 94, 95, 96, 97, 618, 619, 620, 621, 622, 623, 624, 625, 626, 627, 628, 629, 630] (by decide +kernel) (by decide +kernel)
set_option maxRecDepth 20000 in
theorem gL_law_X1_setLeastTrust : GoodIn wsL_law (wsV RL 137 RX1 yX1_setLeastTrust wsX1_setLeastTrust) := goodIn_app (goodIn_of _ (by decide +kernel)) ggL_law_X1_setLeastTrust
set_option maxRecDepth 20000 in
theorem ggL_law_L_let : GoodIn wsL_law wsL_let := goodIn_ca (goodIn_r _ [221, 47, 222, 223, 224, 2, 225, 21, 181, 182, 183, 56, 57, 226, 227, 228, 229, 20, 23, 606, 607, 608, 609, 610, 611, 612, 613, 614, 615, 616, 617] (by decide +kernel) (by decide +kernel)) (goodIn_sub (fun _ h => List.mem_append_left _ (List.mem_append_left _ (List.mem_append_right _ h))) (by decide +kernel))
set_option maxRecDepth 20000 in
theorem gL_law_L_let : GoodIn wsL_law (va_wsS RL 138 yL_let wsL_let) := goodIn_app (goodIn_of _ (by decide +kernel)) ggL_law_L_let
set_option maxRecDepth 20000 in
theorem ggL_law_X1_let : GoodIn wsL_law wsX1_let := goodIn_r _ [233, 82, 37, 191, 192, 5, 193, 86, 87, 88, 234, 235, 236, 237, 36, 39, 618, 619, 620, 621, 622, 623, 624, 625, 626, 627, 628, 629, 630] (by decide +kernel) (by decide +kernel)
set_option maxRecDepth 20000 in
theorem gL_law_X1_let : GoodIn wsL_law (wsV RL 141 RX1 yX1_let wsX1_let) := goodIn_app (goodIn_of _ (by decide +kernel)) ggL_law_X1_let
set_option maxRecDepth 20000 in
theorem ggL_law_L_setRule : GoodIn wsL_law wsL_setRule := goodIn_ca (goodIn_ca (goodIn_r _ [240, 47, 105, 241, 242, 243, 2, 244, 24, 53, 54, 55, 56, 57, 126, 127, 128, 129, 13, 245, 246, 247, 248, 113, 114, 17, 606, 607, 608, 609, 610, 611, 612, 613, 614, 615, 616, 617] (by decide +kernel) (by decide +kernel)) (goodIn_sub (fun _ h => List.mem_append_left _ (List.mem_append_left _ (List.mem_append_right _ h))) (by decide +kernel))) (goodIn_sub (fun _ h => List.mem_append_right _ h) (by decide +kernel))
set_option maxRecDepth 20000 in
theorem gL_law_L_setRule : GoodIn wsL_law (va_wsS RL 142 yL_setRule wsL_setRule) := goodIn_app (goodIn_of _ (by decide +kernel)) ggL_law_L_setRule
