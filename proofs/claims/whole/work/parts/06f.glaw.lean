set_option maxRecDepth 20000 in
theorem ggL_law_X1_setRule : GoodIn wsL_law wsX1_setRule := goodIn_r _ [252, 82, 35, 40, 83, 84, 5, 85, 86, 87, 88, 134, 135, 136, 137, 93, 94, 95, 96, 97, 618, 619, 620, 621, 622, 623, 624, 625, 626, 627, 628, 629, 630] (by decide +kernel) (by decide +kernel)
set_option maxRecDepth 20000 in
theorem gL_law_X1_setRule : GoodIn wsL_law (wsV RL 144 RX1 yX1_setRule wsX1_setRule) := goodIn_app (goodIn_of _ (by decide +kernel)) ggL_law_X1_setRule
set_option maxRecDepth 20000 in
theorem ggL_law_L_given : GoodIn wsL_law wsL_given := goodIn_ca (goodIn_r _ [255, 47, 256, 257, 258, 2, 259, 53, 54, 55, 56, 57, 260, 261, 262, 263, 226, 227, 228, 229, 21, 20, 23, 264, 265, 266, 267, 22, 184, 185, 186, 64, 65, 66, 606, 607, 608, 609, 610, 611, 612, 613, 614, 615, 616, 617] (by decide +kernel) (by decide +kernel)) (goodIn_sub (fun _ h => List.mem_append_left _ (List.mem_append_left _ (List.mem_append_right _ h))) (by decide +kernel))
set_option maxRecDepth 20000 in
theorem gL_law_L_given : GoodIn wsL_law (va_wsS RL 145 yL_given wsL_given) := goodIn_app (goodIn_of _ (by decide +kernel)) ggL_law_L_given
set_option maxRecDepth 20000 in
theorem ggL_law_X1_given : GoodIn wsL_law wsX1_given := goodIn_r _ [271, 82, 83, 84, 5, 85, 86, 87, 88, 272, 273, 274, 275, 234, 235, 236, 237, 37, 36, 39, 276, 277, 278, 279, 38, 280, 281, 282, 94, 95, 96, 97, 618, 619, 620, 621, 622, 623, 624, 625, 626, 627, 628, 629, 630] (by decide +kernel) (by decide +kernel)
set_option maxRecDepth 20000 in
theorem gL_law_X1_given : GoodIn wsL_law (wsV RL 147 RX1 yX1_given wsX1_given) := goodIn_app (goodIn_of _ (by decide +kernel)) ggL_law_X1_given
set_option maxRecDepth 20000 in
theorem ggL_law_L_settled : GoodIn wsL_law wsL_settled := goodIn_ca (goodIn_r _ [285, 47, 286, 287, 288, 2, 289, 53, 54, 55, 56, 57, 290, 291, 292, 293, 260, 261, 262, 263, 226, 227, 228, 229, 21, 20, 23, 294, 295, 296, 297, 264, 265, 266, 267, 22, 298, 299, 300, 301, 24, 302, 303, 304, 305, 18, 19, 67, 68, 69, 64, 65, 66, 184, 185, 186, 606, 607, 608, 609, 610, 611, 612, 613, 614, 615, 616, 617] (by decide +kernel) (by decide +kernel)) (goodIn_sub (fun _ h => List.mem_append_left _ (List.mem_append_left _ (List.mem_append_right _ h))) (by decide +kernel))
set_option maxRecDepth 20000 in
theorem gL_law_L_settled : GoodIn wsL_law (va_wsS RL 148 yL_settled wsL_settled) := goodIn_app (goodIn_of _ (by decide +kernel)) ggL_law_L_settled
set_option maxRecDepth 20000 in
theorem ggL_law_X1_settled : GoodIn wsL_law wsX1_settled := goodIn_r _ [309, 82, 83, 84, 5, 85, 86, 87, 88, 310, 311, 312, 313, 272, 273, 274, 275, 234, 235, 236, 237, 37, 36, 39, 314, 315, 316, 317, 318, 319, 320, 321, 276, 277, 278, 279, 38, 280, 281, 282, 322, 323, 324, 325, 40, 326, 327, 328, 329, 32, 42, 33, 34, 330, 331, 332, 94, 95, 96, 97, 618, 619, 620, 621, 622, 623, 624, 625, 626, 627, 628, 629, 630] (by decide +kernel) (by decide +kernel)
set_option maxRecDepth 20000 in
theorem gL_law_X1_settled : GoodIn wsL_law (wsV RL 150 RX1 yX1_settled wsX1_settled) := goodIn_app (goodIn_of _ (by decide +kernel)) ggL_law_X1_settled
set_option maxRecDepth 20000 in
theorem ggL_law_X0_rounds : GoodIn wsL_law wsX0_rounds := goodIn_r _ [336, 260, 261, 262, 2, 263, 226, 227, 228, 229, 21, 20, 23, 264, 265, 266, 267, 22, 298, 299, 300, 301, 24, 302, 303, 304, 305, 18, 19, 67, 68, 69, 64, 65, 66, 606, 607, 608, 609, 610, 611, 612, 613, 614, 615, 616, 617] (by decide +kernel) (by decide +kernel)
set_option maxRecDepth 20000 in
theorem gL_law_X0_rounds : GoodIn wsL_law (wsV RL 151 RX0 yX0_rounds wsX0_rounds) := goodIn_app (goodIn_of _ (by decide +kernel)) ggL_law_X0_rounds
set_option maxRecDepth 20000 in
theorem ggL_law_X1_rounds : GoodIn wsL_law wsX1_rounds := goodIn_r _ [340, 82, 341, 342, 343, 5, 344, 272, 273, 274, 275, 234, 235, 236, 237, 37, 36, 39, 318, 319, 320, 321, 276, 277, 278, 279, 38, 280, 281, 282, 322, 323, 324, 325, 40, 326, 327, 328, 329, 32, 42, 33, 34, 86, 87, 88, 618, 619, 620, 621, 622, 623, 624, 625, 626, 627, 628, 629, 630] (by decide +kernel) (by decide +kernel)
set_option maxRecDepth 20000 in
theorem gL_law_X1_rounds : GoodIn wsL_law (wsV RL 154 RX1 yX1_rounds wsX1_rounds) := goodIn_app (goodIn_of _ (by decide +kernel)) ggL_law_X1_rounds
set_option maxRecDepth 20000 in
theorem ggL_law_L_since : GoodIn wsL_law wsL_since := goodIn_ca (goodIn_r _ [347, 47, 348, 349, 350, 2, 351, 53, 54, 55, 56, 57, 260, 261, 262, 263, 226, 227, 228, 229, 21, 20, 23, 264, 265, 266, 267, 22, 184, 185, 186, 64, 65, 66, 352, 353, 354, 298, 299, 300, 301, 24, 302, 303, 304, 305, 18, 19, 67, 68, 69, 606, 607, 608, 609, 610, 611, 612, 613, 614, 615, 616, 617] (by decide +kernel) (by decide +kernel)) (goodIn_sub (fun _ h => List.mem_append_left _ (List.mem_append_left _ (List.mem_append_right _ h))) (by decide +kernel))
set_option maxRecDepth 20000 in
theorem gL_law_L_since : GoodIn wsL_law (va_wsS RL 155 yL_since wsL_since) := goodIn_app (goodIn_of _ (by decide +kernel)) ggL_law_L_since
set_option maxRecDepth 20000 in
theorem ggL_law_X1_since : GoodIn wsL_law wsX1_since := goodIn_r _ [358, 82, 83, 84, 5, 85, 86, 87, 88, 94, 95, 96, 97, 272, 273, 274, 275, 234, 235, 236, 237, 37, 36, 39, 318, 319, 320, 321, 276, 277, 278, 279, 38, 280, 281, 282, 341, 342, 343, 344, 322, 323, 324, 325, 40, 326, 327, 328, 329, 32, 42, 33, 34, 330, 331, 332, 618, 619, 620, 621, 622, 623, 624, 625, 626, 627, 628, 629, 630] (by decide +kernel) (by decide +kernel)
set_option maxRecDepth 20000 in
theorem gL_law_X1_since : GoodIn wsL_law (wsV RL 157 RX1 yX1_since wsX1_since) := goodIn_app (goodIn_of _ (by decide +kernel)) ggL_law_X1_since
set_option maxRecDepth 20000 in
theorem ggL_law_L_value : GoodIn wsL_law wsL_value := goodIn_ca (goodIn_r _ [361, 47, 362, 363, 364, 2, 365, 126, 127, 128, 129, 56, 57, 13, 290, 291, 292, 293, 260, 261, 262, 263, 226, 227, 228, 229, 21, 20, 23, 294, 295, 296, 297, 264, 265, 266, 267, 22, 298, 299, 300, 301, 24, 302, 303, 304, 305, 18, 19, 67, 68, 69, 64, 65, 66, 606, 607, 608, 609, 610, 611, 612, 613, 614, 615, 616, 617] (by decide +kernel) (by decide +kernel)) (goodIn_sub (fun _ h => List.mem_append_left _ (List.mem_append_left _ (List.mem_append_right _ h))) (by decide +kernel))
set_option maxRecDepth 20000 in
theorem gL_law_L_value : GoodIn wsL_law (va_wsS RL 158 yL_value wsL_value) := goodIn_app (goodIn_of _ (by decide +kernel)) ggL_law_L_value
set_option maxRecDepth 20000 in
theorem ggL_law_X1_value : GoodIn wsL_law wsX1_value := goodIn_r _ [369, 82, 134, 135, 136, 5, 137, 93, 86, 87, 88, 310, 311, 312, 313, 272, 273, 274, 275, 234, 235, 236, 237, 37, 36, 39, 314, 315, 316, 317, 318, 319, 320, 321, 276, 277, 278, 279, 38, 280, 281, 282, 322, 323, 324, 325, 40, 326, 327, 328, 329, 32, 42, 33, 34, 94, 95, 96, 97, 618, 619, 620, 621, 622, 623, 624, 625, 626, 627, 628, 629, 630] (by decide +kernel) (by decide +kernel)
set_option maxRecDepth 20000 in
theorem gL_law_X1_value : GoodIn wsL_law (wsV RL 160 RX1 yX1_value wsX1_value) := goodIn_app (goodIn_of _ (by decide +kernel)) ggL_law_X1_value
set_option maxRecDepth 20000 in
theorem ggL_law_X0_conflicts : GoodIn wsL_law wsX0_conflicts := goodIn_r _ [373, 290, 291, 292, 2, 293, 260, 261, 262, 263, 226, 227, 228, 229, 21, 20, 23, 294, 295, 296, 297, 264, 265, 266, 267, 22, 298, 299, 300, 301, 24, 302, 303, 304, 305, 18, 19, 67, 68, 69, 64, 65, 66, 374, 375, 376, 184, 185, 186, 606, 607, 608, 609, 610, 611, 612, 613, 614, 615, 616, 617] (by decide +kernel) (by decide +kernel)
set_option maxRecDepth 20000 in
theorem gL_law_X0_conflicts : GoodIn wsL_law (wsV RL 161 RX0 yX0_conflicts wsX0_conflicts) := goodIn_app (goodIn_of _ (by decide +kernel)) ggL_law_X0_conflicts
set_option maxRecDepth 20000 in
theorem ggL_law_X1_conflicts : GoodIn wsL_law wsX1_conflicts := goodIn_r _ [380, 82, 310, 311, 312, 5, 313, 272, 273, 274, 275, 234, 235, 236, 237, 37, 36, 39, 314, 315, 316, 317, 318, 319, 320, 321, 276, 277, 278, 279, 38, 280, 281, 282, 322, 323, 324, 325, 40, 326, 327, 328, 329, 32, 42, 33, 34, 86, 87, 88, 381, 382, 383, 330, 331, 332, 618, 619, 620, 621, 622, 623, 624, 625, 626, 627, 628, 629, 630] (by decide +kernel) (by decide +kernel)
set_option maxRecDepth 20000 in
theorem gL_law_X1_conflicts : GoodIn wsL_law (wsV RL 164 RX1 yX1_conflicts wsX1_conflicts) := goodIn_app (goodIn_of _ (by decide +kernel)) ggL_law_X1_conflicts
set_option maxRecDepth 20000 in
theorem ggL_law_X0_gaps : GoodIn wsL_law wsX0_gaps := goodIn_r _ [387, 290, 291, 292, 2, 293, 260, 261, 262, 263, 226, 227, 228, 229, 21, 20, 23, 294, 295, 296, 297, 264, 265, 266, 267, 22, 298, 299, 300, 301, 24, 302, 303, 304, 305, 18, 19, 67, 68, 69, 64, 65, 66, 374, 375, 376, 184, 185, 186, 606, 607, 608, 609, 610, 611, 612, 613, 614, 615, 616, 617] (by decide +kernel) (by decide +kernel)
set_option maxRecDepth 20000 in
theorem gL_law_X0_gaps : GoodIn wsL_law (wsV RL 165 RX0 yX0_gaps wsX0_gaps) := goodIn_app (goodIn_of _ (by decide +kernel)) ggL_law_X0_gaps
set_option maxRecDepth 20000 in
theorem ggL_law_X1_gaps : GoodIn wsL_law wsX1_gaps := goodIn_r _ [391, 82, 310, 311, 312, 5, 313, 272, 273, 274, 275, 234, 235, 236, 237, 37, 36, 39, 314, 315, 316, 317, 318, 319, 320, 321, 276, 277, 278, 279, 38, 280, 281, 282, 322, 323, 324, 325, 40, 326, 327, 328, 329, 32, 42, 33, 34, 86, 87, 88, 381, 382, 383, 330, 331, 332, 618, 619, 620, 621, 622, 623, 624, 625, 626, 627, 628, 629, 630] (by decide +kernel) (by decide +kernel)
set_option maxRecDepth 20000 in
theorem gL_law_X1_gaps : GoodIn wsL_law (wsV RL 168 RX1 yX1_gaps wsX1_gaps) := goodIn_app (goodIn_of _ (by decide +kernel)) ggL_law_X1_gaps
set_option maxRecDepth 20000 in
theorem ggL_law_X0_discord : GoodIn wsL_law wsX0_discord := goodIn_r _ [395, 290, 291, 292, 2, 293, 260, 261, 262, 263, 226, 227, 228, 229, 21, 20, 23, 294, 295, 296, 297, 264, 265, 266, 267, 22, 298, 299, 300, 301, 24, 302, 303, 304, 305, 18, 19, 67, 68, 69, 64, 65, 66, 374, 375, 376, 184, 185, 186, 396, 397, 398, 399, 400, 401, 402, 606, 607, 608, 609, 610, 611, 612, 613, 614, 615, 616, 617] (by decide +kernel) (by decide +kernel)
set_option maxRecDepth 20000 in
theorem gL_law_X0_discord : GoodIn wsL_law (wsV RL 169 RX0 yX0_discord wsX0_discord) := goodIn_app (goodIn_of _ (by decide +kernel)) ggL_law_X0_discord
set_option maxRecDepth 20000 in
theorem ggL_law_X1_discord : GoodIn wsL_law wsX1_discord := goodIn_r _ [406, 82, 310, 311, 312, 5, 313, 272, 273, 274, 275, 234, 235, 236, 237, 37, 36, 39, 314, 315, 316, 317, 318, 319, 320, 321, 276, 277, 278, 279, 38, 280, 281, 282, 322, 323, 324, 325, 40, 326, 327, 328, 329, 32, 42, 33, 34, 86, 87, 88, 381, 382, 383, 330, 331, 332, 407, 397, 398, 399, 400, 401, 402, 618, 619, 620, 621, 622, 623, 624, 625, 626, 627, 628, 629, 630] (by decide +kernel) (by decide +kernel)
set_option maxRecDepth 20000 in
theorem gL_law_X1_discord : GoodIn wsL_law (wsV RL 173 RX1 yX1_discord wsX1_discord) := goodIn_app (goodIn_of _ (by decide +kernel)) ggL_law_X1_discord
set_option maxRecDepth 20000 in
theorem ggL_law_X0_heard : GoodIn wsL_law wsX0_heard := goodIn_r _ [263, 226, 227, 228, 2, 229, 21, 20, 23, 606, 607, 608, 609, 610, 611, 612, 613, 614, 615, 616, 617] (by decide +kernel) (by decide +kernel)
set_option maxRecDepth 20000 in
theorem gL_law_X0_heard : GoodIn wsL_law (wsV RL 174 RX0 yX0_heard wsX0_heard) := goodIn_app (goodIn_of _ (by decide +kernel)) ggL_law_X0_heard
set_option maxRecDepth 20000 in
theorem ggL_law_X1_heard : GoodIn wsL_law wsX1_heard := goodIn_r _ [412, 82, 272, 273, 274, 5, 275, 234, 235, 236, 237, 37, 36, 39, 618, 619, 620, 621, 622, 623, 624, 625, 626, 627, 628, 629, 630] (by decide +kernel) (by decide +kernel)
set_option maxRecDepth 20000 in
theorem gL_law_X1_heard : GoodIn wsL_law (wsV RL 177 RX1 yX1_heard wsX1_heard) := goodIn_app (goodIn_of _ (by decide +kernel)) ggL_law_X1_heard
set_option maxRecDepth 20000 in
theorem ggL_law_L_sayers : GoodIn wsL_law wsL_sayers := goodIn_ca (goodIn_r _ [415, 47, 416, 417, 418, 2, 419, 22, 53, 54, 55, 56, 57, 226, 227, 228, 229, 21, 20, 23, 184, 185, 186, 64, 65, 66, 352, 353, 354, 606, 607, 608, 609, 610, 611, 612, 613, 614, 615, 616, 617] (by decide +kernel) (by decide +kernel)) (goodIn_sub (fun _ h => List.mem_append_left _ (List.mem_append_left _ (List.mem_append_right _ h))) (by decide +kernel))
set_option maxRecDepth 20000 in
theorem gL_law_L_sayers : GoodIn wsL_law (va_wsS RL 178 yL_sayers wsL_sayers) := goodIn_app (goodIn_of _ (by decide +kernel)) ggL_law_L_sayers
set_option maxRecDepth 20000 in
theorem ggL_law_X1_sayers : GoodIn wsL_law wsX1_sayers := goodIn_r _ [423, 82, 38, 83, 84, 5, 85, 86, 87, 88, 94, 95, 96, 97, 234, 235, 236, 237, 37, 36, 39, 618, 619, 620, 621, 622, 623, 624, 625, 626, 627, 628, 629, 630] (by decide +kernel) (by decide +kernel)
set_option maxRecDepth 20000 in
theorem gL_law_X1_sayers : GoodIn wsL_law (wsV RL 180 RX1 yX1_sayers wsX1_sayers) := goodIn_app (goodIn_of _ (by decide +kernel)) ggL_law_X1_sayers
set_option maxRecDepth 20000 in
theorem ggL_law_L_matters : GoodIn wsL_law wsL_matters := goodIn_ca (goodIn_r _ [426, 47, 427, 428, 429, 2, 430, 181, 182, 183, 56, 57, 53, 54, 55, 260, 261, 262, 263, 226, 227, 228, 229, 21, 20, 23, 294, 295, 296, 297, 264, 265, 266, 267, 22, 298, 299, 300, 301, 24, 302, 303, 304, 305, 18, 19, 67, 68, 69, 64, 65, 66, 184, 185, 186, 606, 607, 608, 609, 610, 611, 612, 613, 614, 615, 616, 617] (by decide +kernel) (by decide +kernel)) (goodIn_sub (fun _ h => List.mem_append_left _ (List.mem_append_left _ (List.mem_append_right _ h))) (by decide +kernel))
set_option maxRecDepth 20000 in
theorem gL_law_L_matters : GoodIn wsL_law (va_wsS RL 181 yL_matters wsL_matters) := goodIn_app (goodIn_of _ (by decide +kernel)) ggL_law_L_matters
set_option maxRecDepth 20000 in
theorem ggL_law_X1_matters : GoodIn wsL_law wsX1_matters := goodIn_r _ [434, 82, 191, 192, 5, 193, 86, 87, 88, 83, 84, 85, 234, 235, 236, 237, 37, 36, 39, 310, 311, 312, 313, 272, 273, 274, 275, 314, 315, 316, 317, 318, 319, 320, 321, 276, 277, 278, 279, 38, 280, 281, 282, 322, 323, 324, 325, 40, 326, 327, 328, 329, 32, 42, 33, 34, 330, 331, 332, 618, 619, 620, 621, 622, 623, 624, 625, 626, 627, 628, 629, 630] (by decide +kernel) (by decide +kernel)
set_option maxRecDepth 20000 in
theorem gL_law_X1_matters : GoodIn wsL_law (wsV RL 183 RX1 yX1_matters wsX1_matters) := goodIn_app (goodIn_of _ (by decide +kernel)) ggL_law_X1_matters
set_option maxRecDepth 20000 in
theorem ggL_law_X0_silence : GoodIn wsL_law wsX0_silence := goodIn_r _ [438, 260, 261, 262, 2, 263, 226, 227, 228, 229, 21, 20, 23, 439, 440, 441, 442, 294, 295, 296, 297, 264, 265, 266, 267, 22, 298, 299, 300, 301, 24, 302, 303, 304, 305, 18, 19, 67, 68, 69, 64, 65, 66, 374, 375, 376, 184, 185, 186, 606, 607, 608, 609, 610, 611, 612, 613, 614, 615, 616, 617] (by decide +kernel) (by decide +kernel)
set_option maxRecDepth 20000 in
theorem gL_law_X0_silence : GoodIn wsL_law (wsV RL 184 RX0 yX0_silence wsX0_silence) := goodIn_app (goodIn_of _ (by decide +kernel)) ggL_law_X0_silence
