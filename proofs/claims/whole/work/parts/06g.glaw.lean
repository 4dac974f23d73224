set_option maxRecDepth 20000 in
theorem ggL_law_X1_silence : GoodIn wsL_law wsX1_silence := goodIn_r _ [446, 82, 36, 272, 273, 274, 5, 275, 234, 235, 236, 237, 37, 39, 280, 281, 282, 314, 315, 316, 317, 318, 319, 320, 321, 276, 277, 278, 279, 38, 322, 323, 324, 325, 40, 326, 327, 328, 329, 32, 42, 33, 34, 86, 87, 88, 381, 382, 383, 330, 331, 332, 618, 619, 620, 621, 622, 623, 624, 625, 626, 627, 628, 629, 630] (by decide +kernel) (by decide +kernel)
set_option maxRecDepth 20000 in
theorem gL_law_X1_silence : GoodIn wsL_law (wsV RL 187 RX1 yX1_silence wsX1_silence) := goodIn_app (goodIn_of _ (by decide +kernel)) ggL_law_X1_silence
set_option maxRecDepth 20000 in
theorem ggL_law_L_contradicted : GoodIn wsL_law wsL_contradicted := goodIn_ca (goodIn_r _ [449, 47, 450, 451, 452, 2, 453, 22, 181, 182, 183, 56, 57, 290, 291, 292, 293, 260, 261, 262, 263, 226, 227, 228, 229, 21, 20, 23, 294, 295, 296, 297, 264, 265, 266, 267, 298, 299, 300, 301, 24, 302, 303, 304, 305, 18, 19, 67, 68, 69, 64, 65, 66, 184, 185, 186, 454, 455, 456, 352, 353, 354, 606, 607, 608, 609, 610, 611, 612, 613, 614, 615, 616, 617] (by decide +kernel) (by decide +kernel)) (goodIn_sub (fun _ h => List.mem_append_left _ (List.mem_append_left _ (List.mem_append_right _ h))) (by decide +kernel))
set_option maxRecDepth 20000 in
theorem gL_law_L_contradicted : GoodIn wsL_law (va_wsS RL 188 yL_contradicted wsL_contradicted) := goodIn_app (goodIn_of _ (by decide +kernel)) ggL_law_L_contradicted
set_option maxRecDepth 20000 in
theorem ggL_law_X1_contradicted : GoodIn wsL_law wsX1_contradicted := goodIn_r _ [460, 82, 38, 191, 192, 5, 193, 86, 87, 88, 94, 95, 96, 97, 310, 311, 312, 313, 272, 273, 274, 275, 234, 235, 236, 237, 37, 36, 39, 314, 315, 316, 317, 318, 319, 320, 321, 276, 277, 278, 279, 280, 281, 282, 322, 323, 324, 325, 40, 326, 327, 328, 329, 32, 42, 33, 34, 330, 331, 332, 618, 619, 620, 621, 622, 623, 624, 625, 626, 627, 628, 629, 630] (by decide +kernel) (by decide +kernel)
set_option maxRecDepth 20000 in
theorem gL_law_X1_contradicted : GoodIn wsL_law (wsV RL 190 RX1 yX1_contradicted wsX1_contradicted) := goodIn_app (goodIn_of _ (by decide +kernel)) ggL_law_X1_contradicted
set_option maxRecDepth 20000 in
theorem ggL_law_L_setLogic : GoodIn wsL_law wsL_setLogic := goodIn_ca (goodIn_r _ [463, 105, 464, 465, 466, 2, 467, 113, 114, 25, 27, 468, 469, 470, 606, 607, 608, 609, 610, 611, 612, 613, 614, 615, 616, 617] (by decide +kernel) (by decide +kernel)) (goodIn_sub (fun _ h => List.mem_append_right _ h) (by decide +kernel))
set_option maxRecDepth 20000 in
theorem gL_law_L_setLogic : GoodIn wsL_law (va_wsS RL 191 yL_setLogic wsL_setLogic) := goodIn_app (goodIn_of _ (by decide +kernel)) ggL_law_L_setLogic
set_option maxRecDepth 20000 in
theorem ggL_law_X1_setLogic : GoodIn wsL_law wsX1_setLogic := goodIn_r _ [474, 82, 41, 86, 87, 5, 88, 94, 95, 96, 97, 618, 619, 620, 621, 622, 623, 624, 625, 626, 627, 628, 629, 630] (by decide +kernel) (by decide +kernel)
set_option maxRecDepth 20000 in
theorem gL_law_X1_setLogic : GoodIn wsL_law (wsV RL 193 RX1 yX1_setLogic wsX1_setLogic) := goodIn_app (goodIn_of _ (by decide +kernel)) ggL_law_X1_setLogic
set_option maxRecDepth 20000 in
theorem ggL_law_L_models : GoodIn wsL_law wsL_models := goodIn_ca (goodIn_r _ [477, 47, 478, 479, 480, 2, 481, 18, 126, 127, 128, 129, 56, 57, 13, 67, 68, 69, 482, 483, 484, 485, 27, 486, 487, 488, 489, 490, 491, 492, 606, 607, 608, 609, 610, 611, 612, 613, 614, 615, 616, 617] (by decide +kernel) (by decide +kernel)) (goodIn_sub (fun _ h => List.mem_append_left _ (List.mem_append_left _ (List.mem_append_right _ h))) (by decide +kernel))
set_option maxRecDepth 20000 in
theorem gL_law_L_models : GoodIn wsL_law (va_wsS RL 194 yL_models wsL_models) := goodIn_app (goodIn_of _ (by decide +kernel)) ggL_law_L_models
set_option maxRecDepth 20000 in
theorem ggL_law_X1_models : GoodIn wsL_law wsX1_models := goodIn_r _ [496, 82, 134, 135, 136, 5, 137, 93, 86, 87, 88, 94, 95, 96, 97, 497, 498, 499, 500, 41, 330, 331, 332, 280, 281, 282, 501, 502, 503, 504, 326, 327, 328, 329, 32, 42, 33, 34, 618, 619, 620, 621, 622, 623, 624, 625, 626, 627, 628, 629, 630] (by decide +kernel) (by decide +kernel)
set_option maxRecDepth 20000 in
theorem gL_law_X1_models : GoodIn wsL_law (wsV RL 196 RX1 yX1_models wsX1_models) := goodIn_app (goodIn_of _ (by decide +kernel)) ggL_law_X1_models
set_option maxRecDepth 20000 in
theorem ggL_law_L_range : GoodIn wsL_law wsL_range := goodIn_ca (goodIn_r _ [507, 47, 508, 509, 510, 2, 511, 18, 19, 126, 127, 128, 129, 56, 57, 13, 67, 68, 69, 512, 513, 514, 26, 352, 353, 354, 482, 483, 484, 485, 27, 606, 607, 608, 609, 610, 611, 612, 613, 614, 615, 616, 617] (by decide +kernel) (by decide +kernel)) (goodIn_sub (fun _ h => List.mem_append_left _ (List.mem_append_left _ (List.mem_append_right _ h))) (by decide +kernel))
set_option maxRecDepth 20000 in
theorem gL_law_L_range : GoodIn wsL_law (va_wsS RL 197 yL_range wsL_range) := goodIn_app (goodIn_of _ (by decide +kernel)) ggL_law_L_range
set_option maxRecDepth 20000 in
theorem ggL_law_X1_range : GoodIn wsL_law wsX1_range := goodIn_r _ [518, 82, 134, 135, 136, 5, 137, 93, 86, 87, 88, 94, 95, 96, 97, 497, 498, 499, 500, 41, 330, 331, 332, 280, 281, 282, 326, 327, 328, 329, 32, 42, 33, 34, 618, 619, 620, 621, 622, 623, 624, 625, 626, 627, 628, 629, 630] (by decide +kernel) (by decide +kernel)
set_option maxRecDepth 20000 in
theorem gL_law_X1_range : GoodIn wsL_law (wsV RL 199 RX1 yX1_range wsX1_range) := goodIn_app (goodIn_of _ (by decide +kernel)) ggL_law_X1_range
set_option maxRecDepth 20000 in
theorem ggL_law_L_entails : GoodIn wsL_law wsL_entails := goodIn_ca (goodIn_r _ [521, 47, 522, 523, 524, 2, 525, 526, 527, 528, 529, 18, 26, 126, 127, 128, 129, 56, 57, 13, 67, 68, 69, 482, 483, 484, 485, 27, 530, 531, 532, 486, 487, 488, 489, 490, 491, 492, 606, 607, 608, 609, 610, 611, 612, 613, 614, 615, 616, 617] (by decide +kernel) (by decide +kernel)) (goodIn_sub (fun _ h => List.mem_append_left _ (List.mem_append_left _ (List.mem_append_right _ h))) (by decide +kernel))
set_option maxRecDepth 20000 in
theorem gL_law_L_entails : GoodIn wsL_law (va_wsS RL 200 yL_entails wsL_entails) := goodIn_app (goodIn_of _ (by decide +kernel)) ggL_law_L_entails
set_option maxRecDepth 20000 in
theorem ggL_law_X1_entails : GoodIn wsL_law wsX1_entails := goodIn_r _ [536, 82, 134, 135, 136, 5, 137, 93, 86, 87, 88, 537, 538, 539, 540, 497, 498, 499, 500, 41, 330, 331, 332, 280, 281, 282, 501, 502, 503, 504, 326, 327, 328, 329, 32, 42, 33, 34, 618, 619, 620, 621, 622, 623, 624, 625, 626, 627, 628, 629, 630] (by decide +kernel) (by decide +kernel)
set_option maxRecDepth 20000 in
theorem gL_law_X1_entails : GoodIn wsL_law (wsV RL 202 RX1 yX1_entails wsX1_entails) := goodIn_app (goodIn_of _ (by decide +kernel)) ggL_law_X1_entails
set_option maxRecDepth 20000 in
theorem ggL_law_L_against : GoodIn wsL_law wsL_against := goodIn_ca (goodIn_r _ [543, 47, 544, 527, 528, 2, 529, 18, 26, 126, 127, 128, 129, 56, 57, 13, 67, 68, 69, 482, 483, 484, 485, 27, 530, 531, 532, 486, 487, 488, 489, 490, 491, 492, 606, 607, 608, 609, 610, 611, 612, 613, 614, 615, 616, 617] (by decide +kernel) (by decide +kernel)) (goodIn_sub (fun _ h => List.mem_append_left _ (List.mem_append_left _ (List.mem_append_right _ h))) (by decide +kernel))
set_option maxRecDepth 20000 in
theorem gL_law_L_against : GoodIn wsL_law (va_wsS RL 203 yL_against wsL_against) := goodIn_app (goodIn_of _ (by decide +kernel)) ggL_law_L_against
set_option maxRecDepth 20000 in
theorem ggL_law_X1_against : GoodIn wsL_law wsX1_against := goodIn_r _ [548, 82, 134, 135, 136, 5, 137, 93, 86, 87, 88, 537, 538, 539, 540, 497, 498, 499, 500, 41, 330, 331, 332, 280, 281, 282, 501, 502, 503, 504, 326, 327, 328, 329, 32, 42, 33, 34, 94, 95, 96, 97, 618, 619, 620, 621, 622, 623, 624, 625, 626, 627, 628, 629, 630] (by decide +kernel) (by decide +kernel)
set_option maxRecDepth 20000 in
theorem gL_law_X1_against : GoodIn wsL_law (wsV RL 205 RX1 yX1_against wsX1_against) := goodIn_app (goodIn_of _ (by decide +kernel)) ggL_law_X1_against
set_option maxRecDepth 20000 in
theorem ggL_law_L_areEqual : GoodIn wsL_law wsL_areEqual := goodIn_ca (goodIn_r _ [551, 47, 552, 553, 554, 2, 555, 126, 127, 128, 129, 56, 57, 13, 67, 68, 69, 556, 557, 558, 559, 18, 19, 482, 483, 484, 485, 27, 606, 607, 608, 609, 610, 611, 612, 613, 614, 615, 616, 617] (by decide +kernel) (by decide +kernel)) (goodIn_sub (fun _ h => List.mem_append_left _ (List.mem_append_left _ (List.mem_append_right _ h))) (by decide +kernel))
set_option maxRecDepth 20000 in
theorem gL_law_L_areEqual : GoodIn wsL_law (va_wsS RL 206 yL_areEqual wsL_areEqual) := goodIn_app (goodIn_of _ (by decide +kernel)) ggL_law_L_areEqual
set_option maxRecDepth 20000 in
theorem ggL_law_X1_areEqual : GoodIn wsL_law wsX1_areEqual := goodIn_r _ [563, 82, 134, 135, 136, 5, 137, 93, 86, 87, 88, 497, 498, 499, 500, 41, 330, 331, 332, 280, 281, 282, 326, 327, 328, 329, 32, 42, 33, 34, 618, 619, 620, 621, 622, 623, 624, 625, 626, 627, 628, 629, 630] (by decide +kernel) (by decide +kernel)
set_option maxRecDepth 20000 in
theorem gL_law_X1_areEqual : GoodIn wsL_law (wsV RL 208 RX1 yX1_areEqual wsX1_areEqual) := goodIn_app (goodIn_of _ (by decide +kernel)) ggL_law_X1_areEqual
set_option maxRecDepth 20000 in
theorem ggL_law_L_depends : GoodIn wsL_law wsL_depends := goodIn_ca (goodIn_r _ [566, 47, 567, 568, 569, 2, 570, 25, 126, 127, 128, 129, 56, 57, 13, 53, 54, 55, 530, 531, 532, 486, 487, 488, 489, 490, 491, 492, 571, 572, 573, 574, 67, 68, 69, 64, 65, 66, 482, 483, 484, 485, 27, 70, 71, 72, 73, 26, 512, 513, 514, 352, 353, 354, 556, 557, 558, 559, 18, 19, 606, 607, 608, 609, 610, 611, 612, 613, 614, 615, 616, 617] (by decide +kernel) (by decide +kernel)) (goodIn_sub (fun _ h => List.mem_append_left _ (List.mem_append_left _ (List.mem_append_right _ h))) (by decide +kernel))
set_option maxRecDepth 20000 in
theorem gL_law_L_depends : GoodIn wsL_law (va_wsS RL 209 yL_depends wsL_depends) := goodIn_app (goodIn_of _ (by decide +kernel)) ggL_law_L_depends
set_option maxRecDepth 20000 in
theorem ggL_law_X1_depends : GoodIn wsL_law wsX1_depends := goodIn_r _ [578, 82, 134, 135, 136, 5, 137, 93, 86, 87, 88, 83, 84, 85, 330, 331, 332, 497, 498, 499, 500, 41, 280, 281, 282, 326, 327, 328, 329, 32, 42, 33, 34, 407, 397, 398, 399, 400, 401, 402, 618, 619, 620, 621, 622, 623, 624, 625, 626, 627, 628, 629, 630] (by decide +kernel) (by decide +kernel)
set_option maxRecDepth 20000 in
theorem gL_law_X1_depends : GoodIn wsL_law (wsV RL 211 RX1 yX1_depends wsX1_depends) := goodIn_app (goodIn_of _ (by decide +kernel)) ggL_law_X1_depends
set_option maxRecDepth 20000 in
theorem ggL_law_L_valueAt : GoodIn wsL_law wsL_valueAt := goodIn_ca (goodIn_ca (goodIn_r _ [581, 47, 105, 582, 583, 584, 2, 585, 113, 114, 126, 127, 128, 129, 56, 57, 13, 302, 303, 304, 305, 18, 19, 67, 68, 69, 606, 607, 608, 609, 610, 611, 612, 613, 614, 615, 616, 617] (by decide +kernel) (by decide +kernel)) (goodIn_sub (fun _ h => List.mem_append_right _ h) (by decide +kernel))) (goodIn_sub (fun _ h => List.mem_append_left _ (List.mem_append_left _ (List.mem_append_right _ h))) (by decide +kernel))
set_option maxRecDepth 20000 in
theorem gL_law_L_valueAt : GoodIn wsL_law (va_wsS RL 212 yL_valueAt wsL_valueAt) := goodIn_app (goodIn_of _ (by decide +kernel)) ggL_law_L_valueAt
set_option maxRecDepth 20000 in
theorem ggL_law_X1_valueAt : GoodIn wsL_law wsX1_valueAt := goodIn_r _ [589, 82, 134, 135, 136, 5, 137, 93, 86, 87, 88, 94, 95, 96, 97, 326, 327, 328, 329, 32, 42, 33, 34, 618, 619, 620, 621, 622, 623, 624, 625, 626, 627, 628, 629, 630] (by decide +kernel) (by decide +kernel)
set_option maxRecDepth 20000 in
theorem gL_law_X1_valueAt : GoodIn wsL_law (wsV RL 214 RX1 yX1_valueAt wsX1_valueAt) := goodIn_app (goodIn_of _ (by decide +kernel)) ggL_law_X1_valueAt
set_option maxRecDepth 20000 in
theorem ggL_law_X0_digest : GoodIn wsL_law wsX0_digest := goodIn_r _ [593, 594, 13, 15, 23, 20, 21, 22, 24, 25, 260, 261, 262, 2, 263, 226, 227, 228, 229, 264, 265, 266, 267, 290, 291, 292, 293, 294, 295, 296, 297, 298, 299, 300, 301, 302, 303, 304, 305, 18, 19, 67, 68, 69, 64, 65, 66, 595, 596, 597, 598, 184, 185, 186, 599, 334, 335, 336, 606, 607, 608, 609, 610, 611, 612, 613, 614, 615, 616, 617] (by decide +kernel) (by decide +kernel)
set_option maxRecDepth 20000 in
theorem gL_law_X0_digest : GoodIn wsL_law (wsV RL 215 RX0 yX0_digest wsX0_digest) := goodIn_app (goodIn_of _ (by decide +kernel)) ggL_law_X0_digest
set_option maxRecDepth 20000 in
theorem ggL_law_X1_digest : GoodIn wsL_law wsX1_digest := goodIn_r _ [603, 82, 604, 93, 605, 32, 39, 36, 37, 38, 40, 41, 272, 273, 274, 5, 275, 234, 235, 236, 237, 314, 315, 316, 317, 318, 319, 320, 321, 276, 277, 278, 279, 280, 281, 282, 322, 323, 324, 325, 326, 327, 328, 329, 42, 33, 34, 86, 87, 88, 330, 331, 332, 341, 342, 343, 344, 618, 619, 620, 621, 622, 623, 624, 625, 626, 627, 628, 629, 630] (by decide +kernel) (by decide +kernel)
set_option maxRecDepth 20000 in
theorem gL_law_X1_digest : GoodIn wsL_law (wsV RL 219 RX1 yX1_digest wsX1_digest) := goodIn_app (goodIn_of _ (by decide +kernel)) ggL_law_X1_digest
