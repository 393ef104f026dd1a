set_option maxRecDepth 20000 in
theorem ggL_law_X2_init : GoodIn wsL_law wsX2_init := goodIn_r _ [7, 8, 9, 10, 11, 3, 12, 13, 14, 15, 16, 17, 18, 19, 20, 21, 22, 23, 24, 25, 26, 27, 28, 29, 4, 30, 31, 32, 33, 34, 35, 36, 37, 38, 39, 40, 41, 42, 43, 44, 45, 46, 47, 48, 49, 50, 355, 356, 357, 358, 359, 360, 361, 362, 363, 364, 365, 366, 367, 368, 369, 370, 371, 372, 373, 374, 375, 376, 377, 378] (by decide +kernel) (by decide +kernel)
set_option maxRecDepth 20000 in
theorem gL_law_X2_init : GoodIn wsL_law (wsX2_init) := ggL_law_X2_init
set_option maxRecDepth 20000 in
theorem ggL_law_L_empty : GoodIn wsL_law wsL_empty := goodIn_r _ [54] (by decide +kernel) (by decide +kernel)
set_option maxRecDepth 20000 in
theorem gL_law_L_empty : GoodIn wsL_law (va_wsS RL 19 yL_empty wsL_empty) := goodIn_app (goodIn_of _ (by decide +kernel)) ggL_law_L_empty
set_option maxRecDepth 20000 in
theorem ggL_law_L_cell : GoodIn wsL_law wsL_cell := goodIn_r _ [57, 58, 59] (by decide +kernel) (by decide +kernel)
set_option maxRecDepth 20000 in
theorem gL_law_L_cell : GoodIn wsL_law (va_wsS RL 113 yL_cell wsL_cell) := goodIn_app (goodIn_of _ (by decide +kernel)) ggL_law_L_cell
set_option maxRecDepth 20000 in
theorem ggL_law_L_low : GoodIn wsL_law wsL_low := goodIn_r _ [62, 63] (by decide +kernel) (by decide +kernel)
set_option maxRecDepth 20000 in
theorem gL_law_L_low : GoodIn wsL_law (va_wsS RL 117 yL_low wsL_low) := goodIn_app (goodIn_of _ (by decide +kernel)) ggL_law_L_low
set_option maxRecDepth 20000 in
theorem ggL_law_X2_bring : GoodIn wsL_law wsX2_bring := goodIn_ca (goodIn_ca (goodIn_ca (goodIn_r _ [67, 68, 69, 12, 70, 14, 71, 72, 2, 73, 74, 75, 76, 77, 78, 79, 80, 81, 82, 83, 355, 356, 357, 358, 359, 360, 361, 362, 363, 364, 365, 366, 367, 368, 369] (by decide +kernel) (by decide +kernel)) (goodIn_sub (fun _ h => List.mem_append_left _ (List.mem_append_left _ (List.mem_append_right _ h))) (by decide +kernel))) (goodIn_sub (fun _ h => List.mem_append_left _ (List.mem_append_right _ h)) (by decide +kernel))) (goodIn_sub (fun _ h => List.mem_append_right _ h) (by decide +kernel))
set_option maxRecDepth 20000 in
theorem gL_law_X2_bring : GoodIn wsL_law (wsV RL 120 RX2 yX2_bring wsX2_bring) := goodIn_app (goodIn_of _ (by decide +kernel)) ggL_law_X2_bring
set_option maxRecDepth 20000 in
theorem ggL_law_L_refused : GoodIn wsL_law wsL_refused := goodIn_ca (goodIn_ca (goodIn_ca (goodIn_r _ [86, 87, 88, 89, 90, 91, 92, 2, 93, 68, 69, 19, 12, 21, 22, 23, 20, 71, 72, 73, 74, 75, 94, 95, 96, 97, 98, 99, 100, 101, 102, 103, 104, 105, 106, 107, 17, 108, 109, 34, 110, 111, 112, 113, 35, 36, 114, 115, 116, 117, 118, 119, 120, 121, 122, 123, 124, 125, 126, 127, 128, 129, 130, 131, 132, 13, 70, 76, 77, 78, 79, 80, 81, 82, 83, 133, 134, 135, 136, 137, 138, 139, 140, 141, 142, 143, 144, 145, 146, 147, 148, 27, 149, 26, 150, 151, 152, 43, 44, 153, 154, 155, 156, 40, 157, 158, 159, 160, 161, 162, 163, 45, 164, 165, 166, 167, 168, 169, 170, 171, 41, 172, 173, 174, 175, 176, 177, 178, 179, 18, 180, 181, 182, 183, 184, 185, 355, 356, 357, 358, 359, 360, 361, 362, 363, 364, 365, 366, 367, 368, 369, 370, 371, 372, 373, 374, 375, 376, 377, 378] (by decide +kernel) (by decide +kernel)) (goodIn_sub (fun _ h => List.mem_append_left _ (List.mem_append_left _ (List.mem_append_right _ h))) (by decide +kernel))) (goodIn_sub (fun _ h => List.mem_append_left _ (List.mem_append_right _ h)) (by decide +kernel))) (goodIn_sub (fun _ h => List.mem_append_right _ h) (by decide +kernel))
set_option maxRecDepth 20000 in
theorem gL_law_L_refused : GoodIn wsL_law (va_wsS RL 103 yL_refused wsL_refused) := goodIn_app (goodIn_of _ (by decide +kernel)) ggL_law_L_refused
set_option maxRecDepth 20000 in
theorem ggL_law_X2_lay : GoodIn wsL_law wsX2_lay := goodIn_ca (goodIn_ca (goodIn_ca (goodIn_r _ [132, 68, 69, 12, 13, 70, 71, 72, 2, 73, 74, 75, 76, 77, 78, 79, 80, 81, 82, 83, 355, 356, 357, 358, 359, 360, 361, 362, 363, 364, 365, 366, 367, 368, 369] (by decide +kernel) (by decide +kernel)) (goodIn_sub (fun _ h => List.mem_append_left _ (List.mem_append_left _ (List.mem_append_right _ h))) (by decide +kernel))) (goodIn_sub (fun _ h => List.mem_append_left _ (List.mem_append_right _ h)) (by decide +kernel))) (goodIn_sub (fun _ h => List.mem_append_right _ h) (by decide +kernel))
set_option maxRecDepth 20000 in
theorem gL_law_X2_lay : GoodIn wsL_law (wsV RL 42 RX2 yX2_lay wsX2_lay) := goodIn_app (goodIn_of _ (by decide +kernel)) ggL_law_X2_lay
set_option maxRecDepth 20000 in
theorem ggL_law_X2_draft : GoodIn wsL_law wsX2_draft := goodIn_ca (goodIn_r _ [189, 18, 79, 80, 2, 81, 82, 83, 190, 17, 191, 192, 35, 36, 34, 193, 47, 48, 49, 111, 112, 113, 355, 356, 357, 358, 359, 360, 361, 362, 363, 364, 365, 366, 367, 368, 369, 370, 371, 372] (by decide +kernel) (by decide +kernel)) (goodIn_sub (fun _ h => List.mem_append_right _ h) (by decide +kernel))
set_option maxRecDepth 20000 in
theorem gL_law_X2_draft : GoodIn wsL_law (wsV RL 123 RX2 yX2_draft wsX2_draft) := goodIn_app (goodIn_of _ (by decide +kernel)) ggL_law_X2_draft
set_option maxRecDepth 20000 in
theorem ggL_law_L_wide : GoodIn wsL_law wsL_wide := goodIn_r _ [196] (by decide +kernel) (by decide +kernel)
set_option maxRecDepth 20000 in
theorem gL_law_L_wide : GoodIn wsL_law (va_wsS RL 16 yL_wide wsL_wide) := goodIn_app (goodIn_of _ (by decide +kernel)) ggL_law_L_wide
set_option maxRecDepth 20000 in
theorem ggL_law_L_high : GoodIn wsL_law wsL_high := goodIn_r _ [199] (by decide +kernel) (by decide +kernel)
set_option maxRecDepth 20000 in
theorem gL_law_L_high : GoodIn wsL_law (va_wsS RL 10 yL_high wsL_high) := goodIn_app (goodIn_of _ (by decide +kernel)) ggL_law_L_high
set_option maxRecDepth 20000 in
theorem ggL_law_L_at : GoodIn wsL_law wsL_at := goodIn_r _ [202] (by decide +kernel) (by decide +kernel)
set_option maxRecDepth 20000 in
theorem gL_law_L_at : GoodIn wsL_law (va_wsS RL 23 yL_at wsL_at) := goodIn_app (goodIn_of _ (by decide +kernel)) ggL_law_L_at
set_option maxRecDepth 20000 in
theorem ggL_law_L_put : GoodIn wsL_law wsL_put := goodIn_r _ [205] (by decide +kernel) (by decide +kernel)
set_option maxRecDepth 20000 in
theorem gL_law_L_put : GoodIn wsL_law (va_wsS RL 27 yL_put wsL_put) := goodIn_app (goodIn_of _ (by decide +kernel)) ggL_law_L_put
set_option maxRecDepth 20000 in
theorem ggL_law_X2_bead : GoodIn wsL_law wsX2_bead := goodIn_ca (goodIn_r _ [179, 74, 75, 18, 180, 17, 181, 182, 35, 36, 76, 77, 2, 78, 126, 127, 128, 34, 183, 184, 185, 355, 356, 357, 358, 359, 360, 361, 362, 363, 364, 365, 366, 367, 368, 369, 370, 371, 372] (by decide +kernel) (by decide +kernel)) (goodIn_sub (fun _ h => List.mem_append_left _ (List.mem_append_right _ h)) (by decide +kernel))
set_option maxRecDepth 20000 in
theorem gL_law_X2_bead : GoodIn wsL_law (wsV RL 54 RX2 yX2_bead wsX2_bead) := goodIn_app (goodIn_of _ (by decide +kernel)) ggL_law_X2_bead
set_option maxRecDepth 20000 in
theorem ggL_law_L_isImage : GoodIn wsL_law wsL_isImage := goodIn_r _ [208, 209, 210, 53, 211, 194, 195, 196, 197, 198, 199, 51, 52, 54, 200, 201, 202, 203, 204, 205, 212, 213, 214] (by decide +kernel) (by decide +kernel)
set_option maxRecDepth 20000 in
theorem gL_law_L_isImage : GoodIn wsL_law (va_wsS RL 126 yL_isImage wsL_isImage) := goodIn_app (goodIn_of _ (by decide +kernel)) ggL_law_L_isImage
set_option maxRecDepth 20000 in
theorem ggL_law_X2_pattern : GoodIn wsL_law wsX2_pattern := goodIn_ca (goodIn_ca (goodIn_r _ [218, 68, 69, 98, 19, 18, 20, 71, 72, 2, 73, 74, 75, 219, 17, 220, 221, 35, 36, 34, 222, 165, 166, 167, 355, 356, 357, 358, 359, 360, 361, 362, 363, 364, 365, 366, 367, 368, 369, 370, 371, 372] (by decide +kernel) (by decide +kernel)) (goodIn_sub (fun _ h => List.mem_append_left _ (List.mem_append_left _ (List.mem_append_right _ h))) (by decide +kernel))) (goodIn_sub (fun _ h => List.mem_append_left _ (List.mem_append_right _ h)) (by decide +kernel))
set_option maxRecDepth 20000 in
theorem gL_law_X2_pattern : GoodIn wsL_law (wsV RL 130 RX2 yX2_pattern wsX2_pattern) := goodIn_app (goodIn_of _ (by decide +kernel)) ggL_law_X2_pattern
set_option maxRecDepth 20000 in
theorem ggL_law_X2_sign : GoodIn wsL_law wsX2_sign := goodIn_ca (goodIn_ca (goodIn_r _ [226, 68, 69, 18, 227, 28, 29, 79, 80, 2, 81, 82, 83, 219, 17, 220, 221, 35, 36, 34, 222, 165, 166, 167, 355, 356, 357, 358, 359, 360, 361, 362, 363, 364, 365, 366, 367, 368, 369, 370, 371, 372] (by decide +kernel) (by decide +kernel)) (goodIn_sub (fun _ h => List.mem_append_left _ (List.mem_append_left _ (List.mem_append_right _ h))) (by decide +kernel))) (goodIn_sub (fun _ h => List.mem_append_right _ h) (by decide +kernel))
set_option maxRecDepth 20000 in
theorem gL_law_X2_sign : GoodIn wsL_law (wsV RL 133 RX2 yX2_sign wsX2_sign) := goodIn_app (goodIn_of _ (by decide +kernel)) ggL_law_X2_sign
set_option maxRecDepth 20000 in
theorem ggL_law_L_needs : GoodIn wsL_law wsL_needs := goodIn_r _ [230, 194, 195, 53, 196, 197, 198, 199, 200, 201, 202] (by decide +kernel) (by decide +kernel)
set_option maxRecDepth 20000 in
theorem gL_law_L_needs : GoodIn wsL_law (va_wsS RL 76 yL_needs wsL_needs) := goodIn_app (goodIn_of _ (by decide +kernel)) ggL_law_L_needs
set_option maxRecDepth 20000 in
theorem ggL_law_X2_weave : GoodIn wsL_law wsX2_weave := goodIn_ca (goodIn_ca (goodIn_r _ [93, 68, 69, 19, 12, 21, 22, 23, 20, 71, 72, 2, 73, 74, 75, 94, 95, 96, 97, 98, 99, 100, 101, 102, 103, 104, 105, 106, 107, 17, 108, 109, 34, 110, 111, 112, 113, 35, 36, 114, 115, 116, 117, 118, 119, 120, 121, 122, 123, 124, 125, 126, 127, 128, 355, 356, 357, 358, 359, 360, 361, 362, 363, 364, 365, 366, 367, 368, 369, 370, 371, 372] (by decide +kernel) (by decide +kernel)) (goodIn_sub (fun _ h => List.mem_append_left _ (List.mem_append_left _ (List.mem_append_right _ h))) (by decide +kernel))) (goodIn_sub (fun _ h => List.mem_append_left _ (List.mem_append_right _ h)) (by decide +kernel))
set_option maxRecDepth 20000 in
theorem gL_law_X2_weave : GoodIn wsL_law (wsV RL 37 RX2 yX2_weave wsX2_weave) := goodIn_app (goodIn_of _ (by decide +kernel)) ggL_law_X2_weave
set_option maxRecDepth 20000 in
theorem ggL_law_X2_give : GoodIn wsL_law wsX2_give := goodIn_ca (goodIn_r _ [234, 22, 137, 138, 139, 2, 140, 74, 75, 103, 104, 105, 106, 21, 71, 72, 73, 355, 356, 357, 358, 359, 360, 361, 362, 363, 364, 365, 366, 367, 368, 369] (by decide +kernel) (by decide +kernel)) (goodIn_sub (fun _ h => List.mem_append_left _ (List.mem_append_right _ h)) (by decide +kernel))
set_option maxRecDepth 20000 in
theorem gL_law_X2_give : GoodIn wsL_law (wsV RL 136 RX2 yX2_give wsX2_give) := goodIn_app (goodIn_of _ (by decide +kernel)) ggL_law_X2_give
set_option maxRecDepth 20000 in
theorem ggL_law_L_stands : GoodIn wsL_law wsL_stands := goodIn_r _ [237, 194, 195, 53, 196, 197, 198, 199, 200, 201, 202] (by decide +kernel) (by decide +kernel)
set_option maxRecDepth 20000 in
theorem gL_law_L_stands : GoodIn wsL_law (va_wsS RL 63 yL_stands wsL_stands) := goodIn_app (goodIn_of _ (by decide +kernel)) ggL_law_L_stands
set_option maxRecDepth 20000 in
theorem ggL_law_X2_hear : GoodIn wsL_law wsX2_hear := goodIn_ca (goodIn_r _ [241, 30, 21, 137, 138, 139, 2, 140, 74, 75, 103, 104, 105, 106, 71, 72, 73, 242, 243, 244, 245, 227, 29, 19, 28, 246, 17, 247, 248, 36, 35, 249, 250, 251, 252, 125, 126, 127, 128, 34, 355, 356, 357, 358, 359, 360, 361, 362, 363, 364, 365, 366, 367, 368, 369, 370, 371, 372] (by decide +kernel) (by decide +kernel)) (goodIn_sub (fun _ h => List.mem_append_left _ (List.mem_append_right _ h)) (by decide +kernel))
set_option maxRecDepth 20000 in
theorem gL_law_X2_hear : GoodIn wsL_law (wsV RL 139 RX2 yX2_hear wsX2_hear) := goodIn_app (goodIn_of _ (by decide +kernel)) ggL_law_X2_hear
set_option maxRecDepth 20000 in
theorem ggL_law_X2_apart : GoodIn wsL_law wsX2_apart := goodIn_ca (goodIn_ca (goodIn_r _ [136, 68, 69, 19, 21, 12, 22, 70, 137, 138, 139, 2, 140, 74, 75, 103, 104, 105, 106, 107, 17, 108, 109, 34, 110, 111, 112, 113, 35, 36, 355, 356, 357, 358, 359, 360, 361, 362, 363, 364, 365, 366, 367, 368, 369, 370, 371, 372] (by decide +kernel) (by decide +kernel)) (goodIn_sub (fun _ h => List.mem_append_left _ (List.mem_append_left _ (List.mem_append_right _ h))) (by decide +kernel))) (goodIn_sub (fun _ h => List.mem_append_left _ (List.mem_append_right _ h)) (by decide +kernel))
set_option maxRecDepth 20000 in
theorem gL_law_X2_apart : GoodIn wsL_law (wsV RL 45 RX2 yX2_apart wsX2_apart) := goodIn_app (goodIn_of _ (by decide +kernel)) ggL_law_X2_apart
set_option maxRecDepth 20000 in
theorem ggL_law_X2_unwish : GoodIn wsL_law wsX2_unwish := goodIn_ca (goodIn_r _ [256, 27, 71, 72, 2, 73, 74, 75, 158, 26, 159, 160, 40, 257, 258, 259, 41, 355, 356, 357, 358, 359, 360, 361, 362, 363, 364, 365, 366, 367, 368, 369, 373, 374, 375, 376, 377, 378] (by decide +kernel) (by decide +kernel)) (goodIn_sub (fun _ h => List.mem_append_left _ (List.mem_append_right _ h)) (by decide +kernel))
set_option maxRecDepth 20000 in
theorem gL_law_X2_unwish : GoodIn wsL_law (wsV RL 143 RX2 yX2_unwish wsX2_unwish) := goodIn_app (goodIn_of _ (by decide +kernel)) ggL_law_X2_unwish
set_option maxRecDepth 20000 in
theorem ggL_law_X2_wish : GoodIn wsL_law wsX2_wish := goodIn_ca (goodIn_ca (goodIn_r _ [263, 82, 83, 27, 71, 72, 2, 73, 74, 75, 76, 77, 78, 158, 26, 159, 160, 40, 257, 258, 259, 41, 355, 356, 357, 358, 359, 360, 361, 362, 363, 364, 365, 366, 367, 368, 369, 373, 374, 375, 376, 377, 378] (by decide +kernel) (by decide +kernel)) (goodIn_sub (fun _ h => List.mem_append_right _ h) (by decide +kernel))) (goodIn_sub (fun _ h => List.mem_append_left _ (List.mem_append_right _ h)) (by decide +kernel))
set_option maxRecDepth 20000 in
theorem gL_law_X2_wish : GoodIn wsL_law (wsV RL 147 RX2 yX2_wish wsX2_wish) := goodIn_app (goodIn_of _ (by decide +kernel)) ggL_law_X2_wish
set_option maxRecDepth 20000 in
theorem ggL_law_L_chain : GoodIn wsL_law wsL_chain := goodIn_r _ [266] (by decide +kernel) (by decide +kernel)
set_option maxRecDepth 20000 in
theorem gL_law_L_chain : GoodIn wsL_law (va_wsS RL 84 yL_chain wsL_chain) := goodIn_app (goodIn_of _ (by decide +kernel)) ggL_law_L_chain
set_option maxRecDepth 20000 in
theorem ggL_law_X2_fair : GoodIn wsL_law wsX2_fair := goodIn_r _ [270, 27, 12, 149, 26, 150, 151, 152, 43, 44, 153, 154, 155, 156, 40, 157, 158, 159, 160, 161, 162, 163, 45, 164, 165, 166, 167, 168, 169, 170, 171, 41, 172, 173, 174, 175, 271, 272, 273, 355, 356, 357, 358, 359, 360, 361, 362, 363, 364, 365, 366, 367, 368, 369, 373, 374, 375, 376, 377, 378] (by decide +kernel) (by decide +kernel)
set_option maxRecDepth 20000 in
theorem gL_law_X2_fair : GoodIn wsL_law (wsV RL 151 RX2 yX2_fair wsX2_fair) := goodIn_app (goodIn_of _ (by decide +kernel)) ggL_law_X2_fair
set_option maxRecDepth 20000 in
theorem ggL_law_L_grids : GoodIn wsL_law wsL_grids := goodIn_ca (goodIn_r _ [276, 212, 213, 53, 214, 197, 198, 199, 194, 195, 196, 51, 52, 54, 200, 201, 202, 203, 204, 205, 209, 210, 211, 235, 236, 237, 277, 278, 279, 2, 280, 74, 75, 227, 19, 28, 94, 95, 96, 97, 98, 246, 17, 247, 248, 36, 35, 249, 250, 251, 252, 125, 126, 127, 128, 34, 281, 282, 283, 284, 118, 119, 120, 121, 122, 123, 124, 285, 286, 287, 288, 114, 115, 116, 117, 289, 290, 291, 292, 76, 77, 78, 107, 108, 109, 110, 111, 112, 113, 228, 229, 230, 293, 294, 295, 296, 242, 243, 244, 245, 29, 297, 298, 299, 300, 355, 356, 357, 358, 359, 360, 361, 362, 363, 364, 365, 366, 367, 368, 369, 370, 371, 372] (by decide +kernel) (by decide +kernel)) (goodIn_sub (fun _ h => List.mem_append_left _ (List.mem_append_right _ h)) (by decide +kernel))
set_option maxRecDepth 20000 in
theorem gL_law_L_grids : GoodIn wsL_law (va_wsS RL 154 yL_grids wsL_grids) := goodIn_app (goodIn_of _ (by decide +kernel)) ggL_law_L_grids
theorem z_goodC {big a : List Cond} {c : Cond} (hc : GoodIn big [c]) (ha : GoodIn big a) : GoodIn big (c :: a) := fun w h => (List.mem_cons.mp h).elim (fun e => hc w (e ▸ List.mem_cons_self)) (ha w)
set_option maxRecDepth 20000 in
theorem wsL_same_r1_gg : GoodIn wsL_law wsL_same_r1 := goodIn_r _ [264, 265, 53, 266, 145, 146, 147, 2, 148, 74, 75, 27, 12, 149, 26, 150, 151, 152, 43, 44, 153, 154, 155, 156] (by decide +kernel) (by decide +kernel)
set_option maxRecDepth 20000 in
theorem wsL_same_r2_gg : GoodIn wsL_law wsL_same_r2 := goodIn_r _ [40, 157, 158, 159, 160, 161, 162, 163, 45, 164, 165, 166, 167, 168, 169, 170, 171, 41, 172, 173, 174, 175, 304, 305] (by decide +kernel) (by decide +kernel)
set_option maxRecDepth 20000 in
theorem wsL_same_r3_gg : GoodIn wsL_law wsL_same_r3 := goodIn_r _ [306, 307, 71, 72, 73, 76, 77, 78, 228, 229, 230, 194, 195, 196, 197, 198, 199, 200, 201, 202, 308, 309, 310, 311] (by decide +kernel) (by decide +kernel)
set_option maxRecDepth 20000 in
theorem wsL_same_r4_gg : GoodIn wsL_law wsL_same_r4 := goodIn_r _ [13, 19, 21, 103, 104, 105, 106, 107, 17, 108, 109, 34, 110, 111, 112, 113, 35, 36, 312, 313, 314, 315, 14, 316] (by decide +kernel) (by decide +kernel)
set_option maxRecDepth 20000 in
theorem wsL_same_r5_gg : GoodIn wsL_law wsL_same_r5 := goodIn_r _ [317, 318, 319, 23, 320, 321, 322, 323, 324, 325, 326, 327, 30, 84, 85, 86, 87, 88, 89, 90, 91, 92, 93, 68] (by decide +kernel) (by decide +kernel)
set_option maxRecDepth 20000 in
theorem wsL_same_r6_gg : GoodIn wsL_law wsL_same_r6 := goodIn_r _ [69, 22, 20, 94, 95, 96, 97, 98, 99, 100, 101, 102, 114, 115, 116, 117, 118, 119, 120, 121, 122, 123, 124, 125] (by decide +kernel) (by decide +kernel)
set_option maxRecDepth 20000 in
theorem wsL_same_r7_gg : GoodIn wsL_law wsL_same_r7 := goodIn_r _ [126, 127, 128, 129, 130, 131, 132, 70, 79, 80, 81, 82, 83, 133, 134, 135, 136, 137, 138, 139, 140, 141, 142, 143] (by decide +kernel) (by decide +kernel)
set_option maxRecDepth 20000 in
theorem wsL_same_r8_gg : GoodIn wsL_law wsL_same_r8 := goodIn_r _ [144, 176, 177, 178, 179, 18, 180, 181, 182, 183, 184, 185, 328, 329, 330, 331, 332, 333, 334, 335, 336, 337, 338, 339] (by decide +kernel) (by decide +kernel)
set_option maxRecDepth 20000 in
theorem wsL_same_r9_gg : GoodIn wsL_law wsL_same_r9 := goodIn_r _ [340, 341, 342, 343, 344, 345, 346, 347, 348, 349, 350, 351, 352, 353, 354] (by decide +kernel) (by decide +kernel)
theorem wsL_same_wsX20_gg : GoodIn wsL_law wsX20 := goodIn_sub inlX2 (by decide +kernel)
theorem wsL_same_wsX00_gg : GoodIn wsL_law wsX00 := goodIn_sub inlX0 (by decide +kernel)
theorem wsL_same_wsX10_gg : GoodIn wsL_law wsX10 := goodIn_sub inlX1 (by decide +kernel)
set_option maxRecDepth 20000 in
theorem wsL_same_c_gg : GoodIn wsL_law [.code yL_same cL_same 13 (some .boolean)] := goodIn_r _ [303] (by decide +kernel) (by decide +kernel)
set_option maxRecDepth 20000 in
theorem ggL_law_L_same : GoodIn wsL_law wsL_same := goodIn_ca (goodIn_ca (goodIn_ca (z_goodC wsL_same_c_gg (goodIn_app (goodIn_app (goodIn_app (goodIn_app wsL_same_r1_gg (goodIn_app wsL_same_r2_gg (goodIn_app wsL_same_r3_gg (goodIn_app wsL_same_r4_gg (goodIn_app wsL_same_r5_gg (goodIn_app wsL_same_r6_gg (goodIn_app wsL_same_r7_gg (goodIn_app wsL_same_r8_gg (wsL_same_r9_gg))))))))) wsL_same_wsX20_gg) wsL_same_wsX00_gg) wsL_same_wsX10_gg)) (goodIn_sub (fun _ h => List.mem_append_left _ (List.mem_append_right _ h)) (by decide +kernel))) (goodIn_sub (fun _ h => List.mem_append_left _ (List.mem_append_left _ (List.mem_append_right _ h))) (by decide +kernel))) (goodIn_sub (fun _ h => List.mem_append_right _ h) (by decide +kernel))
set_option maxRecDepth 20000 in
theorem gL_law_L_same : GoodIn wsL_law (va_wsS RL 158 yL_same wsL_same) := goodIn_app (goodIn_of _ (by decide +kernel)) ggL_law_L_same
