theorem dJ9_max_7cf53_0 : decode cJ9_max_7cf53 0 = .ok (.iload_n 0, 1) := by decide +kernel
theorem dJ9_max_7cf53_1 : decode cJ9_max_7cf53 1 = .ok (.iload_n 1, 1) := by decide +kernel
theorem dJ9_max_7cf53_2 : decode cJ9_max_7cf53 2 = .ok (.if_icmp .lt 7, 3) := by decide +kernel
theorem dJ9_max_7cf53_5 : decode cJ9_max_7cf53 5 = .ok (.iload_n 0, 1) := by decide +kernel
theorem dJ9_max_7cf53_6 : decode cJ9_max_7cf53 6 = .ok (.goto 4, 3) := by decide +kernel
theorem dJ9_max_7cf53_9 : decode cJ9_max_7cf53 9 = .ok (.iload_n 1, 1) := by decide +kernel
theorem dJ9_max_7cf53_10 : decode cJ9_max_7cf53 10 = .ok (.ireturn, 1) := by decide +kernel
theorem dJ7_fill_53178_0 : decode cJ7_fill_53178 0 = .ok (.iconst 0, 1) := by decide +kernel
theorem dJ7_fill_53178_1 : decode cJ7_fill_53178 1 = .ok (.istore_n 2, 1) := by decide +kernel
theorem dJ7_fill_53178_2 : decode cJ7_fill_53178 2 = .ok (.aload_n 0, 1) := by decide +kernel
theorem dJ7_fill_53178_3 : decode cJ7_fill_53178 3 = .ok (.arraylength, 1) := by decide +kernel
theorem dJ7_fill_53178_4 : decode cJ7_fill_53178 4 = .ok (.istore_n 3, 1) := by decide +kernel
theorem dJ7_fill_53178_5 : decode cJ7_fill_53178 5 = .ok (.iload_n 2, 1) := by decide +kernel
theorem dJ7_fill_53178_6 : decode cJ7_fill_53178 6 = .ok (.iload_n 3, 1) := by decide +kernel
theorem dJ7_fill_53178_7 : decode cJ7_fill_53178 7 = .ok (.if_icmp .ge 13, 3) := by decide +kernel
theorem dJ7_fill_53178_10 : decode cJ7_fill_53178 10 = .ok (.aload_n 0, 1) := by decide +kernel
theorem dJ7_fill_53178_11 : decode cJ7_fill_53178 11 = .ok (.iload_n 2, 1) := by decide +kernel
theorem dJ7_fill_53178_12 : decode cJ7_fill_53178 12 = .ok (.iload_n 1, 1) := by decide +kernel
theorem dJ7_fill_53178_13 : decode cJ7_fill_53178 13 = .ok (.iastore, 1) := by decide +kernel
theorem dJ7_fill_53178_14 : decode cJ7_fill_53178 14 = .ok (.iinc 2 1, 3) := by decide +kernel
theorem dJ7_fill_53178_17 : decode cJ7_fill_53178 17 = .ok (.goto (-12), 3) := by decide +kernel
theorem dJ7_fill_53178_20 : decode cJ7_fill_53178 20 = .ok (.return_, 1) := by decide +kernel
theorem dL_cell_0 : decode cL_cell 0 = .ok (.iload_n 1, 1) := by decide +kernel
theorem dL_cell_1 : decode cL_cell 1 = .ok (.aload_n 0, 1) := by decide +kernel
theorem dL_cell_2 : decode cL_cell 2 = .ok (.arraylength, 1) := by decide +kernel
theorem dL_cell_3 : decode cL_cell 3 = .ok (.if_icmp .ge 9, 3) := by decide +kernel
theorem dL_cell_6 : decode cL_cell 6 = .ok (.aload_n 0, 1) := by decide +kernel
theorem dL_cell_7 : decode cL_cell 7 = .ok (.iload_n 1, 1) := by decide +kernel
theorem dL_cell_8 : decode cL_cell 8 = .ok (.iaload, 1) := by decide +kernel
theorem dL_cell_9 : decode cL_cell 9 = .ok (.goto 12, 3) := by decide +kernel
theorem dL_cell_12 : decode cL_cell 12 = .ok (.ldc 7, 2) := by decide +kernel
theorem dL_cell_14 : decode cL_cell 14 = .ok (.iload_n 1, 1) := by decide +kernel
theorem dL_cell_15 : decode cL_cell 15 = .ok (.iconst 1, 1) := by decide +kernel
theorem dL_cell_16 : decode cL_cell 16 = .ok (.iadd, 1) := by decide +kernel
theorem dL_cell_17 : decode cL_cell 17 = .ok (.imul, 1) := by decide +kernel
theorem dL_cell_18 : decode cL_cell 18 = .ok (.ldc 8, 2) := by decide +kernel
theorem dL_cell_20 : decode cL_cell 20 = .ok (.iadd, 1) := by decide +kernel
theorem dL_cell_21 : decode cL_cell 21 = .ok (.ireturn, 1) := by decide +kernel
theorem dL_low_0 : decode cL_low 0 = .ok (.iload_n 0, 1) := by decide +kernel
theorem dL_low_1 : decode cL_low 1 = .ok (.ldc 9, 2) := by decide +kernel
theorem dL_low_3 : decode cL_low 3 = .ok (.iand, 1) := by decide +kernel
theorem dL_low_4 : decode cL_low 4 = .ok (.iload_n 1, 1) := by decide +kernel
theorem dL_low_5 : decode cL_low 5 = .ok (.irem, 1) := by decide +kernel
theorem dL_low_6 : decode cL_low 6 = .ok (.ireturn, 1) := by decide +kernel
theorem dL_at_0 : decode cL_at 0 = .ok (.iload_n 0, 1) := by decide +kernel
theorem dL_at_1 : decode cL_at 1 = .ok (.iconst 3, 1) := by decide +kernel
theorem dL_at_2 : decode cL_at 2 = .ok (.iconst 3, 1) := by decide +kernel
theorem dL_at_3 : decode cL_at 3 = .ok (.iload_n 2, 1) := by decide +kernel
theorem dL_at_4 : decode cL_at 4 = .ok (.imul, 1) := by decide +kernel
theorem dL_at_5 : decode cL_at 5 = .ok (.iload_n 1, 1) := by decide +kernel
theorem dL_at_6 : decode cL_at 6 = .ok (.iadd, 1) := by decide +kernel
theorem dL_at_7 : decode cL_at 7 = .ok (.imul, 1) := by decide +kernel
theorem dL_at_8 : decode cL_at 8 = .ok (.ishr, 1) := by decide +kernel
theorem dL_at_9 : decode cL_at 9 = .ok (.bipush 7, 2) := by decide +kernel
theorem dL_at_11 : decode cL_at 11 = .ok (.iand, 1) := by decide +kernel
theorem dL_at_12 : decode cL_at 12 = .ok (.ireturn, 1) := by decide +kernel
theorem dL_wide_0 : decode cL_wide 0 = .ok (.iload_n 0, 1) := by decide +kernel
theorem dL_wide_1 : decode cL_wide 1 = .ok (.bipush 27, 2) := by decide +kernel
theorem dL_wide_3 : decode cL_wide 3 = .ok (.ishr, 1) := by decide +kernel
theorem dL_wide_4 : decode cL_wide 4 = .ok (.iconst 3, 1) := by decide +kernel
theorem dL_wide_5 : decode cL_wide 5 = .ok (.iand, 1) := by decide +kernel
theorem dL_wide_6 : decode cL_wide 6 = .ok (.ireturn, 1) := by decide +kernel
theorem dL_high_0 : decode cL_high 0 = .ok (.iload_n 0, 1) := by decide +kernel
theorem dL_high_1 : decode cL_high 1 = .ok (.bipush 29, 2) := by decide +kernel
theorem dL_high_3 : decode cL_high 3 = .ok (.ishr, 1) := by decide +kernel
theorem dL_high_4 : decode cL_high 4 = .ok (.iconst 3, 1) := by decide +kernel
theorem dL_high_5 : decode cL_high 5 = .ok (.iand, 1) := by decide +kernel
theorem dL_high_6 : decode cL_high 6 = .ok (.ireturn, 1) := by decide +kernel
theorem dL_put_0 : decode cL_put 0 = .ok (.iconst 3, 1) := by decide +kernel
theorem dL_put_1 : decode cL_put 1 = .ok (.iconst 3, 1) := by decide +kernel
theorem dL_put_2 : decode cL_put 2 = .ok (.iload_n 2, 1) := by decide +kernel
theorem dL_put_3 : decode cL_put 3 = .ok (.imul, 1) := by decide +kernel
theorem dL_put_4 : decode cL_put 4 = .ok (.iload_n 1, 1) := by decide +kernel
theorem dL_put_5 : decode cL_put 5 = .ok (.iadd, 1) := by decide +kernel
theorem dL_put_6 : decode cL_put 6 = .ok (.imul, 1) := by decide +kernel
theorem dL_put_7 : decode cL_put 7 = .ok (.istore 4, 2) := by decide +kernel
theorem dL_put_9 : decode cL_put 9 = .ok (.iload_n 0, 1) := by decide +kernel
theorem dL_put_10 : decode cL_put 10 = .ok (.bipush 7, 2) := by decide +kernel
theorem dL_put_12 : decode cL_put 12 = .ok (.iload 4, 2) := by decide +kernel
theorem dL_put_14 : decode cL_put 14 = .ok (.ishl, 1) := by decide +kernel
theorem dL_put_15 : decode cL_put 15 = .ok (.iconst (-1), 1) := by decide +kernel
theorem dL_put_16 : decode cL_put 16 = .ok (.ixor, 1) := by decide +kernel
theorem dL_put_17 : decode cL_put 17 = .ok (.iand, 1) := by decide +kernel
theorem dL_put_18 : decode cL_put 18 = .ok (.iload_n 3, 1) := by decide +kernel
theorem dL_put_19 : decode cL_put 19 = .ok (.iload 4, 2) := by decide +kernel
theorem dL_put_21 : decode cL_put 21 = .ok (.ishl, 1) := by decide +kernel
theorem dL_put_22 : decode cL_put 22 = .ok (.ior, 1) := by decide +kernel
theorem dL_put_23 : decode cL_put 23 = .ok (.ireturn, 1) := by decide +kernel
theorem dL_empty_0 : decode cL_empty 0 = .ok (.iload_n 0, 1) := by decide +kernel
theorem dL_empty_1 : decode cL_empty 1 = .ok (.bipush 27, 2) := by decide +kernel
theorem dL_empty_3 : decode cL_empty 3 = .ok (.ishl, 1) := by decide +kernel
theorem dL_empty_4 : decode cL_empty 4 = .ok (.iload_n 1, 1) := by decide +kernel
theorem dL_empty_5 : decode cL_empty 5 = .ok (.bipush 29, 2) := by decide +kernel
theorem dL_empty_7 : decode cL_empty 7 = .ok (.ishl, 1) := by decide +kernel
theorem dL_empty_8 : decode cL_empty 8 = .ok (.ior, 1) := by decide +kernel
theorem dL_empty_9 : decode cL_empty 9 = .ok (.ireturn, 1) := by decide +kernel
set_option maxRecDepth 20000 in
theorem ggL_turned_L_high : GoodIn wsL_turned wsL_high := goodIn_r _ [4] (by decide +kernel) (by decide +kernel)
set_option maxRecDepth 20000 in
theorem gL_turned_L_high : GoodIn wsL_turned (va_wsS RL 10 yL_high wsL_high) := goodIn_app (goodIn_of _ (by decide +kernel)) ggL_turned_L_high
set_option maxRecDepth 20000 in
theorem ggL_turned_L_wide : GoodIn wsL_turned wsL_wide := goodIn_r _ [7] (by decide +kernel) (by decide +kernel)
set_option maxRecDepth 20000 in
theorem gL_turned_L_wide : GoodIn wsL_turned (va_wsS RL 16 yL_wide wsL_wide) := goodIn_app (goodIn_of _ (by decide +kernel)) ggL_turned_L_wide
set_option maxRecDepth 20000 in
theorem ggL_turned_L_empty : GoodIn wsL_turned wsL_empty := goodIn_r _ [10] (by decide +kernel) (by decide +kernel)
set_option maxRecDepth 20000 in
theorem gL_turned_L_empty : GoodIn wsL_turned (va_wsS RL 19 yL_empty wsL_empty) := goodIn_app (goodIn_of _ (by decide +kernel)) ggL_turned_L_empty
set_option maxRecDepth 20000 in
theorem ggL_turned_L_at : GoodIn wsL_turned wsL_at := goodIn_r _ [13] (by decide +kernel) (by decide +kernel)
set_option maxRecDepth 20000 in
theorem gL_turned_L_at : GoodIn wsL_turned (va_wsS RL 23 yL_at wsL_at) := goodIn_app (goodIn_of _ (by decide +kernel)) ggL_turned_L_at
set_option maxRecDepth 20000 in
theorem ggL_turned_L_put : GoodIn wsL_turned wsL_put := goodIn_r _ [16] (by decide +kernel) (by decide +kernel)
set_option maxRecDepth 20000 in
theorem gL_turned_L_put : GoodIn wsL_turned (va_wsS RL 27 yL_put wsL_put) := goodIn_app (goodIn_of _ (by decide +kernel)) ggL_turned_L_put
theorem dL_turned_0 : decode cL_turned 0 = .ok (.iload_n 0, 1) := by decide +kernel
theorem dL_turned_1 : decode cL_turned 1 = .ok (.invokestatic 10, 3) := by decide +kernel
theorem dL_turned_4 : decode cL_turned 4 = .ok (.iload_n 0, 1) := by decide +kernel
theorem dL_turned_5 : decode cL_turned 5 = .ok (.invokestatic 16, 3) := by decide +kernel
theorem dL_turned_8 : decode cL_turned 8 = .ok (.invokestatic 19, 3) := by decide +kernel
theorem dL_turned_11 : decode cL_turned 11 = .ok (.istore_n 1, 1) := by decide +kernel
theorem dL_turned_12 : decode cL_turned 12 = .ok (.iconst 0, 1) := by decide +kernel
theorem dL_turned_13 : decode cL_turned 13 = .ok (.istore_n 2, 1) := by decide +kernel
theorem dL_turned_14 : decode cL_turned 14 = .ok (.iload_n 2, 1) := by decide +kernel
theorem dL_turned_15 : decode cL_turned 15 = .ok (.iload_n 0, 1) := by decide +kernel
theorem dL_turned_16 : decode cL_turned 16 = .ok (.invokestatic 16, 3) := by decide +kernel
theorem dL_turned_19 : decode cL_turned 19 = .ok (.if_icmp .ge 45, 3) := by decide +kernel
theorem dL_turned_22 : decode cL_turned 22 = .ok (.iconst 0, 1) := by decide +kernel
theorem dL_turned_23 : decode cL_turned 23 = .ok (.istore_n 3, 1) := by decide +kernel
theorem dL_turned_24 : decode cL_turned 24 = .ok (.iload_n 3, 1) := by decide +kernel
theorem dL_turned_25 : decode cL_turned 25 = .ok (.iload_n 0, 1) := by decide +kernel
theorem dL_turned_26 : decode cL_turned 26 = .ok (.invokestatic 10, 3) := by decide +kernel
theorem dL_turned_29 : decode cL_turned 29 = .ok (.if_icmp .ge 29, 3) := by decide +kernel
theorem dL_turned_32 : decode cL_turned 32 = .ok (.iload_n 1, 1) := by decide +kernel
theorem dL_turned_33 : decode cL_turned 33 = .ok (.iload_n 0, 1) := by decide +kernel
theorem dL_turned_34 : decode cL_turned 34 = .ok (.invokestatic 10, 3) := by decide +kernel
theorem dL_turned_37 : decode cL_turned 37 = .ok (.iconst 1, 1) := by decide +kernel
theorem dL_turned_38 : decode cL_turned 38 = .ok (.isub, 1) := by decide +kernel
theorem dL_turned_39 : decode cL_turned 39 = .ok (.iload_n 3, 1) := by decide +kernel
theorem dL_turned_40 : decode cL_turned 40 = .ok (.isub, 1) := by decide +kernel
theorem dL_turned_41 : decode cL_turned 41 = .ok (.iload_n 2, 1) := by decide +kernel
theorem dL_turned_42 : decode cL_turned 42 = .ok (.iload_n 0, 1) := by decide +kernel
theorem dL_turned_43 : decode cL_turned 43 = .ok (.iload_n 2, 1) := by decide +kernel
theorem dL_turned_44 : decode cL_turned 44 = .ok (.iload_n 3, 1) := by decide +kernel
theorem dL_turned_45 : decode cL_turned 45 = .ok (.invokestatic 23, 3) := by decide +kernel
theorem dL_turned_48 : decode cL_turned 48 = .ok (.invokestatic 27, 3) := by decide +kernel
theorem dL_turned_51 : decode cL_turned 51 = .ok (.istore_n 1, 1) := by decide +kernel
theorem dL_turned_52 : decode cL_turned 52 = .ok (.iinc 3 1, 3) := by decide +kernel
theorem dL_turned_55 : decode cL_turned 55 = .ok (.goto (-31), 3) := by decide +kernel
theorem dL_turned_58 : decode cL_turned 58 = .ok (.iinc 2 1, 3) := by decide +kernel
theorem dL_turned_61 : decode cL_turned 61 = .ok (.goto (-47), 3) := by decide +kernel
theorem dL_turned_64 : decode cL_turned 64 = .ok (.iload_n 1, 1) := by decide +kernel
theorem dL_turned_65 : decode cL_turned 65 = .ok (.ireturn, 1) := by decide +kernel
set_option maxRecDepth 20000 in
theorem ggL_exchanged_L_wide : GoodIn wsL_exchanged wsL_wide := goodIn_r _ [4] (by decide +kernel) (by decide +kernel)
set_option maxRecDepth 20000 in
theorem gL_exchanged_L_wide : GoodIn wsL_exchanged (va_wsS RL 16 yL_wide wsL_wide) := goodIn_app (goodIn_of _ (by decide +kernel)) ggL_exchanged_L_wide
set_option maxRecDepth 20000 in
theorem ggL_exchanged_L_high : GoodIn wsL_exchanged wsL_high := goodIn_r _ [7] (by decide +kernel) (by decide +kernel)
set_option maxRecDepth 20000 in
theorem gL_exchanged_L_high : GoodIn wsL_exchanged (va_wsS RL 10 yL_high wsL_high) := goodIn_app (goodIn_of _ (by decide +kernel)) ggL_exchanged_L_high
set_option maxRecDepth 20000 in
theorem ggL_exchanged_L_empty : GoodIn wsL_exchanged wsL_empty := goodIn_r _ [10] (by decide +kernel) (by decide +kernel)
set_option maxRecDepth 20000 in
theorem gL_exchanged_L_empty : GoodIn wsL_exchanged (va_wsS RL 19 yL_empty wsL_empty) := goodIn_app (goodIn_of _ (by decide +kernel)) ggL_exchanged_L_empty
set_option maxRecDepth 20000 in
theorem ggL_exchanged_L_at : GoodIn wsL_exchanged wsL_at := goodIn_r _ [13] (by decide +kernel) (by decide +kernel)
set_option maxRecDepth 20000 in
theorem gL_exchanged_L_at : GoodIn wsL_exchanged (va_wsS RL 23 yL_at wsL_at) := goodIn_app (goodIn_of _ (by decide +kernel)) ggL_exchanged_L_at
set_option maxRecDepth 20000 in
theorem ggL_exchanged_L_put : GoodIn wsL_exchanged wsL_put := goodIn_r _ [16] (by decide +kernel) (by decide +kernel)
set_option maxRecDepth 20000 in
theorem gL_exchanged_L_put : GoodIn wsL_exchanged (va_wsS RL 27 yL_put wsL_put) := goodIn_app (goodIn_of _ (by decide +kernel)) ggL_exchanged_L_put
theorem dL_exchanged_0 : decode cL_exchanged 0 = .ok (.iload_n 0, 1) := by decide +kernel
theorem dL_exchanged_1 : decode cL_exchanged 1 = .ok (.invokestatic 16, 3) := by decide +kernel
theorem dL_exchanged_4 : decode cL_exchanged 4 = .ok (.iload_n 0, 1) := by decide +kernel
theorem dL_exchanged_5 : decode cL_exchanged 5 = .ok (.invokestatic 10, 3) := by decide +kernel
theorem dL_exchanged_8 : decode cL_exchanged 8 = .ok (.invokestatic 19, 3) := by decide +kernel
theorem dL_exchanged_11 : decode cL_exchanged 11 = .ok (.istore_n 1, 1) := by decide +kernel
theorem dL_exchanged_12 : decode cL_exchanged 12 = .ok (.iconst 0, 1) := by decide +kernel
theorem dL_exchanged_13 : decode cL_exchanged 13 = .ok (.istore_n 2, 1) := by decide +kernel
theorem dL_exchanged_14 : decode cL_exchanged 14 = .ok (.iload_n 2, 1) := by decide +kernel
theorem dL_exchanged_15 : decode cL_exchanged 15 = .ok (.iload_n 0, 1) := by decide +kernel
theorem dL_exchanged_16 : decode cL_exchanged 16 = .ok (.invokestatic 16, 3) := by decide +kernel
theorem dL_exchanged_19 : decode cL_exchanged 19 = .ok (.if_icmp .ge 45, 3) := by decide +kernel
theorem dL_exchanged_22 : decode cL_exchanged 22 = .ok (.iconst 0, 1) := by decide +kernel
theorem dL_exchanged_23 : decode cL_exchanged 23 = .ok (.istore_n 3, 1) := by decide +kernel
theorem dL_exchanged_24 : decode cL_exchanged 24 = .ok (.iload_n 3, 1) := by decide +kernel
theorem dL_exchanged_25 : decode cL_exchanged 25 = .ok (.iload_n 0, 1) := by decide +kernel
theorem dL_exchanged_26 : decode cL_exchanged 26 = .ok (.invokestatic 10, 3) := by decide +kernel
theorem dL_exchanged_29 : decode cL_exchanged 29 = .ok (.if_icmp .ge 29, 3) := by decide +kernel
theorem dL_exchanged_32 : decode cL_exchanged 32 = .ok (.iload_n 1, 1) := by decide +kernel
theorem dL_exchanged_33 : decode cL_exchanged 33 = .ok (.iload_n 0, 1) := by decide +kernel
theorem dL_exchanged_34 : decode cL_exchanged 34 = .ok (.invokestatic 16, 3) := by decide +kernel
theorem dL_exchanged_37 : decode cL_exchanged 37 = .ok (.iconst 1, 1) := by decide +kernel
theorem dL_exchanged_38 : decode cL_exchanged 38 = .ok (.isub, 1) := by decide +kernel
theorem dL_exchanged_39 : decode cL_exchanged 39 = .ok (.iload_n 2, 1) := by decide +kernel
theorem dL_exchanged_40 : decode cL_exchanged 40 = .ok (.isub, 1) := by decide +kernel
theorem dL_exchanged_41 : decode cL_exchanged 41 = .ok (.iload_n 3, 1) := by decide +kernel
theorem dL_exchanged_42 : decode cL_exchanged 42 = .ok (.iload_n 0, 1) := by decide +kernel
theorem dL_exchanged_43 : decode cL_exchanged 43 = .ok (.iload_n 2, 1) := by decide +kernel
theorem dL_exchanged_44 : decode cL_exchanged 44 = .ok (.iload_n 3, 1) := by decide +kernel
theorem dL_exchanged_45 : decode cL_exchanged 45 = .ok (.invokestatic 23, 3) := by decide +kernel
theorem dL_exchanged_48 : decode cL_exchanged 48 = .ok (.invokestatic 27, 3) := by decide +kernel
theorem dL_exchanged_51 : decode cL_exchanged 51 = .ok (.istore_n 1, 1) := by decide +kernel
theorem dL_exchanged_52 : decode cL_exchanged 52 = .ok (.iinc 3 1, 3) := by decide +kernel
theorem dL_exchanged_55 : decode cL_exchanged 55 = .ok (.goto (-31), 3) := by decide +kernel
theorem dL_exchanged_58 : decode cL_exchanged 58 = .ok (.iinc 2 1, 3) := by decide +kernel
theorem dL_exchanged_61 : decode cL_exchanged 61 = .ok (.goto (-47), 3) := by decide +kernel
theorem dL_exchanged_64 : decode cL_exchanged 64 = .ok (.iload_n 1, 1) := by decide +kernel
theorem dL_exchanged_65 : decode cL_exchanged 65 = .ok (.ireturn, 1) := by decide +kernel
set_option maxRecDepth 20000 in
theorem ggL_isImage_L_exchanged : GoodIn wsL_isImage wsL_exchanged := goodIn_r _ [4, 5, 6, 3, 7, 8, 9, 10, 11, 12, 13, 14, 15, 16, 17, 18, 19] (by decide +kernel) (by decide +kernel)
set_option maxRecDepth 20000 in
theorem gL_isImage_L_exchanged : GoodIn wsL_isImage (va_wsS RL 31 yL_exchanged wsL_exchanged) := goodIn_app (goodIn_of _ (by decide +kernel)) ggL_isImage_L_exchanged
set_option maxRecDepth 20000 in
theorem ggL_isImage_L_turned : GoodIn wsL_isImage wsL_turned := goodIn_r _ [22, 8, 9, 3, 10, 5, 6, 7, 11, 12, 13, 14, 15, 16, 17, 18, 19] (by decide +kernel) (by decide +kernel)
set_option maxRecDepth 20000 in
theorem gL_isImage_L_turned : GoodIn wsL_isImage (va_wsS RL 34 yL_turned wsL_turned) := goodIn_app (goodIn_of _ (by decide +kernel)) ggL_isImage_L_turned
theorem dL_isImage_0 : decode cL_isImage 0 = .ok (.iload_n 0, 1) := by decide +kernel
theorem dL_isImage_1 : decode cL_isImage 1 = .ok (.istore_n 2, 1) := by decide +kernel
theorem dL_isImage_2 : decode cL_isImage 2 = .ok (.iload_n 0, 1) := by decide +kernel
theorem dL_isImage_3 : decode cL_isImage 3 = .ok (.invokestatic 31, 3) := by decide +kernel
theorem dL_isImage_6 : decode cL_isImage 6 = .ok (.istore_n 3, 1) := by decide +kernel
theorem dL_isImage_7 : decode cL_isImage 7 = .ok (.iconst 0, 1) := by decide +kernel
theorem dL_isImage_8 : decode cL_isImage 8 = .ok (.istore 4, 2) := by decide +kernel
theorem dL_isImage_10 : decode cL_isImage 10 = .ok (.iload 4, 2) := by decide +kernel
theorem dL_isImage_12 : decode cL_isImage 12 = .ok (.iconst 4, 1) := by decide +kernel
theorem dL_isImage_13 : decode cL_isImage 13 = .ok (.if_icmp .ge 31, 3) := by decide +kernel
theorem dL_isImage_16 : decode cL_isImage 16 = .ok (.iload_n 2, 1) := by decide +kernel
theorem dL_isImage_17 : decode cL_isImage 17 = .ok (.iload_n 1, 1) := by decide +kernel
theorem dL_isImage_18 : decode cL_isImage 18 = .ok (.if_icmp .eq 8, 3) := by decide +kernel
theorem dL_isImage_21 : decode cL_isImage 21 = .ok (.iload_n 3, 1) := by decide +kernel
theorem dL_isImage_22 : decode cL_isImage 22 = .ok (.iload_n 1, 1) := by decide +kernel
theorem dL_isImage_23 : decode cL_isImage 23 = .ok (.if_icmp .ne 5, 3) := by decide +kernel
theorem dL_isImage_26 : decode cL_isImage 26 = .ok (.iconst 1, 1) := by decide +kernel
theorem dL_isImage_27 : decode cL_isImage 27 = .ok (.ireturn, 1) := by decide +kernel
theorem dL_isImage_28 : decode cL_isImage 28 = .ok (.iload_n 2, 1) := by decide +kernel
theorem dL_isImage_29 : decode cL_isImage 29 = .ok (.invokestatic 34, 3) := by decide +kernel
theorem dL_isImage_32 : decode cL_isImage 32 = .ok (.istore_n 2, 1) := by decide +kernel
theorem dL_isImage_33 : decode cL_isImage 33 = .ok (.iload_n 3, 1) := by decide +kernel
theorem dL_isImage_34 : decode cL_isImage 34 = .ok (.invokestatic 34, 3) := by decide +kernel
theorem dL_isImage_37 : decode cL_isImage 37 = .ok (.istore_n 3, 1) := by decide +kernel
theorem dL_isImage_38 : decode cL_isImage 38 = .ok (.iinc 4 1, 3) := by decide +kernel
theorem dL_isImage_41 : decode cL_isImage 41 = .ok (.goto (-31), 3) := by decide +kernel
theorem dL_isImage_44 : decode cL_isImage 44 = .ok (.iconst 0, 1) := by decide +kernel
theorem dL_isImage_45 : decode cL_isImage 45 = .ok (.ireturn, 1) := by decide +kernel
set_option maxRecDepth 20000 in
theorem ggL_needs_L_wide : GoodIn wsL_needs wsL_wide := goodIn_r _ [4] (by decide +kernel) (by decide +kernel)
set_option maxRecDepth 20000 in
theorem gL_needs_L_wide : GoodIn wsL_needs (va_wsS RL 16 yL_wide wsL_wide) := goodIn_app (goodIn_of _ (by decide +kernel)) ggL_needs_L_wide
set_option maxRecDepth 20000 in
theorem ggL_needs_L_high : GoodIn wsL_needs wsL_high := goodIn_r _ [7] (by decide +kernel) (by decide +kernel)
set_option maxRecDepth 20000 in
theorem gL_needs_L_high : GoodIn wsL_needs (va_wsS RL 10 yL_high wsL_high) := goodIn_app (goodIn_of _ (by decide +kernel)) ggL_needs_L_high
set_option maxRecDepth 20000 in
theorem ggL_needs_L_at : GoodIn wsL_needs wsL_at := goodIn_r _ [10] (by decide +kernel) (by decide +kernel)
set_option maxRecDepth 20000 in
theorem gL_needs_L_at : GoodIn wsL_needs (va_wsS RL 23 yL_at wsL_at) := goodIn_app (goodIn_of _ (by decide +kernel)) ggL_needs_L_at
theorem dL_needs_0 : decode cL_needs 0 = .ok (.iconst 0, 1) := by decide +kernel
theorem dL_needs_1 : decode cL_needs 1 = .ok (.istore_n 2, 1) := by decide +kernel
theorem dL_needs_2 : decode cL_needs 2 = .ok (.iconst 0, 1) := by decide +kernel
theorem dL_needs_3 : decode cL_needs 3 = .ok (.istore_n 3, 1) := by decide +kernel
theorem dL_needs_4 : decode cL_needs 4 = .ok (.iload_n 3, 1) := by decide +kernel
theorem dL_needs_5 : decode cL_needs 5 = .ok (.iload_n 0, 1) := by decide +kernel
theorem dL_needs_6 : decode cL_needs 6 = .ok (.invokestatic 16, 3) := by decide +kernel
theorem dL_needs_9 : decode cL_needs 9 = .ok (.if_icmp .ge 46, 3) := by decide +kernel
theorem dL_needs_12 : decode cL_needs 12 = .ok (.iconst 0, 1) := by decide +kernel
theorem dL_needs_13 : decode cL_needs 13 = .ok (.istore 4, 2) := by decide +kernel
theorem dL_needs_15 : decode cL_needs 15 = .ok (.iload 4, 2) := by decide +kernel
theorem dL_needs_17 : decode cL_needs 17 = .ok (.iload_n 0, 1) := by decide +kernel
theorem dL_needs_18 : decode cL_needs 18 = .ok (.invokestatic 10, 3) := by decide +kernel
theorem dL_needs_21 : decode cL_needs 21 = .ok (.if_icmp .ge 28, 3) := by decide +kernel
theorem dL_needs_24 : decode cL_needs 24 = .ok (.iload_n 2, 1) := by decide +kernel
theorem dL_needs_25 : decode cL_needs 25 = .ok (.iload_n 0, 1) := by decide +kernel
theorem dL_needs_26 : decode cL_needs 26 = .ok (.iload_n 3, 1) := by decide +kernel
theorem dL_needs_27 : decode cL_needs 27 = .ok (.iload 4, 2) := by decide +kernel
theorem dL_needs_29 : decode cL_needs 29 = .ok (.invokestatic 23, 3) := by decide +kernel
theorem dL_needs_32 : decode cL_needs 32 = .ok (.iload_n 1, 1) := by decide +kernel
theorem dL_needs_33 : decode cL_needs 33 = .ok (.if_icmp .ne 7, 3) := by decide +kernel
theorem dL_needs_36 : decode cL_needs 36 = .ok (.iconst 1, 1) := by decide +kernel
theorem dL_needs_37 : decode cL_needs 37 = .ok (.goto 4, 3) := by decide +kernel
theorem dL_needs_40 : decode cL_needs 40 = .ok (.iconst 0, 1) := by decide +kernel
theorem dL_needs_41 : decode cL_needs 41 = .ok (.iadd, 1) := by decide +kernel
theorem dL_needs_42 : decode cL_needs 42 = .ok (.istore_n 2, 1) := by decide +kernel
theorem dL_needs_43 : decode cL_needs 43 = .ok (.iinc 4 1, 3) := by decide +kernel
theorem dL_needs_46 : decode cL_needs 46 = .ok (.goto (-31), 3) := by decide +kernel
theorem dL_needs_49 : decode cL_needs 49 = .ok (.iinc 3 1, 3) := by decide +kernel
theorem dL_needs_52 : decode cL_needs 52 = .ok (.goto (-48), 3) := by decide +kernel
theorem dL_needs_55 : decode cL_needs 55 = .ok (.iload_n 2, 1) := by decide +kernel
theorem dL_needs_56 : decode cL_needs 56 = .ok (.ireturn, 1) := by decide +kernel
set_option maxRecDepth 20000 in
theorem ggL_stands_L_wide : GoodIn wsL_stands wsL_wide := goodIn_r _ [4] (by decide +kernel) (by decide +kernel)
set_option maxRecDepth 20000 in
theorem gL_stands_L_wide : GoodIn wsL_stands (va_wsS RL 16 yL_wide wsL_wide) := goodIn_app (goodIn_of _ (by decide +kernel)) ggL_stands_L_wide
set_option maxRecDepth 20000 in
theorem ggL_stands_L_high : GoodIn wsL_stands wsL_high := goodIn_r _ [7] (by decide +kernel) (by decide +kernel)
set_option maxRecDepth 20000 in
theorem gL_stands_L_high : GoodIn wsL_stands (va_wsS RL 10 yL_high wsL_high) := goodIn_app (goodIn_of _ (by decide +kernel)) ggL_stands_L_high
set_option maxRecDepth 20000 in
theorem ggL_stands_L_at : GoodIn wsL_stands wsL_at := goodIn_r _ [10] (by decide +kernel) (by decide +kernel)
set_option maxRecDepth 20000 in
theorem gL_stands_L_at : GoodIn wsL_stands (va_wsS RL 23 yL_at wsL_at) := goodIn_app (goodIn_of _ (by decide +kernel)) ggL_stands_L_at
theorem dL_stands_0 : decode cL_stands 0 = .ok (.iconst 0, 1) := by decide +kernel
theorem dL_stands_1 : decode cL_stands 1 = .ok (.istore_n 2, 1) := by decide +kernel
theorem dL_stands_2 : decode cL_stands 2 = .ok (.iconst 0, 1) := by decide +kernel
theorem dL_stands_3 : decode cL_stands 3 = .ok (.istore_n 3, 1) := by decide +kernel
theorem dL_stands_4 : decode cL_stands 4 = .ok (.iload_n 3, 1) := by decide +kernel
theorem dL_stands_5 : decode cL_stands 5 = .ok (.iload_n 0, 1) := by decide +kernel
theorem dL_stands_6 : decode cL_stands 6 = .ok (.invokestatic 16, 3) := by decide +kernel
theorem dL_stands_9 : decode cL_stands 9 = .ok (.iadd, 1) := by decide +kernel
theorem dL_stands_10 : decode cL_stands 10 = .ok (.iload_n 1, 1) := by decide +kernel
theorem dL_stands_11 : decode cL_stands 11 = .ok (.invokestatic 16, 3) := by decide +kernel
theorem dL_stands_14 : decode cL_stands 14 = .ok (.if_icmp .gt 118, 3) := by decide +kernel
theorem dL_stands_17 : decode cL_stands 17 = .ok (.iconst 0, 1) := by decide +kernel
theorem dL_stands_18 : decode cL_stands 18 = .ok (.istore 4, 2) := by decide +kernel
theorem dL_stands_20 : decode cL_stands 20 = .ok (.iload 4, 2) := by decide +kernel
theorem dL_stands_22 : decode cL_stands 22 = .ok (.iload_n 0, 1) := by decide +kernel
theorem dL_stands_23 : decode cL_stands 23 = .ok (.invokestatic 10, 3) := by decide +kernel
theorem dL_stands_26 : decode cL_stands 26 = .ok (.iadd, 1) := by decide +kernel
theorem dL_stands_27 : decode cL_stands 27 = .ok (.iload_n 1, 1) := by decide +kernel
theorem dL_stands_28 : decode cL_stands 28 = .ok (.invokestatic 10, 3) := by decide +kernel
theorem dL_stands_31 : decode cL_stands 31 = .ok (.if_icmp .gt 95, 3) := by decide +kernel
theorem dL_stands_34 : decode cL_stands 34 = .ok (.iconst 1, 1) := by decide +kernel
theorem dL_stands_35 : decode cL_stands 35 = .ok (.istore 5, 2) := by decide +kernel
theorem dL_stands_37 : decode cL_stands 37 = .ok (.iconst 0, 1) := by decide +kernel
theorem dL_stands_38 : decode cL_stands 38 = .ok (.istore 6, 2) := by decide +kernel
theorem dL_stands_40 : decode cL_stands 40 = .ok (.iload 6, 2) := by decide +kernel
theorem dL_stands_42 : decode cL_stands 42 = .ok (.iload_n 0, 1) := by decide +kernel
theorem dL_stands_43 : decode cL_stands 43 = .ok (.invokestatic 16, 3) := by decide +kernel
theorem dL_stands_46 : decode cL_stands 46 = .ok (.if_icmp .ge 61, 3) := by decide +kernel
theorem dL_stands_49 : decode cL_stands 49 = .ok (.iconst 0, 1) := by decide +kernel
theorem dL_stands_50 : decode cL_stands 50 = .ok (.istore 7, 2) := by decide +kernel
theorem dL_stands_52 : decode cL_stands 52 = .ok (.iload 7, 2) := by decide +kernel
theorem dL_stands_54 : decode cL_stands 54 = .ok (.iload_n 0, 1) := by decide +kernel
theorem dL_stands_55 : decode cL_stands 55 = .ok (.invokestatic 10, 3) := by decide +kernel
theorem dL_stands_58 : decode cL_stands 58 = .ok (.if_icmp .ge 43, 3) := by decide +kernel
theorem dL_stands_61 : decode cL_stands 61 = .ok (.iload 5, 2) := by decide +kernel
theorem dL_stands_63 : decode cL_stands 63 = .ok (.iload_n 0, 1) := by decide +kernel
theorem dL_stands_64 : decode cL_stands 64 = .ok (.iload 6, 2) := by decide +kernel
theorem dL_stands_66 : decode cL_stands 66 = .ok (.iload 7, 2) := by decide +kernel
theorem dL_stands_68 : decode cL_stands 68 = .ok (.invokestatic 23, 3) := by decide +kernel
theorem dL_stands_71 : decode cL_stands 71 = .ok (.iload_n 1, 1) := by decide +kernel
theorem dL_stands_72 : decode cL_stands 72 = .ok (.iload_n 3, 1) := by decide +kernel
theorem dL_stands_73 : decode cL_stands 73 = .ok (.iload 6, 2) := by decide +kernel
theorem dL_stands_75 : decode cL_stands 75 = .ok (.iadd, 1) := by decide +kernel
theorem dL_stands_76 : decode cL_stands 76 = .ok (.iload 4, 2) := by decide +kernel
theorem dL_stands_78 : decode cL_stands 78 = .ok (.iload 7, 2) := by decide +kernel
theorem dL_stands_80 : decode cL_stands 80 = .ok (.iadd, 1) := by decide +kernel
theorem dL_stands_81 : decode cL_stands 81 = .ok (.invokestatic 23, 3) := by decide +kernel
theorem dL_stands_84 : decode cL_stands 84 = .ok (.if_icmp .ne 7, 3) := by decide +kernel
theorem dL_stands_87 : decode cL_stands 87 = .ok (.iconst 1, 1) := by decide +kernel
theorem dL_stands_88 : decode cL_stands 88 = .ok (.goto 4, 3) := by decide +kernel
theorem dL_stands_91 : decode cL_stands 91 = .ok (.iconst 0, 1) := by decide +kernel
theorem dL_stands_92 : decode cL_stands 92 = .ok (.iand, 1) := by decide +kernel
theorem dL_stands_93 : decode cL_stands 93 = .ok (.istore 5, 2) := by decide +kernel
theorem dL_stands_95 : decode cL_stands 95 = .ok (.iinc 7 1, 3) := by decide +kernel
theorem dL_stands_98 : decode cL_stands 98 = .ok (.goto (-46), 3) := by decide +kernel
theorem dL_stands_101 : decode cL_stands 101 = .ok (.iinc 6 1, 3) := by decide +kernel
theorem dL_stands_104 : decode cL_stands 104 = .ok (.goto (-64), 3) := by decide +kernel
theorem dL_stands_107 : decode cL_stands 107 = .ok (.iload_n 2, 1) := by decide +kernel
theorem dL_stands_108 : decode cL_stands 108 = .ok (.iload 5, 2) := by decide +kernel
theorem dL_stands_110 : decode cL_stands 110 = .ok (.ifCond .eq 7, 3) := by decide +kernel
theorem dL_stands_113 : decode cL_stands 113 = .ok (.iconst 1, 1) := by decide +kernel
theorem dL_stands_114 : decode cL_stands 114 = .ok (.goto 4, 3) := by decide +kernel
theorem dL_stands_117 : decode cL_stands 117 = .ok (.iconst 0, 1) := by decide +kernel
theorem dL_stands_118 : decode cL_stands 118 = .ok (.iadd, 1) := by decide +kernel
theorem dL_stands_119 : decode cL_stands 119 = .ok (.istore_n 2, 1) := by decide +kernel
theorem dL_stands_120 : decode cL_stands 120 = .ok (.iinc 4 1, 3) := by decide +kernel
theorem dL_stands_123 : decode cL_stands 123 = .ok (.goto (-103), 3) := by decide +kernel
theorem dL_stands_126 : decode cL_stands 126 = .ok (.iinc 3 1, 3) := by decide +kernel
theorem dL_stands_129 : decode cL_stands 129 = .ok (.goto (-125), 3) := by decide +kernel
theorem dL_stands_132 : decode cL_stands 132 = .ok (.iload_n 2, 1) := by decide +kernel
theorem dL_stands_133 : decode cL_stands 133 = .ok (.ireturn, 1) := by decide +kernel
theorem dL_chain_0 : decode cL_chain 0 = .ok (.iconst 5, 1) := by decide +kernel
theorem dL_chain_1 : decode cL_chain 1 = .ok (.istore_n 2, 1) := by decide +kernel
theorem dL_chain_2 : decode cL_chain 2 = .ok (.iload_n 2, 1) := by decide +kernel
theorem dL_chain_3 : decode cL_chain 3 = .ok (.iconst 1, 1) := by decide +kernel
theorem dL_chain_4 : decode cL_chain 4 = .ok (.if_icmp .le 270, 3) := by decide +kernel
theorem dL_chain_7 : decode cL_chain 7 = .ok (.iconst 1, 1) := by decide +kernel
theorem dL_chain_8 : decode cL_chain 8 = .ok (.istore_n 3, 1) := by decide +kernel
theorem dL_chain_9 : decode cL_chain 9 = .ok (.iconst 0, 1) := by decide +kernel
theorem dL_chain_10 : decode cL_chain 10 = .ok (.istore 4, 2) := by decide +kernel
theorem dL_chain_12 : decode cL_chain 12 = .ok (.iload 4, 2) := by decide +kernel
theorem dL_chain_14 : decode cL_chain 14 = .ok (.iload_n 2, 1) := by decide +kernel
theorem dL_chain_15 : decode cL_chain 15 = .ok (.if_icmp .ge 13, 3) := by decide +kernel
theorem dL_chain_18 : decode cL_chain 18 = .ok (.iload_n 3, 1) := by decide +kernel
theorem dL_chain_19 : decode cL_chain 19 = .ok (.iconst 5, 1) := by decide +kernel
theorem dL_chain_20 : decode cL_chain 20 = .ok (.imul, 1) := by decide +kernel
theorem dL_chain_21 : decode cL_chain 21 = .ok (.istore_n 3, 1) := by decide +kernel
theorem dL_chain_22 : decode cL_chain 22 = .ok (.iinc 4 1, 3) := by decide +kernel
theorem dL_chain_25 : decode cL_chain 25 = .ok (.goto (-13), 3) := by decide +kernel
theorem dL_chain_28 : decode cL_chain 28 = .ok (.iconst 0, 1) := by decide +kernel
theorem dL_chain_29 : decode cL_chain 29 = .ok (.istore 4, 2) := by decide +kernel
theorem dL_chain_31 : decode cL_chain 31 = .ok (.iload 4, 2) := by decide +kernel
theorem dL_chain_33 : decode cL_chain 33 = .ok (.iload_n 3, 1) := by decide +kernel
theorem dL_chain_34 : decode cL_chain 34 = .ok (.if_icmp .ge 234, 3) := by decide +kernel
theorem dL_chain_37 : decode cL_chain 37 = .ok (.iload 4, 2) := by decide +kernel
theorem dL_chain_39 : decode cL_chain 39 = .ok (.istore 5, 2) := by decide +kernel
theorem dL_chain_41 : decode cL_chain 41 = .ok (.iconst 0, 1) := by decide +kernel
theorem dL_chain_42 : decode cL_chain 42 = .ok (.istore 6, 2) := by decide +kernel
theorem dL_chain_44 : decode cL_chain 44 = .ok (.iconst 0, 1) := by decide +kernel
theorem dL_chain_45 : decode cL_chain 45 = .ok (.istore 7, 2) := by decide +kernel
theorem dL_chain_47 : decode cL_chain 47 = .ok (.iconst 1, 1) := by decide +kernel
theorem dL_chain_48 : decode cL_chain 48 = .ok (.istore 8, 2) := by decide +kernel
theorem dL_chain_50 : decode cL_chain 50 = .ok (.iload_n 2, 1) := by decide +kernel
theorem dL_chain_51 : decode cL_chain 51 = .ok (.iconst 1, 1) := by decide +kernel
theorem dL_chain_52 : decode cL_chain 52 = .ok (.isub, 1) := by decide +kernel
theorem dL_chain_53 : decode cL_chain 53 = .ok (.istore 9, 2) := by decide +kernel
theorem dL_chain_55 : decode cL_chain 55 = .ok (.iload 9, 2) := by decide +kernel
theorem dL_chain_57 : decode cL_chain 57 = .ok (.ifCond .lt 88, 3) := by decide +kernel
theorem dL_chain_60 : decode cL_chain 60 = .ok (.iload 5, 2) := by decide +kernel
theorem dL_chain_62 : decode cL_chain 62 = .ok (.iconst 5, 1) := by decide +kernel
theorem dL_chain_63 : decode cL_chain 63 = .ok (.irem, 1) := by decide +kernel
theorem dL_chain_64 : decode cL_chain 64 = .ok (.istore 10, 2) := by decide +kernel
theorem dL_chain_66 : decode cL_chain 66 = .ok (.iload 5, 2) := by decide +kernel
theorem dL_chain_68 : decode cL_chain 68 = .ok (.iconst 5, 1) := by decide +kernel
theorem dL_chain_69 : decode cL_chain 69 = .ok (.idiv, 1) := by decide +kernel
theorem dL_chain_70 : decode cL_chain 70 = .ok (.istore 5, 2) := by decide +kernel
theorem dL_chain_72 : decode cL_chain 72 = .ok (.iload 8, 2) := by decide +kernel
theorem dL_chain_74 : decode cL_chain 74 = .ok (.iload 7, 2) := by decide +kernel
theorem dL_chain_76 : decode cL_chain 76 = .ok (.iload 10, 2) := by decide +kernel
theorem dL_chain_78 : decode cL_chain 78 = .ok (.ishr, 1) := by decide +kernel
theorem dL_chain_79 : decode cL_chain 79 = .ok (.iconst 1, 1) := by decide +kernel
theorem dL_chain_80 : decode cL_chain 80 = .ok (.iand, 1) := by decide +kernel
theorem dL_chain_81 : decode cL_chain 81 = .ok (.ifCond .ne 33, 3) := by decide +kernel
theorem dL_chain_84 : decode cL_chain 84 = .ok (.aload_n 0, 1) := by decide +kernel
theorem dL_chain_85 : decode cL_chain 85 = .ok (.iconst 2, 1) := by decide +kernel
theorem dL_chain_86 : decode cL_chain 86 = .ok (.iload 10, 2) := by decide +kernel
theorem dL_chain_88 : decode cL_chain 88 = .ok (.imul, 1) := by decide +kernel
theorem dL_chain_89 : decode cL_chain 89 = .ok (.iaload, 1) := by decide +kernel
theorem dL_chain_90 : decode cL_chain 90 = .ok (.ifCond .lt 24, 3) := by decide +kernel
theorem dL_chain_93 : decode cL_chain 93 = .ok (.aload_n 1, 1) := by decide +kernel
theorem dL_chain_94 : decode cL_chain 94 = .ok (.bipush 8, 2) := by decide +kernel
theorem dL_chain_96 : decode cL_chain 96 = .ok (.iload 10, 2) := by decide +kernel
theorem dL_chain_98 : decode cL_chain 98 = .ok (.imul, 1) := by decide +kernel
theorem dL_chain_99 : decode cL_chain 99 = .ok (.aload_n 0, 1) := by decide +kernel
theorem dL_chain_100 : decode cL_chain 100 = .ok (.iconst 2, 1) := by decide +kernel
theorem dL_chain_101 : decode cL_chain 101 = .ok (.iload 10, 2) := by decide +kernel
theorem dL_chain_103 : decode cL_chain 103 = .ok (.imul, 1) := by decide +kernel
theorem dL_chain_104 : decode cL_chain 104 = .ok (.iaload, 1) := by decide +kernel
theorem dL_chain_105 : decode cL_chain 105 = .ok (.iadd, 1) := by decide +kernel
theorem dL_chain_106 : decode cL_chain 106 = .ok (.iaload, 1) := by decide +kernel
theorem dL_chain_107 : decode cL_chain 107 = .ok (.ifCond .le 7, 3) := by decide +kernel
theorem dL_chain_110 : decode cL_chain 110 = .ok (.iconst 1, 1) := by decide +kernel
theorem dL_chain_111 : decode cL_chain 111 = .ok (.goto 4, 3) := by decide +kernel
theorem dL_chain_114 : decode cL_chain 114 = .ok (.iconst 0, 1) := by decide +kernel
theorem dL_chain_115 : decode cL_chain 115 = .ok (.iand, 1) := by decide +kernel
theorem dL_chain_116 : decode cL_chain 116 = .ok (.istore 8, 2) := by decide +kernel
theorem dL_chain_118 : decode cL_chain 118 = .ok (.iload 7, 2) := by decide +kernel
theorem dL_chain_120 : decode cL_chain 120 = .ok (.iconst 1, 1) := by decide +kernel
theorem dL_chain_121 : decode cL_chain 121 = .ok (.iload 10, 2) := by decide +kernel
theorem dL_chain_123 : decode cL_chain 123 = .ok (.ishl, 1) := by decide +kernel
theorem dL_chain_124 : decode cL_chain 124 = .ok (.ior, 1) := by decide +kernel
theorem dL_chain_125 : decode cL_chain 125 = .ok (.istore 7, 2) := by decide +kernel
theorem dL_chain_127 : decode cL_chain 127 = .ok (.iload 6, 2) := by decide +kernel
theorem dL_chain_129 : decode cL_chain 129 = .ok (.bipush 8, 2) := by decide +kernel
theorem dL_chain_131 : decode cL_chain 131 = .ok (.imul, 1) := by decide +kernel
theorem dL_chain_132 : decode cL_chain 132 = .ok (.iload 10, 2) := by decide +kernel
theorem dL_chain_134 : decode cL_chain 134 = .ok (.iadd, 1) := by decide +kernel
theorem dL_chain_135 : decode cL_chain 135 = .ok (.iconst 1, 1) := by decide +kernel
theorem dL_chain_136 : decode cL_chain 136 = .ok (.iadd, 1) := by decide +kernel
theorem dL_chain_137 : decode cL_chain 137 = .ok (.istore 6, 2) := by decide +kernel
theorem dL_chain_139 : decode cL_chain 139 = .ok (.iinc 9 (-1), 3) := by decide +kernel
theorem dL_chain_142 : decode cL_chain 142 = .ok (.goto (-87), 3) := by decide +kernel
theorem dL_chain_145 : decode cL_chain 145 = .ok (.iload 8, 2) := by decide +kernel
theorem dL_chain_147 : decode cL_chain 147 = .ok (.ifCond .ne 6, 3) := by decide +kernel
theorem dL_chain_150 : decode cL_chain 150 = .ok (.goto 112, 3) := by decide +kernel
theorem dL_chain_153 : decode cL_chain 153 = .ok (.iload 6, 2) := by decide +kernel
theorem dL_chain_155 : decode cL_chain 155 = .ok (.bipush 7, 2) := by decide +kernel
theorem dL_chain_157 : decode cL_chain 157 = .ok (.iand, 1) := by decide +kernel
theorem dL_chain_158 : decode cL_chain 158 = .ok (.iconst 1, 1) := by decide +kernel
theorem dL_chain_159 : decode cL_chain 159 = .ok (.isub, 1) := by decide +kernel
theorem dL_chain_160 : decode cL_chain 160 = .ok (.istore 9, 2) := by decide +kernel
theorem dL_chain_162 : decode cL_chain 162 = .ok (.iconst 0, 1) := by decide +kernel
theorem dL_chain_163 : decode cL_chain 163 = .ok (.istore 10, 2) := by decide +kernel
theorem dL_chain_165 : decode cL_chain 165 = .ok (.iload 10, 2) := by decide +kernel
theorem dL_chain_167 : decode cL_chain 167 = .ok (.iload_n 2, 1) := by decide +kernel
theorem dL_chain_168 : decode cL_chain 168 = .ok (.if_icmp .ge 86, 3) := by decide +kernel
theorem dL_chain_171 : decode cL_chain 171 = .ok (.iload 6, 2) := by decide +kernel
theorem dL_chain_173 : decode cL_chain 173 = .ok (.iconst 3, 1) := by decide +kernel
theorem dL_chain_174 : decode cL_chain 174 = .ok (.iload 10, 2) := by decide +kernel
theorem dL_chain_176 : decode cL_chain 176 = .ok (.imul, 1) := by decide +kernel
theorem dL_chain_177 : decode cL_chain 177 = .ok (.ishr, 1) := by decide +kernel
theorem dL_chain_178 : decode cL_chain 178 = .ok (.bipush 7, 2) := by decide +kernel
theorem dL_chain_180 : decode cL_chain 180 = .ok (.iand, 1) := by decide +kernel
theorem dL_chain_181 : decode cL_chain 181 = .ok (.iconst 1, 1) := by decide +kernel
theorem dL_chain_182 : decode cL_chain 182 = .ok (.isub, 1) := by decide +kernel
theorem dL_chain_183 : decode cL_chain 183 = .ok (.istore 11, 2) := by decide +kernel
theorem dL_chain_185 : decode cL_chain 185 = .ok (.iload 10, 2) := by decide +kernel
theorem dL_chain_187 : decode cL_chain 187 = .ok (.iconst 1, 1) := by decide +kernel
theorem dL_chain_188 : decode cL_chain 188 = .ok (.iadd, 1) := by decide +kernel
theorem dL_chain_189 : decode cL_chain 189 = .ok (.iload_n 2, 1) := by decide +kernel
theorem dL_chain_190 : decode cL_chain 190 = .ok (.if_icmp .ne 8, 3) := by decide +kernel
theorem dL_chain_193 : decode cL_chain 193 = .ok (.iload 9, 2) := by decide +kernel
theorem dL_chain_195 : decode cL_chain 195 = .ok (.goto 17, 3) := by decide +kernel
theorem dL_chain_198 : decode cL_chain 198 = .ok (.iload 6, 2) := by decide +kernel
theorem dL_chain_200 : decode cL_chain 200 = .ok (.iconst 3, 1) := by decide +kernel
theorem dL_chain_201 : decode cL_chain 201 = .ok (.iload 10, 2) := by decide +kernel
theorem dL_chain_203 : decode cL_chain 203 = .ok (.imul, 1) := by decide +kernel
theorem dL_chain_204 : decode cL_chain 204 = .ok (.iconst 3, 1) := by decide +kernel
theorem dL_chain_205 : decode cL_chain 205 = .ok (.iadd, 1) := by decide +kernel
theorem dL_chain_206 : decode cL_chain 206 = .ok (.ishr, 1) := by decide +kernel
theorem dL_chain_207 : decode cL_chain 207 = .ok (.bipush 7, 2) := by decide +kernel
theorem dL_chain_209 : decode cL_chain 209 = .ok (.iand, 1) := by decide +kernel
theorem dL_chain_210 : decode cL_chain 210 = .ok (.iconst 1, 1) := by decide +kernel
theorem dL_chain_211 : decode cL_chain 211 = .ok (.isub, 1) := by decide +kernel
theorem dL_chain_212 : decode cL_chain 212 = .ok (.istore 12, 2) := by decide +kernel
theorem dL_chain_214 : decode cL_chain 214 = .ok (.iload 8, 2) := by decide +kernel
theorem dL_chain_216 : decode cL_chain 216 = .ok (.iload 11, 2) := by decide +kernel
theorem dL_chain_218 : decode cL_chain 218 = .ok (.iload 9, 2) := by decide +kernel
theorem dL_chain_220 : decode cL_chain 220 = .ok (.if_icmp .lt 24, 3) := by decide +kernel
theorem dL_chain_223 : decode cL_chain 223 = .ok (.aload_n 0, 1) := by decide +kernel
theorem dL_chain_224 : decode cL_chain 224 = .ok (.iconst 2, 1) := by decide +kernel
theorem dL_chain_225 : decode cL_chain 225 = .ok (.iload 11, 2) := by decide +kernel
theorem dL_chain_227 : decode cL_chain 227 = .ok (.imul, 1) := by decide +kernel
theorem dL_chain_228 : decode cL_chain 228 = .ok (.iconst 1, 1) := by decide +kernel
theorem dL_chain_229 : decode cL_chain 229 = .ok (.iadd, 1) := by decide +kernel
theorem dL_chain_230 : decode cL_chain 230 = .ok (.iaload, 1) := by decide +kernel
theorem dL_chain_231 : decode cL_chain 231 = .ok (.aload_n 0, 1) := by decide +kernel
theorem dL_chain_232 : decode cL_chain 232 = .ok (.iconst 2, 1) := by decide +kernel
theorem dL_chain_233 : decode cL_chain 233 = .ok (.iload 12, 2) := by decide +kernel
theorem dL_chain_235 : decode cL_chain 235 = .ok (.imul, 1) := by decide +kernel
theorem dL_chain_236 : decode cL_chain 236 = .ok (.iaload, 1) := by decide +kernel
theorem dL_chain_237 : decode cL_chain 237 = .ok (.if_icmp .ne 7, 3) := by decide +kernel
theorem dL_chain_240 : decode cL_chain 240 = .ok (.iconst 1, 1) := by decide +kernel
theorem dL_chain_241 : decode cL_chain 241 = .ok (.goto 4, 3) := by decide +kernel
theorem dL_chain_244 : decode cL_chain 244 = .ok (.iconst 0, 1) := by decide +kernel
theorem dL_chain_245 : decode cL_chain 245 = .ok (.iand, 1) := by decide +kernel
theorem dL_chain_246 : decode cL_chain 246 = .ok (.istore 8, 2) := by decide +kernel
theorem dL_chain_248 : decode cL_chain 248 = .ok (.iinc 10 1, 3) := by decide +kernel
theorem dL_chain_251 : decode cL_chain 251 = .ok (.goto (-86), 3) := by decide +kernel
theorem dL_chain_254 : decode cL_chain 254 = .ok (.iload 8, 2) := by decide +kernel
theorem dL_chain_256 : decode cL_chain 256 = .ok (.ifCond .eq 6, 3) := by decide +kernel
theorem dL_chain_259 : decode cL_chain 259 = .ok (.iload 6, 2) := by decide +kernel
theorem dL_chain_261 : decode cL_chain 261 = .ok (.ireturn, 1) := by decide +kernel
theorem dL_chain_262 : decode cL_chain 262 = .ok (.iinc 4 1, 3) := by decide +kernel
theorem dL_chain_265 : decode cL_chain 265 = .ok (.goto (-234), 3) := by decide +kernel
theorem dL_chain_268 : decode cL_chain 268 = .ok (.iinc 2 (-1), 3) := by decide +kernel
theorem dL_chain_271 : decode cL_chain 271 = .ok (.goto (-269), 3) := by decide +kernel
theorem dL_chain_274 : decode cL_chain 274 = .ok (.iconst 0, 1) := by decide +kernel
theorem dL_chain_275 : decode cL_chain 275 = .ok (.ireturn, 1) := by decide +kernel
abbrev vwCl : List vw_C := [(RX0, TX0, 6), (RX1, TX1, 3), (RX2, TX2, 15)]
