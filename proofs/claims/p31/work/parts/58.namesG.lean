set_option maxRecDepth 20000 in
theorem ggL_refused_X2_weave : GoodIn wsL_refused wsX2_weave := goodIn_ca (goodIn_ca (goodIn_r _ [8, 9, 10, 11, 12, 13, 14, 15, 16, 17, 18, 7, 19, 20, 21, 22, 23, 24, 25, 26, 27, 28, 29, 30, 31, 32, 33, 34, 35, 36, 37, 38, 39, 40, 41, 42, 43, 44, 45, 46, 47, 48, 49, 50, 51, 52, 53, 54, 55, 56, 57, 58, 59, 60, 136, 137, 138, 139, 140, 141, 142, 143, 144, 145, 146, 147, 148, 149, 150, 151, 152, 153] (by decide +kernel) (by decide +kernel)) (goodIn_sub (fun _ h => List.mem_cons_of_mem _ (List.mem_append_left _ (List.mem_append_left _ (List.mem_append_right _ h)))) (by decide +kernel))) (goodIn_sub (fun _ h => List.mem_cons_of_mem _ (List.mem_append_left _ (List.mem_append_right _ h))) (by decide +kernel))
set_option maxRecDepth 20000 in
theorem gL_refused_X2_weave : GoodIn wsL_refused (wsV RL 37 RX2 yX2_weave wsX2_weave) := goodIn_app (goodIn_of _ (by decide +kernel)) ggL_refused_X2_weave
set_option maxRecDepth 20000 in
theorem ggL_refused_X2_lay : GoodIn wsL_refused wsX2_lay := goodIn_ca (goodIn_ca (goodIn_ca (goodIn_r _ [64, 9, 10, 12, 65, 66, 17, 18, 7, 19, 20, 21, 67, 68, 69, 70, 71, 72, 73, 74, 136, 137, 138, 139, 140, 141, 142, 143, 144, 145, 146, 147, 148, 149, 150] (by decide +kernel) (by decide +kernel)) (goodIn_sub (fun _ h => List.mem_cons_of_mem _ (List.mem_append_left _ (List.mem_append_left _ (List.mem_append_right _ h)))) (by decide +kernel))) (goodIn_sub (fun _ h => List.mem_cons_of_mem _ (List.mem_append_left _ (List.mem_append_right _ h))) (by decide +kernel))) (goodIn_sub (fun _ h => List.mem_cons_of_mem _ (List.mem_append_right _ h)) (by decide +kernel))
set_option maxRecDepth 20000 in
theorem gL_refused_X2_lay : GoodIn wsL_refused (wsV RL 42 RX2 yX2_lay wsX2_lay) := goodIn_app (goodIn_of _ (by decide +kernel)) ggL_refused_X2_lay
set_option maxRecDepth 20000 in
theorem ggL_refused_X2_apart : GoodIn wsL_refused wsX2_apart := goodIn_ca (goodIn_ca (goodIn_r _ [78, 9, 10, 11, 13, 12, 14, 66, 79, 80, 81, 7, 82, 20, 21, 31, 32, 33, 34, 35, 36, 37, 38, 39, 40, 41, 42, 43, 44, 45, 136, 137, 138, 139, 140, 141, 142, 143, 144, 145, 146, 147, 148, 149, 150, 151, 152, 153] (by decide +kernel) (by decide +kernel)) (goodIn_sub (fun _ h => List.mem_cons_of_mem _ (List.mem_append_left _ (List.mem_append_left _ (List.mem_append_right _ h)))) (by decide +kernel))) (goodIn_sub (fun _ h => List.mem_cons_of_mem _ (List.mem_append_left _ (List.mem_append_right _ h))) (by decide +kernel))
set_option maxRecDepth 20000 in
theorem gL_refused_X2_apart : GoodIn wsL_refused (wsV RL 45 RX2 yX2_apart wsX2_apart) := goodIn_app (goodIn_of _ (by decide +kernel)) ggL_refused_X2_apart
set_option maxRecDepth 20000 in
theorem ggL_refused_X2_owner : GoodIn wsL_refused wsX2_owner := goodIn_ca (goodIn_r _ [86, 14, 79, 80, 81, 7, 82, 20, 21, 31, 32, 33, 34, 13, 136, 137, 138, 139, 140, 141, 142, 143, 144, 145, 146, 147, 148, 149, 150] (by decide +kernel) (by decide +kernel)) (goodIn_sub (fun _ h => List.mem_cons_of_mem _ (List.mem_append_left _ (List.mem_append_right _ h))) (by decide +kernel))
set_option maxRecDepth 20000 in
theorem gL_refused_X2_owner : GoodIn wsL_refused (wsV RL 48 RX2 yX2_owner wsX2_owner) := goodIn_app (goodIn_of _ (by decide +kernel)) ggL_refused_X2_owner
set_option maxRecDepth 20000 in
theorem ggL_refused_X2_chainAt : GoodIn wsL_refused wsX2_chainAt := goodIn_ca (goodIn_r _ [90, 20, 21, 91, 12, 92, 93, 94, 95, 96, 97, 98, 99, 100, 101, 102, 103, 104, 105, 106, 107, 108, 109, 110, 111, 112, 113, 114, 115, 116, 117, 118, 119, 120, 121, 122, 123, 124, 136, 137, 138, 139, 140, 141, 142, 143, 144, 145, 146, 147, 148, 149, 150, 154, 155, 156, 157, 158, 159] (by decide +kernel) (by decide +kernel)) (goodIn_sub (fun _ h => List.mem_cons_of_mem _ (List.mem_append_left _ (List.mem_append_right _ h))) (by decide +kernel))
set_option maxRecDepth 20000 in
theorem gL_refused_X2_chainAt : GoodIn wsL_refused (wsV RL 51 RX2 yX2_chainAt wsX2_chainAt) := goodIn_app (goodIn_of _ (by decide +kernel)) ggL_refused_X2_chainAt
set_option maxRecDepth 20000 in
theorem ggL_refused_X2_bead : GoodIn wsL_refused wsX2_bead := goodIn_ca (goodIn_r _ [128, 20, 21, 129, 130, 36, 131, 132, 44, 45, 67, 68, 7, 69, 58, 59, 60, 39, 133, 134, 135, 136, 137, 138, 139, 140, 141, 142, 143, 144, 145, 146, 147, 148, 149, 150, 151, 152, 153] (by decide +kernel) (by decide +kernel)) (goodIn_sub (fun _ h => List.mem_cons_of_mem _ (List.mem_append_left _ (List.mem_append_right _ h))) (by decide +kernel))
set_option maxRecDepth 20000 in
theorem gL_refused_X2_bead : GoodIn wsL_refused (wsV RL 54 RX2 yX2_bead wsX2_bead) := goodIn_app (goodIn_of _ (by decide +kernel)) ggL_refused_X2_bead
theorem dL_refused_0 : decode cL_refused 0 = .ok (.iload_n 1, 1) := by decide +kernel
theorem dL_refused_1 : decode cL_refused 1 = .ok (.ifCond .ne 12, 3) := by decide +kernel
theorem dL_refused_4 : decode cL_refused 4 = .ok (.aload_n 0, 1) := by decide +kernel
theorem dL_refused_5 : decode cL_refused 5 = .ok (.iload_n 2, 1) := by decide +kernel
theorem dL_refused_6 : decode cL_refused 6 = .ok (.iload_n 3, 1) := by decide +kernel
theorem dL_refused_7 : decode cL_refused 7 = .ok (.invokevirtual 37, 3) := by decide +kernel
theorem dL_refused_10 : decode cL_refused 10 = .ok (.goto 66, 3) := by decide +kernel
theorem dL_refused_13 : decode cL_refused 13 = .ok (.iload_n 1, 1) := by decide +kernel
theorem dL_refused_14 : decode cL_refused 14 = .ok (.iconst 1, 1) := by decide +kernel
theorem dL_refused_15 : decode cL_refused 15 = .ok (.if_icmp .ne 14, 3) := by decide +kernel
theorem dL_refused_18 : decode cL_refused 18 = .ok (.aload_n 0, 1) := by decide +kernel
theorem dL_refused_19 : decode cL_refused 19 = .ok (.iload_n 2, 1) := by decide +kernel
theorem dL_refused_20 : decode cL_refused 20 = .ok (.iload_n 3, 1) := by decide +kernel
theorem dL_refused_21 : decode cL_refused 21 = .ok (.iload 4, 2) := by decide +kernel
theorem dL_refused_23 : decode cL_refused 23 = .ok (.invokevirtual 42, 3) := by decide +kernel
theorem dL_refused_26 : decode cL_refused 26 = .ok (.goto 50, 3) := by decide +kernel
theorem dL_refused_29 : decode cL_refused 29 = .ok (.iload_n 1, 1) := by decide +kernel
theorem dL_refused_30 : decode cL_refused 30 = .ok (.iconst 2, 1) := by decide +kernel
theorem dL_refused_31 : decode cL_refused 31 = .ok (.if_icmp .ne 11, 3) := by decide +kernel
theorem dL_refused_34 : decode cL_refused 34 = .ok (.aload_n 0, 1) := by decide +kernel
theorem dL_refused_35 : decode cL_refused 35 = .ok (.iload_n 2, 1) := by decide +kernel
theorem dL_refused_36 : decode cL_refused 36 = .ok (.invokevirtual 45, 3) := by decide +kernel
theorem dL_refused_39 : decode cL_refused 39 = .ok (.goto 37, 3) := by decide +kernel
theorem dL_refused_42 : decode cL_refused 42 = .ok (.iload_n 1, 1) := by decide +kernel
theorem dL_refused_43 : decode cL_refused 43 = .ok (.iconst 3, 1) := by decide +kernel
theorem dL_refused_44 : decode cL_refused 44 = .ok (.if_icmp .ne 11, 3) := by decide +kernel
theorem dL_refused_47 : decode cL_refused 47 = .ok (.aload_n 0, 1) := by decide +kernel
theorem dL_refused_48 : decode cL_refused 48 = .ok (.iload_n 2, 1) := by decide +kernel
theorem dL_refused_49 : decode cL_refused 49 = .ok (.invokevirtual 48, 3) := by decide +kernel
theorem dL_refused_52 : decode cL_refused 52 = .ok (.goto 24, 3) := by decide +kernel
theorem dL_refused_55 : decode cL_refused 55 = .ok (.iload_n 1, 1) := by decide +kernel
theorem dL_refused_56 : decode cL_refused 56 = .ok (.iconst 4, 1) := by decide +kernel
theorem dL_refused_57 : decode cL_refused 57 = .ok (.if_icmp .ne 11, 3) := by decide +kernel
theorem dL_refused_60 : decode cL_refused 60 = .ok (.aload_n 0, 1) := by decide +kernel
theorem dL_refused_61 : decode cL_refused 61 = .ok (.iload_n 2, 1) := by decide +kernel
theorem dL_refused_62 : decode cL_refused 62 = .ok (.invokevirtual 51, 3) := by decide +kernel
theorem dL_refused_65 : decode cL_refused 65 = .ok (.goto 11, 3) := by decide +kernel
theorem dL_refused_68 : decode cL_refused 68 = .ok (.aload_n 0, 1) := by decide +kernel
theorem dL_refused_69 : decode cL_refused 69 = .ok (.iload_n 2, 1) := by decide +kernel
theorem dL_refused_70 : decode cL_refused 70 = .ok (.iload_n 3, 1) := by decide +kernel
theorem dL_refused_71 : decode cL_refused 71 = .ok (.iload 4, 2) := by decide +kernel
theorem dL_refused_73 : decode cL_refused 73 = .ok (.invokevirtual 54, 3) := by decide +kernel
theorem dL_refused_76 : decode cL_refused 76 = .ok (.iconst 0, 1) := by decide +kernel
theorem dL_refused_77 : decode cL_refused 77 = .ok (.imul, 1) := by decide +kernel
theorem dL_refused_78 : decode cL_refused 78 = .ok (.ireturn, 1) := by decide +kernel
theorem dL_refused_79 : decode cL_refused 79 = .ok (.astore 5, 2) := by decide +kernel
theorem dL_refused_81 : decode cL_refused 81 = .ok (.iconst 1, 1) := by decide +kernel
theorem dL_refused_82 : decode cL_refused 82 = .ok (.ireturn, 1) := by decide +kernel
theorem dL_refused_83 : decode cL_refused 83 = .ok (.astore 5, 2) := by decide +kernel
theorem dL_refused_85 : decode cL_refused 85 = .ok (.iconst 2, 1) := by decide +kernel
theorem dL_refused_86 : decode cL_refused 86 = .ok (.ireturn, 1) := by decide +kernel
theorem dL_refused_87 : decode cL_refused 87 = .ok (.astore 5, 2) := by decide +kernel
theorem dL_refused_89 : decode cL_refused 89 = .ok (.iconst 3, 1) := by decide +kernel
theorem dL_refused_90 : decode cL_refused 90 = .ok (.ireturn, 1) := by decide +kernel
set_option maxRecDepth 20000 in
theorem ggL_grids_L_turned : GoodIn wsL_grids wsL_turned := goodIn_r _ [4, 5, 6, 3, 7, 8, 9, 10, 11, 12, 13, 14, 15, 16, 17, 18, 19] (by decide +kernel) (by decide +kernel)
set_option maxRecDepth 20000 in
theorem gL_grids_L_turned : GoodIn wsL_grids (va_wsS RL 34 yL_turned wsL_turned) := goodIn_app (goodIn_of _ (by decide +kernel)) ggL_grids_L_turned
set_option maxRecDepth 20000 in
theorem ggL_grids_L_exchanged : GoodIn wsL_grids wsL_exchanged := goodIn_r _ [22, 8, 9, 3, 10, 5, 6, 7, 11, 12, 13, 14, 15, 16, 17, 18, 19] (by decide +kernel) (by decide +kernel)
set_option maxRecDepth 20000 in
theorem gL_grids_L_exchanged : GoodIn wsL_grids (va_wsS RL 31 yL_exchanged wsL_exchanged) := goodIn_app (goodIn_of _ (by decide +kernel)) ggL_grids_L_exchanged
set_option maxRecDepth 20000 in
theorem ggL_grids_L_stands : GoodIn wsL_grids wsL_stands := goodIn_r _ [25, 8, 9, 3, 10, 5, 6, 7, 14, 15, 16] (by decide +kernel) (by decide +kernel)
set_option maxRecDepth 20000 in
theorem gL_grids_L_stands : GoodIn wsL_grids (va_wsS RL 63 yL_stands wsL_stands) := goodIn_app (goodIn_of _ (by decide +kernel)) ggL_grids_L_stands
set_option maxRecDepth 20000 in
theorem ggL_grids_X2_stands : GoodIn wsL_grids wsX2_stands := goodIn_ca (goodIn_r _ [30, 31, 32, 33, 34, 35, 36, 37, 38, 29, 39, 40, 41, 42, 43, 44, 45, 46, 47, 48, 49, 50, 51, 52, 53, 54, 55, 105, 106, 107, 108, 109, 110, 111, 112, 113, 114, 115, 116, 117, 118, 119, 120, 121, 122] (by decide +kernel) (by decide +kernel)) (goodIn_sub (fun _ h => List.mem_cons_of_mem _ (List.mem_append_right _ h)) (by decide +kernel))
set_option maxRecDepth 20000 in
theorem gL_grids_X2_stands : GoodIn wsL_grids (wsV RL 66 RX2 yX2_stands wsX2_stands) := goodIn_app (goodIn_of _ (by decide +kernel)) ggL_grids_X2_stands
set_option maxRecDepth 20000 in
theorem ggL_grids_X2_symmetries : GoodIn wsL_grids wsX2_symmetries := goodIn_ca (goodIn_r _ [59, 34, 36, 37, 38, 29, 39, 31, 32, 40, 60, 42, 61, 62, 46, 45, 63, 64, 65, 66, 51, 52, 53, 54, 55, 105, 106, 107, 108, 109, 110, 111, 112, 113, 114, 115, 116, 117, 118, 119, 120, 121, 122] (by decide +kernel) (by decide +kernel)) (goodIn_sub (fun _ h => List.mem_cons_of_mem _ (List.mem_append_right _ h)) (by decide +kernel))
set_option maxRecDepth 20000 in
theorem gL_grids_X2_symmetries : GoodIn wsL_grids (wsV RL 67 RX2 yX2_symmetries wsX2_symmetries) := goodIn_app (goodIn_of _ (by decide +kernel)) ggL_grids_X2_symmetries
set_option maxRecDepth 20000 in
theorem ggL_grids_X2_origin : GoodIn wsL_grids wsX2_origin := goodIn_ca (goodIn_r _ [70, 36, 37, 38, 29, 39, 31, 32, 40, 71, 72, 73, 74, 34, 60, 42, 61, 62, 46, 45, 63, 64, 65, 66, 51, 52, 53, 54, 55, 105, 106, 107, 108, 109, 110, 111, 112, 113, 114, 115, 116, 117, 118, 119, 120, 121, 122] (by decide +kernel) (by decide +kernel)) (goodIn_sub (fun _ h => List.mem_cons_of_mem _ (List.mem_append_right _ h)) (by decide +kernel))
set_option maxRecDepth 20000 in
theorem gL_grids_X2_origin : GoodIn wsL_grids (wsV RL 70 RX2 yX2_origin wsX2_origin) := goodIn_app (goodIn_of _ (by decide +kernel)) ggL_grids_X2_origin
set_option maxRecDepth 20000 in
theorem ggL_grids_X2_needs : GoodIn wsL_grids wsX2_needs := goodIn_ca (goodIn_r _ [78, 34, 36, 37, 38, 29, 39, 31, 32, 40, 79, 80, 81, 82, 42, 83, 84, 55, 85, 86, 87, 88, 46, 45, 105, 106, 107, 108, 109, 110, 111, 112, 113, 114, 115, 116, 117, 118, 119, 120, 121, 122] (by decide +kernel) (by decide +kernel)) (goodIn_sub (fun _ h => List.mem_cons_of_mem _ (List.mem_append_right _ h)) (by decide +kernel))
set_option maxRecDepth 20000 in
theorem gL_grids_X2_needs : GoodIn wsL_grids (wsV RL 73 RX2 yX2_needs wsX2_needs) := goodIn_app (goodIn_of _ (by decide +kernel)) ggL_grids_X2_needs
set_option maxRecDepth 20000 in
theorem ggL_grids_L_needs : GoodIn wsL_grids wsL_needs := goodIn_r _ [91, 8, 9, 3, 10, 5, 6, 7, 14, 15, 16] (by decide +kernel) (by decide +kernel)
set_option maxRecDepth 20000 in
theorem gL_grids_L_needs : GoodIn wsL_grids (va_wsS RL 76 yL_needs wsL_needs) := goodIn_app (goodIn_of _ (by decide +kernel)) ggL_grids_L_needs
set_option maxRecDepth 20000 in
theorem ggL_grids_X2_story : GoodIn wsL_grids wsX2_story := goodIn_ca (goodIn_r _ [95, 36, 37, 38, 29, 39, 31, 32, 40, 96, 97, 98, 99, 33, 100, 34, 35, 41, 42, 43, 44, 45, 46, 47, 48, 49, 50, 51, 52, 53, 54, 55, 105, 106, 107, 108, 109, 110, 111, 112, 113, 114, 115, 116, 117, 118, 119, 120, 121, 122] (by decide +kernel) (by decide +kernel)) (goodIn_sub (fun _ h => List.mem_cons_of_mem _ (List.mem_append_right _ h)) (by decide +kernel))
set_option maxRecDepth 20000 in
theorem gL_grids_X2_story : GoodIn wsL_grids (wsV RL 77 RX2 yX2_story wsX2_story) := goodIn_app (goodIn_of _ (by decide +kernel)) ggL_grids_X2_story
set_option maxRecDepth 20000 in
theorem ggL_grids_X2_patterns : GoodIn wsL_grids wsX2_patterns := goodIn_r _ [104, 40, 105, 106, 107, 108, 109, 110, 111, 112, 113, 114, 115, 116, 117, 118, 119] (by decide +kernel) (by decide +kernel)
set_option maxRecDepth 20000 in
theorem gL_grids_X2_patterns : GoodIn wsL_grids (wsV RL 80 RX2 yX2_patterns wsX2_patterns) := goodIn_app (goodIn_of _ (by decide +kernel)) ggL_grids_X2_patterns
theorem dL_grids_0 : decode cL_grids 0 = .ok (.iconst 0, 1) := by decide +kernel
theorem dL_grids_1 : decode cL_grids 1 = .ok (.istore 5, 2) := by decide +kernel
theorem dL_grids_3 : decode cL_grids 3 = .ok (.iload 5, 2) := by decide +kernel
theorem dL_grids_5 : decode cL_grids 5 = .ok (.aload_n 3, 1) := by decide +kernel
theorem dL_grids_6 : decode cL_grids 6 = .ok (.iconst 1, 1) := by decide +kernel
theorem dL_grids_7 : decode cL_grids 7 = .ok (.iaload, 1) := by decide +kernel
theorem dL_grids_8 : decode cL_grids 8 = .ok (.if_icmp .ge 218, 3) := by decide +kernel
theorem dL_grids_11 : decode cL_grids 11 = .ok (.aload_n 1, 1) := by decide +kernel
theorem dL_grids_12 : decode cL_grids 12 = .ok (.iconst 3, 1) := by decide +kernel
theorem dL_grids_13 : decode cL_grids 13 = .ok (.iload 5, 2) := by decide +kernel
theorem dL_grids_15 : decode cL_grids 15 = .ok (.imul, 1) := by decide +kernel
theorem dL_grids_16 : decode cL_grids 16 = .ok (.iaload, 1) := by decide +kernel
theorem dL_grids_17 : decode cL_grids 17 = .ok (.istore 6, 2) := by decide +kernel
theorem dL_grids_19 : decode cL_grids 19 = .ok (.iload 6, 2) := by decide +kernel
theorem dL_grids_21 : decode cL_grids 21 = .ok (.invokestatic 34, 3) := by decide +kernel
theorem dL_grids_24 : decode cL_grids 24 = .ok (.invokestatic 34, 3) := by decide +kernel
theorem dL_grids_27 : decode cL_grids 27 = .ok (.istore 7, 2) := by decide +kernel
theorem dL_grids_29 : decode cL_grids 29 = .ok (.iconst 0, 1) := by decide +kernel
theorem dL_grids_30 : decode cL_grids 30 = .ok (.istore 8, 2) := by decide +kernel
theorem dL_grids_32 : decode cL_grids 32 = .ok (.iload 6, 2) := by decide +kernel
theorem dL_grids_34 : decode cL_grids 34 = .ok (.invokestatic 31, 3) := by decide +kernel
theorem dL_grids_37 : decode cL_grids 37 = .ok (.iload 6, 2) := by decide +kernel
theorem dL_grids_39 : decode cL_grids 39 = .ok (.if_icmp .ne 7, 3) := by decide +kernel
theorem dL_grids_42 : decode cL_grids 42 = .ok (.iconst 1, 1) := by decide +kernel
theorem dL_grids_43 : decode cL_grids 43 = .ok (.goto 4, 3) := by decide +kernel
theorem dL_grids_46 : decode cL_grids 46 = .ok (.iconst 0, 1) := by decide +kernel
theorem dL_grids_47 : decode cL_grids 47 = .ok (.iload 7, 2) := by decide +kernel
theorem dL_grids_49 : decode cL_grids 49 = .ok (.invokestatic 31, 3) := by decide +kernel
theorem dL_grids_52 : decode cL_grids 52 = .ok (.iload 6, 2) := by decide +kernel
theorem dL_grids_54 : decode cL_grids 54 = .ok (.if_icmp .ne 7, 3) := by decide +kernel
theorem dL_grids_57 : decode cL_grids 57 = .ok (.iconst 2, 1) := by decide +kernel
theorem dL_grids_58 : decode cL_grids 58 = .ok (.goto 4, 3) := by decide +kernel
theorem dL_grids_61 : decode cL_grids 61 = .ok (.iconst 0, 1) := by decide +kernel
theorem dL_grids_62 : decode cL_grids 62 = .ok (.iadd, 1) := by decide +kernel
theorem dL_grids_63 : decode cL_grids 63 = .ok (.iload 7, 2) := by decide +kernel
theorem dL_grids_65 : decode cL_grids 65 = .ok (.iload 6, 2) := by decide +kernel
theorem dL_grids_67 : decode cL_grids 67 = .ok (.if_icmp .ne 7, 3) := by decide +kernel
theorem dL_grids_70 : decode cL_grids 70 = .ok (.iconst 4, 1) := by decide +kernel
theorem dL_grids_71 : decode cL_grids 71 = .ok (.goto 4, 3) := by decide +kernel
theorem dL_grids_74 : decode cL_grids 74 = .ok (.iconst 0, 1) := by decide +kernel
theorem dL_grids_75 : decode cL_grids 75 = .ok (.iadd, 1) := by decide +kernel
theorem dL_grids_76 : decode cL_grids 76 = .ok (.iload 6, 2) := by decide +kernel
theorem dL_grids_78 : decode cL_grids 78 = .ok (.invokestatic 34, 3) := by decide +kernel
theorem dL_grids_81 : decode cL_grids 81 = .ok (.iload 6, 2) := by decide +kernel
theorem dL_grids_83 : decode cL_grids 83 = .ok (.if_icmp .ne 8, 3) := by decide +kernel
theorem dL_grids_86 : decode cL_grids 86 = .ok (.bipush 8, 2) := by decide +kernel
theorem dL_grids_88 : decode cL_grids 88 = .ok (.goto 4, 3) := by decide +kernel
theorem dL_grids_91 : decode cL_grids 91 = .ok (.iconst 0, 1) := by decide +kernel
theorem dL_grids_92 : decode cL_grids 92 = .ok (.iadd, 1) := by decide +kernel
theorem dL_grids_93 : decode cL_grids 93 = .ok (.istore 9, 2) := by decide +kernel
theorem dL_grids_95 : decode cL_grids 95 = .ok (.iconst 0, 1) := by decide +kernel
theorem dL_grids_96 : decode cL_grids 96 = .ok (.istore 10, 2) := by decide +kernel
theorem dL_grids_98 : decode cL_grids 98 = .ok (.iload 10, 2) := by decide +kernel
theorem dL_grids_100 : decode cL_grids 100 = .ok (.aload_n 3, 1) := by decide +kernel
theorem dL_grids_101 : decode cL_grids 101 = .ok (.iconst 2, 1) := by decide +kernel
theorem dL_grids_102 : decode cL_grids 102 = .ok (.iaload, 1) := by decide +kernel
theorem dL_grids_103 : decode cL_grids 103 = .ok (.if_icmp .ge 58, 3) := by decide +kernel
theorem dL_grids_106 : decode cL_grids 106 = .ok (.iload 8, 2) := by decide +kernel
theorem dL_grids_108 : decode cL_grids 108 = .ok (.aload_n 2, 1) := by decide +kernel
theorem dL_grids_109 : decode cL_grids 109 = .ok (.iconst 2, 1) := by decide +kernel
theorem dL_grids_110 : decode cL_grids 110 = .ok (.iload 10, 2) := by decide +kernel
theorem dL_grids_112 : decode cL_grids 112 = .ok (.imul, 1) := by decide +kernel
theorem dL_grids_113 : decode cL_grids 113 = .ok (.iconst 1, 1) := by decide +kernel
theorem dL_grids_114 : decode cL_grids 114 = .ok (.iadd, 1) := by decide +kernel
theorem dL_grids_115 : decode cL_grids 115 = .ok (.iaload, 1) := by decide +kernel
theorem dL_grids_116 : decode cL_grids 116 = .ok (.aload_n 2, 1) := by decide +kernel
theorem dL_grids_117 : decode cL_grids 117 = .ok (.iconst 2, 1) := by decide +kernel
theorem dL_grids_118 : decode cL_grids 118 = .ok (.iload 10, 2) := by decide +kernel
theorem dL_grids_120 : decode cL_grids 120 = .ok (.imul, 1) := by decide +kernel
theorem dL_grids_121 : decode cL_grids 121 = .ok (.iaload, 1) := by decide +kernel
theorem dL_grids_122 : decode cL_grids 122 = .ok (.iload 6, 2) := by decide +kernel
theorem dL_grids_124 : decode cL_grids 124 = .ok (.invokestatic 63, 3) := by decide +kernel
theorem dL_grids_127 : decode cL_grids 127 = .ok (.imul, 1) := by decide +kernel
theorem dL_grids_128 : decode cL_grids 128 = .ok (.iadd, 1) := by decide +kernel
theorem dL_grids_129 : decode cL_grids 129 = .ok (.istore 8, 2) := by decide +kernel
theorem dL_grids_131 : decode cL_grids 131 = .ok (.aload_n 0, 1) := by decide +kernel
theorem dL_grids_132 : decode cL_grids 132 = .ok (.iload 10, 2) := by decide +kernel
theorem dL_grids_134 : decode cL_grids 134 = .ok (.iload 5, 2) := by decide +kernel
theorem dL_grids_136 : decode cL_grids 136 = .ok (.invokevirtual 66, 3) := by decide +kernel
theorem dL_grids_139 : decode cL_grids 139 = .ok (.aload_n 2, 1) := by decide +kernel
theorem dL_grids_140 : decode cL_grids 140 = .ok (.iconst 2, 1) := by decide +kernel
theorem dL_grids_141 : decode cL_grids 141 = .ok (.iload 10, 2) := by decide +kernel
theorem dL_grids_143 : decode cL_grids 143 = .ok (.imul, 1) := by decide +kernel
theorem dL_grids_144 : decode cL_grids 144 = .ok (.iaload, 1) := by decide +kernel
theorem dL_grids_145 : decode cL_grids 145 = .ok (.iload 6, 2) := by decide +kernel
theorem dL_grids_147 : decode cL_grids 147 = .ok (.invokestatic 63, 3) := by decide +kernel
theorem dL_grids_150 : decode cL_grids 150 = .ok (.if_icmp .eq 5, 3) := by decide +kernel
theorem dL_grids_153 : decode cL_grids 153 = .ok (.iconst 0, 1) := by decide +kernel
theorem dL_grids_154 : decode cL_grids 154 = .ok (.ireturn, 1) := by decide +kernel
theorem dL_grids_155 : decode cL_grids 155 = .ok (.iinc 10 1, 3) := by decide +kernel
theorem dL_grids_158 : decode cL_grids 158 = .ok (.goto (-60), 3) := by decide +kernel
theorem dL_grids_161 : decode cL_grids 161 = .ok (.aload_n 0, 1) := by decide +kernel
theorem dL_grids_162 : decode cL_grids 162 = .ok (.iload 5, 2) := by decide +kernel
theorem dL_grids_164 : decode cL_grids 164 = .ok (.invokevirtual 67, 3) := by decide +kernel
theorem dL_grids_167 : decode cL_grids 167 = .ok (.iload 9, 2) := by decide +kernel
theorem dL_grids_169 : decode cL_grids 169 = .ok (.if_icmp .ne 49, 3) := by decide +kernel
theorem dL_grids_172 : decode cL_grids 172 = .ok (.aload_n 0, 1) := by decide +kernel
theorem dL_grids_173 : decode cL_grids 173 = .ok (.iload 5, 2) := by decide +kernel
theorem dL_grids_175 : decode cL_grids 175 = .ok (.invokevirtual 70, 3) := by decide +kernel
theorem dL_grids_178 : decode cL_grids 178 = .ok (.aload_n 1, 1) := by decide +kernel
theorem dL_grids_179 : decode cL_grids 179 = .ok (.iconst 3, 1) := by decide +kernel
theorem dL_grids_180 : decode cL_grids 180 = .ok (.iload 5, 2) := by decide +kernel
theorem dL_grids_182 : decode cL_grids 182 = .ok (.imul, 1) := by decide +kernel
theorem dL_grids_183 : decode cL_grids 183 = .ok (.iconst 2, 1) := by decide +kernel
theorem dL_grids_184 : decode cL_grids 184 = .ok (.iadd, 1) := by decide +kernel
theorem dL_grids_185 : decode cL_grids 185 = .ok (.iaload, 1) := by decide +kernel
theorem dL_grids_186 : decode cL_grids 186 = .ok (.if_icmp .ne 32, 3) := by decide +kernel
theorem dL_grids_189 : decode cL_grids 189 = .ok (.aload_n 0, 1) := by decide +kernel
theorem dL_grids_190 : decode cL_grids 190 = .ok (.iload 5, 2) := by decide +kernel
theorem dL_grids_192 : decode cL_grids 192 = .ok (.iload 4, 2) := by decide +kernel
theorem dL_grids_194 : decode cL_grids 194 = .ok (.invokevirtual 73, 3) := by decide +kernel
theorem dL_grids_197 : decode cL_grids 197 = .ok (.iload 6, 2) := by decide +kernel
theorem dL_grids_199 : decode cL_grids 199 = .ok (.iload 4, 2) := by decide +kernel
theorem dL_grids_201 : decode cL_grids 201 = .ok (.invokestatic 76, 3) := by decide +kernel
theorem dL_grids_204 : decode cL_grids 204 = .ok (.if_icmp .ne 14, 3) := by decide +kernel
theorem dL_grids_207 : decode cL_grids 207 = .ok (.aload_n 0, 1) := by decide +kernel
theorem dL_grids_208 : decode cL_grids 208 = .ok (.iload 5, 2) := by decide +kernel
theorem dL_grids_210 : decode cL_grids 210 = .ok (.invokevirtual 77, 3) := by decide +kernel
theorem dL_grids_213 : decode cL_grids 213 = .ok (.iload 8, 2) := by decide +kernel
theorem dL_grids_215 : decode cL_grids 215 = .ok (.if_icmp .eq 5, 3) := by decide +kernel
theorem dL_grids_218 : decode cL_grids 218 = .ok (.iconst 0, 1) := by decide +kernel
theorem dL_grids_219 : decode cL_grids 219 = .ok (.ireturn, 1) := by decide +kernel
theorem dL_grids_220 : decode cL_grids 220 = .ok (.iinc 5 1, 3) := by decide +kernel
theorem dL_grids_223 : decode cL_grids 223 = .ok (.goto (-220), 3) := by decide +kernel
theorem dL_grids_226 : decode cL_grids 226 = .ok (.aload_n 0, 1) := by decide +kernel
theorem dL_grids_227 : decode cL_grids 227 = .ok (.invokevirtual 80, 3) := by decide +kernel
theorem dL_grids_230 : decode cL_grids 230 = .ok (.aload_n 3, 1) := by decide +kernel
theorem dL_grids_231 : decode cL_grids 231 = .ok (.iconst 1, 1) := by decide +kernel
theorem dL_grids_232 : decode cL_grids 232 = .ok (.iaload, 1) := by decide +kernel
theorem dL_grids_233 : decode cL_grids 233 = .ok (.if_icmp .ne 7, 3) := by decide +kernel
theorem dL_grids_236 : decode cL_grids 236 = .ok (.iconst 1, 1) := by decide +kernel
theorem dL_grids_237 : decode cL_grids 237 = .ok (.goto 4, 3) := by decide +kernel
theorem dL_grids_240 : decode cL_grids 240 = .ok (.iconst 0, 1) := by decide +kernel
theorem dL_grids_241 : decode cL_grids 241 = .ok (.ireturn, 1) := by decide +kernel
set_option maxRecDepth 20000 in
theorem ggL_same_L_chain : GoodIn wsL_same wsL_chain := goodIn_r _ [4] (by decide +kernel) (by decide +kernel)
set_option maxRecDepth 20000 in
theorem gL_same_L_chain : GoodIn wsL_same (va_wsS RL 84 yL_chain wsL_chain) := goodIn_app (goodIn_of _ (by decide +kernel)) ggL_same_L_chain
set_option maxRecDepth 20000 in
theorem ggL_same_X2_chainAt : GoodIn wsL_same wsX2_chainAt := goodIn_ca (goodIn_r _ [9, 10, 11, 12, 13, 14, 15, 16, 17, 18, 19, 20, 21, 22, 23, 24, 25, 26, 27, 28, 29, 30, 31, 32, 33, 34, 35, 36, 37, 38, 39, 40, 41, 42, 43, 44, 45, 46, 208, 209, 210, 211, 212, 213, 214, 215, 216, 217, 218, 219, 220, 221, 222, 223, 224, 225, 226, 227, 228] (by decide +kernel) (by decide +kernel)) (goodIn_sub (fun _ h => List.mem_cons_of_mem _ (List.mem_append_left _ (List.mem_append_left _ (List.mem_append_right _ h)))) (by decide +kernel))
set_option maxRecDepth 20000 in
theorem gL_same_X2_chainAt : GoodIn wsL_same (wsV RL 51 RX2 yX2_chainAt wsX2_chainAt) := goodIn_app (goodIn_of _ (by decide +kernel)) ggL_same_X2_chainAt
set_option maxRecDepth 20000 in
theorem ggL_same_X2_hand : GoodIn wsL_same wsX2_hand := goodIn_ca (goodIn_r _ [50, 13, 51, 52, 8, 53, 10, 11, 54, 55, 56, 208, 209, 210, 211, 212, 213, 214, 215, 216, 217, 218, 219, 220, 221, 222] (by decide +kernel) (by decide +kernel)) (goodIn_sub (fun _ h => List.mem_cons_of_mem _ (List.mem_append_left _ (List.mem_append_left _ (List.mem_append_right _ h)))) (by decide +kernel))
set_option maxRecDepth 20000 in
theorem gL_same_X2_hand : GoodIn wsL_same (wsV RL 88 RX2 yX2_hand wsX2_hand) := goodIn_app (goodIn_of _ (by decide +kernel)) ggL_same_X2_hand
set_option maxRecDepth 20000 in
theorem ggL_same_L_needs : GoodIn wsL_same wsL_needs := goodIn_r _ [59, 60, 61, 3, 62, 63, 64, 65, 66, 67, 68] (by decide +kernel) (by decide +kernel)
set_option maxRecDepth 20000 in
theorem gL_same_L_needs : GoodIn wsL_same (va_wsS RL 76 yL_needs wsL_needs) := goodIn_app (goodIn_of _ (by decide +kernel)) ggL_same_L_needs
set_option maxRecDepth 20000 in
theorem ggL_same_X2_beads : GoodIn wsL_same wsX2_beads := goodIn_ca (goodIn_r _ [72, 73, 13, 74, 75, 54, 55, 8, 56, 10, 11, 76, 77, 78, 79, 80, 81, 82, 83, 84, 85, 86, 87, 88, 89, 90, 208, 209, 210, 211, 212, 213, 214, 215, 216, 217, 218, 219, 220, 221, 222, 229, 230, 231] (by decide +kernel) (by decide +kernel)) (goodIn_sub (fun _ h => List.mem_cons_of_mem _ (List.mem_append_left _ (List.mem_append_left _ (List.mem_append_right _ h)))) (by decide +kernel))
set_option maxRecDepth 20000 in
theorem gL_same_X2_beads : GoodIn wsL_same (wsV RL 91 RX2 yX2_beads wsX2_beads) := goodIn_app (goodIn_of _ (by decide +kernel)) ggL_same_X2_beads
set_option maxRecDepth 20000 in
theorem ggL_same_X2_brought : GoodIn wsL_same wsX2_brought := goodIn_ca (goodIn_r _ [94, 95, 54, 55, 8, 56, 10, 11, 208, 209, 210, 211, 212, 213, 214, 215, 216, 217, 218, 219, 220, 221, 222] (by decide +kernel) (by decide +kernel)) (goodIn_sub (fun _ h => List.mem_cons_of_mem _ (List.mem_append_left _ (List.mem_append_left _ (List.mem_append_right _ h)))) (by decide +kernel))
set_option maxRecDepth 20000 in
theorem gL_same_X2_brought : GoodIn wsL_same (wsV RL 94 RX2 yX2_brought wsX2_brought) := goodIn_app (goodIn_of _ (by decide +kernel)) ggL_same_X2_brought
set_option maxRecDepth 20000 in
theorem ggL_same_X2_credits : GoodIn wsL_same wsX2_credits := goodIn_ca (goodIn_r _ [99, 100, 51, 52, 8, 53, 10, 11, 208, 209, 210, 211, 212, 213, 214, 215, 216, 217, 218, 219, 220, 221, 222] (by decide +kernel) (by decide +kernel)) (goodIn_sub (fun _ h => List.mem_cons_of_mem _ (List.mem_append_left _ (List.mem_append_left _ (List.mem_append_right _ h)))) (by decide +kernel))
set_option maxRecDepth 20000 in
theorem gL_same_X2_credits : GoodIn wsL_same (wsV RL 97 RX2 yX2_credits wsX2_credits) := goodIn_app (goodIn_of _ (by decide +kernel)) ggL_same_X2_credits
set_option maxRecDepth 20000 in
theorem ggL_same_X2_ranked : GoodIn wsL_same wsX2_ranked := goodIn_ca (goodIn_r _ [104, 10, 11, 105, 106, 107, 8, 108, 109, 208, 209, 210, 211, 212, 213, 214, 215, 216, 217, 218, 219, 220, 221, 222] (by decide +kernel) (by decide +kernel)) (goodIn_sub (fun _ h => List.mem_cons_of_mem _ (List.mem_append_left _ (List.mem_append_left _ (List.mem_append_right _ h)))) (by decide +kernel))
set_option maxRecDepth 20000 in
theorem gL_same_X2_ranked : GoodIn wsL_same (wsV RL 100 RX2 yX2_ranked wsX2_ranked) := goodIn_app (goodIn_of _ (by decide +kernel)) ggL_same_X2_ranked
set_option maxRecDepth 20000 in
theorem ggL_same_L_refused : GoodIn wsL_same wsL_refused := goodIn_ca (goodIn_ca (goodIn_ca (goodIn_r _ [112, 113, 114, 115, 116, 117, 118, 8, 119, 120, 121, 74, 13, 75, 122, 100, 123, 51, 52, 53, 10, 11, 124, 125, 126, 127, 128, 129, 130, 131, 132, 76, 77, 78, 79, 80, 81, 82, 83, 84, 85, 86, 87, 88, 89, 90, 133, 134, 135, 136, 137, 138, 139, 140, 141, 142, 143, 144, 145, 146, 147, 148, 149, 150, 151, 73, 152, 54, 55, 56, 153, 154, 155, 156, 157, 158, 159, 160, 161, 162, 163, 164, 165, 166, 167, 168, 169, 5, 6, 7, 9, 12, 14, 15, 16, 17, 18, 19, 20, 21, 22, 23, 24, 25, 26, 27, 28, 29, 30, 31, 32, 33, 34, 35, 36, 37, 38, 39, 40, 41, 42, 43, 44, 45, 46, 170, 171, 172, 173, 174, 175, 176, 177, 178, 179, 180, 208, 209, 210, 211, 212, 213, 214, 215, 216, 217, 218, 219, 220, 221, 222, 229, 230, 231, 223, 224, 225, 226, 227, 228] (by decide +kernel) (by decide +kernel)) (goodIn_sub (fun _ h => List.mem_cons_of_mem _ (List.mem_append_left _ (List.mem_append_right _ h))) (by decide +kernel))) (goodIn_sub (fun _ h => List.mem_cons_of_mem _ (List.mem_append_left _ (List.mem_append_left _ (List.mem_append_right _ h)))) (by decide +kernel))) (goodIn_sub (fun _ h => List.mem_cons_of_mem _ (List.mem_append_right _ h)) (by decide +kernel))
set_option maxRecDepth 20000 in
theorem gL_same_L_refused : GoodIn wsL_same (va_wsS RL 103 yL_refused wsL_refused) := goodIn_app (goodIn_of _ (by decide +kernel)) ggL_same_L_refused
set_option maxRecDepth 20000 in
theorem ggL_same_X2_owner : GoodIn wsL_same wsX2_owner := goodIn_ca (goodIn_r _ [169, 122, 162, 163, 164, 8, 165, 10, 11, 76, 77, 78, 79, 75, 208, 209, 210, 211, 212, 213, 214, 215, 216, 217, 218, 219, 220, 221, 222] (by decide +kernel) (by decide +kernel)) (goodIn_sub (fun _ h => List.mem_cons_of_mem _ (List.mem_append_left _ (List.mem_append_left _ (List.mem_append_right _ h)))) (by decide +kernel))
set_option maxRecDepth 20000 in
theorem gL_same_X2_owner : GoodIn wsL_same (wsV RL 48 RX2 yX2_owner wsX2_owner) := goodIn_app (goodIn_of _ (by decide +kernel)) ggL_same_X2_owner
set_option maxRecDepth 20000 in
theorem ggL_same_X2_chain : GoodIn wsL_same wsX2_chain := goodIn_r _ [184, 12, 13, 14, 15, 16, 17, 18, 19, 20, 21, 22, 23, 24, 25, 26, 27, 28, 29, 30, 31, 32, 33, 34, 35, 36, 37, 38, 39, 40, 41, 42, 43, 44, 45, 46, 208, 209, 210, 211, 212, 213, 214, 215, 216, 217, 218, 219, 220, 221, 222, 223, 224, 225, 226, 227, 228] (by decide +kernel) (by decide +kernel)
set_option maxRecDepth 20000 in
theorem gL_same_X2_chain : GoodIn wsL_same (wsV RL 107 RX2 yX2_chain wsX2_chain) := goodIn_app (goodIn_of _ (by decide +kernel)) ggL_same_X2_chain
set_option maxRecDepth 20000 in
theorem ggL_same_X2_chainByOrders : GoodIn wsL_same wsX2_chainByOrders := goodIn_r _ [188, 12, 13, 189, 15, 190, 191, 19, 20, 192, 193, 194, 195, 21, 22, 23, 24, 25, 26, 27, 28, 29, 196, 197, 198, 199, 38, 39, 40, 41, 42, 200, 201, 202, 203, 204, 205, 206, 207, 208, 209, 210, 211, 212, 213, 214, 215, 216, 217, 218, 219, 220, 221, 222, 223, 224, 225, 226, 227, 228] (by decide +kernel) (by decide +kernel)
set_option maxRecDepth 20000 in
theorem gL_same_X2_chainByOrders : GoodIn wsL_same (wsV RL 109 RX2 yX2_chainByOrders wsX2_chainByOrders) := goodIn_app (goodIn_of _ (by decide +kernel)) ggL_same_X2_chainByOrders
theorem dL_same_0 : decode cL_same 0 = .ok (.aload 4, 2) := by decide +kernel
theorem dL_same_2 : decode cL_same 2 = .ok (.aload_n 3, 1) := by decide +kernel
theorem dL_same_3 : decode cL_same 3 = .ok (.invokestatic 84, 3) := by decide +kernel
theorem dL_same_6 : decode cL_same 6 = .ok (.istore 8, 2) := by decide +kernel
theorem dL_same_8 : decode cL_same 8 = .ok (.iconst 0, 1) := by decide +kernel
theorem dL_same_9 : decode cL_same 9 = .ok (.istore 9, 2) := by decide +kernel
theorem dL_same_11 : decode cL_same 11 = .ok (.iload 8, 2) := by decide +kernel
theorem dL_same_13 : decode cL_same 13 = .ok (.iconst 3, 1) := by decide +kernel
theorem dL_same_14 : decode cL_same 14 = .ok (.iload 9, 2) := by decide +kernel
theorem dL_same_16 : decode cL_same 16 = .ok (.imul, 1) := by decide +kernel
theorem dL_same_17 : decode cL_same 17 = .ok (.ishr, 1) := by decide +kernel
theorem dL_same_18 : decode cL_same 18 = .ok (.ifCond .le 9, 3) := by decide +kernel
theorem dL_same_21 : decode cL_same 21 = .ok (.iinc 9 1, 3) := by decide +kernel
theorem dL_same_24 : decode cL_same 24 = .ok (.goto (-13), 3) := by decide +kernel
theorem dL_same_27 : decode cL_same 27 = .ok (.iconst 0, 1) := by decide +kernel
theorem dL_same_28 : decode cL_same 28 = .ok (.istore 10, 2) := by decide +kernel
theorem dL_same_30 : decode cL_same 30 = .ok (.iload 10, 2) := by decide +kernel
theorem dL_same_32 : decode cL_same 32 = .ok (.iload 9, 2) := by decide +kernel
theorem dL_same_34 : decode cL_same 34 = .ok (.if_icmp .ge 32, 3) := by decide +kernel
theorem dL_same_37 : decode cL_same 37 = .ok (.aload_n 0, 1) := by decide +kernel
theorem dL_same_38 : decode cL_same 38 = .ok (.iload 10, 2) := by decide +kernel
theorem dL_same_40 : decode cL_same 40 = .ok (.invokevirtual 51, 3) := by decide +kernel
theorem dL_same_43 : decode cL_same 43 = .ok (.iload 8, 2) := by decide +kernel
theorem dL_same_45 : decode cL_same 45 = .ok (.iconst 3, 1) := by decide +kernel
theorem dL_same_46 : decode cL_same 46 = .ok (.iload 10, 2) := by decide +kernel
theorem dL_same_48 : decode cL_same 48 = .ok (.imul, 1) := by decide +kernel
theorem dL_same_49 : decode cL_same 49 = .ok (.ishr, 1) := by decide +kernel
theorem dL_same_50 : decode cL_same 50 = .ok (.bipush 7, 2) := by decide +kernel
theorem dL_same_52 : decode cL_same 52 = .ok (.iand, 1) := by decide +kernel
theorem dL_same_53 : decode cL_same 53 = .ok (.iconst 1, 1) := by decide +kernel
theorem dL_same_54 : decode cL_same 54 = .ok (.isub, 1) := by decide +kernel
theorem dL_same_55 : decode cL_same 55 = .ok (.if_icmp .eq 5, 3) := by decide +kernel
theorem dL_same_58 : decode cL_same 58 = .ok (.iconst 0, 1) := by decide +kernel
theorem dL_same_59 : decode cL_same 59 = .ok (.ireturn, 1) := by decide +kernel
theorem dL_same_60 : decode cL_same 60 = .ok (.iinc 10 1, 3) := by decide +kernel
theorem dL_same_63 : decode cL_same 63 = .ok (.goto (-33), 3) := by decide +kernel
theorem dL_same_66 : decode cL_same 66 = .ok (.iconst 0, 1) := by decide +kernel
theorem dL_same_67 : decode cL_same 67 = .ok (.istore 10, 2) := by decide +kernel
theorem dL_same_69 : decode cL_same 69 = .ok (.iload 10, 2) := by decide +kernel
theorem dL_same_71 : decode cL_same 71 = .ok (.bipush 8, 2) := by decide +kernel
theorem dL_same_73 : decode cL_same 73 = .ok (.if_icmp .ge 164, 3) := by decide +kernel
theorem dL_same_76 : decode cL_same 76 = .ok (.aload_n 3, 1) := by decide +kernel
theorem dL_same_77 : decode cL_same 77 = .ok (.bipush 56, 2) := by decide +kernel
theorem dL_same_79 : decode cL_same 79 = .ok (.iload 10, 2) := by decide +kernel
theorem dL_same_81 : decode cL_same 81 = .ok (.iadd, 1) := by decide +kernel
theorem dL_same_82 : decode cL_same 82 = .ok (.iaload, 1) := by decide +kernel
theorem dL_same_83 : decode cL_same 83 = .ok (.istore 11, 2) := by decide +kernel
theorem dL_same_85 : decode cL_same 85 = .ok (.iconst 0, 1) := by decide +kernel
theorem dL_same_86 : decode cL_same 86 = .ok (.istore 12, 2) := by decide +kernel
theorem dL_same_88 : decode cL_same 88 = .ok (.iload 12, 2) := by decide +kernel
theorem dL_same_90 : decode cL_same 90 = .ok (.bipush 7, 2) := by decide +kernel
theorem dL_same_92 : decode cL_same 92 = .ok (.if_icmp .ge 47, 3) := by decide +kernel
theorem dL_same_95 : decode cL_same 95 = .ok (.iload 11, 2) := by decide +kernel
theorem dL_same_97 : decode cL_same 97 = .ok (.aload_n 3, 1) := by decide +kernel
theorem dL_same_98 : decode cL_same 98 = .ok (.bipush 8, 2) := by decide +kernel
theorem dL_same_100 : decode cL_same 100 = .ok (.iload 12, 2) := by decide +kernel
theorem dL_same_102 : decode cL_same 102 = .ok (.imul, 1) := by decide +kernel
theorem dL_same_103 : decode cL_same 103 = .ok (.iload 10, 2) := by decide +kernel
theorem dL_same_105 : decode cL_same 105 = .ok (.iadd, 1) := by decide +kernel
theorem dL_same_106 : decode cL_same 106 = .ok (.iaload, 1) := by decide +kernel
theorem dL_same_107 : decode cL_same 107 = .ok (.iadd, 1) := by decide +kernel
theorem dL_same_108 : decode cL_same 108 = .ok (.istore 11, 2) := by decide +kernel
theorem dL_same_110 : decode cL_same 110 = .ok (.aload_n 0, 1) := by decide +kernel
theorem dL_same_111 : decode cL_same 111 = .ok (.iload 12, 2) := by decide +kernel
theorem dL_same_113 : decode cL_same 113 = .ok (.iload 10, 2) := by decide +kernel
theorem dL_same_115 : decode cL_same 115 = .ok (.invokevirtual 88, 3) := by decide +kernel
theorem dL_same_118 : decode cL_same 118 = .ok (.aload_n 3, 1) := by decide +kernel
theorem dL_same_119 : decode cL_same 119 = .ok (.bipush 8, 2) := by decide +kernel
theorem dL_same_121 : decode cL_same 121 = .ok (.iload 12, 2) := by decide +kernel
theorem dL_same_123 : decode cL_same 123 = .ok (.imul, 1) := by decide +kernel
theorem dL_same_124 : decode cL_same 124 = .ok (.iload 10, 2) := by decide +kernel
theorem dL_same_126 : decode cL_same 126 = .ok (.iadd, 1) := by decide +kernel
theorem dL_same_127 : decode cL_same 127 = .ok (.iaload, 1) := by decide +kernel
theorem dL_same_128 : decode cL_same 128 = .ok (.if_icmp .eq 5, 3) := by decide +kernel
theorem dL_same_131 : decode cL_same 131 = .ok (.iconst 0, 1) := by decide +kernel
theorem dL_same_132 : decode cL_same 132 = .ok (.ireturn, 1) := by decide +kernel
theorem dL_same_133 : decode cL_same 133 = .ok (.iinc 12 1, 3) := by decide +kernel
theorem dL_same_136 : decode cL_same 136 = .ok (.goto (-48), 3) := by decide +kernel
theorem dL_same_139 : decode cL_same 139 = .ok (.iconst 0, 1) := by decide +kernel
theorem dL_same_140 : decode cL_same 140 = .ok (.istore 12, 2) := by decide +kernel
theorem dL_same_142 : decode cL_same 142 = .ok (.iload 12, 2) := by decide +kernel
theorem dL_same_144 : decode cL_same 144 = .ok (.bipush 6, 2) := by decide +kernel
theorem dL_same_146 : decode cL_same 146 = .ok (.if_icmp .ge 42, 3) := by decide +kernel
theorem dL_same_149 : decode cL_same 149 = .ok (.iload 11, 2) := by decide +kernel
theorem dL_same_151 : decode cL_same 151 = .ok (.aload_n 2, 1) := by decide +kernel
theorem dL_same_152 : decode cL_same 152 = .ok (.iconst 2, 1) := by decide +kernel
theorem dL_same_153 : decode cL_same 153 = .ok (.iload 12, 2) := by decide +kernel
theorem dL_same_155 : decode cL_same 155 = .ok (.imul, 1) := by decide +kernel
theorem dL_same_156 : decode cL_same 156 = .ok (.iaload, 1) := by decide +kernel
theorem dL_same_157 : decode cL_same 157 = .ok (.ifCond .ge 7, 3) := by decide +kernel
theorem dL_same_160 : decode cL_same 160 = .ok (.iconst 0, 1) := by decide +kernel
theorem dL_same_161 : decode cL_same 161 = .ok (.goto 18, 3) := by decide +kernel
theorem dL_same_164 : decode cL_same 164 = .ok (.aload_n 1, 1) := by decide +kernel
theorem dL_same_165 : decode cL_same 165 = .ok (.iconst 3, 1) := by decide +kernel
theorem dL_same_166 : decode cL_same 166 = .ok (.aload_n 2, 1) := by decide +kernel
theorem dL_same_167 : decode cL_same 167 = .ok (.iconst 2, 1) := by decide +kernel
theorem dL_same_168 : decode cL_same 168 = .ok (.iload 12, 2) := by decide +kernel
theorem dL_same_170 : decode cL_same 170 = .ok (.imul, 1) := by decide +kernel
theorem dL_same_171 : decode cL_same 171 = .ok (.iaload, 1) := by decide +kernel
theorem dL_same_172 : decode cL_same 172 = .ok (.imul, 1) := by decide +kernel
theorem dL_same_173 : decode cL_same 173 = .ok (.iaload, 1) := by decide +kernel
theorem dL_same_174 : decode cL_same 174 = .ok (.iload 10, 2) := by decide +kernel
theorem dL_same_176 : decode cL_same 176 = .ok (.invokestatic 76, 3) := by decide +kernel
theorem dL_same_179 : decode cL_same 179 = .ok (.iadd, 1) := by decide +kernel
theorem dL_same_180 : decode cL_same 180 = .ok (.istore 11, 2) := by decide +kernel
theorem dL_same_182 : decode cL_same 182 = .ok (.iinc 12 1, 3) := by decide +kernel
theorem dL_same_185 : decode cL_same 185 = .ok (.goto (-43), 3) := by decide +kernel
theorem dL_same_188 : decode cL_same 188 = .ok (.aload_n 0, 1) := by decide +kernel
theorem dL_same_189 : decode cL_same 189 = .ok (.iload 10, 2) := by decide +kernel
theorem dL_same_191 : decode cL_same 191 = .ok (.invokevirtual 91, 3) := by decide +kernel
theorem dL_same_194 : decode cL_same 194 = .ok (.iload 11, 2) := by decide +kernel
theorem dL_same_196 : decode cL_same 196 = .ok (.if_icmp .ne 33, 3) := by decide +kernel
theorem dL_same_199 : decode cL_same 199 = .ok (.aload_n 0, 1) := by decide +kernel
theorem dL_same_200 : decode cL_same 200 = .ok (.iload 10, 2) := by decide +kernel
theorem dL_same_202 : decode cL_same 202 = .ok (.invokevirtual 94, 3) := by decide +kernel
theorem dL_same_205 : decode cL_same 205 = .ok (.aload 5, 2) := by decide +kernel
theorem dL_same_207 : decode cL_same 207 = .ok (.bipush 7, 2) := by decide +kernel
theorem dL_same_209 : decode cL_same 209 = .ok (.iload 10, 2) := by decide +kernel
theorem dL_same_211 : decode cL_same 211 = .ok (.iadd, 1) := by decide +kernel
theorem dL_same_212 : decode cL_same 212 = .ok (.iaload, 1) := by decide +kernel
theorem dL_same_213 : decode cL_same 213 = .ok (.if_icmp .ne 16, 3) := by decide +kernel
theorem dL_same_216 : decode cL_same 216 = .ok (.iload 11, 2) := by decide +kernel
theorem dL_same_218 : decode cL_same 218 = .ok (.aload 5, 2) := by decide +kernel
theorem dL_same_220 : decode cL_same 220 = .ok (.bipush 7, 2) := by decide +kernel
theorem dL_same_222 : decode cL_same 222 = .ok (.iload 10, 2) := by decide +kernel
theorem dL_same_224 : decode cL_same 224 = .ok (.iadd, 1) := by decide +kernel
theorem dL_same_225 : decode cL_same 225 = .ok (.iaload, 1) := by decide +kernel
theorem dL_same_226 : decode cL_same 226 = .ok (.if_icmp .eq 5, 3) := by decide +kernel
theorem dL_same_229 : decode cL_same 229 = .ok (.iconst 0, 1) := by decide +kernel
theorem dL_same_230 : decode cL_same 230 = .ok (.ireturn, 1) := by decide +kernel
theorem dL_same_231 : decode cL_same 231 = .ok (.iinc 10 1, 3) := by decide +kernel
theorem dL_same_234 : decode cL_same 234 = .ok (.goto (-165), 3) := by decide +kernel
theorem dL_same_237 : decode cL_same 237 = .ok (.iconst 0, 1) := by decide +kernel
theorem dL_same_238 : decode cL_same 238 = .ok (.istore 10, 2) := by decide +kernel
theorem dL_same_240 : decode cL_same 240 = .ok (.iload 10, 2) := by decide +kernel
theorem dL_same_242 : decode cL_same 242 = .ok (.bipush 7, 2) := by decide +kernel
theorem dL_same_244 : decode cL_same 244 = .ok (.if_icmp .ge 100, 3) := by decide +kernel
theorem dL_same_247 : decode cL_same 247 = .ok (.iconst 0, 1) := by decide +kernel
theorem dL_same_248 : decode cL_same 248 = .ok (.istore 11, 2) := by decide +kernel
theorem dL_same_250 : decode cL_same 250 = .ok (.iconst 0, 1) := by decide +kernel
theorem dL_same_251 : decode cL_same 251 = .ok (.istore 12, 2) := by decide +kernel
theorem dL_same_253 : decode cL_same 253 = .ok (.iload 12, 2) := by decide +kernel
theorem dL_same_255 : decode cL_same 255 = .ok (.bipush 7, 2) := by decide +kernel
theorem dL_same_257 : decode cL_same 257 = .ok (.if_icmp .ge 54, 3) := by decide +kernel
theorem dL_same_260 : decode cL_same 260 = .ok (.iload 11, 2) := by decide +kernel
theorem dL_same_262 : decode cL_same 262 = .ok (.aload 6, 2) := by decide +kernel
theorem dL_same_264 : decode cL_same 264 = .ok (.iload 12, 2) := by decide +kernel
theorem dL_same_266 : decode cL_same 266 = .ok (.laload, 1) := by decide +kernel
theorem dL_same_267 : decode cL_same 267 = .ok (.aload 6, 2) := by decide +kernel
theorem dL_same_269 : decode cL_same 269 = .ok (.iload 10, 2) := by decide +kernel
theorem dL_same_271 : decode cL_same 271 = .ok (.laload, 1) := by decide +kernel
theorem dL_same_272 : decode cL_same 272 = .ok (.lcmp, 1) := by decide +kernel
theorem dL_same_273 : decode cL_same 273 = .ok (.ifCond .gt 24, 3) := by decide +kernel
theorem dL_same_276 : decode cL_same 276 = .ok (.aload 6, 2) := by decide +kernel
theorem dL_same_278 : decode cL_same 278 = .ok (.iload 12, 2) := by decide +kernel
theorem dL_same_280 : decode cL_same 280 = .ok (.laload, 1) := by decide +kernel
theorem dL_same_281 : decode cL_same 281 = .ok (.aload 6, 2) := by decide +kernel
theorem dL_same_283 : decode cL_same 283 = .ok (.iload 10, 2) := by decide +kernel
theorem dL_same_285 : decode cL_same 285 = .ok (.laload, 1) := by decide +kernel
theorem dL_same_286 : decode cL_same 286 = .ok (.lcmp, 1) := by decide +kernel
theorem dL_same_287 : decode cL_same 287 = .ok (.ifCond .ne 14, 3) := by decide +kernel
theorem dL_same_290 : decode cL_same 290 = .ok (.iload 12, 2) := by decide +kernel
theorem dL_same_292 : decode cL_same 292 = .ok (.iload 10, 2) := by decide +kernel
theorem dL_same_294 : decode cL_same 294 = .ok (.if_icmp .ge 7, 3) := by decide +kernel
theorem dL_same_297 : decode cL_same 297 = .ok (.iconst 1, 1) := by decide +kernel
theorem dL_same_298 : decode cL_same 298 = .ok (.goto 4, 3) := by decide +kernel
theorem dL_same_301 : decode cL_same 301 = .ok (.iconst 0, 1) := by decide +kernel
theorem dL_same_302 : decode cL_same 302 = .ok (.iadd, 1) := by decide +kernel
theorem dL_same_303 : decode cL_same 303 = .ok (.istore 11, 2) := by decide +kernel
theorem dL_same_305 : decode cL_same 305 = .ok (.iinc 12 1, 3) := by decide +kernel
theorem dL_same_308 : decode cL_same 308 = .ok (.goto (-55), 3) := by decide +kernel
theorem dL_same_311 : decode cL_same 311 = .ok (.aload_n 0, 1) := by decide +kernel
theorem dL_same_312 : decode cL_same 312 = .ok (.iload 10, 2) := by decide +kernel
theorem dL_same_314 : decode cL_same 314 = .ok (.invokevirtual 97, 3) := by decide +kernel
theorem dL_same_317 : decode cL_same 317 = .ok (.aload 5, 2) := by decide +kernel
theorem dL_same_319 : decode cL_same 319 = .ok (.iload 10, 2) := by decide +kernel
theorem dL_same_321 : decode cL_same 321 = .ok (.iaload, 1) := by decide +kernel
theorem dL_same_322 : decode cL_same 322 = .ok (.if_icmp .ne 14, 3) := by decide +kernel
theorem dL_same_325 : decode cL_same 325 = .ok (.aload_n 0, 1) := by decide +kernel
theorem dL_same_326 : decode cL_same 326 = .ok (.iload 11, 2) := by decide +kernel
theorem dL_same_328 : decode cL_same 328 = .ok (.invokevirtual 100, 3) := by decide +kernel
theorem dL_same_331 : decode cL_same 331 = .ok (.iload 10, 2) := by decide +kernel
theorem dL_same_333 : decode cL_same 333 = .ok (.if_icmp .eq 5, 3) := by decide +kernel
theorem dL_same_336 : decode cL_same 336 = .ok (.iconst 0, 1) := by decide +kernel
theorem dL_same_337 : decode cL_same 337 = .ok (.ireturn, 1) := by decide +kernel
theorem dL_same_338 : decode cL_same 338 = .ok (.iinc 10 1, 3) := by decide +kernel
theorem dL_same_341 : decode cL_same 341 = .ok (.goto (-101), 3) := by decide +kernel
theorem dL_same_344 : decode cL_same 344 = .ok (.iconst 0, 1) := by decide +kernel
theorem dL_same_345 : decode cL_same 345 = .ok (.istore 10, 2) := by decide +kernel
theorem dL_same_347 : decode cL_same 347 = .ok (.iload 10, 2) := by decide +kernel
theorem dL_same_349 : decode cL_same 349 = .ok (.bipush 6, 2) := by decide +kernel
theorem dL_same_351 : decode cL_same 351 = .ok (.if_icmp .ge 53, 3) := by decide +kernel
theorem dL_same_354 : decode cL_same 354 = .ok (.aload_n 2, 1) := by decide +kernel
theorem dL_same_355 : decode cL_same 355 = .ok (.iconst 2, 1) := by decide +kernel
theorem dL_same_356 : decode cL_same 356 = .ok (.iload 10, 2) := by decide +kernel
theorem dL_same_358 : decode cL_same 358 = .ok (.imul, 1) := by decide +kernel
theorem dL_same_359 : decode cL_same 359 = .ok (.iaload, 1) := by decide +kernel
theorem dL_same_360 : decode cL_same 360 = .ok (.ifCond .ge 19, 3) := by decide +kernel
theorem dL_same_363 : decode cL_same 363 = .ok (.aload_n 0, 1) := by decide +kernel
theorem dL_same_364 : decode cL_same 364 = .ok (.iconst 3, 1) := by decide +kernel
theorem dL_same_365 : decode cL_same 365 = .ok (.iload 10, 2) := by decide +kernel
theorem dL_same_367 : decode cL_same 367 = .ok (.iconst 0, 1) := by decide +kernel
theorem dL_same_368 : decode cL_same 368 = .ok (.iconst 0, 1) := by decide +kernel
theorem dL_same_369 : decode cL_same 369 = .ok (.invokestatic 103, 3) := by decide +kernel
theorem dL_same_372 : decode cL_same 372 = .ok (.iconst 1, 1) := by decide +kernel
theorem dL_same_373 : decode cL_same 373 = .ok (.if_icmp .eq 25, 3) := by decide +kernel
theorem dL_same_376 : decode cL_same 376 = .ok (.goto 20, 3) := by decide +kernel
theorem dL_same_379 : decode cL_same 379 = .ok (.aload_n 0, 1) := by decide +kernel
theorem dL_same_380 : decode cL_same 380 = .ok (.iload 10, 2) := by decide +kernel
theorem dL_same_382 : decode cL_same 382 = .ok (.invokevirtual 48, 3) := by decide +kernel
theorem dL_same_385 : decode cL_same 385 = .ok (.aload_n 2, 1) := by decide +kernel
theorem dL_same_386 : decode cL_same 386 = .ok (.iconst 2, 1) := by decide +kernel
theorem dL_same_387 : decode cL_same 387 = .ok (.iload 10, 2) := by decide +kernel
theorem dL_same_389 : decode cL_same 389 = .ok (.imul, 1) := by decide +kernel
theorem dL_same_390 : decode cL_same 390 = .ok (.iconst 1, 1) := by decide +kernel
theorem dL_same_391 : decode cL_same 391 = .ok (.iadd, 1) := by decide +kernel
theorem dL_same_392 : decode cL_same 392 = .ok (.iaload, 1) := by decide +kernel
theorem dL_same_393 : decode cL_same 393 = .ok (.if_icmp .eq 5, 3) := by decide +kernel
theorem dL_same_396 : decode cL_same 396 = .ok (.iconst 0, 1) := by decide +kernel
theorem dL_same_397 : decode cL_same 397 = .ok (.ireturn, 1) := by decide +kernel
theorem dL_same_398 : decode cL_same 398 = .ok (.iinc 10 1, 3) := by decide +kernel
theorem dL_same_401 : decode cL_same 401 = .ok (.goto (-54), 3) := by decide +kernel
theorem dL_same_404 : decode cL_same 404 = .ok (.aload_n 0, 1) := by decide +kernel
theorem dL_same_405 : decode cL_same 405 = .ok (.invokevirtual 107, 3) := by decide +kernel
theorem dL_same_408 : decode cL_same 408 = .ok (.iload 9, 2) := by decide +kernel
theorem dL_same_410 : decode cL_same 410 = .ok (.if_icmp .ne 34, 3) := by decide +kernel
theorem dL_same_413 : decode cL_same 413 = .ok (.iload 7, 2) := by decide +kernel
theorem dL_same_415 : decode cL_same 415 = .ok (.ifCond .eq 12, 3) := by decide +kernel
theorem dL_same_418 : decode cL_same 418 = .ok (.aload_n 0, 1) := by decide +kernel
theorem dL_same_419 : decode cL_same 419 = .ok (.invokevirtual 109, 3) := by decide +kernel
theorem dL_same_422 : decode cL_same 422 = .ok (.iload 9, 2) := by decide +kernel
theorem dL_same_424 : decode cL_same 424 = .ok (.if_icmp .ne 20, 3) := by decide +kernel
theorem dL_same_427 : decode cL_same 427 = .ok (.aload_n 0, 1) := by decide +kernel
theorem dL_same_428 : decode cL_same 428 = .ok (.iconst 4, 1) := by decide +kernel
theorem dL_same_429 : decode cL_same 429 = .ok (.iload 9, 2) := by decide +kernel
theorem dL_same_431 : decode cL_same 431 = .ok (.iconst 0, 1) := by decide +kernel
theorem dL_same_432 : decode cL_same 432 = .ok (.iconst 0, 1) := by decide +kernel
theorem dL_same_433 : decode cL_same 433 = .ok (.invokestatic 103, 3) := by decide +kernel
theorem dL_same_436 : decode cL_same 436 = .ok (.iconst 1, 1) := by decide +kernel
theorem dL_same_437 : decode cL_same 437 = .ok (.if_icmp .ne 7, 3) := by decide +kernel
theorem dL_same_440 : decode cL_same 440 = .ok (.iconst 1, 1) := by decide +kernel
theorem dL_same_441 : decode cL_same 441 = .ok (.goto 4, 3) := by decide +kernel
theorem dL_same_444 : decode cL_same 444 = .ok (.iconst 0, 1) := by decide +kernel
theorem dL_same_445 : decode cL_same 445 = .ok (.ireturn, 1) := by decide +kernel
