theorem dX1_init_0 : decode cX1_init 0 = .ok (.aload_n 0, 1) := by decide +kernel
theorem dX1_init_1 : decode cX1_init 1 = .ok (.invokespecial 3, 3) := by decide +kernel
theorem dX1_init_4 : decode cX1_init 4 = .ok (.aload_n 0, 1) := by decide +kernel
theorem dX1_init_5 : decode cX1_init 5 = .ok (.bipush 48, 2) := by decide +kernel
theorem dX1_init_7 : decode cX1_init 7 = .ok (.newarray .int, 2) := by decide +kernel
theorem dX1_init_9 : decode cX1_init 9 = .ok (.putfield 9, 3) := by decide +kernel
theorem dX1_init_12 : decode cX1_init 12 = .ok (.aload_n 0, 1) := by decide +kernel
theorem dX1_init_13 : decode cX1_init 13 = .ok (.iconst 1, 1) := by decide +kernel
theorem dX1_init_14 : decode cX1_init 14 = .ok (.putfield 15, 3) := by decide +kernel
theorem dX1_init_17 : decode cX1_init 17 = .ok (.aload_n 0, 1) := by decide +kernel
theorem dX1_init_18 : decode cX1_init 18 = .ok (.iconst 1, 1) := by decide +kernel
theorem dX1_init_19 : decode cX1_init 19 = .ok (.putfield 19, 3) := by decide +kernel
theorem dX1_init_22 : decode cX1_init 22 = .ok (.return_, 1) := by decide +kernel
set_option maxRecDepth 20000 in
theorem ggX1_begin_J7_fill_53178 : GoodIn wsX1_begin wsJ7_fill_53178 := goodIn_r _ [7] (by decide +kernel) (by decide +kernel)
set_option maxRecDepth 20000 in
theorem gX1_begin_J7_fill_53178 : GoodIn wsX1_begin (va_wsS RX1 22 yJ7_fill_53178 wsJ7_fill_53178) := goodIn_app (goodIn_of _ (by decide +kernel)) ggX1_begin_J7_fill_53178
theorem dX1_begin_0 : decode cX1_begin 0 = .ok (.aload_n 0, 1) := by decide +kernel
theorem dX1_begin_1 : decode cX1_begin 1 = .ok (.iload_n 1, 1) := by decide +kernel
theorem dX1_begin_2 : decode cX1_begin 2 = .ok (.putfield 15, 3) := by decide +kernel
theorem dX1_begin_5 : decode cX1_begin 5 = .ok (.aload_n 0, 1) := by decide +kernel
theorem dX1_begin_6 : decode cX1_begin 6 = .ok (.iload_n 2, 1) := by decide +kernel
theorem dX1_begin_7 : decode cX1_begin 7 = .ok (.putfield 19, 3) := by decide +kernel
theorem dX1_begin_10 : decode cX1_begin 10 = .ok (.aload_n 0, 1) := by decide +kernel
theorem dX1_begin_11 : decode cX1_begin 11 = .ok (.getfield 9, 3) := by decide +kernel
theorem dX1_begin_14 : decode cX1_begin 14 = .ok (.iconst 0, 1) := by decide +kernel
theorem dX1_begin_15 : decode cX1_begin 15 = .ok (.invokestatic 22, 3) := by decide +kernel
theorem dX1_begin_18 : decode cX1_begin 18 = .ok (.return_, 1) := by decide +kernel
theorem dX1_copyFrom_0 : decode cX1_copyFrom 0 = .ok (.aload_n 0, 1) := by decide +kernel
theorem dX1_copyFrom_1 : decode cX1_copyFrom 1 = .ok (.aload_n 1, 1) := by decide +kernel
theorem dX1_copyFrom_2 : decode cX1_copyFrom 2 = .ok (.getfield 15, 3) := by decide +kernel
theorem dX1_copyFrom_5 : decode cX1_copyFrom 5 = .ok (.putfield 15, 3) := by decide +kernel
theorem dX1_copyFrom_8 : decode cX1_copyFrom 8 = .ok (.aload_n 0, 1) := by decide +kernel
theorem dX1_copyFrom_9 : decode cX1_copyFrom 9 = .ok (.aload_n 1, 1) := by decide +kernel
theorem dX1_copyFrom_10 : decode cX1_copyFrom 10 = .ok (.getfield 19, 3) := by decide +kernel
theorem dX1_copyFrom_13 : decode cX1_copyFrom 13 = .ok (.putfield 19, 3) := by decide +kernel
theorem dX1_copyFrom_16 : decode cX1_copyFrom 16 = .ok (.aload_n 1, 1) := by decide +kernel
theorem dX1_copyFrom_17 : decode cX1_copyFrom 17 = .ok (.getfield 9, 3) := by decide +kernel
theorem dX1_copyFrom_20 : decode cX1_copyFrom 20 = .ok (.iconst 0, 1) := by decide +kernel
theorem dX1_copyFrom_21 : decode cX1_copyFrom 21 = .ok (.aload_n 0, 1) := by decide +kernel
theorem dX1_copyFrom_22 : decode cX1_copyFrom 22 = .ok (.getfield 9, 3) := by decide +kernel
theorem dX1_copyFrom_25 : decode cX1_copyFrom 25 = .ok (.iconst 0, 1) := by decide +kernel
theorem dX1_copyFrom_26 : decode cX1_copyFrom 26 = .ok (.aload_n 0, 1) := by decide +kernel
theorem dX1_copyFrom_27 : decode cX1_copyFrom 27 = .ok (.getfield 9, 3) := by decide +kernel
theorem dX1_copyFrom_30 : decode cX1_copyFrom 30 = .ok (.arraylength, 1) := by decide +kernel
theorem dX1_copyFrom_31 : decode cX1_copyFrom 31 = .ok (.invokestatic 28, 3) := by decide +kernel
theorem dX1_copyFrom_34 : decode cX1_copyFrom 34 = .ok (.return_, 1) := by decide +kernel
theorem dX1_size_0 : decode cX1_size 0 = .ok (.aload_n 0, 1) := by decide +kernel
theorem dX1_size_1 : decode cX1_size 1 = .ok (.getfield 15, 3) := by decide +kernel
theorem dX1_size_4 : decode cX1_size 4 = .ok (.aload_n 0, 1) := by decide +kernel
theorem dX1_size_5 : decode cX1_size 5 = .ok (.getfield 19, 3) := by decide +kernel
theorem dX1_size_8 : decode cX1_size 8 = .ok (.imul, 1) := by decide +kernel
theorem dX1_size_9 : decode cX1_size 9 = .ok (.ireturn, 1) := by decide +kernel
theorem dX1_hasCell_0 : decode cX1_hasCell 0 = .ok (.iload_n 1, 1) := by decide +kernel
theorem dX1_hasCell_1 : decode cX1_hasCell 1 = .ok (.ifCond .lt 27, 3) := by decide +kernel
theorem dX1_hasCell_4 : decode cX1_hasCell 4 = .ok (.iload_n 1, 1) := by decide +kernel
theorem dX1_hasCell_5 : decode cX1_hasCell 5 = .ok (.aload_n 0, 1) := by decide +kernel
theorem dX1_hasCell_6 : decode cX1_hasCell 6 = .ok (.getfield 15, 3) := by decide +kernel
theorem dX1_hasCell_9 : decode cX1_hasCell 9 = .ok (.if_icmp .ge 19, 3) := by decide +kernel
theorem dX1_hasCell_12 : decode cX1_hasCell 12 = .ok (.iload_n 2, 1) := by decide +kernel
theorem dX1_hasCell_13 : decode cX1_hasCell 13 = .ok (.ifCond .lt 15, 3) := by decide +kernel
theorem dX1_hasCell_16 : decode cX1_hasCell 16 = .ok (.iload_n 2, 1) := by decide +kernel
theorem dX1_hasCell_17 : decode cX1_hasCell 17 = .ok (.aload_n 0, 1) := by decide +kernel
theorem dX1_hasCell_18 : decode cX1_hasCell 18 = .ok (.getfield 19, 3) := by decide +kernel
theorem dX1_hasCell_21 : decode cX1_hasCell 21 = .ok (.if_icmp .ge 7, 3) := by decide +kernel
theorem dX1_hasCell_24 : decode cX1_hasCell 24 = .ok (.iconst 1, 1) := by decide +kernel
theorem dX1_hasCell_25 : decode cX1_hasCell 25 = .ok (.goto 4, 3) := by decide +kernel
theorem dX1_hasCell_28 : decode cX1_hasCell 28 = .ok (.iconst 0, 1) := by decide +kernel
theorem dX1_hasCell_29 : decode cX1_hasCell 29 = .ok (.ireturn, 1) := by decide +kernel
theorem dX1_colourAt_0 : decode cX1_colourAt 0 = .ok (.aload_n 0, 1) := by decide +kernel
theorem dX1_colourAt_1 : decode cX1_colourAt 1 = .ok (.getfield 9, 3) := by decide +kernel
theorem dX1_colourAt_4 : decode cX1_colourAt 4 = .ok (.iload_n 2, 1) := by decide +kernel
theorem dX1_colourAt_5 : decode cX1_colourAt 5 = .ok (.aload_n 0, 1) := by decide +kernel
theorem dX1_colourAt_6 : decode cX1_colourAt 6 = .ok (.getfield 15, 3) := by decide +kernel
theorem dX1_colourAt_9 : decode cX1_colourAt 9 = .ok (.imul, 1) := by decide +kernel
theorem dX1_colourAt_10 : decode cX1_colourAt 10 = .ok (.iload_n 1, 1) := by decide +kernel
theorem dX1_colourAt_11 : decode cX1_colourAt 11 = .ok (.iadd, 1) := by decide +kernel
theorem dX1_colourAt_12 : decode cX1_colourAt 12 = .ok (.iaload, 1) := by decide +kernel
theorem dX1_colourAt_13 : decode cX1_colourAt 13 = .ok (.ireturn, 1) := by decide +kernel
theorem dX1_paint_0 : decode cX1_paint 0 = .ok (.aload_n 0, 1) := by decide +kernel
theorem dX1_paint_1 : decode cX1_paint 1 = .ok (.getfield 9, 3) := by decide +kernel
theorem dX1_paint_4 : decode cX1_paint 4 = .ok (.iload_n 2, 1) := by decide +kernel
theorem dX1_paint_5 : decode cX1_paint 5 = .ok (.aload_n 0, 1) := by decide +kernel
theorem dX1_paint_6 : decode cX1_paint 6 = .ok (.getfield 15, 3) := by decide +kernel
theorem dX1_paint_9 : decode cX1_paint 9 = .ok (.imul, 1) := by decide +kernel
theorem dX1_paint_10 : decode cX1_paint 10 = .ok (.iload_n 1, 1) := by decide +kernel
theorem dX1_paint_11 : decode cX1_paint 11 = .ok (.iadd, 1) := by decide +kernel
theorem dX1_paint_12 : decode cX1_paint 12 = .ok (.iload_n 3, 1) := by decide +kernel
theorem dX1_paint_13 : decode cX1_paint 13 = .ok (.iastore, 1) := by decide +kernel
theorem dX1_paint_14 : decode cX1_paint 14 = .ok (.return_, 1) := by decide +kernel
set_option maxRecDepth 20000 in
theorem ggX1_cellsOf_X1_size : GoodIn wsX1_cellsOf wsX1_size := goodIn_r _ [6, 7, 8, 9, 10, 11] (by decide +kernel) (by decide +kernel)
set_option maxRecDepth 20000 in
theorem gX1_cellsOf_X1_size : GoodIn wsX1_cellsOf (wsV RX1 34 RX1 yX1_size wsX1_size) := goodIn_app (goodIn_of _ (by decide +kernel)) ggX1_cellsOf_X1_size
theorem dX1_cellsOf_0 : decode cX1_cellsOf 0 = .ok (.iconst 0, 1) := by decide +kernel
theorem dX1_cellsOf_1 : decode cX1_cellsOf 1 = .ok (.istore_n 2, 1) := by decide +kernel
theorem dX1_cellsOf_2 : decode cX1_cellsOf 2 = .ok (.iconst 0, 1) := by decide +kernel
theorem dX1_cellsOf_3 : decode cX1_cellsOf 3 = .ok (.istore_n 3, 1) := by decide +kernel
theorem dX1_cellsOf_4 : decode cX1_cellsOf 4 = .ok (.iload_n 3, 1) := by decide +kernel
theorem dX1_cellsOf_5 : decode cX1_cellsOf 5 = .ok (.aload_n 0, 1) := by decide +kernel
theorem dX1_cellsOf_6 : decode cX1_cellsOf 6 = .ok (.invokevirtual 34, 3) := by decide +kernel
theorem dX1_cellsOf_9 : decode cX1_cellsOf 9 = .ok (.if_icmp .ge 22, 3) := by decide +kernel
theorem dX1_cellsOf_12 : decode cX1_cellsOf 12 = .ok (.aload_n 0, 1) := by decide +kernel
theorem dX1_cellsOf_13 : decode cX1_cellsOf 13 = .ok (.getfield 9, 3) := by decide +kernel
theorem dX1_cellsOf_16 : decode cX1_cellsOf 16 = .ok (.iload_n 3, 1) := by decide +kernel
theorem dX1_cellsOf_17 : decode cX1_cellsOf 17 = .ok (.iaload, 1) := by decide +kernel
theorem dX1_cellsOf_18 : decode cX1_cellsOf 18 = .ok (.iload_n 1, 1) := by decide +kernel
theorem dX1_cellsOf_19 : decode cX1_cellsOf 19 = .ok (.if_icmp .ne 6, 3) := by decide +kernel
theorem dX1_cellsOf_22 : decode cX1_cellsOf 22 = .ok (.iinc 2 1, 3) := by decide +kernel
theorem dX1_cellsOf_25 : decode cX1_cellsOf 25 = .ok (.iinc 3 1, 3) := by decide +kernel
theorem dX1_cellsOf_28 : decode cX1_cellsOf 28 = .ok (.goto (-24), 3) := by decide +kernel
theorem dX1_cellsOf_31 : decode cX1_cellsOf 31 = .ok (.iload_n 2, 1) := by decide +kernel
theorem dX1_cellsOf_32 : decode cX1_cellsOf 32 = .ok (.ireturn, 1) := by decide +kernel
set_option maxRecDepth 20000 in
theorem ggX1_hasImage_X1_colourInImage : GoodIn wsX1_hasImage wsX1_colourInImage := goodIn_r _ [7, 2, 1, 8, 9, 10, 6, 11, 12, 13, 14, 15] (by decide +kernel) (by decide +kernel)
set_option maxRecDepth 20000 in
theorem gX1_hasImage_X1_colourInImage : GoodIn wsX1_hasImage (wsV RX1 38 RX1 yX1_colourInImage wsX1_colourInImage) := goodIn_app (goodIn_of _ (by decide +kernel)) ggX1_hasImage_X1_colourInImage
set_option maxRecDepth 20000 in
theorem ggX1_hasImage_X1_colourAt : GoodIn wsX1_hasImage wsX1_colourAt := goodIn_r _ [11, 12, 1, 13, 14, 15] (by decide +kernel) (by decide +kernel)
set_option maxRecDepth 20000 in
theorem gX1_hasImage_X1_colourAt : GoodIn wsX1_hasImage (wsV RX1 42 RX1 yX1_colourAt wsX1_colourAt) := goodIn_app (goodIn_of _ (by decide +kernel)) ggX1_hasImage_X1_colourAt
theorem dX1_hasImage_0 : decode cX1_hasImage 0 = .ok (.iload_n 1, 1) := by decide +kernel
theorem dX1_hasImage_1 : decode cX1_hasImage 1 = .ok (.iconst 1, 1) := by decide +kernel
theorem dX1_hasImage_2 : decode cX1_hasImage 2 = .ok (.iand, 1) := by decide +kernel
theorem dX1_hasImage_3 : decode cX1_hasImage 3 = .ok (.ifCond .eq 7, 3) := by decide +kernel
theorem dX1_hasImage_6 : decode cX1_hasImage 6 = .ok (.iconst 1, 1) := by decide +kernel
theorem dX1_hasImage_7 : decode cX1_hasImage 7 = .ok (.goto 4, 3) := by decide +kernel
theorem dX1_hasImage_10 : decode cX1_hasImage 10 = .ok (.iconst 0, 1) := by decide +kernel
theorem dX1_hasImage_11 : decode cX1_hasImage 11 = .ok (.istore_n 3, 1) := by decide +kernel
theorem dX1_hasImage_12 : decode cX1_hasImage 12 = .ok (.aload_n 2, 1) := by decide +kernel
theorem dX1_hasImage_13 : decode cX1_hasImage 13 = .ok (.getfield 15, 3) := by decide +kernel
theorem dX1_hasImage_16 : decode cX1_hasImage 16 = .ok (.iload_n 3, 1) := by decide +kernel
theorem dX1_hasImage_17 : decode cX1_hasImage 17 = .ok (.ifCond .eq 10, 3) := by decide +kernel
theorem dX1_hasImage_20 : decode cX1_hasImage 20 = .ok (.aload_n 0, 1) := by decide +kernel
theorem dX1_hasImage_21 : decode cX1_hasImage 21 = .ok (.getfield 19, 3) := by decide +kernel
theorem dX1_hasImage_24 : decode cX1_hasImage 24 = .ok (.goto 7, 3) := by decide +kernel
theorem dX1_hasImage_27 : decode cX1_hasImage 27 = .ok (.aload_n 0, 1) := by decide +kernel
theorem dX1_hasImage_28 : decode cX1_hasImage 28 = .ok (.getfield 15, 3) := by decide +kernel
theorem dX1_hasImage_31 : decode cX1_hasImage 31 = .ok (.if_icmp .ne 25, 3) := by decide +kernel
theorem dX1_hasImage_34 : decode cX1_hasImage 34 = .ok (.aload_n 2, 1) := by decide +kernel
theorem dX1_hasImage_35 : decode cX1_hasImage 35 = .ok (.getfield 19, 3) := by decide +kernel
theorem dX1_hasImage_38 : decode cX1_hasImage 38 = .ok (.iload_n 3, 1) := by decide +kernel
theorem dX1_hasImage_39 : decode cX1_hasImage 39 = .ok (.ifCond .eq 10, 3) := by decide +kernel
theorem dX1_hasImage_42 : decode cX1_hasImage 42 = .ok (.aload_n 0, 1) := by decide +kernel
theorem dX1_hasImage_43 : decode cX1_hasImage 43 = .ok (.getfield 15, 3) := by decide +kernel
theorem dX1_hasImage_46 : decode cX1_hasImage 46 = .ok (.goto 7, 3) := by decide +kernel
theorem dX1_hasImage_49 : decode cX1_hasImage 49 = .ok (.aload_n 0, 1) := by decide +kernel
theorem dX1_hasImage_50 : decode cX1_hasImage 50 = .ok (.getfield 19, 3) := by decide +kernel
theorem dX1_hasImage_53 : decode cX1_hasImage 53 = .ok (.if_icmp .eq 5, 3) := by decide +kernel
theorem dX1_hasImage_56 : decode cX1_hasImage 56 = .ok (.iconst 0, 1) := by decide +kernel
theorem dX1_hasImage_57 : decode cX1_hasImage 57 = .ok (.ireturn, 1) := by decide +kernel
theorem dX1_hasImage_58 : decode cX1_hasImage 58 = .ok (.iconst 0, 1) := by decide +kernel
theorem dX1_hasImage_59 : decode cX1_hasImage 59 = .ok (.istore 4, 2) := by decide +kernel
theorem dX1_hasImage_61 : decode cX1_hasImage 61 = .ok (.iload 4, 2) := by decide +kernel
theorem dX1_hasImage_63 : decode cX1_hasImage 63 = .ok (.aload_n 2, 1) := by decide +kernel
theorem dX1_hasImage_64 : decode cX1_hasImage 64 = .ok (.getfield 19, 3) := by decide +kernel
theorem dX1_hasImage_67 : decode cX1_hasImage 67 = .ok (.if_icmp .ge 49, 3) := by decide +kernel
theorem dX1_hasImage_70 : decode cX1_hasImage 70 = .ok (.iconst 0, 1) := by decide +kernel
theorem dX1_hasImage_71 : decode cX1_hasImage 71 = .ok (.istore 5, 2) := by decide +kernel
theorem dX1_hasImage_73 : decode cX1_hasImage 73 = .ok (.iload 5, 2) := by decide +kernel
theorem dX1_hasImage_75 : decode cX1_hasImage 75 = .ok (.aload_n 2, 1) := by decide +kernel
theorem dX1_hasImage_76 : decode cX1_hasImage 76 = .ok (.getfield 15, 3) := by decide +kernel
theorem dX1_hasImage_79 : decode cX1_hasImage 79 = .ok (.if_icmp .ge 31, 3) := by decide +kernel
theorem dX1_hasImage_82 : decode cX1_hasImage 82 = .ok (.aload_n 0, 1) := by decide +kernel
theorem dX1_hasImage_83 : decode cX1_hasImage 83 = .ok (.iload_n 1, 1) := by decide +kernel
theorem dX1_hasImage_84 : decode cX1_hasImage 84 = .ok (.iload 5, 2) := by decide +kernel
theorem dX1_hasImage_86 : decode cX1_hasImage 86 = .ok (.iload 4, 2) := by decide +kernel
theorem dX1_hasImage_88 : decode cX1_hasImage 88 = .ok (.invokevirtual 38, 3) := by decide +kernel
theorem dX1_hasImage_91 : decode cX1_hasImage 91 = .ok (.aload_n 2, 1) := by decide +kernel
theorem dX1_hasImage_92 : decode cX1_hasImage 92 = .ok (.iload 5, 2) := by decide +kernel
theorem dX1_hasImage_94 : decode cX1_hasImage 94 = .ok (.iload 4, 2) := by decide +kernel
theorem dX1_hasImage_96 : decode cX1_hasImage 96 = .ok (.invokevirtual 42, 3) := by decide +kernel
theorem dX1_hasImage_99 : decode cX1_hasImage 99 = .ok (.if_icmp .eq 5, 3) := by decide +kernel
theorem dX1_hasImage_102 : decode cX1_hasImage 102 = .ok (.iconst 0, 1) := by decide +kernel
theorem dX1_hasImage_103 : decode cX1_hasImage 103 = .ok (.ireturn, 1) := by decide +kernel
theorem dX1_hasImage_104 : decode cX1_hasImage 104 = .ok (.iinc 5 1, 3) := by decide +kernel
theorem dX1_hasImage_107 : decode cX1_hasImage 107 = .ok (.goto (-34), 3) := by decide +kernel
theorem dX1_hasImage_110 : decode cX1_hasImage 110 = .ok (.iinc 4 1, 3) := by decide +kernel
theorem dX1_hasImage_113 : decode cX1_hasImage 113 = .ok (.goto (-52), 3) := by decide +kernel
theorem dX1_hasImage_116 : decode cX1_hasImage 116 = .ok (.iconst 1, 1) := by decide +kernel
theorem dX1_hasImage_117 : decode cX1_hasImage 117 = .ok (.ireturn, 1) := by decide +kernel
set_option maxRecDepth 20000 in
theorem ggX1_colourInImage_X1_colourAt : GoodIn wsX1_colourInImage wsX1_colourAt := goodIn_r _ [7, 8, 2, 9, 10, 11] (by decide +kernel) (by decide +kernel)
set_option maxRecDepth 20000 in
theorem gX1_colourInImage_X1_colourAt : GoodIn wsX1_colourInImage (wsV RX1 42 RX1 yX1_colourAt wsX1_colourAt) := goodIn_app (goodIn_of _ (by decide +kernel)) ggX1_colourInImage_X1_colourAt
theorem dX1_colourInImage_0 : decode cX1_colourInImage 0 = .ok (.iload_n 2, 1) := by decide +kernel
theorem dX1_colourInImage_1 : decode cX1_colourInImage 1 = .ok (.istore 4, 2) := by decide +kernel
theorem dX1_colourInImage_3 : decode cX1_colourInImage 3 = .ok (.iload_n 3, 1) := by decide +kernel
theorem dX1_colourInImage_4 : decode cX1_colourInImage 4 = .ok (.istore 5, 2) := by decide +kernel
theorem dX1_colourInImage_6 : decode cX1_colourInImage 6 = .ok (.iload_n 1, 1) := by decide +kernel
theorem dX1_colourInImage_7 : decode cX1_colourInImage 7 = .ok (.iconst 3, 1) := by decide +kernel
theorem dX1_colourInImage_8 : decode cX1_colourInImage 8 = .ok (.iand, 1) := by decide +kernel
theorem dX1_colourInImage_9 : decode cX1_colourInImage 9 = .ok (.tableswitch 82 1 3 #[27, 43, 66], 27) := by decide +kernel
theorem dX1_colourInImage_36 : decode cX1_colourInImage 36 = .ok (.iload_n 3, 1) := by decide +kernel
theorem dX1_colourInImage_37 : decode cX1_colourInImage 37 = .ok (.istore 4, 2) := by decide +kernel
theorem dX1_colourInImage_39 : decode cX1_colourInImage 39 = .ok (.aload_n 0, 1) := by decide +kernel
theorem dX1_colourInImage_40 : decode cX1_colourInImage 40 = .ok (.getfield 19, 3) := by decide +kernel
theorem dX1_colourInImage_43 : decode cX1_colourInImage 43 = .ok (.iconst 1, 1) := by decide +kernel
theorem dX1_colourInImage_44 : decode cX1_colourInImage 44 = .ok (.isub, 1) := by decide +kernel
theorem dX1_colourInImage_45 : decode cX1_colourInImage 45 = .ok (.iload_n 2, 1) := by decide +kernel
theorem dX1_colourInImage_46 : decode cX1_colourInImage 46 = .ok (.isub, 1) := by decide +kernel
theorem dX1_colourInImage_47 : decode cX1_colourInImage 47 = .ok (.istore 5, 2) := by decide +kernel
theorem dX1_colourInImage_49 : decode cX1_colourInImage 49 = .ok (.goto 42, 3) := by decide +kernel
theorem dX1_colourInImage_52 : decode cX1_colourInImage 52 = .ok (.aload_n 0, 1) := by decide +kernel
theorem dX1_colourInImage_53 : decode cX1_colourInImage 53 = .ok (.getfield 15, 3) := by decide +kernel
theorem dX1_colourInImage_56 : decode cX1_colourInImage 56 = .ok (.iconst 1, 1) := by decide +kernel
theorem dX1_colourInImage_57 : decode cX1_colourInImage 57 = .ok (.isub, 1) := by decide +kernel
theorem dX1_colourInImage_58 : decode cX1_colourInImage 58 = .ok (.iload_n 2, 1) := by decide +kernel
theorem dX1_colourInImage_59 : decode cX1_colourInImage 59 = .ok (.isub, 1) := by decide +kernel
theorem dX1_colourInImage_60 : decode cX1_colourInImage 60 = .ok (.istore 4, 2) := by decide +kernel
theorem dX1_colourInImage_62 : decode cX1_colourInImage 62 = .ok (.aload_n 0, 1) := by decide +kernel
theorem dX1_colourInImage_63 : decode cX1_colourInImage 63 = .ok (.getfield 19, 3) := by decide +kernel
theorem dX1_colourInImage_66 : decode cX1_colourInImage 66 = .ok (.iconst 1, 1) := by decide +kernel
theorem dX1_colourInImage_67 : decode cX1_colourInImage 67 = .ok (.isub, 1) := by decide +kernel
theorem dX1_colourInImage_68 : decode cX1_colourInImage 68 = .ok (.iload_n 3, 1) := by decide +kernel
theorem dX1_colourInImage_69 : decode cX1_colourInImage 69 = .ok (.isub, 1) := by decide +kernel
theorem dX1_colourInImage_70 : decode cX1_colourInImage 70 = .ok (.istore 5, 2) := by decide +kernel
theorem dX1_colourInImage_72 : decode cX1_colourInImage 72 = .ok (.goto 19, 3) := by decide +kernel
theorem dX1_colourInImage_75 : decode cX1_colourInImage 75 = .ok (.aload_n 0, 1) := by decide +kernel
theorem dX1_colourInImage_76 : decode cX1_colourInImage 76 = .ok (.getfield 15, 3) := by decide +kernel
theorem dX1_colourInImage_79 : decode cX1_colourInImage 79 = .ok (.iconst 1, 1) := by decide +kernel
theorem dX1_colourInImage_80 : decode cX1_colourInImage 80 = .ok (.isub, 1) := by decide +kernel
theorem dX1_colourInImage_81 : decode cX1_colourInImage 81 = .ok (.iload_n 3, 1) := by decide +kernel
theorem dX1_colourInImage_82 : decode cX1_colourInImage 82 = .ok (.isub, 1) := by decide +kernel
theorem dX1_colourInImage_83 : decode cX1_colourInImage 83 = .ok (.istore 4, 2) := by decide +kernel
theorem dX1_colourInImage_85 : decode cX1_colourInImage 85 = .ok (.iload_n 2, 1) := by decide +kernel
theorem dX1_colourInImage_86 : decode cX1_colourInImage 86 = .ok (.istore 5, 2) := by decide +kernel
theorem dX1_colourInImage_88 : decode cX1_colourInImage 88 = .ok (.goto 3, 3) := by decide +kernel
theorem dX1_colourInImage_91 : decode cX1_colourInImage 91 = .ok (.iload_n 1, 1) := by decide +kernel
theorem dX1_colourInImage_92 : decode cX1_colourInImage 92 = .ok (.iconst 4, 1) := by decide +kernel
theorem dX1_colourInImage_93 : decode cX1_colourInImage 93 = .ok (.iand, 1) := by decide +kernel
theorem dX1_colourInImage_94 : decode cX1_colourInImage 94 = .ok (.ifCond .eq 14, 3) := by decide +kernel
theorem dX1_colourInImage_97 : decode cX1_colourInImage 97 = .ok (.aload_n 0, 1) := by decide +kernel
theorem dX1_colourInImage_98 : decode cX1_colourInImage 98 = .ok (.getfield 15, 3) := by decide +kernel
theorem dX1_colourInImage_101 : decode cX1_colourInImage 101 = .ok (.iconst 1, 1) := by decide +kernel
theorem dX1_colourInImage_102 : decode cX1_colourInImage 102 = .ok (.isub, 1) := by decide +kernel
theorem dX1_colourInImage_103 : decode cX1_colourInImage 103 = .ok (.iload 4, 2) := by decide +kernel
theorem dX1_colourInImage_105 : decode cX1_colourInImage 105 = .ok (.isub, 1) := by decide +kernel
theorem dX1_colourInImage_106 : decode cX1_colourInImage 106 = .ok (.istore 4, 2) := by decide +kernel
theorem dX1_colourInImage_108 : decode cX1_colourInImage 108 = .ok (.aload_n 0, 1) := by decide +kernel
theorem dX1_colourInImage_109 : decode cX1_colourInImage 109 = .ok (.iload 4, 2) := by decide +kernel
theorem dX1_colourInImage_111 : decode cX1_colourInImage 111 = .ok (.iload 5, 2) := by decide +kernel
theorem dX1_colourInImage_113 : decode cX1_colourInImage 113 = .ok (.invokevirtual 42, 3) := by decide +kernel
theorem dX1_colourInImage_116 : decode cX1_colourInImage 116 = .ok (.ireturn, 1) := by decide +kernel
set_option maxRecDepth 20000 in
theorem ggX1_placesOf_X1_shows : GoodIn wsX1_placesOf wsX1_shows := goodIn_r _ [7, 1, 2, 8, 9, 10, 6, 11, 12, 13, 14, 15] (by decide +kernel) (by decide +kernel)
set_option maxRecDepth 20000 in
theorem gX1_placesOf_X1_shows : GoodIn wsX1_placesOf (wsV RX1 46 RX1 yX1_shows wsX1_shows) := goodIn_app (goodIn_of _ (by decide +kernel)) ggX1_placesOf_X1_shows
theorem dX1_placesOf_0 : decode cX1_placesOf 0 = .ok (.iconst 0, 1) := by decide +kernel
theorem dX1_placesOf_1 : decode cX1_placesOf 1 = .ok (.istore_n 2, 1) := by decide +kernel
theorem dX1_placesOf_2 : decode cX1_placesOf 2 = .ok (.iconst 0, 1) := by decide +kernel
theorem dX1_placesOf_3 : decode cX1_placesOf 3 = .ok (.istore_n 3, 1) := by decide +kernel
theorem dX1_placesOf_4 : decode cX1_placesOf 4 = .ok (.iload_n 3, 1) := by decide +kernel
theorem dX1_placesOf_5 : decode cX1_placesOf 5 = .ok (.aload_n 1, 1) := by decide +kernel
theorem dX1_placesOf_6 : decode cX1_placesOf 6 = .ok (.getfield 19, 3) := by decide +kernel
theorem dX1_placesOf_9 : decode cX1_placesOf 9 = .ok (.iadd, 1) := by decide +kernel
theorem dX1_placesOf_10 : decode cX1_placesOf 10 = .ok (.aload_n 0, 1) := by decide +kernel
theorem dX1_placesOf_11 : decode cX1_placesOf 11 = .ok (.getfield 19, 3) := by decide +kernel
theorem dX1_placesOf_14 : decode cX1_placesOf 14 = .ok (.if_icmp .gt 46, 3) := by decide +kernel
theorem dX1_placesOf_17 : decode cX1_placesOf 17 = .ok (.iconst 0, 1) := by decide +kernel
theorem dX1_placesOf_18 : decode cX1_placesOf 18 = .ok (.istore 4, 2) := by decide +kernel
theorem dX1_placesOf_20 : decode cX1_placesOf 20 = .ok (.iload 4, 2) := by decide +kernel
theorem dX1_placesOf_22 : decode cX1_placesOf 22 = .ok (.aload_n 1, 1) := by decide +kernel
theorem dX1_placesOf_23 : decode cX1_placesOf 23 = .ok (.getfield 15, 3) := by decide +kernel
theorem dX1_placesOf_26 : decode cX1_placesOf 26 = .ok (.iadd, 1) := by decide +kernel
theorem dX1_placesOf_27 : decode cX1_placesOf 27 = .ok (.aload_n 0, 1) := by decide +kernel
theorem dX1_placesOf_28 : decode cX1_placesOf 28 = .ok (.getfield 15, 3) := by decide +kernel
theorem dX1_placesOf_31 : decode cX1_placesOf 31 = .ok (.if_icmp .gt 23, 3) := by decide +kernel
theorem dX1_placesOf_34 : decode cX1_placesOf 34 = .ok (.aload_n 0, 1) := by decide +kernel
theorem dX1_placesOf_35 : decode cX1_placesOf 35 = .ok (.aload_n 1, 1) := by decide +kernel
theorem dX1_placesOf_36 : decode cX1_placesOf 36 = .ok (.iload 4, 2) := by decide +kernel
theorem dX1_placesOf_38 : decode cX1_placesOf 38 = .ok (.iload_n 3, 1) := by decide +kernel
theorem dX1_placesOf_39 : decode cX1_placesOf 39 = .ok (.invokevirtual 46, 3) := by decide +kernel
theorem dX1_placesOf_42 : decode cX1_placesOf 42 = .ok (.ifCond .eq 6, 3) := by decide +kernel
theorem dX1_placesOf_45 : decode cX1_placesOf 45 = .ok (.iinc 2 1, 3) := by decide +kernel
theorem dX1_placesOf_48 : decode cX1_placesOf 48 = .ok (.iinc 4 1, 3) := by decide +kernel
theorem dX1_placesOf_51 : decode cX1_placesOf 51 = .ok (.goto (-31), 3) := by decide +kernel
theorem dX1_placesOf_54 : decode cX1_placesOf 54 = .ok (.iinc 3 1, 3) := by decide +kernel
theorem dX1_placesOf_57 : decode cX1_placesOf 57 = .ok (.goto (-53), 3) := by decide +kernel
theorem dX1_placesOf_60 : decode cX1_placesOf 60 = .ok (.iload_n 2, 1) := by decide +kernel
theorem dX1_placesOf_61 : decode cX1_placesOf 61 = .ok (.ireturn, 1) := by decide +kernel
set_option maxRecDepth 20000 in
theorem ggX1_shows_X1_colourAt : GoodIn wsX1_shows wsX1_colourAt := goodIn_r _ [7, 8, 2, 9, 10, 11] (by decide +kernel) (by decide +kernel)
set_option maxRecDepth 20000 in
theorem gX1_shows_X1_colourAt : GoodIn wsX1_shows (wsV RX1 42 RX1 yX1_colourAt wsX1_colourAt) := goodIn_app (goodIn_of _ (by decide +kernel)) ggX1_shows_X1_colourAt
theorem dX1_shows_0 : decode cX1_shows 0 = .ok (.iconst 0, 1) := by decide +kernel
theorem dX1_shows_1 : decode cX1_shows 1 = .ok (.istore 4, 2) := by decide +kernel
theorem dX1_shows_3 : decode cX1_shows 3 = .ok (.iload 4, 2) := by decide +kernel
theorem dX1_shows_5 : decode cX1_shows 5 = .ok (.aload_n 1, 1) := by decide +kernel
theorem dX1_shows_6 : decode cX1_shows 6 = .ok (.getfield 19, 3) := by decide +kernel
theorem dX1_shows_9 : decode cX1_shows 9 = .ok (.if_icmp .ge 52, 3) := by decide +kernel
theorem dX1_shows_12 : decode cX1_shows 12 = .ok (.iconst 0, 1) := by decide +kernel
theorem dX1_shows_13 : decode cX1_shows 13 = .ok (.istore 5, 2) := by decide +kernel
theorem dX1_shows_15 : decode cX1_shows 15 = .ok (.iload 5, 2) := by decide +kernel
theorem dX1_shows_17 : decode cX1_shows 17 = .ok (.aload_n 1, 1) := by decide +kernel
theorem dX1_shows_18 : decode cX1_shows 18 = .ok (.getfield 15, 3) := by decide +kernel
theorem dX1_shows_21 : decode cX1_shows 21 = .ok (.if_icmp .ge 34, 3) := by decide +kernel
theorem dX1_shows_24 : decode cX1_shows 24 = .ok (.aload_n 0, 1) := by decide +kernel
theorem dX1_shows_25 : decode cX1_shows 25 = .ok (.iload_n 2, 1) := by decide +kernel
theorem dX1_shows_26 : decode cX1_shows 26 = .ok (.iload 5, 2) := by decide +kernel
theorem dX1_shows_28 : decode cX1_shows 28 = .ok (.iadd, 1) := by decide +kernel
theorem dX1_shows_29 : decode cX1_shows 29 = .ok (.iload_n 3, 1) := by decide +kernel
theorem dX1_shows_30 : decode cX1_shows 30 = .ok (.iload 4, 2) := by decide +kernel
theorem dX1_shows_32 : decode cX1_shows 32 = .ok (.iadd, 1) := by decide +kernel
theorem dX1_shows_33 : decode cX1_shows 33 = .ok (.invokevirtual 42, 3) := by decide +kernel
theorem dX1_shows_36 : decode cX1_shows 36 = .ok (.aload_n 1, 1) := by decide +kernel
theorem dX1_shows_37 : decode cX1_shows 37 = .ok (.iload 5, 2) := by decide +kernel
theorem dX1_shows_39 : decode cX1_shows 39 = .ok (.iload 4, 2) := by decide +kernel
theorem dX1_shows_41 : decode cX1_shows 41 = .ok (.invokevirtual 42, 3) := by decide +kernel
theorem dX1_shows_44 : decode cX1_shows 44 = .ok (.if_icmp .eq 5, 3) := by decide +kernel
theorem dX1_shows_47 : decode cX1_shows 47 = .ok (.iconst 0, 1) := by decide +kernel
theorem dX1_shows_48 : decode cX1_shows 48 = .ok (.ireturn, 1) := by decide +kernel
theorem dX1_shows_49 : decode cX1_shows 49 = .ok (.iinc 5 1, 3) := by decide +kernel
theorem dX1_shows_52 : decode cX1_shows 52 = .ok (.goto (-37), 3) := by decide +kernel
theorem dX1_shows_55 : decode cX1_shows 55 = .ok (.iinc 4 1, 3) := by decide +kernel
theorem dX1_shows_58 : decode cX1_shows 58 = .ok (.goto (-55), 3) := by decide +kernel
theorem dX1_shows_61 : decode cX1_shows 61 = .ok (.iconst 1, 1) := by decide +kernel
theorem dX1_shows_62 : decode cX1_shows 62 = .ok (.ireturn, 1) := by decide +kernel
set_option maxRecDepth 20000 in
theorem ggX2_init_X1_init : GoodIn wsX2_init wsX1_init := goodIn_r _ [27, 28, 2, 3, 5, 29, 30, 31, 61, 62, 63] (by decide +kernel) (by decide +kernel)
set_option maxRecDepth 20000 in
theorem gX2_init_X1_init_n23 : GoodIn wsX2_init (wsX1_init) := ggX2_init_X1_init
set_option maxRecDepth 20000 in
theorem ggX2_init_X0_init : GoodIn wsX2_init wsX0_init := goodIn_r _ [33, 34, 2, 3, 5, 35, 36, 37, 38, 39, 40, 41, 42, 43, 44, 64, 65, 66, 67, 68, 69] (by decide +kernel) (by decide +kernel)
set_option maxRecDepth 20000 in
theorem gX2_init_X0_init_n46 : GoodIn wsX2_init (wsX0_init) := ggX2_init_X0_init
set_option maxRecDepth 20000 in
theorem ggX2_init_J7_fill_53178 : GoodIn wsX2_init wsJ7_fill_53178 := goodIn_r _ [44] (by decide +kernel) (by decide +kernel)
set_option maxRecDepth 20000 in
theorem gX2_init_J7_fill_53178 : GoodIn wsX2_init (va_wsS RX2 61 yJ7_fill_53178 wsJ7_fill_53178) := goodIn_app (goodIn_of _ (by decide +kernel)) ggX2_init_J7_fill_53178
theorem dX2_init_0 : decode cX2_init 0 = .ok (.aload_n 0, 1) := by decide +kernel
theorem dX2_init_1 : decode cX2_init 1 = .ok (.invokespecial 1, 3) := by decide +kernel
theorem dX2_init_4 : decode cX2_init 4 = .ok (.aload_n 0, 1) := by decide +kernel
theorem dX2_init_5 : decode cX2_init 5 = .ok (.bipush 7, 2) := by decide +kernel
theorem dX2_init_7 : decode cX2_init 7 = .ok (.bipush 8, 2) := by decide +kernel
theorem dX2_init_9 : decode cX2_init 9 = .ok (.multianewarray 9 2, 4) := by decide +kernel
theorem dX2_init_13 : decode cX2_init 13 = .ok (.putfield 11, 3) := by decide +kernel
theorem dX2_init_16 : decode cX2_init 16 = .ok (.aload_n 0, 1) := by decide +kernel
theorem dX2_init_17 : decode cX2_init 17 = .ok (.bipush 8, 2) := by decide +kernel
theorem dX2_init_19 : decode cX2_init 19 = .ok (.newarray .int, 2) := by decide +kernel
theorem dX2_init_21 : decode cX2_init 21 = .ok (.putfield 14, 3) := by decide +kernel
theorem dX2_init_24 : decode cX2_init 24 = .ok (.aload_n 0, 1) := by decide +kernel
theorem dX2_init_25 : decode cX2_init 25 = .ok (.bipush 8, 2) := by decide +kernel
theorem dX2_init_27 : decode cX2_init 27 = .ok (.newarray .int, 2) := by decide +kernel
theorem dX2_init_29 : decode cX2_init 29 = .ok (.putfield 18, 3) := by decide +kernel
theorem dX2_init_32 : decode cX2_init 32 = .ok (.aload_n 0, 1) := by decide +kernel
theorem dX2_init_33 : decode cX2_init 33 = .ok (.new 21, 3) := by decide +kernel
theorem dX2_init_36 : decode cX2_init 36 = .ok (.dup, 1) := by decide +kernel
theorem dX2_init_37 : decode cX2_init 37 = .ok (.invokespecial 23, 3) := by decide +kernel
theorem dX2_init_40 : decode cX2_init 40 = .ok (.putfield 24, 3) := by decide +kernel
theorem dX2_init_43 : decode cX2_init 43 = .ok (.aload_n 0, 1) := by decide +kernel
theorem dX2_init_44 : decode cX2_init 44 = .ok (.bipush 12, 2) := by decide +kernel
theorem dX2_init_46 : decode cX2_init 46 = .ok (.anewarray 21, 3) := by decide +kernel
theorem dX2_init_49 : decode cX2_init 49 = .ok (.putfield 28, 3) := by decide +kernel
theorem dX2_init_52 : decode cX2_init 52 = .ok (.aload_n 0, 1) := by decide +kernel
theorem dX2_init_53 : decode cX2_init 53 = .ok (.bipush 12, 2) := by decide +kernel
theorem dX2_init_55 : decode cX2_init 55 = .ok (.newarray .int, 2) := by decide +kernel
theorem dX2_init_57 : decode cX2_init 57 = .ok (.putfield 32, 3) := by decide +kernel
theorem dX2_init_60 : decode cX2_init 60 = .ok (.aload_n 0, 1) := by decide +kernel
theorem dX2_init_61 : decode cX2_init 61 = .ok (.bipush 20, 2) := by decide +kernel
theorem dX2_init_63 : decode cX2_init 63 = .ok (.newarray .int, 2) := by decide +kernel
theorem dX2_init_65 : decode cX2_init 65 = .ok (.putfield 35, 3) := by decide +kernel
theorem dX2_init_68 : decode cX2_init 68 = .ok (.aload_n 0, 1) := by decide +kernel
theorem dX2_init_69 : decode cX2_init 69 = .ok (.bipush 20, 2) := by decide +kernel
theorem dX2_init_71 : decode cX2_init 71 = .ok (.newarray .int, 2) := by decide +kernel
theorem dX2_init_73 : decode cX2_init 73 = .ok (.putfield 38, 3) := by decide +kernel
theorem dX2_init_76 : decode cX2_init 76 = .ok (.aload_n 0, 1) := by decide +kernel
theorem dX2_init_77 : decode cX2_init 77 = .ok (.bipush 7, 2) := by decide +kernel
theorem dX2_init_79 : decode cX2_init 79 = .ok (.newarray .int, 2) := by decide +kernel
theorem dX2_init_81 : decode cX2_init 81 = .ok (.putfield 41, 3) := by decide +kernel
theorem dX2_init_84 : decode cX2_init 84 = .ok (.aload_n 0, 1) := by decide +kernel
theorem dX2_init_85 : decode cX2_init 85 = .ok (.new 44, 3) := by decide +kernel
theorem dX2_init_88 : decode cX2_init 88 = .ok (.dup, 1) := by decide +kernel
theorem dX2_init_89 : decode cX2_init 89 = .ok (.invokespecial 46, 3) := by decide +kernel
theorem dX2_init_92 : decode cX2_init 92 = .ok (.putfield 47, 3) := by decide +kernel
theorem dX2_init_95 : decode cX2_init 95 = .ok (.aload_n 0, 1) := by decide +kernel
theorem dX2_init_96 : decode cX2_init 96 = .ok (.bipush 8, 2) := by decide +kernel
theorem dX2_init_98 : decode cX2_init 98 = .ok (.anewarray 21, 3) := by decide +kernel
theorem dX2_init_101 : decode cX2_init 101 = .ok (.putfield 51, 3) := by decide +kernel
theorem dX2_init_104 : decode cX2_init 104 = .ok (.aload_n 0, 1) := by decide +kernel
theorem dX2_init_105 : decode cX2_init 105 = .ok (.bipush 8, 2) := by decide +kernel
theorem dX2_init_107 : decode cX2_init 107 = .ok (.newarray .int, 2) := by decide +kernel
theorem dX2_init_109 : decode cX2_init 109 = .ok (.putfield 54, 3) := by decide +kernel
theorem dX2_init_112 : decode cX2_init 112 = .ok (.aload_n 0, 1) := by decide +kernel
theorem dX2_init_113 : decode cX2_init 113 = .ok (.bipush 7, 2) := by decide +kernel
theorem dX2_init_115 : decode cX2_init 115 = .ok (.newarray .long, 2) := by decide +kernel
theorem dX2_init_117 : decode cX2_init 117 = .ok (.putfield 57, 3) := by decide +kernel
theorem dX2_init_120 : decode cX2_init 120 = .ok (.iconst 0, 1) := by decide +kernel
theorem dX2_init_121 : decode cX2_init 121 = .ok (.istore_n 1, 1) := by decide +kernel
theorem dX2_init_122 : decode cX2_init 122 = .ok (.iload_n 1, 1) := by decide +kernel
theorem dX2_init_123 : decode cX2_init 123 = .ok (.bipush 12, 2) := by decide +kernel
theorem dX2_init_125 : decode cX2_init 125 = .ok (.if_icmp .ge 22, 3) := by decide +kernel
theorem dX2_init_128 : decode cX2_init 128 = .ok (.aload_n 0, 1) := by decide +kernel
theorem dX2_init_129 : decode cX2_init 129 = .ok (.getfield 28, 3) := by decide +kernel
theorem dX2_init_132 : decode cX2_init 132 = .ok (.iload_n 1, 1) := by decide +kernel
theorem dX2_init_133 : decode cX2_init 133 = .ok (.new 21, 3) := by decide +kernel
theorem dX2_init_136 : decode cX2_init 136 = .ok (.dup, 1) := by decide +kernel
theorem dX2_init_137 : decode cX2_init 137 = .ok (.invokespecial 23, 3) := by decide +kernel
theorem dX2_init_140 : decode cX2_init 140 = .ok (.aastore, 1) := by decide +kernel
theorem dX2_init_141 : decode cX2_init 141 = .ok (.iinc 1 1, 3) := by decide +kernel
theorem dX2_init_144 : decode cX2_init 144 = .ok (.goto (-22), 3) := by decide +kernel
theorem dX2_init_147 : decode cX2_init 147 = .ok (.iconst 0, 1) := by decide +kernel
theorem dX2_init_148 : decode cX2_init 148 = .ok (.istore_n 1, 1) := by decide +kernel
theorem dX2_init_149 : decode cX2_init 149 = .ok (.iload_n 1, 1) := by decide +kernel
theorem dX2_init_150 : decode cX2_init 150 = .ok (.bipush 8, 2) := by decide +kernel
theorem dX2_init_152 : decode cX2_init 152 = .ok (.if_icmp .ge 22, 3) := by decide +kernel
theorem dX2_init_155 : decode cX2_init 155 = .ok (.aload_n 0, 1) := by decide +kernel
theorem dX2_init_156 : decode cX2_init 156 = .ok (.getfield 51, 3) := by decide +kernel
theorem dX2_init_159 : decode cX2_init 159 = .ok (.iload_n 1, 1) := by decide +kernel
theorem dX2_init_160 : decode cX2_init 160 = .ok (.new 21, 3) := by decide +kernel
theorem dX2_init_163 : decode cX2_init 163 = .ok (.dup, 1) := by decide +kernel
theorem dX2_init_164 : decode cX2_init 164 = .ok (.invokespecial 23, 3) := by decide +kernel
theorem dX2_init_167 : decode cX2_init 167 = .ok (.aastore, 1) := by decide +kernel
theorem dX2_init_168 : decode cX2_init 168 = .ok (.iinc 1 1, 3) := by decide +kernel
theorem dX2_init_171 : decode cX2_init 171 = .ok (.goto (-22), 3) := by decide +kernel
theorem dX2_init_174 : decode cX2_init 174 = .ok (.aload_n 0, 1) := by decide +kernel
theorem dX2_init_175 : decode cX2_init 175 = .ok (.getfield 35, 3) := by decide +kernel
theorem dX2_init_178 : decode cX2_init 178 = .ok (.iconst (-1), 1) := by decide +kernel
theorem dX2_init_179 : decode cX2_init 179 = .ok (.invokestatic 61, 3) := by decide +kernel
theorem dX2_init_182 : decode cX2_init 182 = .ok (.return_, 1) := by decide +kernel
set_option maxRecDepth 20000 in
theorem ggX2_bring_X2_checkPerson : GoodIn wsX2_bring wsX2_checkPerson := goodIn_ca (goodIn_r _ [9, 10, 11] (by decide +kernel) (by decide +kernel)) (goodIn_sub (fun _ h => List.mem_cons_of_mem _ (List.mem_append_left _ (List.mem_append_right _ h))) (by decide +kernel))
set_option maxRecDepth 20000 in
theorem gX2_bring_X2_checkPerson : GoodIn wsX2_bring (va_wsS RX2 67 yX2_checkPerson wsX2_checkPerson) := goodIn_app (goodIn_of _ (by decide +kernel)) ggX2_bring_X2_checkPerson
set_option maxRecDepth 20000 in
theorem ggX2_bring_X2_checkColour : GoodIn wsX2_bring wsX2_checkColour := goodIn_ca (goodIn_r _ [14, 10, 11] (by decide +kernel) (by decide +kernel)) (goodIn_sub (fun _ h => List.mem_cons_of_mem _ (List.mem_append_left _ (List.mem_append_right _ h))) (by decide +kernel))
set_option maxRecDepth 20000 in
theorem gX2_bring_X2_checkColour : GoodIn wsX2_bring (va_wsS RX2 71 yX2_checkColour wsX2_checkColour) := goodIn_app (goodIn_of _ (by decide +kernel)) ggX2_bring_X2_checkColour
set_option maxRecDepth 20000 in
theorem ggX2_bring_X2_checkRange : GoodIn wsX2_bring wsX2_checkRange := goodIn_ca (goodIn_r _ [17, 18, 19] (by decide +kernel) (by decide +kernel)) (goodIn_sub (fun _ h => List.mem_cons_of_mem _ (List.mem_append_right _ h)) (by decide +kernel))
set_option maxRecDepth 20000 in
theorem gX2_bring_X2_checkRange : GoodIn wsX2_bring (va_wsS RX2 74 yX2_checkRange wsX2_checkRange) := goodIn_app (goodIn_of _ (by decide +kernel)) ggX2_bring_X2_checkRange
theorem dX2_bring_0 : decode cX2_bring 0 = .ok (.iload_n 1, 1) := by decide +kernel
theorem dX2_bring_1 : decode cX2_bring 1 = .ok (.invokestatic 67, 3) := by decide +kernel
theorem dX2_bring_4 : decode cX2_bring 4 = .ok (.iload_n 2, 1) := by decide +kernel
theorem dX2_bring_5 : decode cX2_bring 5 = .ok (.invokestatic 71, 3) := by decide +kernel
theorem dX2_bring_8 : decode cX2_bring 8 = .ok (.iload_n 3, 1) := by decide +kernel
theorem dX2_bring_9 : decode cX2_bring 9 = .ok (.iconst 1, 1) := by decide +kernel
theorem dX2_bring_10 : decode cX2_bring 10 = .ok (.sipush 1000, 3) := by decide +kernel
theorem dX2_bring_13 : decode cX2_bring 13 = .ok (.invokestatic 74, 3) := by decide +kernel
theorem dX2_bring_16 : decode cX2_bring 16 = .ok (.aload_n 0, 1) := by decide +kernel
theorem dX2_bring_17 : decode cX2_bring 17 = .ok (.getfield 11, 3) := by decide +kernel
theorem dX2_bring_20 : decode cX2_bring 20 = .ok (.iload_n 1, 1) := by decide +kernel
theorem dX2_bring_21 : decode cX2_bring 21 = .ok (.aaload, 1) := by decide +kernel
theorem dX2_bring_22 : decode cX2_bring 22 = .ok (.iload_n 2, 1) := by decide +kernel
theorem dX2_bring_23 : decode cX2_bring 23 = .ok (.iaload, 1) := by decide +kernel
theorem dX2_bring_24 : decode cX2_bring 24 = .ok (.iload_n 3, 1) := by decide +kernel
theorem dX2_bring_25 : decode cX2_bring 25 = .ok (.iadd, 1) := by decide +kernel
theorem dX2_bring_26 : decode cX2_bring 26 = .ok (.istore 4, 2) := by decide +kernel
theorem dX2_bring_28 : decode cX2_bring 28 = .ok (.iload 4, 2) := by decide +kernel
theorem dX2_bring_30 : decode cX2_bring 30 = .ok (.ldc 78, 2) := by decide +kernel
theorem dX2_bring_32 : decode cX2_bring 32 = .ok (.if_icmp .le 13, 3) := by decide +kernel
theorem dX2_bring_35 : decode cX2_bring 35 = .ok (.new 79, 3) := by decide +kernel
theorem dX2_bring_38 : decode cX2_bring 38 = .ok (.dup, 1) := by decide +kernel
theorem dX2_bring_39 : decode cX2_bring 39 = .ok (.ldc 81, 2) := by decide +kernel
theorem dX2_bring_41 : decode cX2_bring 41 = .ok (.invokespecial 83, 3) := by decide +kernel
theorem dX2_bring_44 : decode cX2_bring 44 = .ok (.athrow, 1) := by decide +kernel
theorem dX2_bring_45 : decode cX2_bring 45 = .ok (.aload_n 0, 1) := by decide +kernel
theorem dX2_bring_46 : decode cX2_bring 46 = .ok (.getfield 11, 3) := by decide +kernel
theorem dX2_bring_49 : decode cX2_bring 49 = .ok (.iload_n 1, 1) := by decide +kernel
theorem dX2_bring_50 : decode cX2_bring 50 = .ok (.aaload, 1) := by decide +kernel
theorem dX2_bring_51 : decode cX2_bring 51 = .ok (.iload_n 2, 1) := by decide +kernel
theorem dX2_bring_52 : decode cX2_bring 52 = .ok (.iload 4, 2) := by decide +kernel
theorem dX2_bring_54 : decode cX2_bring 54 = .ok (.iastore, 1) := by decide +kernel
theorem dX2_bring_55 : decode cX2_bring 55 = .ok (.aload_n 0, 1) := by decide +kernel
theorem dX2_bring_56 : decode cX2_bring 56 = .ok (.getfield 18, 3) := by decide +kernel
theorem dX2_bring_59 : decode cX2_bring 59 = .ok (.iload_n 2, 1) := by decide +kernel
theorem dX2_bring_60 : decode cX2_bring 60 = .ok (.dup2, 1) := by decide +kernel
theorem dX2_bring_61 : decode cX2_bring 61 = .ok (.iaload, 1) := by decide +kernel
theorem dX2_bring_62 : decode cX2_bring 62 = .ok (.iload_n 3, 1) := by decide +kernel
theorem dX2_bring_63 : decode cX2_bring 63 = .ok (.iadd, 1) := by decide +kernel
theorem dX2_bring_64 : decode cX2_bring 64 = .ok (.iastore, 1) := by decide +kernel
theorem dX2_bring_65 : decode cX2_bring 65 = .ok (.iload 4, 2) := by decide +kernel
theorem dX2_bring_67 : decode cX2_bring 67 = .ok (.ireturn, 1) := by decide +kernel
set_option maxRecDepth 20000 in
theorem ggX2_lay_X2_checkPerson : GoodIn wsX2_lay wsX2_checkPerson := goodIn_ca (goodIn_r _ [9, 10, 11] (by decide +kernel) (by decide +kernel)) (goodIn_sub (fun _ h => List.mem_cons_of_mem _ (List.mem_append_left _ (List.mem_append_right _ h))) (by decide +kernel))
set_option maxRecDepth 20000 in
theorem gX2_lay_X2_checkPerson : GoodIn wsX2_lay (va_wsS RX2 67 yX2_checkPerson wsX2_checkPerson) := goodIn_app (goodIn_of _ (by decide +kernel)) ggX2_lay_X2_checkPerson
set_option maxRecDepth 20000 in
theorem ggX2_lay_X2_checkColour : GoodIn wsX2_lay wsX2_checkColour := goodIn_ca (goodIn_r _ [14, 10, 11] (by decide +kernel) (by decide +kernel)) (goodIn_sub (fun _ h => List.mem_cons_of_mem _ (List.mem_append_left _ (List.mem_append_right _ h))) (by decide +kernel))
set_option maxRecDepth 20000 in
theorem gX2_lay_X2_checkColour : GoodIn wsX2_lay (va_wsS RX2 71 yX2_checkColour wsX2_checkColour) := goodIn_app (goodIn_of _ (by decide +kernel)) ggX2_lay_X2_checkColour
set_option maxRecDepth 20000 in
theorem ggX2_lay_X2_checkRange : GoodIn wsX2_lay wsX2_checkRange := goodIn_ca (goodIn_r _ [17, 18, 19] (by decide +kernel) (by decide +kernel)) (goodIn_sub (fun _ h => List.mem_cons_of_mem _ (List.mem_append_right _ h)) (by decide +kernel))
set_option maxRecDepth 20000 in
theorem gX2_lay_X2_checkRange : GoodIn wsX2_lay (va_wsS RX2 74 yX2_checkRange wsX2_checkRange) := goodIn_app (goodIn_of _ (by decide +kernel)) ggX2_lay_X2_checkRange
theorem dX2_lay_0 : decode cX2_lay 0 = .ok (.iload_n 1, 1) := by decide +kernel
theorem dX2_lay_1 : decode cX2_lay 1 = .ok (.invokestatic 67, 3) := by decide +kernel
theorem dX2_lay_4 : decode cX2_lay 4 = .ok (.iload_n 2, 1) := by decide +kernel
theorem dX2_lay_5 : decode cX2_lay 5 = .ok (.invokestatic 71, 3) := by decide +kernel
theorem dX2_lay_8 : decode cX2_lay 8 = .ok (.iload_n 3, 1) := by decide +kernel
theorem dX2_lay_9 : decode cX2_lay 9 = .ok (.sipush (-1000), 3) := by decide +kernel
theorem dX2_lay_12 : decode cX2_lay 12 = .ok (.sipush 1000, 3) := by decide +kernel
theorem dX2_lay_15 : decode cX2_lay 15 = .ok (.invokestatic 74, 3) := by decide +kernel
theorem dX2_lay_18 : decode cX2_lay 18 = .ok (.aload_n 0, 1) := by decide +kernel
theorem dX2_lay_19 : decode cX2_lay 19 = .ok (.getfield 11, 3) := by decide +kernel
theorem dX2_lay_22 : decode cX2_lay 22 = .ok (.iload_n 1, 1) := by decide +kernel
theorem dX2_lay_23 : decode cX2_lay 23 = .ok (.aaload, 1) := by decide +kernel
theorem dX2_lay_24 : decode cX2_lay 24 = .ok (.iload_n 2, 1) := by decide +kernel
theorem dX2_lay_25 : decode cX2_lay 25 = .ok (.iaload, 1) := by decide +kernel
theorem dX2_lay_26 : decode cX2_lay 26 = .ok (.iload_n 3, 1) := by decide +kernel
theorem dX2_lay_27 : decode cX2_lay 27 = .ok (.isub, 1) := by decide +kernel
theorem dX2_lay_28 : decode cX2_lay 28 = .ok (.istore 4, 2) := by decide +kernel
theorem dX2_lay_30 : decode cX2_lay 30 = .ok (.aload_n 0, 1) := by decide +kernel
theorem dX2_lay_31 : decode cX2_lay 31 = .ok (.getfield 14, 3) := by decide +kernel
theorem dX2_lay_34 : decode cX2_lay 34 = .ok (.iload_n 2, 1) := by decide +kernel
theorem dX2_lay_35 : decode cX2_lay 35 = .ok (.iaload, 1) := by decide +kernel
theorem dX2_lay_36 : decode cX2_lay 36 = .ok (.iload_n 3, 1) := by decide +kernel
theorem dX2_lay_37 : decode cX2_lay 37 = .ok (.iadd, 1) := by decide +kernel
theorem dX2_lay_38 : decode cX2_lay 38 = .ok (.istore 5, 2) := by decide +kernel
theorem dX2_lay_40 : decode cX2_lay 40 = .ok (.iload 4, 2) := by decide +kernel
theorem dX2_lay_42 : decode cX2_lay 42 = .ok (.ifCond .lt 8, 3) := by decide +kernel
theorem dX2_lay_45 : decode cX2_lay 45 = .ok (.iload 5, 2) := by decide +kernel
theorem dX2_lay_47 : decode cX2_lay 47 = .ok (.ifCond .ge 13, 3) := by decide +kernel
theorem dX2_lay_50 : decode cX2_lay 50 = .ok (.new 79, 3) := by decide +kernel
theorem dX2_lay_53 : decode cX2_lay 53 = .ok (.dup, 1) := by decide +kernel
theorem dX2_lay_54 : decode cX2_lay 54 = .ok (.ldc 86, 2) := by decide +kernel
theorem dX2_lay_56 : decode cX2_lay 56 = .ok (.invokespecial 83, 3) := by decide +kernel
theorem dX2_lay_59 : decode cX2_lay 59 = .ok (.athrow, 1) := by decide +kernel
theorem dX2_lay_60 : decode cX2_lay 60 = .ok (.iload 4, 2) := by decide +kernel
theorem dX2_lay_62 : decode cX2_lay 62 = .ok (.ldc 78, 2) := by decide +kernel
theorem dX2_lay_64 : decode cX2_lay 64 = .ok (.if_icmp .le 13, 3) := by decide +kernel
theorem dX2_lay_67 : decode cX2_lay 67 = .ok (.new 79, 3) := by decide +kernel
theorem dX2_lay_70 : decode cX2_lay 70 = .ok (.dup, 1) := by decide +kernel
theorem dX2_lay_71 : decode cX2_lay 71 = .ok (.ldc 81, 2) := by decide +kernel
theorem dX2_lay_73 : decode cX2_lay 73 = .ok (.invokespecial 83, 3) := by decide +kernel
theorem dX2_lay_76 : decode cX2_lay 76 = .ok (.athrow, 1) := by decide +kernel
theorem dX2_lay_77 : decode cX2_lay 77 = .ok (.aload_n 0, 1) := by decide +kernel
theorem dX2_lay_78 : decode cX2_lay 78 = .ok (.getfield 11, 3) := by decide +kernel
theorem dX2_lay_81 : decode cX2_lay 81 = .ok (.iload_n 1, 1) := by decide +kernel
theorem dX2_lay_82 : decode cX2_lay 82 = .ok (.aaload, 1) := by decide +kernel
theorem dX2_lay_83 : decode cX2_lay 83 = .ok (.iload_n 2, 1) := by decide +kernel
theorem dX2_lay_84 : decode cX2_lay 84 = .ok (.iload 4, 2) := by decide +kernel
theorem dX2_lay_86 : decode cX2_lay 86 = .ok (.iastore, 1) := by decide +kernel
theorem dX2_lay_87 : decode cX2_lay 87 = .ok (.aload_n 0, 1) := by decide +kernel
theorem dX2_lay_88 : decode cX2_lay 88 = .ok (.getfield 14, 3) := by decide +kernel
theorem dX2_lay_91 : decode cX2_lay 91 = .ok (.iload_n 2, 1) := by decide +kernel
theorem dX2_lay_92 : decode cX2_lay 92 = .ok (.iload 5, 2) := by decide +kernel
theorem dX2_lay_94 : decode cX2_lay 94 = .ok (.iastore, 1) := by decide +kernel
theorem dX2_lay_95 : decode cX2_lay 95 = .ok (.iload 5, 2) := by decide +kernel
theorem dX2_lay_97 : decode cX2_lay 97 = .ok (.ireturn, 1) := by decide +kernel
set_option maxRecDepth 20000 in
theorem ggX2_hand_X2_checkPerson : GoodIn wsX2_hand wsX2_checkPerson := goodIn_ca (goodIn_r _ [5, 6, 7] (by decide +kernel) (by decide +kernel)) (goodIn_sub (fun _ h => List.mem_cons_of_mem _ (List.mem_append_right _ h)) (by decide +kernel))
set_option maxRecDepth 20000 in
theorem gX2_hand_X2_checkPerson : GoodIn wsX2_hand (va_wsS RX2 67 yX2_checkPerson wsX2_checkPerson) := goodIn_app (goodIn_of _ (by decide +kernel)) ggX2_hand_X2_checkPerson
set_option maxRecDepth 20000 in
theorem ggX2_hand_X2_checkColour : GoodIn wsX2_hand wsX2_checkColour := goodIn_ca (goodIn_r _ [10, 6, 7] (by decide +kernel) (by decide +kernel)) (goodIn_sub (fun _ h => List.mem_cons_of_mem _ (List.mem_append_right _ h)) (by decide +kernel))
set_option maxRecDepth 20000 in
theorem gX2_hand_X2_checkColour : GoodIn wsX2_hand (va_wsS RX2 71 yX2_checkColour wsX2_checkColour) := goodIn_app (goodIn_of _ (by decide +kernel)) ggX2_hand_X2_checkColour
theorem dX2_hand_0 : decode cX2_hand 0 = .ok (.iload_n 1, 1) := by decide +kernel
theorem dX2_hand_1 : decode cX2_hand 1 = .ok (.invokestatic 67, 3) := by decide +kernel
theorem dX2_hand_4 : decode cX2_hand 4 = .ok (.iload_n 2, 1) := by decide +kernel
theorem dX2_hand_5 : decode cX2_hand 5 = .ok (.invokestatic 71, 3) := by decide +kernel
theorem dX2_hand_8 : decode cX2_hand 8 = .ok (.aload_n 0, 1) := by decide +kernel
theorem dX2_hand_9 : decode cX2_hand 9 = .ok (.getfield 11, 3) := by decide +kernel
theorem dX2_hand_12 : decode cX2_hand 12 = .ok (.iload_n 1, 1) := by decide +kernel
theorem dX2_hand_13 : decode cX2_hand 13 = .ok (.aaload, 1) := by decide +kernel
theorem dX2_hand_14 : decode cX2_hand 14 = .ok (.iload_n 2, 1) := by decide +kernel
theorem dX2_hand_15 : decode cX2_hand 15 = .ok (.iaload, 1) := by decide +kernel
theorem dX2_hand_16 : decode cX2_hand 16 = .ok (.ireturn, 1) := by decide +kernel
set_option maxRecDepth 20000 in
theorem ggX2_beads_X2_checkColour : GoodIn wsX2_beads wsX2_checkColour := goodIn_ca (goodIn_r _ [8, 9, 10] (by decide +kernel) (by decide +kernel)) (goodIn_sub (fun _ h => List.mem_cons_of_mem _ (List.mem_append_right _ h)) (by decide +kernel))
set_option maxRecDepth 20000 in
theorem gX2_beads_X2_checkColour : GoodIn wsX2_beads (va_wsS RX2 71 yX2_checkColour wsX2_checkColour) := goodIn_app (goodIn_of _ (by decide +kernel)) ggX2_beads_X2_checkColour
set_option maxRecDepth 20000 in
theorem ggX2_beads_X2_isBelt : GoodIn wsX2_beads wsX2_isBelt := goodIn_r _ [14, 4, 26, 27, 28, 29, 30, 31, 32, 33, 34, 35, 36, 37, 38, 39, 40] (by decide +kernel) (by decide +kernel)
set_option maxRecDepth 20000 in
theorem gX2_beads_X2_isBelt : GoodIn wsX2_beads (wsV RX2 88 RX2 yX2_isBelt wsX2_isBelt) := goodIn_app (goodIn_of _ (by decide +kernel)) ggX2_beads_X2_isBelt
set_option maxRecDepth 20000 in
theorem ggX2_beads_X1_cellsOf : GoodIn wsX2_beads wsX1_cellsOf := goodIn_r _ [18, 19, 20, 21, 22, 16, 23, 24, 25, 41, 42, 43] (by decide +kernel) (by decide +kernel)
set_option maxRecDepth 20000 in
theorem gX2_beads_X1_cellsOf_n92 : GoodIn wsX2_beads (wsX1_cellsOf) := ggX2_beads_X1_cellsOf
theorem dX2_beads_0 : decode cX2_beads 0 = .ok (.iload_n 1, 1) := by decide +kernel
theorem dX2_beads_1 : decode cX2_beads 1 = .ok (.invokestatic 71, 3) := by decide +kernel
theorem dX2_beads_4 : decode cX2_beads 4 = .ok (.aload_n 0, 1) := by decide +kernel
theorem dX2_beads_5 : decode cX2_beads 5 = .ok (.getfield 14, 3) := by decide +kernel
theorem dX2_beads_8 : decode cX2_beads 8 = .ok (.iload_n 1, 1) := by decide +kernel
theorem dX2_beads_9 : decode cX2_beads 9 = .ok (.iaload, 1) := by decide +kernel
theorem dX2_beads_10 : decode cX2_beads 10 = .ok (.istore_n 2, 1) := by decide +kernel
theorem dX2_beads_11 : decode cX2_beads 11 = .ok (.iconst 0, 1) := by decide +kernel
theorem dX2_beads_12 : decode cX2_beads 12 = .ok (.istore_n 3, 1) := by decide +kernel
theorem dX2_beads_13 : decode cX2_beads 13 = .ok (.iload_n 3, 1) := by decide +kernel
theorem dX2_beads_14 : decode cX2_beads 14 = .ok (.bipush 7, 2) := by decide +kernel
theorem dX2_beads_16 : decode cX2_beads 16 = .ok (.if_icmp .ge 20, 3) := by decide +kernel
theorem dX2_beads_19 : decode cX2_beads 19 = .ok (.iload_n 2, 1) := by decide +kernel
theorem dX2_beads_20 : decode cX2_beads 20 = .ok (.aload_n 0, 1) := by decide +kernel
theorem dX2_beads_21 : decode cX2_beads 21 = .ok (.getfield 11, 3) := by decide +kernel
theorem dX2_beads_24 : decode cX2_beads 24 = .ok (.iload_n 3, 1) := by decide +kernel
theorem dX2_beads_25 : decode cX2_beads 25 = .ok (.aaload, 1) := by decide +kernel
theorem dX2_beads_26 : decode cX2_beads 26 = .ok (.iload_n 1, 1) := by decide +kernel
theorem dX2_beads_27 : decode cX2_beads 27 = .ok (.iaload, 1) := by decide +kernel
theorem dX2_beads_28 : decode cX2_beads 28 = .ok (.iadd, 1) := by decide +kernel
theorem dX2_beads_29 : decode cX2_beads 29 = .ok (.istore_n 2, 1) := by decide +kernel
theorem dX2_beads_30 : decode cX2_beads 30 = .ok (.iinc 3 1, 3) := by decide +kernel
theorem dX2_beads_33 : decode cX2_beads 33 = .ok (.goto (-20), 3) := by decide +kernel
theorem dX2_beads_36 : decode cX2_beads 36 = .ok (.iconst 0, 1) := by decide +kernel
theorem dX2_beads_37 : decode cX2_beads 37 = .ok (.istore_n 3, 1) := by decide +kernel
theorem dX2_beads_38 : decode cX2_beads 38 = .ok (.iload_n 3, 1) := by decide +kernel
theorem dX2_beads_39 : decode cX2_beads 39 = .ok (.bipush 20, 2) := by decide +kernel
theorem dX2_beads_41 : decode cX2_beads 41 = .ok (.if_icmp .ge 35, 3) := by decide +kernel
theorem dX2_beads_44 : decode cX2_beads 44 = .ok (.aload_n 0, 1) := by decide +kernel
theorem dX2_beads_45 : decode cX2_beads 45 = .ok (.iload_n 3, 1) := by decide +kernel
theorem dX2_beads_46 : decode cX2_beads 46 = .ok (.invokevirtual 88, 3) := by decide +kernel
theorem dX2_beads_49 : decode cX2_beads 49 = .ok (.ifCond .eq 21, 3) := by decide +kernel
theorem dX2_beads_52 : decode cX2_beads 52 = .ok (.iload_n 2, 1) := by decide +kernel
theorem dX2_beads_53 : decode cX2_beads 53 = .ok (.aload_n 0, 1) := by decide +kernel
theorem dX2_beads_54 : decode cX2_beads 54 = .ok (.getfield 28, 3) := by decide +kernel
theorem dX2_beads_57 : decode cX2_beads 57 = .ok (.aload_n 0, 1) := by decide +kernel
theorem dX2_beads_58 : decode cX2_beads 58 = .ok (.getfield 35, 3) := by decide +kernel
theorem dX2_beads_61 : decode cX2_beads 61 = .ok (.iload_n 3, 1) := by decide +kernel
theorem dX2_beads_62 : decode cX2_beads 62 = .ok (.iaload, 1) := by decide +kernel
theorem dX2_beads_63 : decode cX2_beads 63 = .ok (.aaload, 1) := by decide +kernel
theorem dX2_beads_64 : decode cX2_beads 64 = .ok (.iload_n 1, 1) := by decide +kernel
theorem dX2_beads_65 : decode cX2_beads 65 = .ok (.invokevirtual 92, 3) := by decide +kernel
theorem dX2_beads_68 : decode cX2_beads 68 = .ok (.iadd, 1) := by decide +kernel
theorem dX2_beads_69 : decode cX2_beads 69 = .ok (.istore_n 2, 1) := by decide +kernel
theorem dX2_beads_70 : decode cX2_beads 70 = .ok (.iinc 3 1, 3) := by decide +kernel
theorem dX2_beads_73 : decode cX2_beads 73 = .ok (.goto (-35), 3) := by decide +kernel
theorem dX2_beads_76 : decode cX2_beads 76 = .ok (.iload_n 2, 1) := by decide +kernel
theorem dX2_beads_77 : decode cX2_beads 77 = .ok (.ireturn, 1) := by decide +kernel
set_option maxRecDepth 20000 in
theorem ggX2_brought_X2_checkColour : GoodIn wsX2_brought wsX2_checkColour := goodIn_ca (goodIn_r _ [5, 6, 7] (by decide +kernel) (by decide +kernel)) (goodIn_sub (fun _ h => List.mem_cons_of_mem _ (List.mem_append_right _ h)) (by decide +kernel))
set_option maxRecDepth 20000 in
theorem gX2_brought_X2_checkColour : GoodIn wsX2_brought (va_wsS RX2 71 yX2_checkColour wsX2_checkColour) := goodIn_app (goodIn_of _ (by decide +kernel)) ggX2_brought_X2_checkColour
theorem dX2_brought_0 : decode cX2_brought 0 = .ok (.iload_n 1, 1) := by decide +kernel
theorem dX2_brought_1 : decode cX2_brought 1 = .ok (.invokestatic 71, 3) := by decide +kernel
theorem dX2_brought_4 : decode cX2_brought 4 = .ok (.aload_n 0, 1) := by decide +kernel
theorem dX2_brought_5 : decode cX2_brought 5 = .ok (.getfield 18, 3) := by decide +kernel
theorem dX2_brought_8 : decode cX2_brought 8 = .ok (.iload_n 1, 1) := by decide +kernel
theorem dX2_brought_9 : decode cX2_brought 9 = .ok (.iaload, 1) := by decide +kernel
theorem dX2_brought_10 : decode cX2_brought 10 = .ok (.ireturn, 1) := by decide +kernel
set_option maxRecDepth 20000 in
theorem ggX2_draft_X2_checkRange : GoodIn wsX2_draft wsX2_checkRange := goodIn_ca (goodIn_r _ [5, 6, 7] (by decide +kernel) (by decide +kernel)) (goodIn_sub (fun _ h => List.mem_cons_of_mem _ (List.mem_append_right _ h)) (by decide +kernel))
set_option maxRecDepth 20000 in
theorem gX2_draft_X2_checkRange : GoodIn wsX2_draft (va_wsS RX2 74 yX2_checkRange wsX2_checkRange) := goodIn_app (goodIn_of _ (by decide +kernel)) ggX2_draft_X2_checkRange
set_option maxRecDepth 20000 in
theorem ggX2_draft_X1_begin : GoodIn wsX2_draft wsX1_begin := goodIn_r _ [11, 12, 13, 14, 15, 16, 17, 18, 37, 38, 39] (by decide +kernel) (by decide +kernel)
set_option maxRecDepth 20000 in
theorem gX2_draft_X1_begin_n96 : GoodIn wsX2_draft (wsX1_begin) := ggX2_draft_X1_begin
set_option maxRecDepth 20000 in
theorem ggX2_draft_X1_size : GoodIn wsX2_draft wsX1_size := goodIn_r _ [21, 12, 13, 37, 38, 39] (by decide +kernel) (by decide +kernel)
set_option maxRecDepth 20000 in
theorem gX2_draft_X1_size_n100 : GoodIn wsX2_draft (wsX1_size) := ggX2_draft_X1_size
theorem dX2_draft_0 : decode cX2_draft 0 = .ok (.iload_n 1, 1) := by decide +kernel
theorem dX2_draft_1 : decode cX2_draft 1 = .ok (.iconst 1, 1) := by decide +kernel
theorem dX2_draft_2 : decode cX2_draft 2 = .ok (.bipush 8, 2) := by decide +kernel
theorem dX2_draft_4 : decode cX2_draft 4 = .ok (.invokestatic 74, 3) := by decide +kernel
theorem dX2_draft_7 : decode cX2_draft 7 = .ok (.iload_n 2, 1) := by decide +kernel
theorem dX2_draft_8 : decode cX2_draft 8 = .ok (.iconst 1, 1) := by decide +kernel
theorem dX2_draft_9 : decode cX2_draft 9 = .ok (.bipush 6, 2) := by decide +kernel
theorem dX2_draft_11 : decode cX2_draft 11 = .ok (.invokestatic 74, 3) := by decide +kernel
theorem dX2_draft_14 : decode cX2_draft 14 = .ok (.aload_n 0, 1) := by decide +kernel
theorem dX2_draft_15 : decode cX2_draft 15 = .ok (.getfield 24, 3) := by decide +kernel
theorem dX2_draft_18 : decode cX2_draft 18 = .ok (.iload_n 1, 1) := by decide +kernel
theorem dX2_draft_19 : decode cX2_draft 19 = .ok (.iload_n 2, 1) := by decide +kernel
theorem dX2_draft_20 : decode cX2_draft 20 = .ok (.invokevirtual 96, 3) := by decide +kernel
theorem dX2_draft_23 : decode cX2_draft 23 = .ok (.aload_n 0, 1) := by decide +kernel
theorem dX2_draft_24 : decode cX2_draft 24 = .ok (.getfield 24, 3) := by decide +kernel
theorem dX2_draft_27 : decode cX2_draft 27 = .ok (.invokevirtual 100, 3) := by decide +kernel
theorem dX2_draft_30 : decode cX2_draft 30 = .ok (.ireturn, 1) := by decide +kernel
set_option maxRecDepth 20000 in
theorem ggX2_bead_X1_hasCell : GoodIn wsX2_bead wsX1_hasCell := goodIn_r _ [7, 8, 9, 36, 37, 38] (by decide +kernel) (by decide +kernel)
set_option maxRecDepth 20000 in
theorem gX2_bead_X1_hasCell_n104 : GoodIn wsX2_bead (wsX1_hasCell) := ggX2_bead_X1_hasCell
set_option maxRecDepth 20000 in
theorem ggX2_bead_X2_checkColour : GoodIn wsX2_bead wsX2_checkColour := goodIn_ca (goodIn_r _ [13, 1, 2] (by decide +kernel) (by decide +kernel)) (goodIn_sub (fun _ h => List.mem_cons_of_mem _ (List.mem_append_right _ h)) (by decide +kernel))
set_option maxRecDepth 20000 in
theorem gX2_bead_X2_checkColour : GoodIn wsX2_bead (va_wsS RX2 71 yX2_checkColour wsX2_checkColour) := goodIn_app (goodIn_of _ (by decide +kernel)) ggX2_bead_X2_checkColour
set_option maxRecDepth 20000 in
theorem ggX2_bead_X1_colourAt : GoodIn wsX2_bead wsX1_colourAt := goodIn_r _ [16, 17, 8, 36, 37, 38] (by decide +kernel) (by decide +kernel)
set_option maxRecDepth 20000 in
theorem gX2_bead_X1_colourAt_n113 : GoodIn wsX2_bead (wsX1_colourAt) := ggX2_bead_X1_colourAt
set_option maxRecDepth 20000 in
theorem ggX2_bead_X1_paint : GoodIn wsX2_bead wsX1_paint := goodIn_r _ [20, 17, 8, 36, 37, 38] (by decide +kernel) (by decide +kernel)
set_option maxRecDepth 20000 in
theorem gX2_bead_X1_paint_n117 : GoodIn wsX2_bead (wsX1_paint) := ggX2_bead_X1_paint
theorem dX2_bead_0 : decode cX2_bead 0 = .ok (.aload_n 0, 1) := by decide +kernel
theorem dX2_bead_1 : decode cX2_bead 1 = .ok (.getfield 24, 3) := by decide +kernel
theorem dX2_bead_4 : decode cX2_bead 4 = .ok (.iload_n 1, 1) := by decide +kernel
theorem dX2_bead_5 : decode cX2_bead 5 = .ok (.iload_n 2, 1) := by decide +kernel
theorem dX2_bead_6 : decode cX2_bead 6 = .ok (.invokevirtual 104, 3) := by decide +kernel
theorem dX2_bead_9 : decode cX2_bead 9 = .ok (.ifCond .ne 13, 3) := by decide +kernel
theorem dX2_bead_12 : decode cX2_bead 12 = .ok (.new 108, 3) := by decide +kernel
theorem dX2_bead_15 : decode cX2_bead 15 = .ok (.dup, 1) := by decide +kernel
theorem dX2_bead_16 : decode cX2_bead 16 = .ok (.ldc 110, 2) := by decide +kernel
theorem dX2_bead_18 : decode cX2_bead 18 = .ok (.invokespecial 112, 3) := by decide +kernel
theorem dX2_bead_21 : decode cX2_bead 21 = .ok (.athrow, 1) := by decide +kernel
theorem dX2_bead_22 : decode cX2_bead 22 = .ok (.iload_n 3, 1) := by decide +kernel
theorem dX2_bead_23 : decode cX2_bead 23 = .ok (.invokestatic 71, 3) := by decide +kernel
theorem dX2_bead_26 : decode cX2_bead 26 = .ok (.aload_n 0, 1) := by decide +kernel
theorem dX2_bead_27 : decode cX2_bead 27 = .ok (.getfield 24, 3) := by decide +kernel
theorem dX2_bead_30 : decode cX2_bead 30 = .ok (.iload_n 1, 1) := by decide +kernel
theorem dX2_bead_31 : decode cX2_bead 31 = .ok (.iload_n 2, 1) := by decide +kernel
theorem dX2_bead_32 : decode cX2_bead 32 = .ok (.invokevirtual 113, 3) := by decide +kernel
theorem dX2_bead_35 : decode cX2_bead 35 = .ok (.istore 4, 2) := by decide +kernel
theorem dX2_bead_37 : decode cX2_bead 37 = .ok (.aload_n 0, 1) := by decide +kernel
theorem dX2_bead_38 : decode cX2_bead 38 = .ok (.getfield 24, 3) := by decide +kernel
theorem dX2_bead_41 : decode cX2_bead 41 = .ok (.iload_n 1, 1) := by decide +kernel
theorem dX2_bead_42 : decode cX2_bead 42 = .ok (.iload_n 2, 1) := by decide +kernel
theorem dX2_bead_43 : decode cX2_bead 43 = .ok (.iload_n 3, 1) := by decide +kernel
theorem dX2_bead_44 : decode cX2_bead 44 = .ok (.invokevirtual 117, 3) := by decide +kernel
theorem dX2_bead_47 : decode cX2_bead 47 = .ok (.iload 4, 2) := by decide +kernel
theorem dX2_bead_49 : decode cX2_bead 49 = .ok (.ireturn, 1) := by decide +kernel
set_option maxRecDepth 20000 in
theorem ggX2_pattern_X2_checkPerson : GoodIn wsX2_pattern wsX2_checkPerson := goodIn_ca (goodIn_r _ [10, 11, 12] (by decide +kernel) (by decide +kernel)) (goodIn_sub (fun _ h => List.mem_cons_of_mem _ (List.mem_append_right _ h)) (by decide +kernel))
set_option maxRecDepth 20000 in
theorem gX2_pattern_X2_checkPerson : GoodIn wsX2_pattern (va_wsS RX2 67 yX2_checkPerson wsX2_checkPerson) := goodIn_app (goodIn_of _ (by decide +kernel)) ggX2_pattern_X2_checkPerson
set_option maxRecDepth 20000 in
theorem ggX2_pattern_X1_copyFrom : GoodIn wsX2_pattern wsX1_copyFrom := goodIn_r _ [16, 17, 18, 19, 20, 21, 22, 23, 39, 40, 41] (by decide +kernel) (by decide +kernel)
set_option maxRecDepth 20000 in
theorem gX2_pattern_X1_copyFrom_n126 : GoodIn wsX2_pattern (wsX1_copyFrom) := ggX2_pattern_X1_copyFrom
theorem dX2_pattern_0 : decode cX2_pattern 0 = .ok (.iload_n 1, 1) := by decide +kernel
theorem dX2_pattern_1 : decode cX2_pattern 1 = .ok (.invokestatic 67, 3) := by decide +kernel
theorem dX2_pattern_4 : decode cX2_pattern 4 = .ok (.aload_n 0, 1) := by decide +kernel
theorem dX2_pattern_5 : decode cX2_pattern 5 = .ok (.getfield 120, 3) := by decide +kernel
theorem dX2_pattern_8 : decode cX2_pattern 8 = .ok (.bipush 12, 2) := by decide +kernel
theorem dX2_pattern_10 : decode cX2_pattern 10 = .ok (.if_icmp .lt 13, 3) := by decide +kernel
theorem dX2_pattern_13 : decode cX2_pattern 13 = .ok (.new 79, 3) := by decide +kernel
theorem dX2_pattern_16 : decode cX2_pattern 16 = .ok (.dup, 1) := by decide +kernel
theorem dX2_pattern_17 : decode cX2_pattern 17 = .ok (.ldc 124, 2) := by decide +kernel
theorem dX2_pattern_19 : decode cX2_pattern 19 = .ok (.invokespecial 83, 3) := by decide +kernel
theorem dX2_pattern_22 : decode cX2_pattern 22 = .ok (.athrow, 1) := by decide +kernel
theorem dX2_pattern_23 : decode cX2_pattern 23 = .ok (.aload_n 0, 1) := by decide +kernel
theorem dX2_pattern_24 : decode cX2_pattern 24 = .ok (.getfield 120, 3) := by decide +kernel
theorem dX2_pattern_27 : decode cX2_pattern 27 = .ok (.istore_n 2, 1) := by decide +kernel
theorem dX2_pattern_28 : decode cX2_pattern 28 = .ok (.aload_n 0, 1) := by decide +kernel
theorem dX2_pattern_29 : decode cX2_pattern 29 = .ok (.getfield 28, 3) := by decide +kernel
theorem dX2_pattern_32 : decode cX2_pattern 32 = .ok (.iload_n 2, 1) := by decide +kernel
theorem dX2_pattern_33 : decode cX2_pattern 33 = .ok (.aaload, 1) := by decide +kernel
theorem dX2_pattern_34 : decode cX2_pattern 34 = .ok (.aload_n 0, 1) := by decide +kernel
theorem dX2_pattern_35 : decode cX2_pattern 35 = .ok (.getfield 24, 3) := by decide +kernel
theorem dX2_pattern_38 : decode cX2_pattern 38 = .ok (.invokevirtual 126, 3) := by decide +kernel
theorem dX2_pattern_41 : decode cX2_pattern 41 = .ok (.aload_n 0, 1) := by decide +kernel
theorem dX2_pattern_42 : decode cX2_pattern 42 = .ok (.getfield 32, 3) := by decide +kernel
theorem dX2_pattern_45 : decode cX2_pattern 45 = .ok (.iload_n 2, 1) := by decide +kernel
theorem dX2_pattern_46 : decode cX2_pattern 46 = .ok (.iload_n 1, 1) := by decide +kernel
theorem dX2_pattern_47 : decode cX2_pattern 47 = .ok (.iastore, 1) := by decide +kernel
theorem dX2_pattern_48 : decode cX2_pattern 48 = .ok (.aload_n 0, 1) := by decide +kernel
theorem dX2_pattern_49 : decode cX2_pattern 49 = .ok (.dup, 1) := by decide +kernel
theorem dX2_pattern_50 : decode cX2_pattern 50 = .ok (.getfield 120, 3) := by decide +kernel
theorem dX2_pattern_53 : decode cX2_pattern 53 = .ok (.iconst 1, 1) := by decide +kernel
theorem dX2_pattern_54 : decode cX2_pattern 54 = .ok (.iadd, 1) := by decide +kernel
theorem dX2_pattern_55 : decode cX2_pattern 55 = .ok (.putfield 120, 3) := by decide +kernel
theorem dX2_pattern_58 : decode cX2_pattern 58 = .ok (.iload_n 2, 1) := by decide +kernel
theorem dX2_pattern_59 : decode cX2_pattern 59 = .ok (.ireturn, 1) := by decide +kernel
theorem dX2_patterns_0 : decode cX2_patterns 0 = .ok (.aload_n 0, 1) := by decide +kernel
theorem dX2_patterns_1 : decode cX2_patterns 1 = .ok (.getfield 120, 3) := by decide +kernel
theorem dX2_patterns_4 : decode cX2_patterns 4 = .ok (.ireturn, 1) := by decide +kernel
set_option maxRecDepth 20000 in
theorem ggX2_symmetries_X2_checkPattern : GoodIn wsX2_symmetries wsX2_checkPattern := goodIn_ca (goodIn_r _ [6, 7, 8, 9, 25, 26, 27, 28, 29, 30, 31, 32, 33, 34, 35, 36, 37, 38, 39] (by decide +kernel) (by decide +kernel)) (goodIn_sub (fun _ h => List.mem_cons_of_mem _ (List.mem_append_right _ h)) (by decide +kernel))
set_option maxRecDepth 20000 in
theorem gX2_symmetries_X2_checkPattern : GoodIn wsX2_symmetries (wsV RX2 130 RX2 yX2_checkPattern wsX2_checkPattern) := goodIn_app (goodIn_of _ (by decide +kernel)) ggX2_symmetries_X2_checkPattern
set_option maxRecDepth 20000 in
theorem ggX2_symmetries_X1_hasImage : GoodIn wsX2_symmetries wsX1_hasImage := goodIn_r _ [13, 14, 15, 16, 17, 18, 11, 19, 20, 21, 22, 23, 24, 40, 41, 42] (by decide +kernel) (by decide +kernel)
set_option maxRecDepth 20000 in
theorem gX2_symmetries_X1_hasImage_n133 : GoodIn wsX2_symmetries (wsX1_hasImage) := ggX2_symmetries_X1_hasImage
theorem dX2_symmetries_0 : decode cX2_symmetries 0 = .ok (.aload_n 0, 1) := by decide +kernel
theorem dX2_symmetries_1 : decode cX2_symmetries 1 = .ok (.iload_n 1, 1) := by decide +kernel
theorem dX2_symmetries_2 : decode cX2_symmetries 2 = .ok (.invokevirtual 130, 3) := by decide +kernel
theorem dX2_symmetries_5 : decode cX2_symmetries 5 = .ok (.aload_n 0, 1) := by decide +kernel
theorem dX2_symmetries_6 : decode cX2_symmetries 6 = .ok (.getfield 28, 3) := by decide +kernel
theorem dX2_symmetries_9 : decode cX2_symmetries 9 = .ok (.iload_n 1, 1) := by decide +kernel
theorem dX2_symmetries_10 : decode cX2_symmetries 10 = .ok (.aaload, 1) := by decide +kernel
theorem dX2_symmetries_11 : decode cX2_symmetries 11 = .ok (.astore_n 2, 1) := by decide +kernel
theorem dX2_symmetries_12 : decode cX2_symmetries 12 = .ok (.aload_n 2, 1) := by decide +kernel
theorem dX2_symmetries_13 : decode cX2_symmetries 13 = .ok (.iconst 4, 1) := by decide +kernel
theorem dX2_symmetries_14 : decode cX2_symmetries 14 = .ok (.aload_n 2, 1) := by decide +kernel
theorem dX2_symmetries_15 : decode cX2_symmetries 15 = .ok (.invokevirtual 133, 3) := by decide +kernel
theorem dX2_symmetries_18 : decode cX2_symmetries 18 = .ok (.ifCond .eq 7, 3) := by decide +kernel
theorem dX2_symmetries_21 : decode cX2_symmetries 21 = .ok (.iconst 1, 1) := by decide +kernel
theorem dX2_symmetries_22 : decode cX2_symmetries 22 = .ok (.goto 4, 3) := by decide +kernel
theorem dX2_symmetries_25 : decode cX2_symmetries 25 = .ok (.iconst 0, 1) := by decide +kernel
theorem dX2_symmetries_26 : decode cX2_symmetries 26 = .ok (.aload_n 2, 1) := by decide +kernel
theorem dX2_symmetries_27 : decode cX2_symmetries 27 = .ok (.bipush 6, 2) := by decide +kernel
theorem dX2_symmetries_29 : decode cX2_symmetries 29 = .ok (.aload_n 2, 1) := by decide +kernel
theorem dX2_symmetries_30 : decode cX2_symmetries 30 = .ok (.invokevirtual 133, 3) := by decide +kernel
theorem dX2_symmetries_33 : decode cX2_symmetries 33 = .ok (.ifCond .eq 7, 3) := by decide +kernel
theorem dX2_symmetries_36 : decode cX2_symmetries 36 = .ok (.iconst 2, 1) := by decide +kernel
theorem dX2_symmetries_37 : decode cX2_symmetries 37 = .ok (.goto 4, 3) := by decide +kernel
theorem dX2_symmetries_40 : decode cX2_symmetries 40 = .ok (.iconst 0, 1) := by decide +kernel
theorem dX2_symmetries_41 : decode cX2_symmetries 41 = .ok (.iadd, 1) := by decide +kernel
theorem dX2_symmetries_42 : decode cX2_symmetries 42 = .ok (.aload_n 2, 1) := by decide +kernel
theorem dX2_symmetries_43 : decode cX2_symmetries 43 = .ok (.iconst 2, 1) := by decide +kernel
theorem dX2_symmetries_44 : decode cX2_symmetries 44 = .ok (.aload_n 2, 1) := by decide +kernel
theorem dX2_symmetries_45 : decode cX2_symmetries 45 = .ok (.invokevirtual 133, 3) := by decide +kernel
theorem dX2_symmetries_48 : decode cX2_symmetries 48 = .ok (.ifCond .eq 7, 3) := by decide +kernel
theorem dX2_symmetries_51 : decode cX2_symmetries 51 = .ok (.iconst 4, 1) := by decide +kernel
theorem dX2_symmetries_52 : decode cX2_symmetries 52 = .ok (.goto 4, 3) := by decide +kernel
theorem dX2_symmetries_55 : decode cX2_symmetries 55 = .ok (.iconst 0, 1) := by decide +kernel
theorem dX2_symmetries_56 : decode cX2_symmetries 56 = .ok (.iadd, 1) := by decide +kernel
theorem dX2_symmetries_57 : decode cX2_symmetries 57 = .ok (.aload_n 2, 1) := by decide +kernel
theorem dX2_symmetries_58 : decode cX2_symmetries 58 = .ok (.iconst 1, 1) := by decide +kernel
theorem dX2_symmetries_59 : decode cX2_symmetries 59 = .ok (.aload_n 2, 1) := by decide +kernel
theorem dX2_symmetries_60 : decode cX2_symmetries 60 = .ok (.invokevirtual 133, 3) := by decide +kernel
theorem dX2_symmetries_63 : decode cX2_symmetries 63 = .ok (.ifCond .eq 8, 3) := by decide +kernel
theorem dX2_symmetries_66 : decode cX2_symmetries 66 = .ok (.bipush 8, 2) := by decide +kernel
theorem dX2_symmetries_68 : decode cX2_symmetries 68 = .ok (.goto 4, 3) := by decide +kernel
theorem dX2_symmetries_71 : decode cX2_symmetries 71 = .ok (.iconst 0, 1) := by decide +kernel
theorem dX2_symmetries_72 : decode cX2_symmetries 72 = .ok (.iadd, 1) := by decide +kernel
theorem dX2_symmetries_73 : decode cX2_symmetries 73 = .ok (.ireturn, 1) := by decide +kernel
set_option maxRecDepth 20000 in
theorem ggX2_origin_X2_checkPattern : GoodIn wsX2_origin wsX2_checkPattern := goodIn_ca (goodIn_r _ [5, 6, 7, 8, 29, 30, 31, 32, 33, 34, 35, 36, 37, 38, 39, 40, 41, 42, 43] (by decide +kernel) (by decide +kernel)) (goodIn_sub (fun _ h => List.mem_cons_of_mem _ (List.mem_append_right _ h)) (by decide +kernel))
set_option maxRecDepth 20000 in
theorem gX2_origin_X2_checkPattern : GoodIn wsX2_origin (wsV RX2 130 RX2 yX2_checkPattern wsX2_checkPattern) := goodIn_app (goodIn_of _ (by decide +kernel)) ggX2_origin_X2_checkPattern
set_option maxRecDepth 20000 in
theorem ggX2_origin_X2_originOf : GoodIn wsX2_origin wsX2_originOf := goodIn_r _ [12, 13, 14, 15, 16, 17, 18, 19, 20, 21, 22, 23, 24, 25, 26, 27, 28, 29, 30, 31, 32, 33, 34, 35, 36, 37, 38, 39, 40, 41, 42, 43, 44, 45, 46] (by decide +kernel) (by decide +kernel)
set_option maxRecDepth 20000 in
theorem gX2_origin_X2_originOf : GoodIn wsX2_origin (wsV RX2 137 RX2 yX2_originOf wsX2_originOf) := goodIn_app (goodIn_of _ (by decide +kernel)) ggX2_origin_X2_originOf
theorem dX2_origin_0 : decode cX2_origin 0 = .ok (.aload_n 0, 1) := by decide +kernel
theorem dX2_origin_1 : decode cX2_origin 1 = .ok (.iload_n 1, 1) := by decide +kernel
theorem dX2_origin_2 : decode cX2_origin 2 = .ok (.invokevirtual 130, 3) := by decide +kernel
theorem dX2_origin_5 : decode cX2_origin 5 = .ok (.aload_n 0, 1) := by decide +kernel
theorem dX2_origin_6 : decode cX2_origin 6 = .ok (.iload_n 1, 1) := by decide +kernel
theorem dX2_origin_7 : decode cX2_origin 7 = .ok (.invokevirtual 137, 3) := by decide +kernel
theorem dX2_origin_10 : decode cX2_origin 10 = .ok (.ireturn, 1) := by decide +kernel
set_option maxRecDepth 20000 in
theorem ggX2_needs_X2_checkPattern : GoodIn wsX2_needs wsX2_checkPattern := goodIn_ca (goodIn_r _ [6, 7, 8, 9, 24, 25, 26, 27, 28, 29, 30, 31, 32, 33, 34, 35, 36, 37, 38] (by decide +kernel) (by decide +kernel)) (goodIn_sub (fun _ h => List.mem_cons_of_mem _ (List.mem_append_right _ h)) (by decide +kernel))
set_option maxRecDepth 20000 in
theorem gX2_needs_X2_checkPattern : GoodIn wsX2_needs (wsV RX2 130 RX2 yX2_checkPattern wsX2_checkPattern) := goodIn_app (goodIn_of _ (by decide +kernel)) ggX2_needs_X2_checkPattern
set_option maxRecDepth 20000 in
theorem ggX2_needs_X2_checkColour : GoodIn wsX2_needs wsX2_checkColour := goodIn_ca (goodIn_r _ [12, 7, 8] (by decide +kernel) (by decide +kernel)) (goodIn_sub (fun _ h => List.mem_cons_of_mem _ (List.mem_append_right _ h)) (by decide +kernel))
set_option maxRecDepth 20000 in
theorem gX2_needs_X2_checkColour : GoodIn wsX2_needs (va_wsS RX2 71 yX2_checkColour wsX2_checkColour) := goodIn_app (goodIn_of _ (by decide +kernel)) ggX2_needs_X2_checkColour
set_option maxRecDepth 20000 in
theorem ggX2_needs_X1_cellsOf : GoodIn wsX2_needs wsX1_cellsOf := goodIn_r _ [16, 17, 18, 19, 20, 14, 21, 22, 23, 39, 40, 41] (by decide +kernel) (by decide +kernel)
set_option maxRecDepth 20000 in
theorem gX2_needs_X1_cellsOf_n92 : GoodIn wsX2_needs (wsX1_cellsOf) := ggX2_needs_X1_cellsOf
theorem dX2_needs_0 : decode cX2_needs 0 = .ok (.aload_n 0, 1) := by decide +kernel
theorem dX2_needs_1 : decode cX2_needs 1 = .ok (.iload_n 1, 1) := by decide +kernel
theorem dX2_needs_2 : decode cX2_needs 2 = .ok (.invokevirtual 130, 3) := by decide +kernel
theorem dX2_needs_5 : decode cX2_needs 5 = .ok (.iload_n 2, 1) := by decide +kernel
theorem dX2_needs_6 : decode cX2_needs 6 = .ok (.invokestatic 71, 3) := by decide +kernel
theorem dX2_needs_9 : decode cX2_needs 9 = .ok (.aload_n 0, 1) := by decide +kernel
theorem dX2_needs_10 : decode cX2_needs 10 = .ok (.getfield 28, 3) := by decide +kernel
theorem dX2_needs_13 : decode cX2_needs 13 = .ok (.iload_n 1, 1) := by decide +kernel
theorem dX2_needs_14 : decode cX2_needs 14 = .ok (.aaload, 1) := by decide +kernel
theorem dX2_needs_15 : decode cX2_needs 15 = .ok (.iload_n 2, 1) := by decide +kernel
theorem dX2_needs_16 : decode cX2_needs 16 = .ok (.invokevirtual 92, 3) := by decide +kernel
theorem dX2_needs_19 : decode cX2_needs 19 = .ok (.ireturn, 1) := by decide +kernel
set_option maxRecDepth 20000 in
theorem ggX2_weave_X2_checkPerson : GoodIn wsX2_weave wsX2_checkPerson := goodIn_ca (goodIn_r _ [12, 13, 14] (by decide +kernel) (by decide +kernel)) (goodIn_sub (fun _ h => List.mem_cons_of_mem _ (List.mem_append_right _ h)) (by decide +kernel))
set_option maxRecDepth 20000 in
theorem gX2_weave_X2_checkPerson : GoodIn wsX2_weave (va_wsS RX2 67 yX2_checkPerson wsX2_checkPerson) := goodIn_app (goodIn_of _ (by decide +kernel)) ggX2_weave_X2_checkPerson
set_option maxRecDepth 20000 in
theorem ggX2_weave_X2_checkPattern : GoodIn wsX2_weave wsX2_checkPattern := goodIn_ca (goodIn_r _ [18, 13, 14, 19, 54, 55, 56, 57, 58, 59, 60, 61, 62, 63, 64, 65, 66, 67, 68] (by decide +kernel) (by decide +kernel)) (goodIn_sub (fun _ h => List.mem_cons_of_mem _ (List.mem_append_right _ h)) (by decide +kernel))
set_option maxRecDepth 20000 in
theorem gX2_weave_X2_checkPattern : GoodIn wsX2_weave (wsV RX2 130 RX2 yX2_checkPattern wsX2_checkPattern) := goodIn_app (goodIn_of _ (by decide +kernel)) ggX2_weave_X2_checkPattern
set_option maxRecDepth 20000 in
theorem ggX2_weave_X2_lowestFreeBelt : GoodIn wsX2_weave wsX2_lowestFreeBelt := goodIn_r _ [23, 24, 25, 26, 11, 27, 5, 54, 55, 56, 57, 58, 59, 60, 61, 62, 63, 64, 65, 66, 67, 68] (by decide +kernel) (by decide +kernel)
set_option maxRecDepth 20000 in
theorem gX2_weave_X2_lowestFreeBelt : GoodIn wsX2_weave (wsV RX2 140 RX2 yX2_lowestFreeBelt wsX2_lowestFreeBelt) := goodIn_app (goodIn_of _ (by decide +kernel)) ggX2_weave_X2_lowestFreeBelt
set_option maxRecDepth 20000 in
theorem ggX2_weave_X1_cellsOf : GoodIn wsX2_weave wsX1_cellsOf := goodIn_r _ [31, 32, 33, 34, 35, 29, 36, 37, 38, 69, 70, 71] (by decide +kernel) (by decide +kernel)
set_option maxRecDepth 20000 in
theorem gX2_weave_X1_cellsOf_n92 : GoodIn wsX2_weave (wsX1_cellsOf) := ggX2_weave_X1_cellsOf
set_option maxRecDepth 20000 in
theorem ggX2_weave_X2_originOf : GoodIn wsX2_weave wsX2_originOf := goodIn_r _ [42, 3, 43, 29, 44, 45, 37, 38, 46, 47, 48, 49, 50, 51, 52, 53, 32, 54, 55, 56, 57, 58, 59, 60, 61, 62, 63, 64, 65, 66, 67, 68, 69, 70, 71] (by decide +kernel) (by decide +kernel)
set_option maxRecDepth 20000 in
theorem gX2_weave_X2_originOf : GoodIn wsX2_weave (wsV RX2 137 RX2 yX2_originOf wsX2_originOf) := goodIn_app (goodIn_of _ (by decide +kernel)) ggX2_weave_X2_originOf
theorem dX2_weave_0 : decode cX2_weave 0 = .ok (.iload_n 1, 1) := by decide +kernel
theorem dX2_weave_1 : decode cX2_weave 1 = .ok (.invokestatic 67, 3) := by decide +kernel
theorem dX2_weave_4 : decode cX2_weave 4 = .ok (.aload_n 0, 1) := by decide +kernel
theorem dX2_weave_5 : decode cX2_weave 5 = .ok (.iload_n 2, 1) := by decide +kernel
theorem dX2_weave_6 : decode cX2_weave 6 = .ok (.invokevirtual 130, 3) := by decide +kernel
theorem dX2_weave_9 : decode cX2_weave 9 = .ok (.aload_n 0, 1) := by decide +kernel
theorem dX2_weave_10 : decode cX2_weave 10 = .ok (.invokevirtual 140, 3) := by decide +kernel
theorem dX2_weave_13 : decode cX2_weave 13 = .ok (.istore_n 3, 1) := by decide +kernel
theorem dX2_weave_14 : decode cX2_weave 14 = .ok (.iload_n 3, 1) := by decide +kernel
theorem dX2_weave_15 : decode cX2_weave 15 = .ok (.iconst (-1), 1) := by decide +kernel
theorem dX2_weave_16 : decode cX2_weave 16 = .ok (.if_icmp .ne 13, 3) := by decide +kernel
theorem dX2_weave_19 : decode cX2_weave 19 = .ok (.new 79, 3) := by decide +kernel
theorem dX2_weave_22 : decode cX2_weave 22 = .ok (.dup, 1) := by decide +kernel
theorem dX2_weave_23 : decode cX2_weave 23 = .ok (.ldc 143, 2) := by decide +kernel
theorem dX2_weave_25 : decode cX2_weave 25 = .ok (.invokespecial 83, 3) := by decide +kernel
theorem dX2_weave_28 : decode cX2_weave 28 = .ok (.athrow, 1) := by decide +kernel
theorem dX2_weave_29 : decode cX2_weave 29 = .ok (.aload_n 0, 1) := by decide +kernel
theorem dX2_weave_30 : decode cX2_weave 30 = .ok (.getfield 28, 3) := by decide +kernel
theorem dX2_weave_33 : decode cX2_weave 33 = .ok (.iload_n 2, 1) := by decide +kernel
theorem dX2_weave_34 : decode cX2_weave 34 = .ok (.aaload, 1) := by decide +kernel
theorem dX2_weave_35 : decode cX2_weave 35 = .ok (.astore 4, 2) := by decide +kernel
theorem dX2_weave_37 : decode cX2_weave 37 = .ok (.iconst 0, 1) := by decide +kernel
theorem dX2_weave_38 : decode cX2_weave 38 = .ok (.istore 5, 2) := by decide +kernel
theorem dX2_weave_40 : decode cX2_weave 40 = .ok (.iload 5, 2) := by decide +kernel
theorem dX2_weave_42 : decode cX2_weave 42 = .ok (.bipush 8, 2) := by decide +kernel
theorem dX2_weave_44 : decode cX2_weave 44 = .ok (.if_icmp .ge 38, 3) := by decide +kernel
theorem dX2_weave_47 : decode cX2_weave 47 = .ok (.aload_n 0, 1) := by decide +kernel
theorem dX2_weave_48 : decode cX2_weave 48 = .ok (.getfield 11, 3) := by decide +kernel
theorem dX2_weave_51 : decode cX2_weave 51 = .ok (.iload_n 1, 1) := by decide +kernel
theorem dX2_weave_52 : decode cX2_weave 52 = .ok (.aaload, 1) := by decide +kernel
theorem dX2_weave_53 : decode cX2_weave 53 = .ok (.iload 5, 2) := by decide +kernel
theorem dX2_weave_55 : decode cX2_weave 55 = .ok (.iaload, 1) := by decide +kernel
theorem dX2_weave_56 : decode cX2_weave 56 = .ok (.aload 4, 2) := by decide +kernel
theorem dX2_weave_58 : decode cX2_weave 58 = .ok (.iload 5, 2) := by decide +kernel
theorem dX2_weave_60 : decode cX2_weave 60 = .ok (.invokevirtual 92, 3) := by decide +kernel
theorem dX2_weave_63 : decode cX2_weave 63 = .ok (.if_icmp .ge 13, 3) := by decide +kernel
theorem dX2_weave_66 : decode cX2_weave 66 = .ok (.new 79, 3) := by decide +kernel
theorem dX2_weave_69 : decode cX2_weave 69 = .ok (.dup, 1) := by decide +kernel
theorem dX2_weave_70 : decode cX2_weave 70 = .ok (.ldc 145, 2) := by decide +kernel
theorem dX2_weave_72 : decode cX2_weave 72 = .ok (.invokespecial 83, 3) := by decide +kernel
theorem dX2_weave_75 : decode cX2_weave 75 = .ok (.athrow, 1) := by decide +kernel
theorem dX2_weave_76 : decode cX2_weave 76 = .ok (.iinc 5 1, 3) := by decide +kernel
theorem dX2_weave_79 : decode cX2_weave 79 = .ok (.goto (-39), 3) := by decide +kernel
theorem dX2_weave_82 : decode cX2_weave 82 = .ok (.iconst 0, 1) := by decide +kernel
theorem dX2_weave_83 : decode cX2_weave 83 = .ok (.istore 5, 2) := by decide +kernel
theorem dX2_weave_85 : decode cX2_weave 85 = .ok (.iload 5, 2) := by decide +kernel
theorem dX2_weave_87 : decode cX2_weave 87 = .ok (.bipush 8, 2) := by decide +kernel
theorem dX2_weave_89 : decode cX2_weave 89 = .ok (.if_icmp .ge 28, 3) := by decide +kernel
theorem dX2_weave_92 : decode cX2_weave 92 = .ok (.aload_n 0, 1) := by decide +kernel
theorem dX2_weave_93 : decode cX2_weave 93 = .ok (.getfield 11, 3) := by decide +kernel
theorem dX2_weave_96 : decode cX2_weave 96 = .ok (.iload_n 1, 1) := by decide +kernel
theorem dX2_weave_97 : decode cX2_weave 97 = .ok (.aaload, 1) := by decide +kernel
theorem dX2_weave_98 : decode cX2_weave 98 = .ok (.iload 5, 2) := by decide +kernel
theorem dX2_weave_100 : decode cX2_weave 100 = .ok (.dup2, 1) := by decide +kernel
theorem dX2_weave_101 : decode cX2_weave 101 = .ok (.iaload, 1) := by decide +kernel
theorem dX2_weave_102 : decode cX2_weave 102 = .ok (.aload 4, 2) := by decide +kernel
theorem dX2_weave_104 : decode cX2_weave 104 = .ok (.iload 5, 2) := by decide +kernel
theorem dX2_weave_106 : decode cX2_weave 106 = .ok (.invokevirtual 92, 3) := by decide +kernel
theorem dX2_weave_109 : decode cX2_weave 109 = .ok (.isub, 1) := by decide +kernel
theorem dX2_weave_110 : decode cX2_weave 110 = .ok (.iastore, 1) := by decide +kernel
theorem dX2_weave_111 : decode cX2_weave 111 = .ok (.iinc 5 1, 3) := by decide +kernel
theorem dX2_weave_114 : decode cX2_weave 114 = .ok (.goto (-29), 3) := by decide +kernel
theorem dX2_weave_117 : decode cX2_weave 117 = .ok (.aload_n 0, 1) := by decide +kernel
theorem dX2_weave_118 : decode cX2_weave 118 = .ok (.getfield 35, 3) := by decide +kernel
theorem dX2_weave_121 : decode cX2_weave 121 = .ok (.iload_n 3, 1) := by decide +kernel
theorem dX2_weave_122 : decode cX2_weave 122 = .ok (.iload_n 2, 1) := by decide +kernel
theorem dX2_weave_123 : decode cX2_weave 123 = .ok (.iastore, 1) := by decide +kernel
theorem dX2_weave_124 : decode cX2_weave 124 = .ok (.aload_n 0, 1) := by decide +kernel
theorem dX2_weave_125 : decode cX2_weave 125 = .ok (.getfield 38, 3) := by decide +kernel
theorem dX2_weave_128 : decode cX2_weave 128 = .ok (.iload_n 3, 1) := by decide +kernel
theorem dX2_weave_129 : decode cX2_weave 129 = .ok (.iload_n 1, 1) := by decide +kernel
theorem dX2_weave_130 : decode cX2_weave 130 = .ok (.iastore, 1) := by decide +kernel
theorem dX2_weave_131 : decode cX2_weave 131 = .ok (.aload_n 0, 1) := by decide +kernel
theorem dX2_weave_132 : decode cX2_weave 132 = .ok (.getfield 41, 3) := by decide +kernel
theorem dX2_weave_135 : decode cX2_weave 135 = .ok (.aload_n 0, 1) := by decide +kernel
theorem dX2_weave_136 : decode cX2_weave 136 = .ok (.getfield 32, 3) := by decide +kernel
theorem dX2_weave_139 : decode cX2_weave 139 = .ok (.aload_n 0, 1) := by decide +kernel
theorem dX2_weave_140 : decode cX2_weave 140 = .ok (.iload_n 2, 1) := by decide +kernel
theorem dX2_weave_141 : decode cX2_weave 141 = .ok (.invokevirtual 137, 3) := by decide +kernel
theorem dX2_weave_144 : decode cX2_weave 144 = .ok (.iaload, 1) := by decide +kernel
theorem dX2_weave_145 : decode cX2_weave 145 = .ok (.dup2, 1) := by decide +kernel
theorem dX2_weave_146 : decode cX2_weave 146 = .ok (.iaload, 1) := by decide +kernel
theorem dX2_weave_147 : decode cX2_weave 147 = .ok (.iconst 1, 1) := by decide +kernel
theorem dX2_weave_148 : decode cX2_weave 148 = .ok (.iadd, 1) := by decide +kernel
theorem dX2_weave_149 : decode cX2_weave 149 = .ok (.iastore, 1) := by decide +kernel
theorem dX2_weave_150 : decode cX2_weave 150 = .ok (.iload_n 3, 1) := by decide +kernel
theorem dX2_weave_151 : decode cX2_weave 151 = .ok (.ireturn, 1) := by decide +kernel
set_option maxRecDepth 20000 in
theorem ggX2_apart_X2_checkBelt : GoodIn wsX2_apart wsX2_checkBelt := goodIn_ca (goodIn_r _ [12, 13, 14, 15, 16, 17, 11, 18, 4, 30, 31, 32, 33, 34, 35, 36, 37, 38, 39, 40, 41, 42, 43, 44] (by decide +kernel) (by decide +kernel)) (goodIn_sub (fun _ h => List.mem_cons_of_mem _ (List.mem_append_right _ h)) (by decide +kernel))
set_option maxRecDepth 20000 in
theorem gX2_apart_X2_checkBelt : GoodIn wsX2_apart (wsV RX2 147 RX2 yX2_checkBelt wsX2_checkBelt) := goodIn_app (goodIn_of _ (by decide +kernel)) ggX2_apart_X2_checkBelt
set_option maxRecDepth 20000 in
theorem ggX2_apart_X1_cellsOf : GoodIn wsX2_apart wsX1_cellsOf := goodIn_r _ [22, 23, 24, 25, 26, 20, 27, 28, 29, 45, 46, 47] (by decide +kernel) (by decide +kernel)
set_option maxRecDepth 20000 in
theorem gX2_apart_X1_cellsOf_n92 : GoodIn wsX2_apart (wsX1_cellsOf) := ggX2_apart_X1_cellsOf
set_option maxRecDepth 20000 in
theorem ggX2_apart_X1_size : GoodIn wsX2_apart wsX1_size := goodIn_r _ [27, 28, 29, 45, 46, 47] (by decide +kernel) (by decide +kernel)
set_option maxRecDepth 20000 in
theorem gX2_apart_X1_size_n100 : GoodIn wsX2_apart (wsX1_size) := ggX2_apart_X1_size
theorem dX2_apart_0 : decode cX2_apart 0 = .ok (.aload_n 0, 1) := by decide +kernel
theorem dX2_apart_1 : decode cX2_apart 1 = .ok (.iload_n 1, 1) := by decide +kernel
theorem dX2_apart_2 : decode cX2_apart 2 = .ok (.invokevirtual 147, 3) := by decide +kernel
theorem dX2_apart_5 : decode cX2_apart 5 = .ok (.aload_n 0, 1) := by decide +kernel
theorem dX2_apart_6 : decode cX2_apart 6 = .ok (.getfield 28, 3) := by decide +kernel
theorem dX2_apart_9 : decode cX2_apart 9 = .ok (.aload_n 0, 1) := by decide +kernel
theorem dX2_apart_10 : decode cX2_apart 10 = .ok (.getfield 35, 3) := by decide +kernel
theorem dX2_apart_13 : decode cX2_apart 13 = .ok (.iload_n 1, 1) := by decide +kernel
theorem dX2_apart_14 : decode cX2_apart 14 = .ok (.iaload, 1) := by decide +kernel
theorem dX2_apart_15 : decode cX2_apart 15 = .ok (.aaload, 1) := by decide +kernel
theorem dX2_apart_16 : decode cX2_apart 16 = .ok (.astore_n 2, 1) := by decide +kernel
theorem dX2_apart_17 : decode cX2_apart 17 = .ok (.aload_n 0, 1) := by decide +kernel
theorem dX2_apart_18 : decode cX2_apart 18 = .ok (.getfield 11, 3) := by decide +kernel
theorem dX2_apart_21 : decode cX2_apart 21 = .ok (.aload_n 0, 1) := by decide +kernel
theorem dX2_apart_22 : decode cX2_apart 22 = .ok (.getfield 38, 3) := by decide +kernel
theorem dX2_apart_25 : decode cX2_apart 25 = .ok (.iload_n 1, 1) := by decide +kernel
theorem dX2_apart_26 : decode cX2_apart 26 = .ok (.iaload, 1) := by decide +kernel
theorem dX2_apart_27 : decode cX2_apart 27 = .ok (.aaload, 1) := by decide +kernel
theorem dX2_apart_28 : decode cX2_apart 28 = .ok (.astore_n 3, 1) := by decide +kernel
theorem dX2_apart_29 : decode cX2_apart 29 = .ok (.iconst 0, 1) := by decide +kernel
theorem dX2_apart_30 : decode cX2_apart 30 = .ok (.istore 4, 2) := by decide +kernel
theorem dX2_apart_32 : decode cX2_apart 32 = .ok (.iload 4, 2) := by decide +kernel
theorem dX2_apart_34 : decode cX2_apart 34 = .ok (.bipush 8, 2) := by decide +kernel
theorem dX2_apart_36 : decode cX2_apart 36 = .ok (.if_icmp .ge 35, 3) := by decide +kernel
theorem dX2_apart_39 : decode cX2_apart 39 = .ok (.aload_n 3, 1) := by decide +kernel
theorem dX2_apart_40 : decode cX2_apart 40 = .ok (.iload 4, 2) := by decide +kernel
theorem dX2_apart_42 : decode cX2_apart 42 = .ok (.iaload, 1) := by decide +kernel
theorem dX2_apart_43 : decode cX2_apart 43 = .ok (.aload_n 2, 1) := by decide +kernel
theorem dX2_apart_44 : decode cX2_apart 44 = .ok (.iload 4, 2) := by decide +kernel
theorem dX2_apart_46 : decode cX2_apart 46 = .ok (.invokevirtual 92, 3) := by decide +kernel
theorem dX2_apart_49 : decode cX2_apart 49 = .ok (.iadd, 1) := by decide +kernel
theorem dX2_apart_50 : decode cX2_apart 50 = .ok (.ldc 78, 2) := by decide +kernel
theorem dX2_apart_52 : decode cX2_apart 52 = .ok (.if_icmp .le 13, 3) := by decide +kernel
theorem dX2_apart_55 : decode cX2_apart 55 = .ok (.new 79, 3) := by decide +kernel
theorem dX2_apart_58 : decode cX2_apart 58 = .ok (.dup, 1) := by decide +kernel
theorem dX2_apart_59 : decode cX2_apart 59 = .ok (.ldc 81, 2) := by decide +kernel
theorem dX2_apart_61 : decode cX2_apart 61 = .ok (.invokespecial 83, 3) := by decide +kernel
theorem dX2_apart_64 : decode cX2_apart 64 = .ok (.athrow, 1) := by decide +kernel
theorem dX2_apart_65 : decode cX2_apart 65 = .ok (.iinc 4 1, 3) := by decide +kernel
theorem dX2_apart_68 : decode cX2_apart 68 = .ok (.goto (-36), 3) := by decide +kernel
theorem dX2_apart_71 : decode cX2_apart 71 = .ok (.iconst 0, 1) := by decide +kernel
theorem dX2_apart_72 : decode cX2_apart 72 = .ok (.istore 4, 2) := by decide +kernel
theorem dX2_apart_74 : decode cX2_apart 74 = .ok (.iload 4, 2) := by decide +kernel
theorem dX2_apart_76 : decode cX2_apart 76 = .ok (.bipush 8, 2) := by decide +kernel
theorem dX2_apart_78 : decode cX2_apart 78 = .ok (.if_icmp .ge 22, 3) := by decide +kernel
theorem dX2_apart_81 : decode cX2_apart 81 = .ok (.aload_n 3, 1) := by decide +kernel
theorem dX2_apart_82 : decode cX2_apart 82 = .ok (.iload 4, 2) := by decide +kernel
theorem dX2_apart_84 : decode cX2_apart 84 = .ok (.dup2, 1) := by decide +kernel
theorem dX2_apart_85 : decode cX2_apart 85 = .ok (.iaload, 1) := by decide +kernel
theorem dX2_apart_86 : decode cX2_apart 86 = .ok (.aload_n 2, 1) := by decide +kernel
theorem dX2_apart_87 : decode cX2_apart 87 = .ok (.iload 4, 2) := by decide +kernel
theorem dX2_apart_89 : decode cX2_apart 89 = .ok (.invokevirtual 92, 3) := by decide +kernel
theorem dX2_apart_92 : decode cX2_apart 92 = .ok (.iadd, 1) := by decide +kernel
theorem dX2_apart_93 : decode cX2_apart 93 = .ok (.iastore, 1) := by decide +kernel
theorem dX2_apart_94 : decode cX2_apart 94 = .ok (.iinc 4 1, 3) := by decide +kernel
theorem dX2_apart_97 : decode cX2_apart 97 = .ok (.goto (-23), 3) := by decide +kernel
theorem dX2_apart_100 : decode cX2_apart 100 = .ok (.aload_n 0, 1) := by decide +kernel
theorem dX2_apart_101 : decode cX2_apart 101 = .ok (.getfield 35, 3) := by decide +kernel
theorem dX2_apart_104 : decode cX2_apart 104 = .ok (.iload_n 1, 1) := by decide +kernel
theorem dX2_apart_105 : decode cX2_apart 105 = .ok (.iconst (-1), 1) := by decide +kernel
theorem dX2_apart_106 : decode cX2_apart 106 = .ok (.iastore, 1) := by decide +kernel
theorem dX2_apart_107 : decode cX2_apart 107 = .ok (.aload_n 2, 1) := by decide +kernel
theorem dX2_apart_108 : decode cX2_apart 108 = .ok (.invokevirtual 100, 3) := by decide +kernel
theorem dX2_apart_111 : decode cX2_apart 111 = .ok (.ireturn, 1) := by decide +kernel
set_option maxRecDepth 20000 in
theorem ggX2_give_X2_checkBelt : GoodIn wsX2_give wsX2_checkBelt := goodIn_ca (goodIn_r _ [6, 7, 8, 9, 10, 11, 5, 12, 13, 17, 18, 19, 20, 21, 22, 23, 24, 25, 26, 27, 28, 29, 30, 31] (by decide +kernel) (by decide +kernel)) (goodIn_sub (fun _ h => List.mem_cons_of_mem _ (List.mem_append_right _ h)) (by decide +kernel))
set_option maxRecDepth 20000 in
theorem gX2_give_X2_checkBelt : GoodIn wsX2_give (wsV RX2 147 RX2 yX2_checkBelt wsX2_checkBelt) := goodIn_app (goodIn_of _ (by decide +kernel)) ggX2_give_X2_checkBelt
set_option maxRecDepth 20000 in
theorem ggX2_give_X2_checkPerson : GoodIn wsX2_give wsX2_checkPerson := goodIn_ca (goodIn_r _ [16, 7, 8] (by decide +kernel) (by decide +kernel)) (goodIn_sub (fun _ h => List.mem_cons_of_mem _ (List.mem_append_right _ h)) (by decide +kernel))
set_option maxRecDepth 20000 in
theorem gX2_give_X2_checkPerson : GoodIn wsX2_give (va_wsS RX2 67 yX2_checkPerson wsX2_checkPerson) := goodIn_app (goodIn_of _ (by decide +kernel)) ggX2_give_X2_checkPerson
theorem dX2_give_0 : decode cX2_give 0 = .ok (.aload_n 0, 1) := by decide +kernel
theorem dX2_give_1 : decode cX2_give 1 = .ok (.iload_n 1, 1) := by decide +kernel
theorem dX2_give_2 : decode cX2_give 2 = .ok (.invokevirtual 147, 3) := by decide +kernel
theorem dX2_give_5 : decode cX2_give 5 = .ok (.iload_n 2, 1) := by decide +kernel
theorem dX2_give_6 : decode cX2_give 6 = .ok (.invokestatic 67, 3) := by decide +kernel
theorem dX2_give_9 : decode cX2_give 9 = .ok (.aload_n 0, 1) := by decide +kernel
theorem dX2_give_10 : decode cX2_give 10 = .ok (.getfield 38, 3) := by decide +kernel
theorem dX2_give_13 : decode cX2_give 13 = .ok (.iload_n 1, 1) := by decide +kernel
theorem dX2_give_14 : decode cX2_give 14 = .ok (.iaload, 1) := by decide +kernel
theorem dX2_give_15 : decode cX2_give 15 = .ok (.istore_n 3, 1) := by decide +kernel
theorem dX2_give_16 : decode cX2_give 16 = .ok (.aload_n 0, 1) := by decide +kernel
theorem dX2_give_17 : decode cX2_give 17 = .ok (.getfield 38, 3) := by decide +kernel
theorem dX2_give_20 : decode cX2_give 20 = .ok (.iload_n 1, 1) := by decide +kernel
theorem dX2_give_21 : decode cX2_give 21 = .ok (.iload_n 2, 1) := by decide +kernel
theorem dX2_give_22 : decode cX2_give 22 = .ok (.iastore, 1) := by decide +kernel
theorem dX2_give_23 : decode cX2_give 23 = .ok (.iload_n 3, 1) := by decide +kernel
theorem dX2_give_24 : decode cX2_give 24 = .ok (.ireturn, 1) := by decide +kernel
set_option maxRecDepth 20000 in
theorem ggX2_owner_X2_checkBelt : GoodIn wsX2_owner wsX2_checkBelt := goodIn_ca (goodIn_r _ [6, 7, 8, 9, 10, 11, 5, 12, 13, 14, 15, 16, 17, 18, 19, 20, 21, 22, 23, 24, 25, 26, 27, 28] (by decide +kernel) (by decide +kernel)) (goodIn_sub (fun _ h => List.mem_cons_of_mem _ (List.mem_append_right _ h)) (by decide +kernel))
set_option maxRecDepth 20000 in
theorem gX2_owner_X2_checkBelt : GoodIn wsX2_owner (wsV RX2 147 RX2 yX2_checkBelt wsX2_checkBelt) := goodIn_app (goodIn_of _ (by decide +kernel)) ggX2_owner_X2_checkBelt
theorem dX2_owner_0 : decode cX2_owner 0 = .ok (.aload_n 0, 1) := by decide +kernel
theorem dX2_owner_1 : decode cX2_owner 1 = .ok (.iload_n 1, 1) := by decide +kernel
theorem dX2_owner_2 : decode cX2_owner 2 = .ok (.invokevirtual 147, 3) := by decide +kernel
theorem dX2_owner_5 : decode cX2_owner 5 = .ok (.aload_n 0, 1) := by decide +kernel
theorem dX2_owner_6 : decode cX2_owner 6 = .ok (.getfield 38, 3) := by decide +kernel
theorem dX2_owner_9 : decode cX2_owner 9 = .ok (.iload_n 1, 1) := by decide +kernel
theorem dX2_owner_10 : decode cX2_owner 10 = .ok (.iaload, 1) := by decide +kernel
theorem dX2_owner_11 : decode cX2_owner 11 = .ok (.ireturn, 1) := by decide +kernel
set_option maxRecDepth 20000 in
theorem ggX2_credits_X2_checkPerson : GoodIn wsX2_credits wsX2_checkPerson := goodIn_ca (goodIn_r _ [5, 6, 7] (by decide +kernel) (by decide +kernel)) (goodIn_sub (fun _ h => List.mem_cons_of_mem _ (List.mem_append_right _ h)) (by decide +kernel))
set_option maxRecDepth 20000 in
theorem gX2_credits_X2_checkPerson : GoodIn wsX2_credits (va_wsS RX2 67 yX2_checkPerson wsX2_checkPerson) := goodIn_app (goodIn_of _ (by decide +kernel)) ggX2_credits_X2_checkPerson
theorem dX2_credits_0 : decode cX2_credits 0 = .ok (.iload_n 1, 1) := by decide +kernel
theorem dX2_credits_1 : decode cX2_credits 1 = .ok (.invokestatic 67, 3) := by decide +kernel
theorem dX2_credits_4 : decode cX2_credits 4 = .ok (.aload_n 0, 1) := by decide +kernel
theorem dX2_credits_5 : decode cX2_credits 5 = .ok (.getfield 41, 3) := by decide +kernel
theorem dX2_credits_8 : decode cX2_credits 8 = .ok (.iload_n 1, 1) := by decide +kernel
theorem dX2_credits_9 : decode cX2_credits 9 = .ok (.iaload, 1) := by decide +kernel
theorem dX2_credits_10 : decode cX2_credits 10 = .ok (.ireturn, 1) := by decide +kernel
set_option maxRecDepth 20000 in
theorem ggX2_wish_X2_checkPerson : GoodIn wsX2_wish wsX2_checkPerson := goodIn_ca (goodIn_r _ [7, 8, 9] (by decide +kernel) (by decide +kernel)) (goodIn_sub (fun _ h => List.mem_cons_of_mem _ (List.mem_append_right _ h)) (by decide +kernel))
set_option maxRecDepth 20000 in
theorem gX2_wish_X2_checkPerson : GoodIn wsX2_wish (va_wsS RX2 67 yX2_checkPerson wsX2_checkPerson) := goodIn_app (goodIn_of _ (by decide +kernel)) ggX2_wish_X2_checkPerson
set_option maxRecDepth 20000 in
theorem ggX2_wish_X2_checkColour : GoodIn wsX2_wish wsX2_checkColour := goodIn_ca (goodIn_r _ [12, 8, 9] (by decide +kernel) (by decide +kernel)) (goodIn_sub (fun _ h => List.mem_cons_of_mem _ (List.mem_append_right _ h)) (by decide +kernel))
set_option maxRecDepth 20000 in
theorem gX2_wish_X2_checkColour : GoodIn wsX2_wish (va_wsS RX2 71 yX2_checkColour wsX2_checkColour) := goodIn_app (goodIn_of _ (by decide +kernel)) ggX2_wish_X2_checkColour
set_option maxRecDepth 20000 in
theorem ggX2_wish_X0_hasWish : GoodIn wsX2_wish wsX0_hasWish := goodIn_r _ [16, 17, 37, 38, 39, 40, 41, 42] (by decide +kernel) (by decide +kernel)
set_option maxRecDepth 20000 in
theorem gX2_wish_X0_hasWish_n155 : GoodIn wsX2_wish (wsX0_hasWish) := ggX2_wish_X0_hasWish
set_option maxRecDepth 20000 in
theorem ggX2_wish_X0_setWish : GoodIn wsX2_wish wsX0_setWish := goodIn_r _ [20, 17, 21, 37, 38, 39, 40, 41, 42] (by decide +kernel) (by decide +kernel)
set_option maxRecDepth 20000 in
theorem gX2_wish_X0_setWish_n158 : GoodIn wsX2_wish (wsX0_setWish) := ggX2_wish_X0_setWish
theorem dX2_wish_0 : decode cX2_wish 0 = .ok (.iload_n 1, 1) := by decide +kernel
theorem dX2_wish_1 : decode cX2_wish 1 = .ok (.invokestatic 67, 3) := by decide +kernel
theorem dX2_wish_4 : decode cX2_wish 4 = .ok (.iload_n 2, 1) := by decide +kernel
theorem dX2_wish_5 : decode cX2_wish 5 = .ok (.invokestatic 71, 3) := by decide +kernel
theorem dX2_wish_8 : decode cX2_wish 8 = .ok (.iload_n 3, 1) := by decide +kernel
theorem dX2_wish_9 : decode cX2_wish 9 = .ok (.invokestatic 71, 3) := by decide +kernel
theorem dX2_wish_12 : decode cX2_wish 12 = .ok (.iload_n 2, 1) := by decide +kernel
theorem dX2_wish_13 : decode cX2_wish 13 = .ok (.iload_n 3, 1) := by decide +kernel
theorem dX2_wish_14 : decode cX2_wish 14 = .ok (.if_icmp .ne 13, 3) := by decide +kernel
theorem dX2_wish_17 : decode cX2_wish 17 = .ok (.new 150, 3) := by decide +kernel
theorem dX2_wish_20 : decode cX2_wish 20 = .ok (.dup, 1) := by decide +kernel
theorem dX2_wish_21 : decode cX2_wish 21 = .ok (.ldc 152, 2) := by decide +kernel
theorem dX2_wish_23 : decode cX2_wish 23 = .ok (.invokespecial 154, 3) := by decide +kernel
theorem dX2_wish_26 : decode cX2_wish 26 = .ok (.athrow, 1) := by decide +kernel
theorem dX2_wish_27 : decode cX2_wish 27 = .ok (.aload_n 0, 1) := by decide +kernel
theorem dX2_wish_28 : decode cX2_wish 28 = .ok (.getfield 47, 3) := by decide +kernel
theorem dX2_wish_31 : decode cX2_wish 31 = .ok (.iload_n 1, 1) := by decide +kernel
theorem dX2_wish_32 : decode cX2_wish 32 = .ok (.invokevirtual 155, 3) := by decide +kernel
theorem dX2_wish_35 : decode cX2_wish 35 = .ok (.istore 4, 2) := by decide +kernel
theorem dX2_wish_37 : decode cX2_wish 37 = .ok (.aload_n 0, 1) := by decide +kernel
theorem dX2_wish_38 : decode cX2_wish 38 = .ok (.getfield 47, 3) := by decide +kernel
theorem dX2_wish_41 : decode cX2_wish 41 = .ok (.iload_n 1, 1) := by decide +kernel
theorem dX2_wish_42 : decode cX2_wish 42 = .ok (.iload_n 2, 1) := by decide +kernel
theorem dX2_wish_43 : decode cX2_wish 43 = .ok (.iload_n 3, 1) := by decide +kernel
theorem dX2_wish_44 : decode cX2_wish 44 = .ok (.invokevirtual 158, 3) := by decide +kernel
theorem dX2_wish_47 : decode cX2_wish 47 = .ok (.iload 4, 2) := by decide +kernel
theorem dX2_wish_49 : decode cX2_wish 49 = .ok (.ireturn, 1) := by decide +kernel
set_option maxRecDepth 20000 in
theorem ggX2_unwish_X2_checkPerson : GoodIn wsX2_unwish wsX2_checkPerson := goodIn_ca (goodIn_r _ [5, 6, 7] (by decide +kernel) (by decide +kernel)) (goodIn_sub (fun _ h => List.mem_cons_of_mem _ (List.mem_append_right _ h)) (by decide +kernel))
set_option maxRecDepth 20000 in
theorem gX2_unwish_X2_checkPerson : GoodIn wsX2_unwish (va_wsS RX2 67 yX2_checkPerson wsX2_checkPerson) := goodIn_app (goodIn_of _ (by decide +kernel)) ggX2_unwish_X2_checkPerson
set_option maxRecDepth 20000 in
theorem ggX2_unwish_X0_hasWish : GoodIn wsX2_unwish wsX0_hasWish := goodIn_r _ [11, 12, 32, 33, 34, 35, 36, 37] (by decide +kernel) (by decide +kernel)
set_option maxRecDepth 20000 in
theorem gX2_unwish_X0_hasWish_n155 : GoodIn wsX2_unwish (wsX0_hasWish) := ggX2_unwish_X0_hasWish
set_option maxRecDepth 20000 in
theorem ggX2_unwish_X0_setWish : GoodIn wsX2_unwish wsX0_setWish := goodIn_r _ [15, 12, 16, 32, 33, 34, 35, 36, 37] (by decide +kernel) (by decide +kernel)
set_option maxRecDepth 20000 in
theorem gX2_unwish_X0_setWish_n158 : GoodIn wsX2_unwish (wsX0_setWish) := ggX2_unwish_X0_setWish
theorem dX2_unwish_0 : decode cX2_unwish 0 = .ok (.iload_n 1, 1) := by decide +kernel
theorem dX2_unwish_1 : decode cX2_unwish 1 = .ok (.invokestatic 67, 3) := by decide +kernel
theorem dX2_unwish_4 : decode cX2_unwish 4 = .ok (.aload_n 0, 1) := by decide +kernel
theorem dX2_unwish_5 : decode cX2_unwish 5 = .ok (.getfield 47, 3) := by decide +kernel
theorem dX2_unwish_8 : decode cX2_unwish 8 = .ok (.iload_n 1, 1) := by decide +kernel
theorem dX2_unwish_9 : decode cX2_unwish 9 = .ok (.invokevirtual 155, 3) := by decide +kernel
theorem dX2_unwish_12 : decode cX2_unwish 12 = .ok (.istore_n 2, 1) := by decide +kernel
theorem dX2_unwish_13 : decode cX2_unwish 13 = .ok (.aload_n 0, 1) := by decide +kernel
theorem dX2_unwish_14 : decode cX2_unwish 14 = .ok (.getfield 47, 3) := by decide +kernel
theorem dX2_unwish_17 : decode cX2_unwish 17 = .ok (.iload_n 1, 1) := by decide +kernel
theorem dX2_unwish_18 : decode cX2_unwish 18 = .ok (.iconst (-1), 1) := by decide +kernel
theorem dX2_unwish_19 : decode cX2_unwish 19 = .ok (.iconst (-1), 1) := by decide +kernel
theorem dX2_unwish_20 : decode cX2_unwish 20 = .ok (.invokevirtual 158, 3) := by decide +kernel
theorem dX2_unwish_23 : decode cX2_unwish 23 = .ok (.iload_n 2, 1) := by decide +kernel
theorem dX2_unwish_24 : decode cX2_unwish 24 = .ok (.ireturn, 1) := by decide +kernel
set_option maxRecDepth 20000 in
theorem ggX2_chain_X0_findBest : GoodIn wsX2_chain wsX0_findBest := goodIn_r _ [6, 7, 8, 9, 10, 11, 12, 4, 13, 14, 15, 16, 17, 18, 19, 20, 21, 22, 23, 24, 25, 26, 27, 28, 29, 30, 31, 32, 33, 34, 35, 51, 52, 53, 54, 55, 56] (by decide +kernel) (by decide +kernel)
set_option maxRecDepth 20000 in
theorem gX2_chain_X0_findBest_n161 : GoodIn wsX2_chain (wsX0_findBest) := ggX2_chain_X0_findBest
theorem dX2_chain_0 : decode cX2_chain 0 = .ok (.aload_n 0, 1) := by decide +kernel
theorem dX2_chain_1 : decode cX2_chain 1 = .ok (.getfield 47, 3) := by decide +kernel
theorem dX2_chain_4 : decode cX2_chain 4 = .ok (.aload_n 0, 1) := by decide +kernel
theorem dX2_chain_5 : decode cX2_chain 5 = .ok (.getfield 11, 3) := by decide +kernel
theorem dX2_chain_8 : decode cX2_chain 8 = .ok (.invokevirtual 161, 3) := by decide +kernel
theorem dX2_chain_11 : decode cX2_chain 11 = .ok (.aload_n 0, 1) := by decide +kernel
theorem dX2_chain_12 : decode cX2_chain 12 = .ok (.getfield 47, 3) := by decide +kernel
theorem dX2_chain_15 : decode cX2_chain 15 = .ok (.getfield 165, 3) := by decide +kernel
theorem dX2_chain_18 : decode cX2_chain 18 = .ok (.ireturn, 1) := by decide +kernel
set_option maxRecDepth 20000 in
theorem ggX2_chainByOrders_X0_longestByOrders : GoodIn wsX2_chainByOrders wsX0_longestByOrders := goodIn_r _ [6, 7, 8, 9, 10, 11, 12, 13, 14, 15, 4, 16, 17, 18, 19, 20, 21, 22, 23, 24, 25, 26, 27, 28, 29, 30, 31, 32, 33, 34, 35, 36, 37, 38, 54, 55, 56, 57, 58, 59] (by decide +kernel) (by decide +kernel)
set_option maxRecDepth 20000 in
theorem gX2_chainByOrders_X0_longestByOrders_n168 : GoodIn wsX2_chainByOrders (wsX0_longestByOrders) := ggX2_chainByOrders_X0_longestByOrders
theorem dX2_chainByOrders_0 : decode cX2_chainByOrders 0 = .ok (.aload_n 0, 1) := by decide +kernel
theorem dX2_chainByOrders_1 : decode cX2_chainByOrders 1 = .ok (.getfield 47, 3) := by decide +kernel
theorem dX2_chainByOrders_4 : decode cX2_chainByOrders 4 = .ok (.aload_n 0, 1) := by decide +kernel
theorem dX2_chainByOrders_5 : decode cX2_chainByOrders 5 = .ok (.getfield 11, 3) := by decide +kernel
theorem dX2_chainByOrders_8 : decode cX2_chainByOrders 8 = .ok (.invokevirtual 168, 3) := by decide +kernel
theorem dX2_chainByOrders_11 : decode cX2_chainByOrders 11 = .ok (.ireturn, 1) := by decide +kernel
set_option maxRecDepth 20000 in
theorem ggX2_chainAt_X0_findBest : GoodIn wsX2_chainAt wsX0_findBest := goodIn_r _ [8, 9, 10, 11, 12, 13, 14, 6, 15, 16, 17, 18, 19, 20, 21, 22, 23, 24, 25, 26, 27, 28, 29, 30, 31, 32, 33, 34, 35, 36, 37, 53, 54, 55, 56, 57, 58] (by decide +kernel) (by decide +kernel)
set_option maxRecDepth 20000 in
theorem gX2_chainAt_X0_findBest_n161 : GoodIn wsX2_chainAt (wsX0_findBest) := ggX2_chainAt_X0_findBest
theorem dX2_chainAt_0 : decode cX2_chainAt 0 = .ok (.aload_n 0, 1) := by decide +kernel
theorem dX2_chainAt_1 : decode cX2_chainAt 1 = .ok (.getfield 47, 3) := by decide +kernel
theorem dX2_chainAt_4 : decode cX2_chainAt 4 = .ok (.aload_n 0, 1) := by decide +kernel
theorem dX2_chainAt_5 : decode cX2_chainAt 5 = .ok (.getfield 11, 3) := by decide +kernel
theorem dX2_chainAt_8 : decode cX2_chainAt 8 = .ok (.invokevirtual 161, 3) := by decide +kernel
theorem dX2_chainAt_11 : decode cX2_chainAt 11 = .ok (.iload_n 1, 1) := by decide +kernel
theorem dX2_chainAt_12 : decode cX2_chainAt 12 = .ok (.ifCond .lt 14, 3) := by decide +kernel
theorem dX2_chainAt_15 : decode cX2_chainAt 15 = .ok (.iload_n 1, 1) := by decide +kernel
theorem dX2_chainAt_16 : decode cX2_chainAt 16 = .ok (.aload_n 0, 1) := by decide +kernel
theorem dX2_chainAt_17 : decode cX2_chainAt 17 = .ok (.getfield 47, 3) := by decide +kernel
theorem dX2_chainAt_20 : decode cX2_chainAt 20 = .ok (.getfield 165, 3) := by decide +kernel
theorem dX2_chainAt_23 : decode cX2_chainAt 23 = .ok (.if_icmp .lt 13, 3) := by decide +kernel
theorem dX2_chainAt_26 : decode cX2_chainAt 26 = .ok (.new 108, 3) := by decide +kernel
theorem dX2_chainAt_29 : decode cX2_chainAt 29 = .ok (.dup, 1) := by decide +kernel
theorem dX2_chainAt_30 : decode cX2_chainAt 30 = .ok (.ldc 172, 2) := by decide +kernel
theorem dX2_chainAt_32 : decode cX2_chainAt 32 = .ok (.invokespecial 112, 3) := by decide +kernel
theorem dX2_chainAt_35 : decode cX2_chainAt 35 = .ok (.athrow, 1) := by decide +kernel
theorem dX2_chainAt_36 : decode cX2_chainAt 36 = .ok (.aload_n 0, 1) := by decide +kernel
theorem dX2_chainAt_37 : decode cX2_chainAt 37 = .ok (.getfield 47, 3) := by decide +kernel
theorem dX2_chainAt_40 : decode cX2_chainAt 40 = .ok (.getfield 174, 3) := by decide +kernel
theorem dX2_chainAt_43 : decode cX2_chainAt 43 = .ok (.iload_n 1, 1) := by decide +kernel
theorem dX2_chainAt_44 : decode cX2_chainAt 44 = .ok (.iaload, 1) := by decide +kernel
theorem dX2_chainAt_45 : decode cX2_chainAt 45 = .ok (.ireturn, 1) := by decide +kernel
set_option maxRecDepth 20000 in
theorem ggX2_fair_X0_findBest : GoodIn wsX2_fair wsX0_findBest := goodIn_r _ [6, 7, 8, 9, 10, 11, 12, 4, 13, 14, 15, 16, 17, 18, 19, 20, 21, 22, 23, 24, 25, 26, 27, 28, 29, 30, 31, 32, 33, 34, 35, 54, 55, 56, 57, 58, 59] (by decide +kernel) (by decide +kernel)
set_option maxRecDepth 20000 in
theorem gX2_fair_X0_findBest_n161 : GoodIn wsX2_fair (wsX0_findBest) := ggX2_fair_X0_findBest
set_option maxRecDepth 20000 in
theorem ggX2_fair_X0_exchange : GoodIn wsX2_fair wsX0_exchange := goodIn_r _ [38, 7, 22, 31, 54, 55, 56, 57, 58, 59] (by decide +kernel) (by decide +kernel)
set_option maxRecDepth 20000 in
theorem gX2_fair_X0_exchange_n177 : GoodIn wsX2_fair (wsX0_exchange) := ggX2_fair_X0_exchange
theorem dX2_fair_0 : decode cX2_fair 0 = .ok (.aload_n 0, 1) := by decide +kernel
theorem dX2_fair_1 : decode cX2_fair 1 = .ok (.getfield 47, 3) := by decide +kernel
theorem dX2_fair_4 : decode cX2_fair 4 = .ok (.aload_n 0, 1) := by decide +kernel
theorem dX2_fair_5 : decode cX2_fair 5 = .ok (.getfield 11, 3) := by decide +kernel
theorem dX2_fair_8 : decode cX2_fair 8 = .ok (.invokevirtual 161, 3) := by decide +kernel
theorem dX2_fair_11 : decode cX2_fair 11 = .ok (.aload_n 0, 1) := by decide +kernel
theorem dX2_fair_12 : decode cX2_fair 12 = .ok (.getfield 47, 3) := by decide +kernel
theorem dX2_fair_15 : decode cX2_fair 15 = .ok (.aload_n 0, 1) := by decide +kernel
theorem dX2_fair_16 : decode cX2_fair 16 = .ok (.getfield 11, 3) := by decide +kernel
theorem dX2_fair_19 : decode cX2_fair 19 = .ok (.invokevirtual 177, 3) := by decide +kernel
theorem dX2_fair_22 : decode cX2_fair 22 = .ok (.aload_n 0, 1) := by decide +kernel
theorem dX2_fair_23 : decode cX2_fair 23 = .ok (.getfield 47, 3) := by decide +kernel
theorem dX2_fair_26 : decode cX2_fair 26 = .ok (.getfield 165, 3) := by decide +kernel
theorem dX2_fair_29 : decode cX2_fair 29 = .ok (.ireturn, 1) := by decide +kernel
set_option maxRecDepth 20000 in
theorem ggX2_sign_X2_checkRange : GoodIn wsX2_sign wsX2_checkRange := goodIn_ca (goodIn_r _ [10, 11, 12] (by decide +kernel) (by decide +kernel)) (goodIn_sub (fun _ h => List.mem_cons_of_mem _ (List.mem_append_right _ h)) (by decide +kernel))
set_option maxRecDepth 20000 in
theorem gX2_sign_X2_checkRange : GoodIn wsX2_sign (va_wsS RX2 74 yX2_checkRange wsX2_checkRange) := goodIn_app (goodIn_of _ (by decide +kernel)) ggX2_sign_X2_checkRange
set_option maxRecDepth 20000 in
theorem ggX2_sign_X1_copyFrom : GoodIn wsX2_sign wsX1_copyFrom := goodIn_r _ [16, 17, 18, 19, 20, 21, 22, 23, 39, 40, 41] (by decide +kernel) (by decide +kernel)
set_option maxRecDepth 20000 in
theorem gX2_sign_X1_copyFrom_n126 : GoodIn wsX2_sign (wsX1_copyFrom) := ggX2_sign_X1_copyFrom
theorem dX2_sign_0 : decode cX2_sign 0 = .ok (.iload_n 1, 1) := by decide +kernel
theorem dX2_sign_1 : decode cX2_sign 1 = .ok (.iconst 1, 1) := by decide +kernel
theorem dX2_sign_2 : decode cX2_sign 2 = .ok (.bipush 100, 2) := by decide +kernel
theorem dX2_sign_4 : decode cX2_sign 4 = .ok (.invokestatic 74, 3) := by decide +kernel
theorem dX2_sign_7 : decode cX2_sign 7 = .ok (.aload_n 0, 1) := by decide +kernel
theorem dX2_sign_8 : decode cX2_sign 8 = .ok (.getfield 24, 3) := by decide +kernel
theorem dX2_sign_11 : decode cX2_sign 11 = .ok (.getfield 180, 3) := by decide +kernel
theorem dX2_sign_14 : decode cX2_sign 14 = .ok (.iconst 3, 1) := by decide +kernel
theorem dX2_sign_15 : decode cX2_sign 15 = .ok (.if_icmp .gt 14, 3) := by decide +kernel
theorem dX2_sign_18 : decode cX2_sign 18 = .ok (.aload_n 0, 1) := by decide +kernel
theorem dX2_sign_19 : decode cX2_sign 19 = .ok (.getfield 24, 3) := by decide +kernel
theorem dX2_sign_22 : decode cX2_sign 22 = .ok (.getfield 183, 3) := by decide +kernel
theorem dX2_sign_25 : decode cX2_sign 25 = .ok (.iconst 3, 1) := by decide +kernel
theorem dX2_sign_26 : decode cX2_sign 26 = .ok (.if_icmp .le 13, 3) := by decide +kernel
theorem dX2_sign_29 : decode cX2_sign 29 = .ok (.new 79, 3) := by decide +kernel
theorem dX2_sign_32 : decode cX2_sign 32 = .ok (.dup, 1) := by decide +kernel
theorem dX2_sign_33 : decode cX2_sign 33 = .ok (.ldc 186, 2) := by decide +kernel
theorem dX2_sign_35 : decode cX2_sign 35 = .ok (.invokespecial 83, 3) := by decide +kernel
theorem dX2_sign_38 : decode cX2_sign 38 = .ok (.athrow, 1) := by decide +kernel
theorem dX2_sign_39 : decode cX2_sign 39 = .ok (.aload_n 0, 1) := by decide +kernel
theorem dX2_sign_40 : decode cX2_sign 40 = .ok (.getfield 188, 3) := by decide +kernel
theorem dX2_sign_43 : decode cX2_sign 43 = .ok (.bipush 8, 2) := by decide +kernel
theorem dX2_sign_45 : decode cX2_sign 45 = .ok (.if_icmp .lt 13, 3) := by decide +kernel
theorem dX2_sign_48 : decode cX2_sign 48 = .ok (.new 79, 3) := by decide +kernel
theorem dX2_sign_51 : decode cX2_sign 51 = .ok (.dup, 1) := by decide +kernel
theorem dX2_sign_52 : decode cX2_sign 52 = .ok (.ldc 191, 2) := by decide +kernel
theorem dX2_sign_54 : decode cX2_sign 54 = .ok (.invokespecial 83, 3) := by decide +kernel
theorem dX2_sign_57 : decode cX2_sign 57 = .ok (.athrow, 1) := by decide +kernel
theorem dX2_sign_58 : decode cX2_sign 58 = .ok (.aload_n 0, 1) := by decide +kernel
theorem dX2_sign_59 : decode cX2_sign 59 = .ok (.getfield 188, 3) := by decide +kernel
theorem dX2_sign_62 : decode cX2_sign 62 = .ok (.istore_n 2, 1) := by decide +kernel
theorem dX2_sign_63 : decode cX2_sign 63 = .ok (.aload_n 0, 1) := by decide +kernel
theorem dX2_sign_64 : decode cX2_sign 64 = .ok (.getfield 51, 3) := by decide +kernel
theorem dX2_sign_67 : decode cX2_sign 67 = .ok (.iload_n 2, 1) := by decide +kernel
theorem dX2_sign_68 : decode cX2_sign 68 = .ok (.aaload, 1) := by decide +kernel
theorem dX2_sign_69 : decode cX2_sign 69 = .ok (.aload_n 0, 1) := by decide +kernel
theorem dX2_sign_70 : decode cX2_sign 70 = .ok (.getfield 24, 3) := by decide +kernel
theorem dX2_sign_73 : decode cX2_sign 73 = .ok (.invokevirtual 126, 3) := by decide +kernel
theorem dX2_sign_76 : decode cX2_sign 76 = .ok (.aload_n 0, 1) := by decide +kernel
theorem dX2_sign_77 : decode cX2_sign 77 = .ok (.getfield 54, 3) := by decide +kernel
theorem dX2_sign_80 : decode cX2_sign 80 = .ok (.iload_n 2, 1) := by decide +kernel
theorem dX2_sign_81 : decode cX2_sign 81 = .ok (.iload_n 1, 1) := by decide +kernel
theorem dX2_sign_82 : decode cX2_sign 82 = .ok (.iastore, 1) := by decide +kernel
theorem dX2_sign_83 : decode cX2_sign 83 = .ok (.aload_n 0, 1) := by decide +kernel
theorem dX2_sign_84 : decode cX2_sign 84 = .ok (.dup, 1) := by decide +kernel
theorem dX2_sign_85 : decode cX2_sign 85 = .ok (.getfield 188, 3) := by decide +kernel
theorem dX2_sign_88 : decode cX2_sign 88 = .ok (.iconst 1, 1) := by decide +kernel
theorem dX2_sign_89 : decode cX2_sign 89 = .ok (.iadd, 1) := by decide +kernel
theorem dX2_sign_90 : decode cX2_sign 90 = .ok (.putfield 188, 3) := by decide +kernel
theorem dX2_sign_93 : decode cX2_sign 93 = .ok (.iload_n 2, 1) := by decide +kernel
theorem dX2_sign_94 : decode cX2_sign 94 = .ok (.ireturn, 1) := by decide +kernel
set_option maxRecDepth 20000 in
theorem ggX2_stands_X2_checkPattern : GoodIn wsX2_stands wsX2_checkPattern := goodIn_ca (goodIn_r _ [10, 1, 2, 11, 27, 28, 29, 30, 31, 32, 33, 34, 35, 36, 37, 38, 39, 40, 41] (by decide +kernel) (by decide +kernel)) (goodIn_sub (fun _ h => List.mem_cons_of_mem _ (List.mem_append_right _ h)) (by decide +kernel))
set_option maxRecDepth 20000 in
theorem gX2_stands_X2_checkPattern : GoodIn wsX2_stands (wsV RX2 130 RX2 yX2_checkPattern wsX2_checkPattern) := goodIn_app (goodIn_of _ (by decide +kernel)) ggX2_stands_X2_checkPattern
set_option maxRecDepth 20000 in
theorem ggX2_stands_X1_placesOf : GoodIn wsX2_stands wsX1_placesOf := goodIn_r _ [15, 16, 17, 18, 19, 20, 13, 21, 22, 23, 24, 25, 26, 42, 43, 44] (by decide +kernel) (by decide +kernel)
set_option maxRecDepth 20000 in
theorem gX2_stands_X1_placesOf_n195 : GoodIn wsX2_stands (wsX1_placesOf) := ggX2_stands_X1_placesOf
theorem dX2_stands_0 : decode cX2_stands 0 = .ok (.iload_n 1, 1) := by decide +kernel
theorem dX2_stands_1 : decode cX2_stands 1 = .ok (.ifCond .lt 11, 3) := by decide +kernel
theorem dX2_stands_4 : decode cX2_stands 4 = .ok (.iload_n 1, 1) := by decide +kernel
theorem dX2_stands_5 : decode cX2_stands 5 = .ok (.aload_n 0, 1) := by decide +kernel
theorem dX2_stands_6 : decode cX2_stands 6 = .ok (.getfield 188, 3) := by decide +kernel
theorem dX2_stands_9 : decode cX2_stands 9 = .ok (.if_icmp .lt 13, 3) := by decide +kernel
theorem dX2_stands_12 : decode cX2_stands 12 = .ok (.new 108, 3) := by decide +kernel
theorem dX2_stands_15 : decode cX2_stands 15 = .ok (.dup, 1) := by decide +kernel
theorem dX2_stands_16 : decode cX2_stands 16 = .ok (.ldc 193, 2) := by decide +kernel
theorem dX2_stands_18 : decode cX2_stands 18 = .ok (.invokespecial 112, 3) := by decide +kernel
theorem dX2_stands_21 : decode cX2_stands 21 = .ok (.athrow, 1) := by decide +kernel
theorem dX2_stands_22 : decode cX2_stands 22 = .ok (.aload_n 0, 1) := by decide +kernel
theorem dX2_stands_23 : decode cX2_stands 23 = .ok (.iload_n 2, 1) := by decide +kernel
theorem dX2_stands_24 : decode cX2_stands 24 = .ok (.invokevirtual 130, 3) := by decide +kernel
theorem dX2_stands_27 : decode cX2_stands 27 = .ok (.aload_n 0, 1) := by decide +kernel
theorem dX2_stands_28 : decode cX2_stands 28 = .ok (.getfield 28, 3) := by decide +kernel
theorem dX2_stands_31 : decode cX2_stands 31 = .ok (.iload_n 2, 1) := by decide +kernel
theorem dX2_stands_32 : decode cX2_stands 32 = .ok (.aaload, 1) := by decide +kernel
theorem dX2_stands_33 : decode cX2_stands 33 = .ok (.aload_n 0, 1) := by decide +kernel
theorem dX2_stands_34 : decode cX2_stands 34 = .ok (.getfield 51, 3) := by decide +kernel
theorem dX2_stands_37 : decode cX2_stands 37 = .ok (.iload_n 1, 1) := by decide +kernel
theorem dX2_stands_38 : decode cX2_stands 38 = .ok (.aaload, 1) := by decide +kernel
theorem dX2_stands_39 : decode cX2_stands 39 = .ok (.invokevirtual 195, 3) := by decide +kernel
theorem dX2_stands_42 : decode cX2_stands 42 = .ok (.ireturn, 1) := by decide +kernel
set_option maxRecDepth 20000 in
theorem ggX2_story_X2_checkPattern : GoodIn wsX2_story wsX2_checkPattern := goodIn_ca (goodIn_r _ [5, 6, 7, 8, 32, 33, 34, 35, 36, 37, 38, 39, 40, 41, 42, 43, 44, 45, 46] (by decide +kernel) (by decide +kernel)) (goodIn_sub (fun _ h => List.mem_cons_of_mem _ (List.mem_append_right _ h)) (by decide +kernel))
set_option maxRecDepth 20000 in
theorem gX2_story_X2_checkPattern : GoodIn wsX2_story (wsV RX2 130 RX2 yX2_checkPattern wsX2_checkPattern) := goodIn_app (goodIn_of _ (by decide +kernel)) ggX2_story_X2_checkPattern
set_option maxRecDepth 20000 in
theorem ggX2_story_X2_storyOf : GoodIn wsX2_story wsX2_storyOf := goodIn_r _ [12, 13, 14, 15, 16, 17, 18, 19, 20, 21, 22, 23, 24, 25, 26, 27, 28, 29, 30, 31, 32, 33, 34, 35, 36, 37, 38, 39, 40, 41, 42, 43, 44, 45, 46, 47, 48, 49] (by decide +kernel) (by decide +kernel)
set_option maxRecDepth 20000 in
theorem gX2_story_X2_storyOf : GoodIn wsX2_story (wsV RX2 199 RX2 yX2_storyOf wsX2_storyOf) := goodIn_app (goodIn_of _ (by decide +kernel)) ggX2_story_X2_storyOf
theorem dX2_story_0 : decode cX2_story 0 = .ok (.aload_n 0, 1) := by decide +kernel
theorem dX2_story_1 : decode cX2_story 1 = .ok (.iload_n 1, 1) := by decide +kernel
theorem dX2_story_2 : decode cX2_story 2 = .ok (.invokevirtual 130, 3) := by decide +kernel
theorem dX2_story_5 : decode cX2_story 5 = .ok (.aload_n 0, 1) := by decide +kernel
theorem dX2_story_6 : decode cX2_story 6 = .ok (.iload_n 1, 1) := by decide +kernel
theorem dX2_story_7 : decode cX2_story 7 = .ok (.invokevirtual 199, 3) := by decide +kernel
theorem dX2_story_10 : decode cX2_story 10 = .ok (.ireturn, 1) := by decide +kernel
set_option maxRecDepth 20000 in
theorem ggX2_hear_X2_checkBelt : GoodIn wsX2_hear wsX2_checkBelt := goodIn_ca (goodIn_r _ [7, 8, 9, 10, 11, 12, 6, 13, 2, 40, 41, 42, 43, 44, 45, 46, 47, 48, 49, 50, 51, 52, 53, 54] (by decide +kernel) (by decide +kernel)) (goodIn_sub (fun _ h => List.mem_cons_of_mem _ (List.mem_append_right _ h)) (by decide +kernel))
set_option maxRecDepth 20000 in
theorem gX2_hear_X2_checkBelt : GoodIn wsX2_hear (wsV RX2 147 RX2 yX2_checkBelt wsX2_checkBelt) := goodIn_app (goodIn_of _ (by decide +kernel)) ggX2_hear_X2_checkBelt
set_option maxRecDepth 20000 in
theorem ggX2_hear_X2_checkPerson : GoodIn wsX2_hear wsX2_checkPerson := goodIn_ca (goodIn_r _ [16, 8, 9] (by decide +kernel) (by decide +kernel)) (goodIn_sub (fun _ h => List.mem_cons_of_mem _ (List.mem_append_right _ h)) (by decide +kernel))
set_option maxRecDepth 20000 in
theorem gX2_hear_X2_checkPerson : GoodIn wsX2_hear (va_wsS RX2 67 yX2_checkPerson wsX2_checkPerson) := goodIn_app (goodIn_of _ (by decide +kernel)) ggX2_hear_X2_checkPerson
set_option maxRecDepth 20000 in
theorem ggX2_hear_X2_storyOf : GoodIn wsX2_hear wsX2_storyOf := goodIn_r _ [20, 21, 22, 23, 24, 25, 26, 27, 28, 29, 30, 31, 32, 33, 34, 35, 36, 37, 38, 39, 40, 41, 42, 43, 44, 45, 46, 47, 48, 49, 50, 51, 52, 53, 54, 55, 56, 57] (by decide +kernel) (by decide +kernel)
set_option maxRecDepth 20000 in
theorem gX2_hear_X2_storyOf : GoodIn wsX2_hear (wsV RX2 199 RX2 yX2_storyOf wsX2_storyOf) := goodIn_app (goodIn_of _ (by decide +kernel)) ggX2_hear_X2_storyOf
theorem dX2_hear_0 : decode cX2_hear 0 = .ok (.aload_n 0, 1) := by decide +kernel
theorem dX2_hear_1 : decode cX2_hear 1 = .ok (.iload_n 1, 1) := by decide +kernel
theorem dX2_hear_2 : decode cX2_hear 2 = .ok (.invokevirtual 147, 3) := by decide +kernel
theorem dX2_hear_5 : decode cX2_hear 5 = .ok (.iload_n 2, 1) := by decide +kernel
theorem dX2_hear_6 : decode cX2_hear 6 = .ok (.invokestatic 67, 3) := by decide +kernel
theorem dX2_hear_9 : decode cX2_hear 9 = .ok (.aload_n 0, 1) := by decide +kernel
theorem dX2_hear_10 : decode cX2_hear 10 = .ok (.getfield 57, 3) := by decide +kernel
theorem dX2_hear_13 : decode cX2_hear 13 = .ok (.iload_n 2, 1) := by decide +kernel
theorem dX2_hear_14 : decode cX2_hear 14 = .ok (.dup2, 1) := by decide +kernel
theorem dX2_hear_15 : decode cX2_hear 15 = .ok (.laload, 1) := by decide +kernel
theorem dX2_hear_16 : decode cX2_hear 16 = .ok (.aload_n 0, 1) := by decide +kernel
theorem dX2_hear_17 : decode cX2_hear 17 = .ok (.aload_n 0, 1) := by decide +kernel
theorem dX2_hear_18 : decode cX2_hear 18 = .ok (.getfield 35, 3) := by decide +kernel
theorem dX2_hear_21 : decode cX2_hear 21 = .ok (.iload_n 1, 1) := by decide +kernel
theorem dX2_hear_22 : decode cX2_hear 22 = .ok (.iaload, 1) := by decide +kernel
theorem dX2_hear_23 : decode cX2_hear 23 = .ok (.invokevirtual 199, 3) := by decide +kernel
theorem dX2_hear_26 : decode cX2_hear 26 = .ok (.i2l, 1) := by decide +kernel
theorem dX2_hear_27 : decode cX2_hear 27 = .ok (.ladd, 1) := by decide +kernel
theorem dX2_hear_28 : decode cX2_hear 28 = .ok (.lastore, 1) := by decide +kernel
theorem dX2_hear_29 : decode cX2_hear 29 = .ok (.aload_n 0, 1) := by decide +kernel
theorem dX2_hear_30 : decode cX2_hear 30 = .ok (.getfield 57, 3) := by decide +kernel
theorem dX2_hear_33 : decode cX2_hear 33 = .ok (.iload_n 2, 1) := by decide +kernel
theorem dX2_hear_34 : decode cX2_hear 34 = .ok (.laload, 1) := by decide +kernel
theorem dX2_hear_35 : decode cX2_hear 35 = .ok (.lreturn, 1) := by decide +kernel
set_option maxRecDepth 20000 in
theorem ggX2_ranked_X2_rankOf : GoodIn wsX2_ranked wsX2_rankOf := goodIn_r _ [7, 8, 9, 10, 11, 12, 13, 14, 15, 16, 17, 18, 19, 20, 21, 22, 23] (by decide +kernel) (by decide +kernel)
set_option maxRecDepth 20000 in
theorem gX2_ranked_X2_rankOf : GoodIn wsX2_ranked (wsV RX2 204 RX2 yX2_rankOf wsX2_rankOf) := goodIn_app (goodIn_of _ (by decide +kernel)) ggX2_ranked_X2_rankOf
theorem dX2_ranked_0 : decode cX2_ranked 0 = .ok (.iload_n 1, 1) := by decide +kernel
theorem dX2_ranked_1 : decode cX2_ranked 1 = .ok (.ifCond .lt 9, 3) := by decide +kernel
theorem dX2_ranked_4 : decode cX2_ranked 4 = .ok (.iload_n 1, 1) := by decide +kernel
theorem dX2_ranked_5 : decode cX2_ranked 5 = .ok (.bipush 7, 2) := by decide +kernel
theorem dX2_ranked_7 : decode cX2_ranked 7 = .ok (.if_icmp .lt 13, 3) := by decide +kernel
theorem dX2_ranked_10 : decode cX2_ranked 10 = .ok (.new 108, 3) := by decide +kernel
theorem dX2_ranked_13 : decode cX2_ranked 13 = .ok (.dup, 1) := by decide +kernel
theorem dX2_ranked_14 : decode cX2_ranked 14 = .ok (.ldc 202, 2) := by decide +kernel
theorem dX2_ranked_16 : decode cX2_ranked 16 = .ok (.invokespecial 112, 3) := by decide +kernel
theorem dX2_ranked_19 : decode cX2_ranked 19 = .ok (.athrow, 1) := by decide +kernel
theorem dX2_ranked_20 : decode cX2_ranked 20 = .ok (.iconst 0, 1) := by decide +kernel
theorem dX2_ranked_21 : decode cX2_ranked 21 = .ok (.istore_n 2, 1) := by decide +kernel
theorem dX2_ranked_22 : decode cX2_ranked 22 = .ok (.iload_n 2, 1) := by decide +kernel
theorem dX2_ranked_23 : decode cX2_ranked 23 = .ok (.bipush 6, 2) := by decide +kernel
theorem dX2_ranked_25 : decode cX2_ranked 25 = .ok (.if_icmp .ge 18, 3) := by decide +kernel
theorem dX2_ranked_28 : decode cX2_ranked 28 = .ok (.aload_n 0, 1) := by decide +kernel
theorem dX2_ranked_29 : decode cX2_ranked 29 = .ok (.iload_n 2, 1) := by decide +kernel
theorem dX2_ranked_30 : decode cX2_ranked 30 = .ok (.invokevirtual 204, 3) := by decide +kernel
theorem dX2_ranked_33 : decode cX2_ranked 33 = .ok (.iload_n 1, 1) := by decide +kernel
theorem dX2_ranked_34 : decode cX2_ranked 34 = .ok (.if_icmp .eq 9, 3) := by decide +kernel
theorem dX2_ranked_37 : decode cX2_ranked 37 = .ok (.iinc 2 1, 3) := by decide +kernel
theorem dX2_ranked_40 : decode cX2_ranked 40 = .ok (.goto (-18), 3) := by decide +kernel
theorem dX2_ranked_43 : decode cX2_ranked 43 = .ok (.iload_n 2, 1) := by decide +kernel
theorem dX2_ranked_44 : decode cX2_ranked 44 = .ok (.ireturn, 1) := by decide +kernel
theorem dX2_checkPerson_0 : decode cX2_checkPerson 0 = .ok (.iload_n 0, 1) := by decide +kernel
theorem dX2_checkPerson_1 : decode cX2_checkPerson 1 = .ok (.ifCond .lt 9, 3) := by decide +kernel
theorem dX2_checkPerson_4 : decode cX2_checkPerson 4 = .ok (.iload_n 0, 1) := by decide +kernel
theorem dX2_checkPerson_5 : decode cX2_checkPerson 5 = .ok (.bipush 7, 2) := by decide +kernel
theorem dX2_checkPerson_7 : decode cX2_checkPerson 7 = .ok (.if_icmp .lt 13, 3) := by decide +kernel
theorem dX2_checkPerson_10 : decode cX2_checkPerson 10 = .ok (.new 108, 3) := by decide +kernel
theorem dX2_checkPerson_13 : decode cX2_checkPerson 13 = .ok (.dup, 1) := by decide +kernel
theorem dX2_checkPerson_14 : decode cX2_checkPerson 14 = .ok (.ldc 207, 2) := by decide +kernel
theorem dX2_checkPerson_16 : decode cX2_checkPerson 16 = .ok (.invokespecial 112, 3) := by decide +kernel
theorem dX2_checkPerson_19 : decode cX2_checkPerson 19 = .ok (.athrow, 1) := by decide +kernel
theorem dX2_checkPerson_20 : decode cX2_checkPerson 20 = .ok (.return_, 1) := by decide +kernel
theorem dX2_checkColour_0 : decode cX2_checkColour 0 = .ok (.iload_n 0, 1) := by decide +kernel
theorem dX2_checkColour_1 : decode cX2_checkColour 1 = .ok (.ifCond .lt 9, 3) := by decide +kernel
theorem dX2_checkColour_4 : decode cX2_checkColour 4 = .ok (.iload_n 0, 1) := by decide +kernel
theorem dX2_checkColour_5 : decode cX2_checkColour 5 = .ok (.bipush 8, 2) := by decide +kernel
theorem dX2_checkColour_7 : decode cX2_checkColour 7 = .ok (.if_icmp .lt 13, 3) := by decide +kernel
theorem dX2_checkColour_10 : decode cX2_checkColour 10 = .ok (.new 108, 3) := by decide +kernel
theorem dX2_checkColour_13 : decode cX2_checkColour 13 = .ok (.dup, 1) := by decide +kernel
theorem dX2_checkColour_14 : decode cX2_checkColour 14 = .ok (.ldc 209, 2) := by decide +kernel
theorem dX2_checkColour_16 : decode cX2_checkColour 16 = .ok (.invokespecial 112, 3) := by decide +kernel
theorem dX2_checkColour_19 : decode cX2_checkColour 19 = .ok (.athrow, 1) := by decide +kernel
theorem dX2_checkColour_20 : decode cX2_checkColour 20 = .ok (.return_, 1) := by decide +kernel
theorem dX2_checkPattern_0 : decode cX2_checkPattern 0 = .ok (.iload_n 1, 1) := by decide +kernel
theorem dX2_checkPattern_1 : decode cX2_checkPattern 1 = .ok (.ifCond .lt 11, 3) := by decide +kernel
theorem dX2_checkPattern_4 : decode cX2_checkPattern 4 = .ok (.iload_n 1, 1) := by decide +kernel
theorem dX2_checkPattern_5 : decode cX2_checkPattern 5 = .ok (.aload_n 0, 1) := by decide +kernel
theorem dX2_checkPattern_6 : decode cX2_checkPattern 6 = .ok (.getfield 120, 3) := by decide +kernel
theorem dX2_checkPattern_9 : decode cX2_checkPattern 9 = .ok (.if_icmp .lt 13, 3) := by decide +kernel
theorem dX2_checkPattern_12 : decode cX2_checkPattern 12 = .ok (.new 108, 3) := by decide +kernel
theorem dX2_checkPattern_15 : decode cX2_checkPattern 15 = .ok (.dup, 1) := by decide +kernel
theorem dX2_checkPattern_16 : decode cX2_checkPattern 16 = .ok (.ldc 211, 2) := by decide +kernel
theorem dX2_checkPattern_18 : decode cX2_checkPattern 18 = .ok (.invokespecial 112, 3) := by decide +kernel
theorem dX2_checkPattern_21 : decode cX2_checkPattern 21 = .ok (.athrow, 1) := by decide +kernel
theorem dX2_checkPattern_22 : decode cX2_checkPattern 22 = .ok (.return_, 1) := by decide +kernel
set_option maxRecDepth 20000 in
theorem ggX2_checkBelt_X2_isBelt : GoodIn wsX2_checkBelt wsX2_isBelt := goodIn_r _ [7, 8, 9, 10, 11, 12, 13, 14, 15, 16, 17, 18, 19, 20, 21, 22, 23] (by decide +kernel) (by decide +kernel)
set_option maxRecDepth 20000 in
theorem gX2_checkBelt_X2_isBelt : GoodIn wsX2_checkBelt (wsV RX2 88 RX2 yX2_isBelt wsX2_isBelt) := goodIn_app (goodIn_of _ (by decide +kernel)) ggX2_checkBelt_X2_isBelt
theorem dX2_checkBelt_0 : decode cX2_checkBelt 0 = .ok (.aload_n 0, 1) := by decide +kernel
theorem dX2_checkBelt_1 : decode cX2_checkBelt 1 = .ok (.iload_n 1, 1) := by decide +kernel
theorem dX2_checkBelt_2 : decode cX2_checkBelt 2 = .ok (.invokevirtual 88, 3) := by decide +kernel
theorem dX2_checkBelt_5 : decode cX2_checkBelt 5 = .ok (.ifCond .ne 13, 3) := by decide +kernel
theorem dX2_checkBelt_8 : decode cX2_checkBelt 8 = .ok (.new 108, 3) := by decide +kernel
theorem dX2_checkBelt_11 : decode cX2_checkBelt 11 = .ok (.dup, 1) := by decide +kernel
theorem dX2_checkBelt_12 : decode cX2_checkBelt 12 = .ok (.ldc 213, 2) := by decide +kernel
theorem dX2_checkBelt_14 : decode cX2_checkBelt 14 = .ok (.invokespecial 112, 3) := by decide +kernel
theorem dX2_checkBelt_17 : decode cX2_checkBelt 17 = .ok (.athrow, 1) := by decide +kernel
theorem dX2_checkBelt_18 : decode cX2_checkBelt 18 = .ok (.return_, 1) := by decide +kernel
theorem dX2_checkRange_0 : decode cX2_checkRange 0 = .ok (.iload_n 0, 1) := by decide +kernel
theorem dX2_checkRange_1 : decode cX2_checkRange 1 = .ok (.iload_n 1, 1) := by decide +kernel
theorem dX2_checkRange_2 : decode cX2_checkRange 2 = .ok (.if_icmp .lt 8, 3) := by decide +kernel
theorem dX2_checkRange_5 : decode cX2_checkRange 5 = .ok (.iload_n 0, 1) := by decide +kernel
theorem dX2_checkRange_6 : decode cX2_checkRange 6 = .ok (.iload_n 2, 1) := by decide +kernel
theorem dX2_checkRange_7 : decode cX2_checkRange 7 = .ok (.if_icmp .le 13, 3) := by decide +kernel
theorem dX2_checkRange_10 : decode cX2_checkRange 10 = .ok (.new 150, 3) := by decide +kernel
theorem dX2_checkRange_13 : decode cX2_checkRange 13 = .ok (.dup, 1) := by decide +kernel
theorem dX2_checkRange_14 : decode cX2_checkRange 14 = .ok (.ldc 215, 2) := by decide +kernel
theorem dX2_checkRange_16 : decode cX2_checkRange 16 = .ok (.invokespecial 154, 3) := by decide +kernel
theorem dX2_checkRange_19 : decode cX2_checkRange 19 = .ok (.athrow, 1) := by decide +kernel
theorem dX2_checkRange_20 : decode cX2_checkRange 20 = .ok (.return_, 1) := by decide +kernel
theorem dX2_isBelt_0 : decode cX2_isBelt 0 = .ok (.iload_n 1, 1) := by decide +kernel
theorem dX2_isBelt_1 : decode cX2_isBelt 1 = .ok (.ifCond .lt 23, 3) := by decide +kernel
theorem dX2_isBelt_4 : decode cX2_isBelt 4 = .ok (.iload_n 1, 1) := by decide +kernel
theorem dX2_isBelt_5 : decode cX2_isBelt 5 = .ok (.bipush 20, 2) := by decide +kernel
theorem dX2_isBelt_7 : decode cX2_isBelt 7 = .ok (.if_icmp .ge 17, 3) := by decide +kernel
theorem dX2_isBelt_10 : decode cX2_isBelt 10 = .ok (.aload_n 0, 1) := by decide +kernel
theorem dX2_isBelt_11 : decode cX2_isBelt 11 = .ok (.getfield 35, 3) := by decide +kernel
theorem dX2_isBelt_14 : decode cX2_isBelt 14 = .ok (.iload_n 1, 1) := by decide +kernel
theorem dX2_isBelt_15 : decode cX2_isBelt 15 = .ok (.iaload, 1) := by decide +kernel
theorem dX2_isBelt_16 : decode cX2_isBelt 16 = .ok (.iconst (-1), 1) := by decide +kernel
theorem dX2_isBelt_17 : decode cX2_isBelt 17 = .ok (.if_icmp .eq 7, 3) := by decide +kernel
theorem dX2_isBelt_20 : decode cX2_isBelt 20 = .ok (.iconst 1, 1) := by decide +kernel
theorem dX2_isBelt_21 : decode cX2_isBelt 21 = .ok (.goto 4, 3) := by decide +kernel
theorem dX2_isBelt_24 : decode cX2_isBelt 24 = .ok (.iconst 0, 1) := by decide +kernel
theorem dX2_isBelt_25 : decode cX2_isBelt 25 = .ok (.ireturn, 1) := by decide +kernel
set_option maxRecDepth 20000 in
theorem ggX2_lowestFreeBelt_X2_isBelt : GoodIn wsX2_lowestFreeBelt wsX2_isBelt := goodIn_r _ [5, 6, 7, 8, 9, 10, 11, 12, 13, 14, 15, 16, 17, 18, 19, 20, 21] (by decide +kernel) (by decide +kernel)
set_option maxRecDepth 20000 in
theorem gX2_lowestFreeBelt_X2_isBelt : GoodIn wsX2_lowestFreeBelt (wsV RX2 88 RX2 yX2_isBelt wsX2_isBelt) := goodIn_app (goodIn_of _ (by decide +kernel)) ggX2_lowestFreeBelt_X2_isBelt
theorem dX2_lowestFreeBelt_0 : decode cX2_lowestFreeBelt 0 = .ok (.iconst 0, 1) := by decide +kernel
theorem dX2_lowestFreeBelt_1 : decode cX2_lowestFreeBelt 1 = .ok (.istore_n 1, 1) := by decide +kernel
theorem dX2_lowestFreeBelt_2 : decode cX2_lowestFreeBelt 2 = .ok (.iload_n 1, 1) := by decide +kernel
theorem dX2_lowestFreeBelt_3 : decode cX2_lowestFreeBelt 3 = .ok (.bipush 20, 2) := by decide +kernel
theorem dX2_lowestFreeBelt_5 : decode cX2_lowestFreeBelt 5 = .ok (.if_icmp .ge 19, 3) := by decide +kernel
theorem dX2_lowestFreeBelt_8 : decode cX2_lowestFreeBelt 8 = .ok (.aload_n 0, 1) := by decide +kernel
theorem dX2_lowestFreeBelt_9 : decode cX2_lowestFreeBelt 9 = .ok (.iload_n 1, 1) := by decide +kernel
theorem dX2_lowestFreeBelt_10 : decode cX2_lowestFreeBelt 10 = .ok (.invokevirtual 88, 3) := by decide +kernel
theorem dX2_lowestFreeBelt_13 : decode cX2_lowestFreeBelt 13 = .ok (.ifCond .ne 5, 3) := by decide +kernel
theorem dX2_lowestFreeBelt_16 : decode cX2_lowestFreeBelt 16 = .ok (.iload_n 1, 1) := by decide +kernel
theorem dX2_lowestFreeBelt_17 : decode cX2_lowestFreeBelt 17 = .ok (.ireturn, 1) := by decide +kernel
theorem dX2_lowestFreeBelt_18 : decode cX2_lowestFreeBelt 18 = .ok (.iinc 1 1, 3) := by decide +kernel
theorem dX2_lowestFreeBelt_21 : decode cX2_lowestFreeBelt 21 = .ok (.goto (-19), 3) := by decide +kernel
theorem dX2_lowestFreeBelt_24 : decode cX2_lowestFreeBelt 24 = .ok (.iconst (-1), 1) := by decide +kernel
theorem dX2_lowestFreeBelt_25 : decode cX2_lowestFreeBelt 25 = .ok (.ireturn, 1) := by decide +kernel
set_option maxRecDepth 20000 in
theorem ggX2_originOf_X1_hasImage : GoodIn wsX2_originOf wsX1_hasImage := goodIn_r _ [5, 6, 7, 8, 9, 10, 3, 11, 12, 13, 14, 15, 16, 32, 33, 34] (by decide +kernel) (by decide +kernel)
set_option maxRecDepth 20000 in
theorem gX2_originOf_X1_hasImage_n133 : GoodIn wsX2_originOf (wsX1_hasImage) := ggX2_originOf_X1_hasImage
theorem dX2_originOf_0 : decode cX2_originOf 0 = .ok (.iconst 0, 1) := by decide +kernel
theorem dX2_originOf_1 : decode cX2_originOf 1 = .ok (.istore_n 2, 1) := by decide +kernel
theorem dX2_originOf_2 : decode cX2_originOf 2 = .ok (.iload_n 2, 1) := by decide +kernel
theorem dX2_originOf_3 : decode cX2_originOf 3 = .ok (.iload_n 1, 1) := by decide +kernel
theorem dX2_originOf_4 : decode cX2_originOf 4 = .ok (.if_icmp .ge 44, 3) := by decide +kernel
theorem dX2_originOf_7 : decode cX2_originOf 7 = .ok (.iconst 0, 1) := by decide +kernel
theorem dX2_originOf_8 : decode cX2_originOf 8 = .ok (.istore_n 3, 1) := by decide +kernel
theorem dX2_originOf_9 : decode cX2_originOf 9 = .ok (.iload_n 3, 1) := by decide +kernel
theorem dX2_originOf_10 : decode cX2_originOf 10 = .ok (.bipush 8, 2) := by decide +kernel
theorem dX2_originOf_12 : decode cX2_originOf 12 = .ok (.if_icmp .ge 30, 3) := by decide +kernel
theorem dX2_originOf_15 : decode cX2_originOf 15 = .ok (.aload_n 0, 1) := by decide +kernel
theorem dX2_originOf_16 : decode cX2_originOf 16 = .ok (.getfield 28, 3) := by decide +kernel
theorem dX2_originOf_19 : decode cX2_originOf 19 = .ok (.iload_n 1, 1) := by decide +kernel
theorem dX2_originOf_20 : decode cX2_originOf 20 = .ok (.aaload, 1) := by decide +kernel
theorem dX2_originOf_21 : decode cX2_originOf 21 = .ok (.iload_n 3, 1) := by decide +kernel
theorem dX2_originOf_22 : decode cX2_originOf 22 = .ok (.aload_n 0, 1) := by decide +kernel
theorem dX2_originOf_23 : decode cX2_originOf 23 = .ok (.getfield 28, 3) := by decide +kernel
theorem dX2_originOf_26 : decode cX2_originOf 26 = .ok (.iload_n 2, 1) := by decide +kernel
theorem dX2_originOf_27 : decode cX2_originOf 27 = .ok (.aaload, 1) := by decide +kernel
theorem dX2_originOf_28 : decode cX2_originOf 28 = .ok (.invokevirtual 133, 3) := by decide +kernel
theorem dX2_originOf_31 : decode cX2_originOf 31 = .ok (.ifCond .eq 5, 3) := by decide +kernel
theorem dX2_originOf_34 : decode cX2_originOf 34 = .ok (.iload_n 2, 1) := by decide +kernel
theorem dX2_originOf_35 : decode cX2_originOf 35 = .ok (.ireturn, 1) := by decide +kernel
theorem dX2_originOf_36 : decode cX2_originOf 36 = .ok (.iinc 3 1, 3) := by decide +kernel
theorem dX2_originOf_39 : decode cX2_originOf 39 = .ok (.goto (-30), 3) := by decide +kernel
theorem dX2_originOf_42 : decode cX2_originOf 42 = .ok (.iinc 2 1, 3) := by decide +kernel
theorem dX2_originOf_45 : decode cX2_originOf 45 = .ok (.goto (-43), 3) := by decide +kernel
theorem dX2_originOf_48 : decode cX2_originOf 48 = .ok (.iload_n 1, 1) := by decide +kernel
theorem dX2_originOf_49 : decode cX2_originOf 49 = .ok (.ireturn, 1) := by decide +kernel
set_option maxRecDepth 20000 in
theorem ggX2_storyOf_X1_placesOf : GoodIn wsX2_storyOf wsX1_placesOf := goodIn_r _ [8, 9, 10, 11, 12, 13, 6, 14, 15, 16, 17, 18, 19, 35, 36, 37] (by decide +kernel) (by decide +kernel)
set_option maxRecDepth 20000 in
theorem gX2_storyOf_X1_placesOf_n195 : GoodIn wsX2_storyOf (wsX1_placesOf) := ggX2_storyOf_X1_placesOf
theorem dX2_storyOf_0 : decode cX2_storyOf 0 = .ok (.iconst 0, 1) := by decide +kernel
theorem dX2_storyOf_1 : decode cX2_storyOf 1 = .ok (.istore_n 2, 1) := by decide +kernel
theorem dX2_storyOf_2 : decode cX2_storyOf 2 = .ok (.iconst 0, 1) := by decide +kernel
theorem dX2_storyOf_3 : decode cX2_storyOf 3 = .ok (.istore_n 3, 1) := by decide +kernel
theorem dX2_storyOf_4 : decode cX2_storyOf 4 = .ok (.iload_n 3, 1) := by decide +kernel
theorem dX2_storyOf_5 : decode cX2_storyOf 5 = .ok (.aload_n 0, 1) := by decide +kernel
theorem dX2_storyOf_6 : decode cX2_storyOf 6 = .ok (.getfield 188, 3) := by decide +kernel
theorem dX2_storyOf_9 : decode cX2_storyOf 9 = .ok (.if_icmp .ge 34, 3) := by decide +kernel
theorem dX2_storyOf_12 : decode cX2_storyOf 12 = .ok (.iload_n 2, 1) := by decide +kernel
theorem dX2_storyOf_13 : decode cX2_storyOf 13 = .ok (.aload_n 0, 1) := by decide +kernel
theorem dX2_storyOf_14 : decode cX2_storyOf 14 = .ok (.getfield 54, 3) := by decide +kernel
theorem dX2_storyOf_17 : decode cX2_storyOf 17 = .ok (.iload_n 3, 1) := by decide +kernel
theorem dX2_storyOf_18 : decode cX2_storyOf 18 = .ok (.iaload, 1) := by decide +kernel
theorem dX2_storyOf_19 : decode cX2_storyOf 19 = .ok (.aload_n 0, 1) := by decide +kernel
theorem dX2_storyOf_20 : decode cX2_storyOf 20 = .ok (.getfield 28, 3) := by decide +kernel
theorem dX2_storyOf_23 : decode cX2_storyOf 23 = .ok (.iload_n 1, 1) := by decide +kernel
theorem dX2_storyOf_24 : decode cX2_storyOf 24 = .ok (.aaload, 1) := by decide +kernel
theorem dX2_storyOf_25 : decode cX2_storyOf 25 = .ok (.aload_n 0, 1) := by decide +kernel
theorem dX2_storyOf_26 : decode cX2_storyOf 26 = .ok (.getfield 51, 3) := by decide +kernel
theorem dX2_storyOf_29 : decode cX2_storyOf 29 = .ok (.iload_n 3, 1) := by decide +kernel
theorem dX2_storyOf_30 : decode cX2_storyOf 30 = .ok (.aaload, 1) := by decide +kernel
theorem dX2_storyOf_31 : decode cX2_storyOf 31 = .ok (.invokevirtual 195, 3) := by decide +kernel
theorem dX2_storyOf_34 : decode cX2_storyOf 34 = .ok (.imul, 1) := by decide +kernel
theorem dX2_storyOf_35 : decode cX2_storyOf 35 = .ok (.iadd, 1) := by decide +kernel
theorem dX2_storyOf_36 : decode cX2_storyOf 36 = .ok (.istore_n 2, 1) := by decide +kernel
theorem dX2_storyOf_37 : decode cX2_storyOf 37 = .ok (.iinc 3 1, 3) := by decide +kernel
theorem dX2_storyOf_40 : decode cX2_storyOf 40 = .ok (.goto (-36), 3) := by decide +kernel
theorem dX2_storyOf_43 : decode cX2_storyOf 43 = .ok (.iload_n 2, 1) := by decide +kernel
theorem dX2_storyOf_44 : decode cX2_storyOf 44 = .ok (.ireturn, 1) := by decide +kernel
theorem dX2_rankOf_0 : decode cX2_rankOf 0 = .ok (.iconst 0, 1) := by decide +kernel
theorem dX2_rankOf_1 : decode cX2_rankOf 1 = .ok (.istore_n 2, 1) := by decide +kernel
theorem dX2_rankOf_2 : decode cX2_rankOf 2 = .ok (.iconst 0, 1) := by decide +kernel
theorem dX2_rankOf_3 : decode cX2_rankOf 3 = .ok (.istore_n 3, 1) := by decide +kernel
theorem dX2_rankOf_4 : decode cX2_rankOf 4 = .ok (.iload_n 3, 1) := by decide +kernel
theorem dX2_rankOf_5 : decode cX2_rankOf 5 = .ok (.bipush 7, 2) := by decide +kernel
theorem dX2_rankOf_7 : decode cX2_rankOf 7 = .ok (.if_icmp .ge 49, 3) := by decide +kernel
theorem dX2_rankOf_10 : decode cX2_rankOf 10 = .ok (.aload_n 0, 1) := by decide +kernel
theorem dX2_rankOf_11 : decode cX2_rankOf 11 = .ok (.getfield 57, 3) := by decide +kernel
theorem dX2_rankOf_14 : decode cX2_rankOf 14 = .ok (.iload_n 3, 1) := by decide +kernel
theorem dX2_rankOf_15 : decode cX2_rankOf 15 = .ok (.laload, 1) := by decide +kernel
theorem dX2_rankOf_16 : decode cX2_rankOf 16 = .ok (.aload_n 0, 1) := by decide +kernel
theorem dX2_rankOf_17 : decode cX2_rankOf 17 = .ok (.getfield 57, 3) := by decide +kernel
theorem dX2_rankOf_20 : decode cX2_rankOf 20 = .ok (.iload_n 1, 1) := by decide +kernel
theorem dX2_rankOf_21 : decode cX2_rankOf 21 = .ok (.laload, 1) := by decide +kernel
theorem dX2_rankOf_22 : decode cX2_rankOf 22 = .ok (.lcmp, 1) := by decide +kernel
theorem dX2_rankOf_23 : decode cX2_rankOf 23 = .ok (.ifCond .gt 24, 3) := by decide +kernel
theorem dX2_rankOf_26 : decode cX2_rankOf 26 = .ok (.aload_n 0, 1) := by decide +kernel
theorem dX2_rankOf_27 : decode cX2_rankOf 27 = .ok (.getfield 57, 3) := by decide +kernel
theorem dX2_rankOf_30 : decode cX2_rankOf 30 = .ok (.iload_n 3, 1) := by decide +kernel
theorem dX2_rankOf_31 : decode cX2_rankOf 31 = .ok (.laload, 1) := by decide +kernel
theorem dX2_rankOf_32 : decode cX2_rankOf 32 = .ok (.aload_n 0, 1) := by decide +kernel
theorem dX2_rankOf_33 : decode cX2_rankOf 33 = .ok (.getfield 57, 3) := by decide +kernel
theorem dX2_rankOf_36 : decode cX2_rankOf 36 = .ok (.iload_n 1, 1) := by decide +kernel
theorem dX2_rankOf_37 : decode cX2_rankOf 37 = .ok (.laload, 1) := by decide +kernel
theorem dX2_rankOf_38 : decode cX2_rankOf 38 = .ok (.lcmp, 1) := by decide +kernel
theorem dX2_rankOf_39 : decode cX2_rankOf 39 = .ok (.ifCond .ne 11, 3) := by decide +kernel
theorem dX2_rankOf_42 : decode cX2_rankOf 42 = .ok (.iload_n 3, 1) := by decide +kernel
theorem dX2_rankOf_43 : decode cX2_rankOf 43 = .ok (.iload_n 1, 1) := by decide +kernel
theorem dX2_rankOf_44 : decode cX2_rankOf 44 = .ok (.if_icmp .ge 6, 3) := by decide +kernel
theorem dX2_rankOf_47 : decode cX2_rankOf 47 = .ok (.iinc 2 1, 3) := by decide +kernel
theorem dX2_rankOf_50 : decode cX2_rankOf 50 = .ok (.iinc 3 1, 3) := by decide +kernel
theorem dX2_rankOf_53 : decode cX2_rankOf 53 = .ok (.goto (-49), 3) := by decide +kernel
theorem dX2_rankOf_56 : decode cX2_rankOf 56 = .ok (.iload_n 2, 1) := by decide +kernel
theorem dX2_rankOf_57 : decode cX2_rankOf 57 = .ok (.ireturn, 1) := by decide +kernel
