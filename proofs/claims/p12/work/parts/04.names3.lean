theorem dX5_init_0 : decode cX5_init 0 = .ok (.aload_n 0, 1) := by decide +kernel
theorem dX5_init_1 : decode cX5_init 1 = .ok (.invokespecial 3, 3) := by decide +kernel
theorem dX5_init_4 : decode cX5_init 4 = .ok (.aload_n 0, 1) := by decide +kernel
theorem dX5_init_5 : decode cX5_init 5 = .ok (.sipush 439, 3) := by decide +kernel
theorem dX5_init_8 : decode cX5_init 8 = .ok (.newarray .byte, 2) := by decide +kernel
theorem dX5_init_10 : decode cX5_init 10 = .ok (.putfield 9, 3) := by decide +kernel
theorem dX5_init_13 : decode cX5_init 13 = .ok (.aload_n 0, 1) := by decide +kernel
theorem dX5_init_14 : decode cX5_init 14 = .ok (.iconst (-1), 1) := by decide +kernel
theorem dX5_init_15 : decode cX5_init 15 = .ok (.putfield 15, 3) := by decide +kernel
theorem dX5_init_18 : decode cX5_init 18 = .ok (.return_, 1) := by decide +kernel
theorem dX5_length_0 : decode cX5_length 0 = .ok (.aload_n 0, 1) := by decide +kernel
theorem dX5_length_1 : decode cX5_length 1 = .ok (.getfield 19, 3) := by decide +kernel
theorem dX5_length_4 : decode cX5_length 4 = .ok (.ireturn, 1) := by decide +kernel
theorem dX5_portOf_0 : decode cX5_portOf 0 = .ok (.aload_n 0, 1) := by decide +kernel
theorem dX5_portOf_1 : decode cX5_portOf 1 = .ok (.getfield 15, 3) := by decide +kernel
theorem dX5_portOf_4 : decode cX5_portOf 4 = .ok (.ireturn, 1) := by decide +kernel
theorem dX5_byteAt_0 : decode cX5_byteAt 0 = .ok (.iload_n 1, 1) := by decide +kernel
theorem dX5_byteAt_1 : decode cX5_byteAt 1 = .ok (.ifCond .lt 24, 3) := by decide +kernel
theorem dX5_byteAt_4 : decode cX5_byteAt 4 = .ok (.iload_n 1, 1) := by decide +kernel
theorem dX5_byteAt_5 : decode cX5_byteAt 5 = .ok (.aload_n 0, 1) := by decide +kernel
theorem dX5_byteAt_6 : decode cX5_byteAt 6 = .ok (.getfield 19, 3) := by decide +kernel
theorem dX5_byteAt_9 : decode cX5_byteAt 9 = .ok (.if_icmp .ge 16, 3) := by decide +kernel
theorem dX5_byteAt_12 : decode cX5_byteAt 12 = .ok (.aload_n 0, 1) := by decide +kernel
theorem dX5_byteAt_13 : decode cX5_byteAt 13 = .ok (.getfield 9, 3) := by decide +kernel
theorem dX5_byteAt_16 : decode cX5_byteAt 16 = .ok (.iload_n 1, 1) := by decide +kernel
theorem dX5_byteAt_17 : decode cX5_byteAt 17 = .ok (.baload, 1) := by decide +kernel
theorem dX5_byteAt_18 : decode cX5_byteAt 18 = .ok (.sipush 255, 3) := by decide +kernel
theorem dX5_byteAt_21 : decode cX5_byteAt 21 = .ok (.iand, 1) := by decide +kernel
theorem dX5_byteAt_22 : decode cX5_byteAt 22 = .ok (.goto 4, 3) := by decide +kernel
theorem dX5_byteAt_25 : decode cX5_byteAt 25 = .ok (.iconst (-1), 1) := by decide +kernel
theorem dX5_byteAt_26 : decode cX5_byteAt 26 = .ok (.ireturn, 1) := by decide +kernel
set_option maxRecDepth 20000 in
theorem ggX5_write_X0_sizeOf : GoodIn wsX5_write wsX0_sizeOf := goodIn_r _ [7, 8, 39, 40] (by decide +kernel) (by decide +kernel)
set_option maxRecDepth 20000 in
theorem gX5_write_X0_sizeOf : GoodIn wsX5_write (wsV RX5 22 RX0 yX0_sizeOf wsX0_sizeOf) := goodIn_app (goodIn_of _ (by decide +kernel)) ggX5_write_X0_sizeOf
set_option maxRecDepth 20000 in
theorem ggX5_write_X5_putHead : GoodIn wsX5_write wsX5_putHead := goodIn_r _ [13, 14, 15, 16, 12, 17, 2, 18, 36, 37, 38] (by decide +kernel) (by decide +kernel)
set_option maxRecDepth 20000 in
theorem gX5_write_X5_putHead : GoodIn wsX5_write (wsV RX5 28 RX5 yX5_putHead wsX5_putHead) := goodIn_app (goodIn_of _ (by decide +kernel)) ggX5_write_X5_putHead
set_option maxRecDepth 20000 in
theorem ggX5_write_X5_putContent : GoodIn wsX5_write wsX5_putContent := goodIn_r _ [22, 3, 4, 5, 6, 7, 8, 23, 24, 25, 26, 27, 28, 29, 30, 31, 14, 15, 16, 12, 17, 2, 18, 39, 40, 36, 37, 38] (by decide +kernel) (by decide +kernel)
set_option maxRecDepth 20000 in
theorem gX5_write_X5_putContent : GoodIn wsX5_write (wsV RX5 32 RX5 yX5_putContent wsX5_putContent) := goodIn_app (goodIn_of _ (by decide +kernel)) ggX5_write_X5_putContent
set_option maxRecDepth 20000 in
theorem ggX5_write_X5_putByte : GoodIn wsX5_write wsX5_putByte := goodIn_r _ [17, 2, 18, 36, 37, 38] (by decide +kernel) (by decide +kernel)
set_option maxRecDepth 20000 in
theorem gX5_write_X5_putByte : GoodIn wsX5_write (wsV RX5 36 RX5 yX5_putByte wsX5_putByte) := goodIn_app (goodIn_of _ (by decide +kernel)) ggX5_write_X5_putByte
set_option maxRecDepth 20000 in
theorem ggX5_write_X0_has : GoodIn wsX5_write wsX0_has := goodIn_r _ [35, 28, 4, 5, 6, 7, 8, 39, 40] (by decide +kernel) (by decide +kernel)
set_option maxRecDepth 20000 in
theorem gX5_write_X0_has : GoodIn wsX5_write (wsV RX5 40 RX0 yX0_has wsX0_has) := goodIn_app (goodIn_of _ (by decide +kernel)) ggX5_write_X0_has
theorem dX5_write_0 : decode cX5_write 0 = .ok (.aload_n 0, 1) := by decide +kernel
theorem dX5_write_1 : decode cX5_write 1 = .ok (.iload_n 1, 1) := by decide +kernel
theorem dX5_write_2 : decode cX5_write 2 = .ok (.putfield 15, 3) := by decide +kernel
theorem dX5_write_5 : decode cX5_write 5 = .ok (.aload_n 0, 1) := by decide +kernel
theorem dX5_write_6 : decode cX5_write 6 = .ok (.iconst 0, 1) := by decide +kernel
theorem dX5_write_7 : decode cX5_write 7 = .ok (.putfield 19, 3) := by decide +kernel
theorem dX5_write_10 : decode cX5_write 10 = .ok (.aload_n 0, 1) := by decide +kernel
theorem dX5_write_11 : decode cX5_write 11 = .ok (.iconst 1, 1) := by decide +kernel
theorem dX5_write_12 : decode cX5_write 12 = .ok (.aload_n 2, 1) := by decide +kernel
theorem dX5_write_13 : decode cX5_write 13 = .ok (.iconst 1, 1) := by decide +kernel
theorem dX5_write_14 : decode cX5_write 14 = .ok (.invokevirtual 22, 3) := by decide +kernel
theorem dX5_write_17 : decode cX5_write 17 = .ok (.invokevirtual 28, 3) := by decide +kernel
theorem dX5_write_20 : decode cX5_write 20 = .ok (.aload_n 0, 1) := by decide +kernel
theorem dX5_write_21 : decode cX5_write 21 = .ok (.iconst 1, 1) := by decide +kernel
theorem dX5_write_22 : decode cX5_write 22 = .ok (.aload_n 2, 1) := by decide +kernel
theorem dX5_write_23 : decode cX5_write 23 = .ok (.invokevirtual 32, 3) := by decide +kernel
theorem dX5_write_26 : decode cX5_write 26 = .ok (.aload_n 0, 1) := by decide +kernel
theorem dX5_write_27 : decode cX5_write 27 = .ok (.iconst 2, 1) := by decide +kernel
theorem dX5_write_28 : decode cX5_write 28 = .ok (.aload_n 2, 1) := by decide +kernel
theorem dX5_write_29 : decode cX5_write 29 = .ok (.iconst 2, 1) := by decide +kernel
theorem dX5_write_30 : decode cX5_write 30 = .ok (.invokevirtual 22, 3) := by decide +kernel
theorem dX5_write_33 : decode cX5_write 33 = .ok (.iconst 1, 1) := by decide +kernel
theorem dX5_write_34 : decode cX5_write 34 = .ok (.iadd, 1) := by decide +kernel
theorem dX5_write_35 : decode cX5_write 35 = .ok (.invokevirtual 28, 3) := by decide +kernel
theorem dX5_write_38 : decode cX5_write 38 = .ok (.aload_n 0, 1) := by decide +kernel
theorem dX5_write_39 : decode cX5_write 39 = .ok (.iconst 2, 1) := by decide +kernel
theorem dX5_write_40 : decode cX5_write 40 = .ok (.aload_n 2, 1) := by decide +kernel
theorem dX5_write_41 : decode cX5_write 41 = .ok (.invokevirtual 32, 3) := by decide +kernel
theorem dX5_write_44 : decode cX5_write 44 = .ok (.aload_n 0, 1) := by decide +kernel
theorem dX5_write_45 : decode cX5_write 45 = .ok (.iload_n 1, 1) := by decide +kernel
theorem dX5_write_46 : decode cX5_write 46 = .ok (.invokevirtual 36, 3) := by decide +kernel
theorem dX5_write_49 : decode cX5_write 49 = .ok (.aload_n 0, 1) := by decide +kernel
theorem dX5_write_50 : decode cX5_write 50 = .ok (.iconst 3, 1) := by decide +kernel
theorem dX5_write_51 : decode cX5_write 51 = .ok (.iconst 2, 1) := by decide +kernel
theorem dX5_write_52 : decode cX5_write 52 = .ok (.invokevirtual 28, 3) := by decide +kernel
theorem dX5_write_55 : decode cX5_write 55 = .ok (.aload_n 0, 1) := by decide +kernel
theorem dX5_write_56 : decode cX5_write 56 = .ok (.iload_n 3, 1) := by decide +kernel
theorem dX5_write_57 : decode cX5_write 57 = .ok (.bipush 8, 2) := by decide +kernel
theorem dX5_write_59 : decode cX5_write 59 = .ok (.ishr, 1) := by decide +kernel
theorem dX5_write_60 : decode cX5_write 60 = .ok (.invokevirtual 36, 3) := by decide +kernel
theorem dX5_write_63 : decode cX5_write 63 = .ok (.aload_n 0, 1) := by decide +kernel
theorem dX5_write_64 : decode cX5_write 64 = .ok (.iload_n 3, 1) := by decide +kernel
theorem dX5_write_65 : decode cX5_write 65 = .ok (.invokevirtual 36, 3) := by decide +kernel
theorem dX5_write_68 : decode cX5_write 68 = .ok (.iconst 4, 1) := by decide +kernel
theorem dX5_write_69 : decode cX5_write 69 = .ok (.istore 4, 2) := by decide +kernel
theorem dX5_write_71 : decode cX5_write 71 = .ok (.iload 4, 2) := by decide +kernel
theorem dX5_write_73 : decode cX5_write 73 = .ok (.bipush 8, 2) := by decide +kernel
theorem dX5_write_75 : decode cX5_write 75 = .ok (.if_icmp .gt 37, 3) := by decide +kernel
theorem dX5_write_78 : decode cX5_write 78 = .ok (.aload_n 2, 1) := by decide +kernel
theorem dX5_write_79 : decode cX5_write 79 = .ok (.iload 4, 2) := by decide +kernel
theorem dX5_write_81 : decode cX5_write 81 = .ok (.invokevirtual 40, 3) := by decide +kernel
theorem dX5_write_84 : decode cX5_write 84 = .ok (.ifCond .eq 22, 3) := by decide +kernel
theorem dX5_write_87 : decode cX5_write 87 = .ok (.aload_n 0, 1) := by decide +kernel
theorem dX5_write_88 : decode cX5_write 88 = .ok (.iload 4, 2) := by decide +kernel
theorem dX5_write_90 : decode cX5_write 90 = .ok (.aload_n 2, 1) := by decide +kernel
theorem dX5_write_91 : decode cX5_write 91 = .ok (.iload 4, 2) := by decide +kernel
theorem dX5_write_93 : decode cX5_write 93 = .ok (.invokevirtual 22, 3) := by decide +kernel
theorem dX5_write_96 : decode cX5_write 96 = .ok (.invokevirtual 28, 3) := by decide +kernel
theorem dX5_write_99 : decode cX5_write 99 = .ok (.aload_n 0, 1) := by decide +kernel
theorem dX5_write_100 : decode cX5_write 100 = .ok (.iload 4, 2) := by decide +kernel
theorem dX5_write_102 : decode cX5_write 102 = .ok (.aload_n 2, 1) := by decide +kernel
theorem dX5_write_103 : decode cX5_write 103 = .ok (.invokevirtual 32, 3) := by decide +kernel
theorem dX5_write_106 : decode cX5_write 106 = .ok (.iinc 4 1, 3) := by decide +kernel
theorem dX5_write_109 : decode cX5_write 109 = .ok (.goto (-38), 3) := by decide +kernel
theorem dX5_write_112 : decode cX5_write 112 = .ok (.aload_n 0, 1) := by decide +kernel
theorem dX5_write_113 : decode cX5_write 113 = .ok (.iconst 0, 1) := by decide +kernel
theorem dX5_write_114 : decode cX5_write 114 = .ok (.iconst 0, 1) := by decide +kernel
theorem dX5_write_115 : decode cX5_write 115 = .ok (.invokevirtual 28, 3) := by decide +kernel
theorem dX5_write_118 : decode cX5_write 118 = .ok (.return_, 1) := by decide +kernel
set_option maxRecDepth 20000 in
theorem ggX5_putHead_X5_putByte : GoodIn wsX5_putHead wsX5_putByte := goodIn_r _ [5, 6, 7, 8, 9, 10] (by decide +kernel) (by decide +kernel)
set_option maxRecDepth 20000 in
theorem gX5_putHead_X5_putByte : GoodIn wsX5_putHead (wsV RX5 36 RX5 yX5_putByte wsX5_putByte) := goodIn_app (goodIn_of _ (by decide +kernel)) ggX5_putHead_X5_putByte
theorem dX5_putHead_0 : decode cX5_putHead 0 = .ok (.iload_n 1, 1) := by decide +kernel
theorem dX5_putHead_1 : decode cX5_putHead 1 = .ok (.bipush 9, 2) := by decide +kernel
theorem dX5_putHead_3 : decode cX5_putHead 3 = .ok (.ishl, 1) := by decide +kernel
theorem dX5_putHead_4 : decode cX5_putHead 4 = .ok (.iload_n 2, 1) := by decide +kernel
theorem dX5_putHead_5 : decode cX5_putHead 5 = .ok (.ior, 1) := by decide +kernel
theorem dX5_putHead_6 : decode cX5_putHead 6 = .ok (.istore_n 3, 1) := by decide +kernel
theorem dX5_putHead_7 : decode cX5_putHead 7 = .ok (.aload_n 0, 1) := by decide +kernel
theorem dX5_putHead_8 : decode cX5_putHead 8 = .ok (.iload_n 3, 1) := by decide +kernel
theorem dX5_putHead_9 : decode cX5_putHead 9 = .ok (.bipush 8, 2) := by decide +kernel
theorem dX5_putHead_11 : decode cX5_putHead 11 = .ok (.ishr, 1) := by decide +kernel
theorem dX5_putHead_12 : decode cX5_putHead 12 = .ok (.invokevirtual 36, 3) := by decide +kernel
theorem dX5_putHead_15 : decode cX5_putHead 15 = .ok (.aload_n 0, 1) := by decide +kernel
theorem dX5_putHead_16 : decode cX5_putHead 16 = .ok (.iload_n 3, 1) := by decide +kernel
theorem dX5_putHead_17 : decode cX5_putHead 17 = .ok (.invokevirtual 36, 3) := by decide +kernel
theorem dX5_putHead_20 : decode cX5_putHead 20 = .ok (.return_, 1) := by decide +kernel
set_option maxRecDepth 20000 in
theorem ggX5_putContent_X0_sizeOf : GoodIn wsX5_putContent wsX0_sizeOf := goodIn_r _ [5, 6, 23, 24] (by decide +kernel) (by decide +kernel)
set_option maxRecDepth 20000 in
theorem gX5_putContent_X0_sizeOf : GoodIn wsX5_putContent (wsV RX5 22 RX0 yX0_sizeOf wsX0_sizeOf) := goodIn_app (goodIn_of _ (by decide +kernel)) ggX5_putContent_X0_sizeOf
set_option maxRecDepth 20000 in
theorem ggX5_putContent_X0_byteAt : GoodIn wsX5_putContent wsX0_byteAt := goodIn_r _ [10, 11, 12, 2, 3, 4, 5, 6, 13, 14, 15, 23, 24] (by decide +kernel) (by decide +kernel)
set_option maxRecDepth 20000 in
theorem gX5_putContent_X0_byteAt : GoodIn wsX5_putContent (wsV RX5 44 RX0 yX0_byteAt wsX0_byteAt) := goodIn_app (goodIn_of _ (by decide +kernel)) ggX5_putContent_X0_byteAt
set_option maxRecDepth 20000 in
theorem ggX5_putContent_X5_putByte : GoodIn wsX5_putContent wsX5_putByte := goodIn_r _ [20, 21, 22, 25, 26, 27] (by decide +kernel) (by decide +kernel)
set_option maxRecDepth 20000 in
theorem gX5_putContent_X5_putByte : GoodIn wsX5_putContent (wsV RX5 36 RX5 yX5_putByte wsX5_putByte) := goodIn_app (goodIn_of _ (by decide +kernel)) ggX5_putContent_X5_putByte
theorem dX5_putContent_0 : decode cX5_putContent 0 = .ok (.aload_n 2, 1) := by decide +kernel
theorem dX5_putContent_1 : decode cX5_putContent 1 = .ok (.iload_n 1, 1) := by decide +kernel
theorem dX5_putContent_2 : decode cX5_putContent 2 = .ok (.invokevirtual 22, 3) := by decide +kernel
theorem dX5_putContent_5 : decode cX5_putContent 5 = .ok (.istore_n 3, 1) := by decide +kernel
theorem dX5_putContent_6 : decode cX5_putContent 6 = .ok (.iconst 0, 1) := by decide +kernel
theorem dX5_putContent_7 : decode cX5_putContent 7 = .ok (.istore 4, 2) := by decide +kernel
theorem dX5_putContent_9 : decode cX5_putContent 9 = .ok (.iload 4, 2) := by decide +kernel
theorem dX5_putContent_11 : decode cX5_putContent 11 = .ok (.iload_n 3, 1) := by decide +kernel
theorem dX5_putContent_12 : decode cX5_putContent 12 = .ok (.if_icmp .ge 20, 3) := by decide +kernel
theorem dX5_putContent_15 : decode cX5_putContent 15 = .ok (.aload_n 0, 1) := by decide +kernel
theorem dX5_putContent_16 : decode cX5_putContent 16 = .ok (.aload_n 2, 1) := by decide +kernel
theorem dX5_putContent_17 : decode cX5_putContent 17 = .ok (.iload_n 1, 1) := by decide +kernel
theorem dX5_putContent_18 : decode cX5_putContent 18 = .ok (.iload 4, 2) := by decide +kernel
theorem dX5_putContent_20 : decode cX5_putContent 20 = .ok (.invokevirtual 44, 3) := by decide +kernel
theorem dX5_putContent_23 : decode cX5_putContent 23 = .ok (.invokevirtual 36, 3) := by decide +kernel
theorem dX5_putContent_26 : decode cX5_putContent 26 = .ok (.iinc 4 1, 3) := by decide +kernel
theorem dX5_putContent_29 : decode cX5_putContent 29 = .ok (.goto (-20), 3) := by decide +kernel
theorem dX5_putContent_32 : decode cX5_putContent 32 = .ok (.return_, 1) := by decide +kernel
theorem dX5_putByte_0 : decode cX5_putByte 0 = .ok (.aload_n 0, 1) := by decide +kernel
theorem dX5_putByte_1 : decode cX5_putByte 1 = .ok (.getfield 19, 3) := by decide +kernel
theorem dX5_putByte_4 : decode cX5_putByte 4 = .ok (.sipush 439, 3) := by decide +kernel
theorem dX5_putByte_7 : decode cX5_putByte 7 = .ok (.if_icmp .ge 24, 3) := by decide +kernel
theorem dX5_putByte_10 : decode cX5_putByte 10 = .ok (.aload_n 0, 1) := by decide +kernel
theorem dX5_putByte_11 : decode cX5_putByte 11 = .ok (.getfield 9, 3) := by decide +kernel
theorem dX5_putByte_14 : decode cX5_putByte 14 = .ok (.aload_n 0, 1) := by decide +kernel
theorem dX5_putByte_15 : decode cX5_putByte 15 = .ok (.getfield 19, 3) := by decide +kernel
theorem dX5_putByte_18 : decode cX5_putByte 18 = .ok (.iload_n 1, 1) := by decide +kernel
theorem dX5_putByte_19 : decode cX5_putByte 19 = .ok (.i2b, 1) := by decide +kernel
theorem dX5_putByte_20 : decode cX5_putByte 20 = .ok (.bastore, 1) := by decide +kernel
theorem dX5_putByte_21 : decode cX5_putByte 21 = .ok (.aload_n 0, 1) := by decide +kernel
theorem dX5_putByte_22 : decode cX5_putByte 22 = .ok (.dup, 1) := by decide +kernel
theorem dX5_putByte_23 : decode cX5_putByte 23 = .ok (.getfield 19, 3) := by decide +kernel
theorem dX5_putByte_26 : decode cX5_putByte 26 = .ok (.iconst 1, 1) := by decide +kernel
theorem dX5_putByte_27 : decode cX5_putByte 27 = .ok (.iadd, 1) := by decide +kernel
theorem dX5_putByte_28 : decode cX5_putByte 28 = .ok (.putfield 19, 3) := by decide +kernel
theorem dX5_putByte_31 : decode cX5_putByte 31 = .ok (.return_, 1) := by decide +kernel
set_option maxRecDepth 20000 in
theorem ggX6_init_X0_init : GoodIn wsX6_init wsX0_init := goodIn_r _ [32, 33, 2, 3, 34, 35, 4, 36, 37, 38, 39, 8, 40, 41, 42, 43, 44, 102, 103] (by decide +kernel) (by decide +kernel)
set_option maxRecDepth 20000 in
theorem gX6_init_X0_init : GoodIn wsX6_init (wsX0_init) := ggX6_init_X0_init
set_option maxRecDepth 20000 in
theorem ggX6_init_X3_init : GoodIn wsX6_init wsX3_init := goodIn_r _ [47, 48, 2, 3, 49, 50, 51, 52, 53, 54, 55, 56, 7, 8, 57, 58, 31, 32, 33, 34, 35, 4, 36, 37, 38, 39, 40, 41, 42, 43, 44, 104, 105, 117, 118, 119, 120, 102, 103] (by decide +kernel) (by decide +kernel)
set_option maxRecDepth 20000 in
theorem gX6_init_X3_init : GoodIn wsX6_init (wsX3_init) := ggX6_init_X3_init
set_option maxRecDepth 20000 in
theorem ggX6_init_X1_init : GoodIn wsX6_init wsX1_init := goodIn_r _ [60, 61, 2, 3, 62, 7, 8, 63, 64, 31, 32, 33, 34, 35, 4, 36, 37, 38, 39, 40, 41, 42, 43, 44, 102, 103, 106, 107] (by decide +kernel) (by decide +kernel)
set_option maxRecDepth 20000 in
theorem gX6_init_X1_init_n35 : GoodIn wsX6_init (wsX1_init) := ggX6_init_X1_init
set_option maxRecDepth 20000 in
theorem ggX6_init_X5_init : GoodIn wsX6_init wsX5_init := goodIn_r _ [66, 67, 2, 3, 4, 68, 69, 108, 109, 110] (by decide +kernel) (by decide +kernel)
set_option maxRecDepth 20000 in
theorem gX6_init_X5_init_n42 : GoodIn wsX6_init (wsX5_init) := ggX6_init_X5_init
set_option maxRecDepth 20000 in
theorem ggX6_init_X4_init : GoodIn wsX6_init wsX4_init := goodIn_r _ [71, 72, 2, 3] (by decide +kernel) (by decide +kernel)
set_option maxRecDepth 20000 in
theorem gX6_init_X4_init_n57 : GoodIn wsX6_init (wsX4_init) := ggX6_init_X4_init
set_option maxRecDepth 20000 in
theorem ggX6_init_X0_keep : GoodIn wsX6_init wsX0_keep := goodIn_r _ [76, 36, 77, 78, 79, 80, 35, 81, 82, 8, 83, 84, 85, 86, 87, 88, 89, 102, 103] (by decide +kernel) (by decide +kernel)
set_option maxRecDepth 20000 in
theorem gX6_init_X0_keep : GoodIn wsX6_init (wsV RX6 61 RX0 yX0_keep wsX0_keep) := goodIn_app (goodIn_of _ (by decide +kernel)) ggX6_init_X0_keep
theorem dX6_init_0 : decode cX6_init 0 = .ok (.aload_n 0, 1) := by decide +kernel
theorem dX6_init_1 : decode cX6_init 1 = .ok (.invokespecial 1, 3) := by decide +kernel
theorem dX6_init_4 : decode cX6_init 4 = .ok (.aload_n 0, 1) := by decide +kernel
theorem dX6_init_5 : decode cX6_init 5 = .ok (.sipush 700, 3) := by decide +kernel
theorem dX6_init_8 : decode cX6_init 8 = .ok (.newarray .byte, 2) := by decide +kernel
theorem dX6_init_10 : decode cX6_init 10 = .ok (.putfield 9, 3) := by decide +kernel
theorem dX6_init_13 : decode cX6_init 13 = .ok (.aload_n 0, 1) := by decide +kernel
theorem dX6_init_14 : decode cX6_init 14 = .ok (.new 13, 3) := by decide +kernel
theorem dX6_init_17 : decode cX6_init 17 = .ok (.dup, 1) := by decide +kernel
theorem dX6_init_18 : decode cX6_init 18 = .ok (.invokespecial 15, 3) := by decide +kernel
theorem dX6_init_21 : decode cX6_init 21 = .ok (.putfield 16, 3) := by decide +kernel
theorem dX6_init_24 : decode cX6_init 24 = .ok (.aload_n 0, 1) := by decide +kernel
theorem dX6_init_25 : decode cX6_init 25 = .ok (.iconst 4, 1) := by decide +kernel
theorem dX6_init_26 : decode cX6_init 26 = .ok (.anewarray 20, 3) := by decide +kernel
theorem dX6_init_29 : decode cX6_init 29 = .ok (.putfield 22, 3) := by decide +kernel
theorem dX6_init_32 : decode cX6_init 32 = .ok (.aload_n 0, 1) := by decide +kernel
theorem dX6_init_33 : decode cX6_init 33 = .ok (.new 26, 3) := by decide +kernel
theorem dX6_init_36 : decode cX6_init 36 = .ok (.dup, 1) := by decide +kernel
theorem dX6_init_37 : decode cX6_init 37 = .ok (.invokespecial 28, 3) := by decide +kernel
theorem dX6_init_40 : decode cX6_init 40 = .ok (.putfield 29, 3) := by decide +kernel
theorem dX6_init_43 : decode cX6_init 43 = .ok (.aload_n 0, 1) := by decide +kernel
theorem dX6_init_44 : decode cX6_init 44 = .ok (.new 33, 3) := by decide +kernel
theorem dX6_init_47 : decode cX6_init 47 = .ok (.dup, 1) := by decide +kernel
theorem dX6_init_48 : decode cX6_init 48 = .ok (.invokespecial 35, 3) := by decide +kernel
theorem dX6_init_51 : decode cX6_init 51 = .ok (.putfield 36, 3) := by decide +kernel
theorem dX6_init_54 : decode cX6_init 54 = .ok (.aload_n 0, 1) := by decide +kernel
theorem dX6_init_55 : decode cX6_init 55 = .ok (.new 40, 3) := by decide +kernel
theorem dX6_init_58 : decode cX6_init 58 = .ok (.dup, 1) := by decide +kernel
theorem dX6_init_59 : decode cX6_init 59 = .ok (.invokespecial 42, 3) := by decide +kernel
theorem dX6_init_62 : decode cX6_init 62 = .ok (.putfield 43, 3) := by decide +kernel
theorem dX6_init_65 : decode cX6_init 65 = .ok (.aload_n 0, 1) := by decide +kernel
theorem dX6_init_66 : decode cX6_init 66 = .ok (.bipush 30, 2) := by decide +kernel
theorem dX6_init_68 : decode cX6_init 68 = .ok (.putfield 47, 3) := by decide +kernel
theorem dX6_init_71 : decode cX6_init 71 = .ok (.aload_n 0, 1) := by decide +kernel
theorem dX6_init_72 : decode cX6_init 72 = .ok (.iconst 4, 1) := by decide +kernel
theorem dX6_init_73 : decode cX6_init 73 = .ok (.putfield 51, 3) := by decide +kernel
theorem dX6_init_76 : decode cX6_init 76 = .ok (.aload_n 0, 1) := by decide +kernel
theorem dX6_init_77 : decode cX6_init 77 = .ok (.iconst 4, 1) := by decide +kernel
theorem dX6_init_78 : decode cX6_init 78 = .ok (.putfield 54, 3) := by decide +kernel
theorem dX6_init_81 : decode cX6_init 81 = .ok (.iconst 0, 1) := by decide +kernel
theorem dX6_init_82 : decode cX6_init 82 = .ok (.istore_n 1, 1) := by decide +kernel
theorem dX6_init_83 : decode cX6_init 83 = .ok (.iload_n 1, 1) := by decide +kernel
theorem dX6_init_84 : decode cX6_init 84 = .ok (.iconst 4, 1) := by decide +kernel
theorem dX6_init_85 : decode cX6_init 85 = .ok (.if_icmp .ge 22, 3) := by decide +kernel
theorem dX6_init_88 : decode cX6_init 88 = .ok (.aload_n 0, 1) := by decide +kernel
theorem dX6_init_89 : decode cX6_init 89 = .ok (.getfield 22, 3) := by decide +kernel
theorem dX6_init_92 : decode cX6_init 92 = .ok (.iload_n 1, 1) := by decide +kernel
theorem dX6_init_93 : decode cX6_init 93 = .ok (.new 20, 3) := by decide +kernel
theorem dX6_init_96 : decode cX6_init 96 = .ok (.dup, 1) := by decide +kernel
theorem dX6_init_97 : decode cX6_init 97 = .ok (.invokespecial 57, 3) := by decide +kernel
theorem dX6_init_100 : decode cX6_init 100 = .ok (.aastore, 1) := by decide +kernel
theorem dX6_init_101 : decode cX6_init 101 = .ok (.iinc 1 1, 3) := by decide +kernel
theorem dX6_init_104 : decode cX6_init 104 = .ok (.goto (-21), 3) := by decide +kernel
theorem dX6_init_107 : decode cX6_init 107 = .ok (.aload_n 0, 1) := by decide +kernel
theorem dX6_init_108 : decode cX6_init 108 = .ok (.getfield 16, 3) := by decide +kernel
theorem dX6_init_111 : decode cX6_init 111 = .ok (.iconst 1, 1) := by decide +kernel
theorem dX6_init_112 : decode cX6_init 112 = .ok (.getstatic 58, 3) := by decide +kernel
theorem dX6_init_115 : decode cX6_init 115 = .ok (.iconst 0, 1) := by decide +kernel
theorem dX6_init_116 : decode cX6_init 116 = .ok (.iconst 2, 1) := by decide +kernel
theorem dX6_init_117 : decode cX6_init 117 = .ok (.invokevirtual 61, 3) := by decide +kernel
theorem dX6_init_120 : decode cX6_init 120 = .ok (.aload_n 0, 1) := by decide +kernel
theorem dX6_init_121 : decode cX6_init 121 = .ok (.getfield 16, 3) := by decide +kernel
theorem dX6_init_124 : decode cX6_init 124 = .ok (.iconst 2, 1) := by decide +kernel
theorem dX6_init_125 : decode cX6_init 125 = .ok (.getstatic 58, 3) := by decide +kernel
theorem dX6_init_128 : decode cX6_init 128 = .ok (.iconst 0, 1) := by decide +kernel
theorem dX6_init_129 : decode cX6_init 129 = .ok (.iconst 2, 1) := by decide +kernel
theorem dX6_init_130 : decode cX6_init 130 = .ok (.invokevirtual 61, 3) := by decide +kernel
theorem dX6_init_133 : decode cX6_init 133 = .ok (.return_, 1) := by decide +kernel
theorem dX6_type_0 : decode cX6_type 0 = .ok (.iload_n 3, 1) := by decide +kernel
theorem dX6_type_1 : decode cX6_type 1 = .ok (.iconst 1, 1) := by decide +kernel
theorem dX6_type_2 : decode cX6_type 2 = .ok (.if_icmp .lt 21, 3) := by decide +kernel
theorem dX6_type_5 : decode cX6_type 5 = .ok (.iload_n 3, 1) := by decide +kernel
theorem dX6_type_6 : decode cX6_type 6 = .ok (.bipush 8, 2) := by decide +kernel
theorem dX6_type_8 : decode cX6_type 8 = .ok (.if_icmp .gt 15, 3) := by decide +kernel
theorem dX6_type_11 : decode cX6_type 11 = .ok (.aload_n 0, 1) := by decide +kernel
theorem dX6_type_12 : decode cX6_type 12 = .ok (.getfield 65, 3) := by decide +kernel
theorem dX6_type_15 : decode cX6_type 15 = .ok (.iload_n 3, 1) := by decide +kernel
theorem dX6_type_16 : decode cX6_type 16 = .ok (.iadd, 1) := by decide +kernel
theorem dX6_type_17 : decode cX6_type 17 = .ok (.sipush 700, 3) := by decide +kernel
theorem dX6_type_20 : decode cX6_type 20 = .ok (.if_icmp .le 5, 3) := by decide +kernel
theorem dX6_type_23 : decode cX6_type 23 = .ok (.iconst (-1), 1) := by decide +kernel
theorem dX6_type_24 : decode cX6_type 24 = .ok (.ireturn, 1) := by decide +kernel
theorem dX6_type_25 : decode cX6_type 25 = .ok (.iload_n 3, 1) := by decide +kernel
theorem dX6_type_26 : decode cX6_type 26 = .ok (.iconst 1, 1) := by decide +kernel
theorem dX6_type_27 : decode cX6_type 27 = .ok (.isub, 1) := by decide +kernel
theorem dX6_type_28 : decode cX6_type 28 = .ok (.istore 4, 2) := by decide +kernel
theorem dX6_type_30 : decode cX6_type 30 = .ok (.iload 4, 2) := by decide +kernel
theorem dX6_type_32 : decode cX6_type 32 = .ok (.ifCond .lt 37, 3) := by decide +kernel
theorem dX6_type_35 : decode cX6_type 35 = .ok (.aload_n 0, 1) := by decide +kernel
theorem dX6_type_36 : decode cX6_type 36 = .ok (.getfield 9, 3) := by decide +kernel
theorem dX6_type_39 : decode cX6_type 39 = .ok (.aload_n 0, 1) := by decide +kernel
theorem dX6_type_40 : decode cX6_type 40 = .ok (.getfield 65, 3) := by decide +kernel
theorem dX6_type_43 : decode cX6_type 43 = .ok (.lload_n 1, 1) := by decide +kernel
theorem dX6_type_44 : decode cX6_type 44 = .ok (.bipush 8, 2) := by decide +kernel
theorem dX6_type_46 : decode cX6_type 46 = .ok (.iload 4, 2) := by decide +kernel
theorem dX6_type_48 : decode cX6_type 48 = .ok (.imul, 1) := by decide +kernel
theorem dX6_type_49 : decode cX6_type 49 = .ok (.lushr, 1) := by decide +kernel
theorem dX6_type_50 : decode cX6_type 50 = .ok (.l2i, 1) := by decide +kernel
theorem dX6_type_51 : decode cX6_type 51 = .ok (.i2b, 1) := by decide +kernel
theorem dX6_type_52 : decode cX6_type 52 = .ok (.bastore, 1) := by decide +kernel
theorem dX6_type_53 : decode cX6_type 53 = .ok (.aload_n 0, 1) := by decide +kernel
theorem dX6_type_54 : decode cX6_type 54 = .ok (.dup, 1) := by decide +kernel
theorem dX6_type_55 : decode cX6_type 55 = .ok (.getfield 65, 3) := by decide +kernel
theorem dX6_type_58 : decode cX6_type 58 = .ok (.iconst 1, 1) := by decide +kernel
theorem dX6_type_59 : decode cX6_type 59 = .ok (.iadd, 1) := by decide +kernel
theorem dX6_type_60 : decode cX6_type 60 = .ok (.putfield 65, 3) := by decide +kernel
theorem dX6_type_63 : decode cX6_type 63 = .ok (.iinc 4 (-1), 3) := by decide +kernel
theorem dX6_type_66 : decode cX6_type 66 = .ok (.goto (-36), 3) := by decide +kernel
theorem dX6_type_69 : decode cX6_type 69 = .ok (.aload_n 0, 1) := by decide +kernel
theorem dX6_type_70 : decode cX6_type 70 = .ok (.getfield 65, 3) := by decide +kernel
theorem dX6_type_73 : decode cX6_type 73 = .ok (.ireturn, 1) := by decide +kernel
set_option maxRecDepth 20000 in
theorem ggX6_tell_X6_isTellable : GoodIn wsX6_tell wsX6_isTellable := goodIn_r _ [5, 6, 7, 4, 8] (by decide +kernel) (by decide +kernel)
set_option maxRecDepth 20000 in
theorem gX6_tell_X6_isTellable : GoodIn wsX6_tell (va_wsS RX6 68 yX6_isTellable wsX6_isTellable) := goodIn_app (goodIn_of _ (by decide +kernel)) ggX6_tell_X6_isTellable
set_option maxRecDepth 20000 in
theorem ggX6_tell_X6_tellNothing : GoodIn wsX6_tell wsX6_tellNothing := goodIn_r _ [12, 13, 14, 15, 16, 17, 18, 19, 20, 21, 22, 23, 24, 25, 26, 27, 28, 29, 30, 31, 4, 32, 33, 34, 35, 36, 37, 38, 39, 40, 65, 66, 67, 68, 69, 70, 71, 72, 73, 74, 75, 76, 77, 78, 79, 80, 81, 82, 83, 84] (by decide +kernel) (by decide +kernel)
set_option maxRecDepth 20000 in
theorem gX6_tell_X6_tellNothing : GoodIn wsX6_tell (wsV RX6 72 RX6 yX6_tellNothing wsX6_tellNothing) := goodIn_app (goodIn_of _ (by decide +kernel)) ggX6_tell_X6_tellNothing
set_option maxRecDepth 20000 in
theorem ggX6_tell_X6_tellTyped : GoodIn wsX6_tell wsX6_tellTyped := goodIn_r _ [44, 13, 45, 1, 46, 47, 48, 17, 49, 50, 19, 20, 21, 22, 23, 51, 52, 53, 54, 55, 56, 57, 58, 59, 60, 61, 62, 63, 64, 7, 4, 8, 29, 30, 31, 32, 33, 34, 35, 36, 37, 38, 39, 40, 65, 66, 67, 68, 69, 70, 71, 72, 73, 74, 75, 76, 77, 78, 79, 80, 81, 82, 83, 84] (by decide +kernel) (by decide +kernel)
set_option maxRecDepth 20000 in
theorem gX6_tell_X6_tellTyped : GoodIn wsX6_tell (wsV RX6 76 RX6 yX6_tellTyped wsX6_tellTyped) := goodIn_app (goodIn_of _ (by decide +kernel)) ggX6_tell_X6_tellTyped
theorem dX6_tell_0 : decode cX6_tell 0 = .ok (.iload_n 1, 1) := by decide +kernel
theorem dX6_tell_1 : decode cX6_tell 1 = .ok (.aload_n 0, 1) := by decide +kernel
theorem dX6_tell_2 : decode cX6_tell 2 = .ok (.getfield 65, 3) := by decide +kernel
theorem dX6_tell_5 : decode cX6_tell 5 = .ok (.invokestatic 68, 3) := by decide +kernel
theorem dX6_tell_8 : decode cX6_tell 8 = .ok (.ifCond .ne 5, 3) := by decide +kernel
theorem dX6_tell_11 : decode cX6_tell 11 = .ok (.iconst 0, 1) := by decide +kernel
theorem dX6_tell_12 : decode cX6_tell 12 = .ok (.ireturn, 1) := by decide +kernel
theorem dX6_tell_13 : decode cX6_tell 13 = .ok (.aload_n 0, 1) := by decide +kernel
theorem dX6_tell_14 : decode cX6_tell 14 = .ok (.getfield 65, 3) := by decide +kernel
theorem dX6_tell_17 : decode cX6_tell 17 = .ok (.ifCond .ne 11, 3) := by decide +kernel
theorem dX6_tell_20 : decode cX6_tell 20 = .ok (.aload_n 0, 1) := by decide +kernel
theorem dX6_tell_21 : decode cX6_tell 21 = .ok (.iload_n 1, 1) := by decide +kernel
theorem dX6_tell_22 : decode cX6_tell 22 = .ok (.invokevirtual 72, 3) := by decide +kernel
theorem dX6_tell_25 : decode cX6_tell 25 = .ok (.goto 8, 3) := by decide +kernel
theorem dX6_tell_28 : decode cX6_tell 28 = .ok (.aload_n 0, 1) := by decide +kernel
theorem dX6_tell_29 : decode cX6_tell 29 = .ok (.iload_n 1, 1) := by decide +kernel
theorem dX6_tell_30 : decode cX6_tell 30 = .ok (.invokevirtual 76, 3) := by decide +kernel
theorem dX6_tell_33 : decode cX6_tell 33 = .ok (.aload_n 0, 1) := by decide +kernel
theorem dX6_tell_34 : decode cX6_tell 34 = .ok (.iconst 0, 1) := by decide +kernel
theorem dX6_tell_35 : decode cX6_tell 35 = .ok (.putfield 65, 3) := by decide +kernel
theorem dX6_tell_38 : decode cX6_tell 38 = .ok (.iconst 1, 1) := by decide +kernel
theorem dX6_tell_39 : decode cX6_tell 39 = .ok (.ireturn, 1) := by decide +kernel
theorem dX6_set_0 : decode cX6_set 0 = .ok (.iload_n 1, 1) := by decide +kernel
theorem dX6_set_1 : decode cX6_set 1 = .ok (.ifCond .ne 22, 3) := by decide +kernel
theorem dX6_set_4 : decode cX6_set 4 = .ok (.iload_n 2, 1) := by decide +kernel
theorem dX6_set_5 : decode cX6_set 5 = .ok (.iconst 1, 1) := by decide +kernel
theorem dX6_set_6 : decode cX6_set 6 = .ok (.if_icmp .lt 17, 3) := by decide +kernel
theorem dX6_set_9 : decode cX6_set 9 = .ok (.iload_n 2, 1) := by decide +kernel
theorem dX6_set_10 : decode cX6_set 10 = .ok (.sipush 3600, 3) := by decide +kernel
theorem dX6_set_13 : decode cX6_set 13 = .ok (.if_icmp .gt 10, 3) := by decide +kernel
theorem dX6_set_16 : decode cX6_set 16 = .ok (.aload_n 0, 1) := by decide +kernel
theorem dX6_set_17 : decode cX6_set 17 = .ok (.iload_n 2, 1) := by decide +kernel
theorem dX6_set_18 : decode cX6_set 18 = .ok (.putfield 47, 3) := by decide +kernel
theorem dX6_set_21 : decode cX6_set 21 = .ok (.iconst 1, 1) := by decide +kernel
theorem dX6_set_22 : decode cX6_set 22 = .ok (.ireturn, 1) := by decide +kernel
theorem dX6_set_23 : decode cX6_set 23 = .ok (.iload_n 1, 1) := by decide +kernel
theorem dX6_set_24 : decode cX6_set 24 = .ok (.iconst 1, 1) := by decide +kernel
theorem dX6_set_25 : decode cX6_set 25 = .ok (.if_icmp .ne 21, 3) := by decide +kernel
theorem dX6_set_28 : decode cX6_set 28 = .ok (.iload_n 2, 1) := by decide +kernel
theorem dX6_set_29 : decode cX6_set 29 = .ok (.iconst 2, 1) := by decide +kernel
theorem dX6_set_30 : decode cX6_set 30 = .ok (.if_icmp .lt 16, 3) := by decide +kernel
theorem dX6_set_33 : decode cX6_set 33 = .ok (.iload_n 2, 1) := by decide +kernel
theorem dX6_set_34 : decode cX6_set 34 = .ok (.bipush 10, 2) := by decide +kernel
theorem dX6_set_36 : decode cX6_set 36 = .ok (.if_icmp .gt 10, 3) := by decide +kernel
theorem dX6_set_39 : decode cX6_set 39 = .ok (.aload_n 0, 1) := by decide +kernel
theorem dX6_set_40 : decode cX6_set 40 = .ok (.iload_n 2, 1) := by decide +kernel
theorem dX6_set_41 : decode cX6_set 41 = .ok (.putfield 51, 3) := by decide +kernel
theorem dX6_set_44 : decode cX6_set 44 = .ok (.iconst 1, 1) := by decide +kernel
theorem dX6_set_45 : decode cX6_set 45 = .ok (.ireturn, 1) := by decide +kernel
theorem dX6_set_46 : decode cX6_set 46 = .ok (.iload_n 1, 1) := by decide +kernel
theorem dX6_set_47 : decode cX6_set 47 = .ok (.iconst 2, 1) := by decide +kernel
theorem dX6_set_48 : decode cX6_set 48 = .ok (.if_icmp .ne 21, 3) := by decide +kernel
theorem dX6_set_51 : decode cX6_set 51 = .ok (.iload_n 2, 1) := by decide +kernel
theorem dX6_set_52 : decode cX6_set 52 = .ok (.iconst 1, 1) := by decide +kernel
theorem dX6_set_53 : decode cX6_set 53 = .ok (.if_icmp .lt 16, 3) := by decide +kernel
theorem dX6_set_56 : decode cX6_set 56 = .ok (.iload_n 2, 1) := by decide +kernel
theorem dX6_set_57 : decode cX6_set 57 = .ok (.bipush 8, 2) := by decide +kernel
theorem dX6_set_59 : decode cX6_set 59 = .ok (.if_icmp .gt 10, 3) := by decide +kernel
theorem dX6_set_62 : decode cX6_set 62 = .ok (.aload_n 0, 1) := by decide +kernel
theorem dX6_set_63 : decode cX6_set 63 = .ok (.iload_n 2, 1) := by decide +kernel
theorem dX6_set_64 : decode cX6_set 64 = .ok (.putfield 54, 3) := by decide +kernel
theorem dX6_set_67 : decode cX6_set 67 = .ok (.iconst 1, 1) := by decide +kernel
theorem dX6_set_68 : decode cX6_set 68 = .ok (.ireturn, 1) := by decide +kernel
theorem dX6_set_69 : decode cX6_set 69 = .ok (.iconst 0, 1) := by decide +kernel
theorem dX6_set_70 : decode cX6_set 70 = .ok (.ireturn, 1) := by decide +kernel
set_option maxRecDepth 20000 in
theorem ggX6_port_X6_isPort : GoodIn wsX6_port wsX6_isPort := goodIn_r _ [9] (by decide +kernel) (by decide +kernel)
set_option maxRecDepth 20000 in
theorem gX6_port_X6_isPort : GoodIn wsX6_port (va_wsS RX6 79 yX6_isPort wsX6_isPort) := goodIn_app (goodIn_of _ (by decide +kernel)) ggX6_port_X6_isPort
set_option maxRecDepth 20000 in
theorem ggX6_port_X4_isUp : GoodIn wsX6_port wsX4_isUp := goodIn_r _ [14, 15, 99, 100, 101, 102, 103, 104] (by decide +kernel) (by decide +kernel)
set_option maxRecDepth 20000 in
theorem gX6_port_X4_isUp : GoodIn wsX6_port (wsV RX6 83 RX4 yX4_isUp wsX4_isUp) := goodIn_app (goodIn_of _ (by decide +kernel)) ggX6_port_X4_isUp
set_option maxRecDepth 20000 in
theorem ggX6_port_X4_goUp : GoodIn wsX6_port wsX4_goUp := goodIn_r _ [19, 15, 20, 21, 99, 100, 101, 102, 103, 104] (by decide +kernel) (by decide +kernel)
set_option maxRecDepth 20000 in
theorem gX6_port_X4_goUp : GoodIn wsX6_port (wsV RX6 87 RX4 yX4_goUp wsX4_goUp) := goodIn_app (goodIn_of _ (by decide +kernel)) ggX6_port_X4_goUp
set_option maxRecDepth 20000 in
theorem ggX6_port_X4_goDown : GoodIn wsX6_port wsX4_goDown := goodIn_r _ [25, 15, 21, 26, 99, 100, 101, 102, 103, 104] (by decide +kernel) (by decide +kernel)
set_option maxRecDepth 20000 in
theorem gX6_port_X4_goDown : GoodIn wsX6_port (wsV RX6 90 RX4 yX4_goDown wsX4_goDown) := goodIn_app (goodIn_of _ (by decide +kernel)) ggX6_port_X4_goDown
set_option maxRecDepth 20000 in
theorem ggX6_port_X5_write : GoodIn wsX6_port wsX5_write := goodIn_r _ [31, 32, 33, 34, 35, 36, 37, 38, 39, 40, 41, 42, 30, 43, 44, 45, 46, 47, 48, 49, 50, 51, 52, 53, 54, 55, 56, 57, 58, 59, 60, 61, 62, 63, 64, 65, 105, 106, 107, 108, 109] (by decide +kernel) (by decide +kernel)
set_option maxRecDepth 20000 in
theorem gX6_port_X5_write : GoodIn wsX6_port (wsV RX6 93 RX5 yX5_write wsX5_write) := goodIn_app (goodIn_of _ (by decide +kernel)) ggX6_port_X5_write
set_option maxRecDepth 20000 in
theorem ggX6_port_X3_forgetAllAt : GoodIn wsX6_port wsX3_forgetAllAt := goodIn_r _ [70, 71, 72, 73, 74, 75, 76, 77, 78, 79, 80, 81, 69, 82, 83, 84, 85, 86, 110, 111, 112, 113, 114, 115] (by decide +kernel) (by decide +kernel)
set_option maxRecDepth 20000 in
theorem gX6_port_X3_forgetAllAt : GoodIn wsX6_port (wsV RX6 97 RX3 yX3_forgetAllAt wsX3_forgetAllAt) := goodIn_app (goodIn_of _ (by decide +kernel)) ggX6_port_X3_forgetAllAt
theorem dX6_port_0 : decode cX6_port 0 = .ok (.iload_n 1, 1) := by decide +kernel
theorem dX6_port_1 : decode cX6_port 1 = .ok (.invokestatic 79, 3) := by decide +kernel
theorem dX6_port_4 : decode cX6_port 4 = .ok (.ifCond .eq 34, 3) := by decide +kernel
theorem dX6_port_7 : decode cX6_port 7 = .ok (.iload_n 2, 1) := by decide +kernel
theorem dX6_port_8 : decode cX6_port 8 = .ok (.ifCond .lt 30, 3) := by decide +kernel
theorem dX6_port_11 : decode cX6_port 11 = .ok (.iload_n 2, 1) := by decide +kernel
theorem dX6_port_12 : decode cX6_port 12 = .ok (.iconst 1, 1) := by decide +kernel
theorem dX6_port_13 : decode cX6_port 13 = .ok (.if_icmp .gt 25, 3) := by decide +kernel
theorem dX6_port_16 : decode cX6_port 16 = .ok (.aload_n 0, 1) := by decide +kernel
theorem dX6_port_17 : decode cX6_port 17 = .ok (.getfield 22, 3) := by decide +kernel
theorem dX6_port_20 : decode cX6_port 20 = .ok (.iload_n 1, 1) := by decide +kernel
theorem dX6_port_21 : decode cX6_port 21 = .ok (.aaload, 1) := by decide +kernel
theorem dX6_port_22 : decode cX6_port 22 = .ok (.invokevirtual 83, 3) := by decide +kernel
theorem dX6_port_25 : decode cX6_port 25 = .ok (.iload_n 2, 1) := by decide +kernel
theorem dX6_port_26 : decode cX6_port 26 = .ok (.iconst 1, 1) := by decide +kernel
theorem dX6_port_27 : decode cX6_port 27 = .ok (.if_icmp .ne 7, 3) := by decide +kernel
theorem dX6_port_30 : decode cX6_port 30 = .ok (.iconst 1, 1) := by decide +kernel
theorem dX6_port_31 : decode cX6_port 31 = .ok (.goto 4, 3) := by decide +kernel
theorem dX6_port_34 : decode cX6_port 34 = .ok (.iconst 0, 1) := by decide +kernel
theorem dX6_port_35 : decode cX6_port 35 = .ok (.if_icmp .ne 5, 3) := by decide +kernel
theorem dX6_port_38 : decode cX6_port 38 = .ok (.iconst 0, 1) := by decide +kernel
theorem dX6_port_39 : decode cX6_port 39 = .ok (.ireturn, 1) := by decide +kernel
theorem dX6_port_40 : decode cX6_port 40 = .ok (.iload_n 2, 1) := by decide +kernel
theorem dX6_port_41 : decode cX6_port 41 = .ok (.iconst 1, 1) := by decide +kernel
theorem dX6_port_42 : decode cX6_port 42 = .ok (.if_icmp .ne 19, 3) := by decide +kernel
theorem dX6_port_45 : decode cX6_port 45 = .ok (.aload_n 0, 1) := by decide +kernel
theorem dX6_port_46 : decode cX6_port 46 = .ok (.getfield 22, 3) := by decide +kernel
theorem dX6_port_49 : decode cX6_port 49 = .ok (.iload_n 1, 1) := by decide +kernel
theorem dX6_port_50 : decode cX6_port 50 = .ok (.aaload, 1) := by decide +kernel
theorem dX6_port_51 : decode cX6_port 51 = .ok (.aload_n 0, 1) := by decide +kernel
theorem dX6_port_52 : decode cX6_port 52 = .ok (.getfield 54, 3) := by decide +kernel
theorem dX6_port_55 : decode cX6_port 55 = .ok (.invokevirtual 87, 3) := by decide +kernel
theorem dX6_port_58 : decode cX6_port 58 = .ok (.goto 33, 3) := by decide +kernel
theorem dX6_port_61 : decode cX6_port 61 = .ok (.aload_n 0, 1) := by decide +kernel
theorem dX6_port_62 : decode cX6_port 62 = .ok (.getfield 22, 3) := by decide +kernel
theorem dX6_port_65 : decode cX6_port 65 = .ok (.iload_n 1, 1) := by decide +kernel
theorem dX6_port_66 : decode cX6_port 66 = .ok (.aaload, 1) := by decide +kernel
theorem dX6_port_67 : decode cX6_port 67 = .ok (.invokevirtual 90, 3) := by decide +kernel
theorem dX6_port_70 : decode cX6_port 70 = .ok (.aload_n 0, 1) := by decide +kernel
theorem dX6_port_71 : decode cX6_port 71 = .ok (.getfield 43, 3) := by decide +kernel
theorem dX6_port_74 : decode cX6_port 74 = .ok (.iload_n 1, 1) := by decide +kernel
theorem dX6_port_75 : decode cX6_port 75 = .ok (.aload_n 0, 1) := by decide +kernel
theorem dX6_port_76 : decode cX6_port 76 = .ok (.getfield 16, 3) := by decide +kernel
theorem dX6_port_79 : decode cX6_port 79 = .ok (.iconst 0, 1) := by decide +kernel
theorem dX6_port_80 : decode cX6_port 80 = .ok (.invokevirtual 93, 3) := by decide +kernel
theorem dX6_port_83 : decode cX6_port 83 = .ok (.aload_n 0, 1) := by decide +kernel
theorem dX6_port_84 : decode cX6_port 84 = .ok (.getfield 29, 3) := by decide +kernel
theorem dX6_port_87 : decode cX6_port 87 = .ok (.iload_n 1, 1) := by decide +kernel
theorem dX6_port_88 : decode cX6_port 88 = .ok (.invokevirtual 97, 3) := by decide +kernel
theorem dX6_port_91 : decode cX6_port 91 = .ok (.iconst 1, 1) := by decide +kernel
theorem dX6_port_92 : decode cX6_port 92 = .ok (.ireturn, 1) := by decide +kernel
set_option maxRecDepth 20000 in
theorem ggX6_hear_X6_isPort : GoodIn wsX6_hear wsX6_isPort := goodIn_r _ [9] (by decide +kernel) (by decide +kernel)
set_option maxRecDepth 20000 in
theorem gX6_hear_X6_isPort : GoodIn wsX6_hear (va_wsS RX6 79 yX6_isPort wsX6_isPort) := goodIn_app (goodIn_of _ (by decide +kernel)) ggX6_hear_X6_isPort
set_option maxRecDepth 20000 in
theorem ggX6_hear_X4_isUp : GoodIn wsX6_hear wsX4_isUp := goodIn_r _ [14, 15, 173, 174, 175, 176, 177, 178] (by decide +kernel) (by decide +kernel)
set_option maxRecDepth 20000 in
theorem gX6_hear_X4_isUp : GoodIn wsX6_hear (wsV RX6 83 RX4 yX4_isUp wsX4_isUp) := goodIn_app (goodIn_of _ (by decide +kernel)) ggX6_hear_X4_isUp
set_option maxRecDepth 20000 in
theorem ggX6_hear_X1_read : GoodIn wsX6_hear wsX1_read := goodIn_r _ [20, 21, 22, 23, 24, 25, 26, 27, 28, 29, 30, 31, 32, 33, 19, 34, 35, 36, 37, 38, 39, 40, 41, 42, 43, 44, 45, 8, 46, 47, 48, 49, 50, 51, 52, 53, 54, 55, 56, 57, 58, 59, 60, 61, 62, 63, 64, 65, 66, 67, 68, 69, 70, 71, 72, 73, 74, 179, 180, 181, 182] (by decide +kernel) (by decide +kernel)
set_option maxRecDepth 20000 in
theorem gX6_hear_X1_read : GoodIn wsX6_hear (wsV RX6 100 RX1 yX1_read wsX1_read) := goodIn_app (goodIn_of _ (by decide +kernel)) ggX6_hear_X1_read
set_option maxRecDepth 20000 in
theorem ggX6_hear_X6_learn : GoodIn wsX6_hear wsX6_learn := goodIn_r _ [78, 79, 2, 1, 80, 81, 82, 83, 19, 84, 21, 85, 86, 87, 88, 89, 90, 91, 92, 93, 94, 95, 96, 97, 98, 99, 100, 101, 102, 103, 104, 105, 25, 106, 64, 72, 73, 74, 51, 52, 53, 54, 27, 107, 108, 109, 110, 111, 112, 113, 114, 59, 115, 116, 117, 118, 119, 120, 121, 122, 123, 124, 125, 126, 127, 128, 129, 130, 131, 132, 133, 134, 13, 135, 136, 137, 138, 139, 140, 141, 142, 143, 144, 145, 146, 147, 148, 149, 150, 151, 152, 153, 154, 161, 162, 163, 164, 165, 166, 167, 168, 169, 170, 171, 172, 179, 180, 183, 184, 185, 186, 187, 188, 181, 182, 173, 174, 175, 176, 177, 178] (by decide +kernel) (by decide +kernel)
set_option maxRecDepth 20000 in
theorem gX6_hear_X6_learn : GoodIn wsX6_hear (wsV RX6 104 RX6 yX6_learn wsX6_learn) := goodIn_app (goodIn_of _ (by decide +kernel)) ggX6_hear_X6_learn
set_option maxRecDepth 20000 in
theorem ggX6_hear_X4_noteHeard : GoodIn wsX6_hear wsX4_noteHeard := goodIn_r _ [158, 159, 160, 173, 174, 175, 176, 177, 178] (by decide +kernel) (by decide +kernel)
set_option maxRecDepth 20000 in
theorem gX6_hear_X4_noteHeard : GoodIn wsX6_hear (wsV RX6 108 RX4 yX4_noteHeard wsX4_noteHeard) := goodIn_app (goodIn_of _ (by decide +kernel)) ggX6_hear_X4_noteHeard
theorem dX6_hear_0 : decode cX6_hear 0 = .ok (.iload_n 1, 1) := by decide +kernel
theorem dX6_hear_1 : decode cX6_hear 1 = .ok (.invokestatic 79, 3) := by decide +kernel
theorem dX6_hear_4 : decode cX6_hear 4 = .ok (.ifCond .eq 15, 3) := by decide +kernel
theorem dX6_hear_7 : decode cX6_hear 7 = .ok (.aload_n 0, 1) := by decide +kernel
theorem dX6_hear_8 : decode cX6_hear 8 = .ok (.getfield 22, 3) := by decide +kernel
theorem dX6_hear_11 : decode cX6_hear 11 = .ok (.iload_n 1, 1) := by decide +kernel
theorem dX6_hear_12 : decode cX6_hear 12 = .ok (.aaload, 1) := by decide +kernel
theorem dX6_hear_13 : decode cX6_hear 13 = .ok (.invokevirtual 83, 3) := by decide +kernel
theorem dX6_hear_16 : decode cX6_hear 16 = .ok (.ifCond .ne 5, 3) := by decide +kernel
theorem dX6_hear_19 : decode cX6_hear 19 = .ok (.iconst (-1), 1) := by decide +kernel
theorem dX6_hear_20 : decode cX6_hear 20 = .ok (.ireturn, 1) := by decide +kernel
theorem dX6_hear_21 : decode cX6_hear 21 = .ok (.aload_n 0, 1) := by decide +kernel
theorem dX6_hear_22 : decode cX6_hear 22 = .ok (.getfield 36, 3) := by decide +kernel
theorem dX6_hear_25 : decode cX6_hear 25 = .ok (.aload_n 0, 1) := by decide +kernel
theorem dX6_hear_26 : decode cX6_hear 26 = .ok (.getfield 9, 3) := by decide +kernel
theorem dX6_hear_29 : decode cX6_hear 29 = .ok (.aload_n 0, 1) := by decide +kernel
theorem dX6_hear_30 : decode cX6_hear 30 = .ok (.getfield 65, 3) := by decide +kernel
theorem dX6_hear_33 : decode cX6_hear 33 = .ok (.invokevirtual 100, 3) := by decide +kernel
theorem dX6_hear_36 : decode cX6_hear 36 = .ok (.istore_n 2, 1) := by decide +kernel
theorem dX6_hear_37 : decode cX6_hear 37 = .ok (.aload_n 0, 1) := by decide +kernel
theorem dX6_hear_38 : decode cX6_hear 38 = .ok (.iconst 0, 1) := by decide +kernel
theorem dX6_hear_39 : decode cX6_hear 39 = .ok (.putfield 65, 3) := by decide +kernel
theorem dX6_hear_42 : decode cX6_hear 42 = .ok (.iload_n 2, 1) := by decide +kernel
theorem dX6_hear_43 : decode cX6_hear 43 = .ok (.ifCond .ne 9, 3) := by decide +kernel
theorem dX6_hear_46 : decode cX6_hear 46 = .ok (.aload_n 0, 1) := by decide +kernel
theorem dX6_hear_47 : decode cX6_hear 47 = .ok (.iload_n 1, 1) := by decide +kernel
theorem dX6_hear_48 : decode cX6_hear 48 = .ok (.invokevirtual 104, 3) := by decide +kernel
theorem dX6_hear_51 : decode cX6_hear 51 = .ok (.istore_n 2, 1) := by decide +kernel
theorem dX6_hear_52 : decode cX6_hear 52 = .ok (.aload_n 0, 1) := by decide +kernel
theorem dX6_hear_53 : decode cX6_hear 53 = .ok (.getfield 22, 3) := by decide +kernel
theorem dX6_hear_56 : decode cX6_hear 56 = .ok (.iload_n 1, 1) := by decide +kernel
theorem dX6_hear_57 : decode cX6_hear 57 = .ok (.aaload, 1) := by decide +kernel
theorem dX6_hear_58 : decode cX6_hear 58 = .ok (.iload_n 2, 1) := by decide +kernel
theorem dX6_hear_59 : decode cX6_hear 59 = .ok (.ifCond .ne 7, 3) := by decide +kernel
theorem dX6_hear_62 : decode cX6_hear 62 = .ok (.iconst 1, 1) := by decide +kernel
theorem dX6_hear_63 : decode cX6_hear 63 = .ok (.goto 4, 3) := by decide +kernel
theorem dX6_hear_66 : decode cX6_hear 66 = .ok (.iconst 0, 1) := by decide +kernel
theorem dX6_hear_67 : decode cX6_hear 67 = .ok (.invokevirtual 108, 3) := by decide +kernel
theorem dX6_hear_70 : decode cX6_hear 70 = .ok (.aload_n 0, 1) := by decide +kernel
theorem dX6_hear_71 : decode cX6_hear 71 = .ok (.iload_n 2, 1) := by decide +kernel
theorem dX6_hear_72 : decode cX6_hear 72 = .ok (.putfield 112, 3) := by decide +kernel
theorem dX6_hear_75 : decode cX6_hear 75 = .ok (.iload_n 2, 1) := by decide +kernel
theorem dX6_hear_76 : decode cX6_hear 76 = .ok (.ireturn, 1) := by decide +kernel
set_option maxRecDepth 20000 in
theorem ggX6_tick_X3_passTick : GoodIn wsX6_tick wsX3_passTick := goodIn_r _ [18, 19, 20, 21, 22, 23, 24, 25, 26, 27, 28, 29, 17, 30, 31, 32, 33, 34, 95, 96, 97, 98, 99, 100] (by decide +kernel) (by decide +kernel)
set_option maxRecDepth 20000 in
theorem gX6_tick_X3_passTick : GoodIn wsX6_tick (wsV RX6 119 RX3 yX3_passTick wsX3_passTick) := goodIn_app (goodIn_of _ (by decide +kernel)) ggX6_tick_X3_passTick
set_option maxRecDepth 20000 in
theorem ggX6_tick_X4_passTick : GoodIn wsX6_tick wsX4_passTick := goodIn_r _ [39, 40, 41, 42, 43, 101, 102, 103, 104, 105, 106] (by decide +kernel) (by decide +kernel)
set_option maxRecDepth 20000 in
theorem gX6_tick_X4_passTick : GoodIn wsX6_tick (wsV RX6 122 RX4 yX4_passTick wsX4_passTick) := goodIn_app (goodIn_of _ (by decide +kernel)) ggX6_tick_X4_passTick
set_option maxRecDepth 20000 in
theorem ggX6_tick_X5_write : GoodIn wsX6_tick wsX5_write := goodIn_r _ [48, 49, 50, 51, 52, 53, 54, 55, 56, 57, 58, 59, 47, 60, 61, 62, 63, 64, 65, 66, 67, 68, 69, 70, 71, 72, 73, 74, 75, 76, 77, 78, 79, 80, 81, 82, 107, 108, 109, 110, 111] (by decide +kernel) (by decide +kernel)
set_option maxRecDepth 20000 in
theorem gX6_tick_X5_write : GoodIn wsX6_tick (wsV RX6 93 RX5 yX5_write wsX5_write) := goodIn_app (goodIn_of _ (by decide +kernel)) ggX6_tick_X5_write
theorem dX6_tick_0 : decode cX6_tick 0 = .ok (.iload_n 1, 1) := by decide +kernel
theorem dX6_tick_1 : decode cX6_tick 1 = .ok (.iconst 1, 1) := by decide +kernel
theorem dX6_tick_2 : decode cX6_tick 2 = .ok (.if_icmp .lt 10, 3) := by decide +kernel
theorem dX6_tick_5 : decode cX6_tick 5 = .ok (.iload_n 1, 1) := by decide +kernel
theorem dX6_tick_6 : decode cX6_tick 6 = .ok (.sipush 5000, 3) := by decide +kernel
theorem dX6_tick_9 : decode cX6_tick 9 = .ok (.if_icmp .le 5, 3) := by decide +kernel
theorem dX6_tick_12 : decode cX6_tick 12 = .ok (.iconst (-1), 1) := by decide +kernel
theorem dX6_tick_13 : decode cX6_tick 13 = .ok (.ireturn, 1) := by decide +kernel
theorem dX6_tick_14 : decode cX6_tick 14 = .ok (.iconst 0, 1) := by decide +kernel
theorem dX6_tick_15 : decode cX6_tick 15 = .ok (.istore_n 2, 1) := by decide +kernel
theorem dX6_tick_16 : decode cX6_tick 16 = .ok (.iconst (-1), 1) := by decide +kernel
theorem dX6_tick_17 : decode cX6_tick 17 = .ok (.istore_n 3, 1) := by decide +kernel
theorem dX6_tick_18 : decode cX6_tick 18 = .ok (.iconst 0, 1) := by decide +kernel
theorem dX6_tick_19 : decode cX6_tick 19 = .ok (.istore 4, 2) := by decide +kernel
theorem dX6_tick_21 : decode cX6_tick 21 = .ok (.iload 4, 2) := by decide +kernel
theorem dX6_tick_23 : decode cX6_tick 23 = .ok (.iload_n 1, 1) := by decide +kernel
theorem dX6_tick_24 : decode cX6_tick 24 = .ok (.if_icmp .ge 67, 3) := by decide +kernel
theorem dX6_tick_27 : decode cX6_tick 27 = .ok (.aload_n 0, 1) := by decide +kernel
theorem dX6_tick_28 : decode cX6_tick 28 = .ok (.aload_n 0, 1) := by decide +kernel
theorem dX6_tick_29 : decode cX6_tick 29 = .ok (.getfield 115, 3) := by decide +kernel
theorem dX6_tick_32 : decode cX6_tick 32 = .ok (.iconst 1, 1) := by decide +kernel
theorem dX6_tick_33 : decode cX6_tick 33 = .ok (.iadd, 1) := by decide +kernel
theorem dX6_tick_34 : decode cX6_tick 34 = .ok (.ldc 118, 2) := by decide +kernel
theorem dX6_tick_36 : decode cX6_tick 36 = .ok (.iand, 1) := by decide +kernel
theorem dX6_tick_37 : decode cX6_tick 37 = .ok (.putfield 115, 3) := by decide +kernel
theorem dX6_tick_40 : decode cX6_tick 40 = .ok (.aload_n 0, 1) := by decide +kernel
theorem dX6_tick_41 : decode cX6_tick 41 = .ok (.getfield 29, 3) := by decide +kernel
theorem dX6_tick_44 : decode cX6_tick 44 = .ok (.invokevirtual 119, 3) := by decide +kernel
theorem dX6_tick_47 : decode cX6_tick 47 = .ok (.iconst 0, 1) := by decide +kernel
theorem dX6_tick_48 : decode cX6_tick 48 = .ok (.istore 5, 2) := by decide +kernel
theorem dX6_tick_50 : decode cX6_tick 50 = .ok (.iload 5, 2) := by decide +kernel
theorem dX6_tick_52 : decode cX6_tick 52 = .ok (.iconst 4, 1) := by decide +kernel
theorem dX6_tick_53 : decode cX6_tick 53 = .ok (.if_icmp .ge 32, 3) := by decide +kernel
theorem dX6_tick_56 : decode cX6_tick 56 = .ok (.aload_n 0, 1) := by decide +kernel
theorem dX6_tick_57 : decode cX6_tick 57 = .ok (.getfield 22, 3) := by decide +kernel
theorem dX6_tick_60 : decode cX6_tick 60 = .ok (.iload 5, 2) := by decide +kernel
theorem dX6_tick_62 : decode cX6_tick 62 = .ok (.aaload, 1) := by decide +kernel
theorem dX6_tick_63 : decode cX6_tick 63 = .ok (.aload_n 0, 1) := by decide +kernel
theorem dX6_tick_64 : decode cX6_tick 64 = .ok (.getfield 47, 3) := by decide +kernel
theorem dX6_tick_67 : decode cX6_tick 67 = .ok (.invokevirtual 122, 3) := by decide +kernel
theorem dX6_tick_70 : decode cX6_tick 70 = .ok (.ifCond .eq 9, 3) := by decide +kernel
theorem dX6_tick_73 : decode cX6_tick 73 = .ok (.iinc 2 1, 3) := by decide +kernel
theorem dX6_tick_76 : decode cX6_tick 76 = .ok (.iload 5, 2) := by decide +kernel
theorem dX6_tick_78 : decode cX6_tick 78 = .ok (.istore_n 3, 1) := by decide +kernel
theorem dX6_tick_79 : decode cX6_tick 79 = .ok (.iinc 5 1, 3) := by decide +kernel
theorem dX6_tick_82 : decode cX6_tick 82 = .ok (.goto (-32), 3) := by decide +kernel
theorem dX6_tick_85 : decode cX6_tick 85 = .ok (.iinc 4 1, 3) := by decide +kernel
theorem dX6_tick_88 : decode cX6_tick 88 = .ok (.goto (-67), 3) := by decide +kernel
theorem dX6_tick_91 : decode cX6_tick 91 = .ok (.iload_n 3, 1) := by decide +kernel
theorem dX6_tick_92 : decode cX6_tick 92 = .ok (.iconst (-1), 1) := by decide +kernel
theorem dX6_tick_93 : decode cX6_tick 93 = .ok (.if_icmp .eq 31, 3) := by decide +kernel
theorem dX6_tick_96 : decode cX6_tick 96 = .ok (.aload_n 0, 1) := by decide +kernel
theorem dX6_tick_97 : decode cX6_tick 97 = .ok (.getfield 43, 3) := by decide +kernel
theorem dX6_tick_100 : decode cX6_tick 100 = .ok (.iload_n 3, 1) := by decide +kernel
theorem dX6_tick_101 : decode cX6_tick 101 = .ok (.aload_n 0, 1) := by decide +kernel
theorem dX6_tick_102 : decode cX6_tick 102 = .ok (.getfield 16, 3) := by decide +kernel
theorem dX6_tick_105 : decode cX6_tick 105 = .ok (.aload_n 0, 1) := by decide +kernel
theorem dX6_tick_106 : decode cX6_tick 106 = .ok (.getfield 47, 3) := by decide +kernel
theorem dX6_tick_109 : decode cX6_tick 109 = .ok (.aload_n 0, 1) := by decide +kernel
theorem dX6_tick_110 : decode cX6_tick 110 = .ok (.getfield 51, 3) := by decide +kernel
theorem dX6_tick_113 : decode cX6_tick 113 = .ok (.imul, 1) := by decide +kernel
theorem dX6_tick_114 : decode cX6_tick 114 = .ok (.iconst 1, 1) := by decide +kernel
theorem dX6_tick_115 : decode cX6_tick 115 = .ok (.iadd, 1) := by decide +kernel
theorem dX6_tick_116 : decode cX6_tick 116 = .ok (.ldc 124, 2) := by decide +kernel
theorem dX6_tick_118 : decode cX6_tick 118 = .ok (.invokestatic 125, 3) := by decide +kernel
theorem dX6_tick_121 : decode cX6_tick 121 = .ok (.invokevirtual 93, 3) := by decide +kernel
theorem dX6_tick_124 : decode cX6_tick 124 = .ok (.iload_n 2, 1) := by decide +kernel
theorem dX6_tick_125 : decode cX6_tick 125 = .ok (.ireturn, 1) := by decide +kernel
set_option maxRecDepth 20000 in
theorem ggX6_about_X6_isPort : GoodIn wsX6_about wsX6_isPort := goodIn_r _ [6] (by decide +kernel) (by decide +kernel)
set_option maxRecDepth 20000 in
theorem gX6_about_X6_isPort : GoodIn wsX6_about (va_wsS RX6 79 yX6_isPort wsX6_isPort) := goodIn_app (goodIn_of _ (by decide +kernel)) ggX6_about_X6_isPort
set_option maxRecDepth 20000 in
theorem ggX6_about_X3_sizeAt : GoodIn wsX6_about wsX3_sizeAt := goodIn_r _ [11, 12, 13, 14, 15, 16, 17, 18, 19, 43, 44, 45, 46, 47, 48] (by decide +kernel) (by decide +kernel)
set_option maxRecDepth 20000 in
theorem gX6_about_X3_sizeAt : GoodIn wsX6_about (wsV RX6 131 RX3 yX3_sizeAt wsX3_sizeAt) := goodIn_app (goodIn_of _ (by decide +kernel)) ggX6_about_X3_sizeAt
set_option maxRecDepth 20000 in
theorem ggX6_about_X4_tellAbout : GoodIn wsX6_about wsX4_tellAbout := goodIn_r _ [24, 25, 26, 27, 28, 29, 30, 49, 50, 51, 52, 53, 54] (by decide +kernel) (by decide +kernel)
set_option maxRecDepth 20000 in
theorem gX6_about_X4_tellAbout : GoodIn wsX6_about (wsV RX6 134 RX4 yX4_tellAbout wsX4_tellAbout) := goodIn_app (goodIn_of _ (by decide +kernel)) ggX6_about_X4_tellAbout
theorem dX6_about_0 : decode cX6_about 0 = .ok (.iload_n 1, 1) := by decide +kernel
theorem dX6_about_1 : decode cX6_about 1 = .ok (.invokestatic 79, 3) := by decide +kernel
theorem dX6_about_4 : decode cX6_about 4 = .ok (.ifCond .ne 5, 3) := by decide +kernel
theorem dX6_about_7 : decode cX6_about 7 = .ok (.iconst (-1), 1) := by decide +kernel
theorem dX6_about_8 : decode cX6_about 8 = .ok (.ireturn, 1) := by decide +kernel
theorem dX6_about_9 : decode cX6_about 9 = .ok (.iload_n 2, 1) := by decide +kernel
theorem dX6_about_10 : decode cX6_about 10 = .ok (.iconst 4, 1) := by decide +kernel
theorem dX6_about_11 : decode cX6_about 11 = .ok (.if_icmp .ne 12, 3) := by decide +kernel
theorem dX6_about_14 : decode cX6_about 14 = .ok (.aload_n 0, 1) := by decide +kernel
theorem dX6_about_15 : decode cX6_about 15 = .ok (.getfield 29, 3) := by decide +kernel
theorem dX6_about_18 : decode cX6_about 18 = .ok (.iload_n 1, 1) := by decide +kernel
theorem dX6_about_19 : decode cX6_about 19 = .ok (.invokevirtual 131, 3) := by decide +kernel
theorem dX6_about_22 : decode cX6_about 22 = .ok (.ireturn, 1) := by decide +kernel
theorem dX6_about_23 : decode cX6_about 23 = .ok (.aload_n 0, 1) := by decide +kernel
theorem dX6_about_24 : decode cX6_about 24 = .ok (.getfield 22, 3) := by decide +kernel
theorem dX6_about_27 : decode cX6_about 27 = .ok (.iload_n 1, 1) := by decide +kernel
theorem dX6_about_28 : decode cX6_about 28 = .ok (.aaload, 1) := by decide +kernel
theorem dX6_about_29 : decode cX6_about 29 = .ok (.iload_n 2, 1) := by decide +kernel
theorem dX6_about_30 : decode cX6_about 30 = .ok (.invokevirtual 134, 3) := by decide +kernel
theorem dX6_about_33 : decode cX6_about 33 = .ok (.ireturn, 1) := by decide +kernel
set_option maxRecDepth 20000 in
theorem ggX6_count_X3_size : GoodIn wsX6_count wsX3_size := goodIn_r _ [10, 11, 35, 36] (by decide +kernel) (by decide +kernel)
set_option maxRecDepth 20000 in
theorem gX6_count_X3_size : GoodIn wsX6_count (wsV RX6 137 RX3 yX3_size wsX3_size) := goodIn_app (goodIn_of _ (by decide +kernel)) ggX6_count_X3_size
set_option maxRecDepth 20000 in
theorem ggX6_count_X5_portOf : GoodIn wsX6_count wsX5_portOf := goodIn_r _ [16, 17, 37, 38, 39] (by decide +kernel) (by decide +kernel)
set_option maxRecDepth 20000 in
theorem gX6_count_X5_portOf : GoodIn wsX6_count (wsV RX6 141 RX5 yX5_portOf wsX5_portOf) := goodIn_app (goodIn_of _ (by decide +kernel)) ggX6_count_X5_portOf
set_option maxRecDepth 20000 in
theorem ggX6_count_X5_length : GoodIn wsX6_count wsX5_length := goodIn_r _ [21, 22, 37, 38, 39] (by decide +kernel) (by decide +kernel)
set_option maxRecDepth 20000 in
theorem gX6_count_X5_length : GoodIn wsX6_count (wsV RX6 144 RX5 yX5_length wsX5_length) := goodIn_app (goodIn_of _ (by decide +kernel)) ggX6_count_X5_length
theorem dX6_count_0 : decode cX6_count 0 = .ok (.iload_n 1, 1) := by decide +kernel
theorem dX6_count_1 : decode cX6_count 1 = .ok (.tableswitch 78 0 5 #[39, 47, 52, 57, 62, 70], 39) := by decide +kernel
theorem dX6_count_40 : decode cX6_count 40 = .ok (.aload_n 0, 1) := by decide +kernel
theorem dX6_count_41 : decode cX6_count 41 = .ok (.getfield 29, 3) := by decide +kernel
theorem dX6_count_44 : decode cX6_count 44 = .ok (.invokevirtual 137, 3) := by decide +kernel
theorem dX6_count_47 : decode cX6_count 47 = .ok (.ireturn, 1) := by decide +kernel
theorem dX6_count_48 : decode cX6_count 48 = .ok (.aload_n 0, 1) := by decide +kernel
theorem dX6_count_49 : decode cX6_count 49 = .ok (.getfield 115, 3) := by decide +kernel
theorem dX6_count_52 : decode cX6_count 52 = .ok (.ireturn, 1) := by decide +kernel
theorem dX6_count_53 : decode cX6_count 53 = .ok (.aload_n 0, 1) := by decide +kernel
theorem dX6_count_54 : decode cX6_count 54 = .ok (.getfield 112, 3) := by decide +kernel
theorem dX6_count_57 : decode cX6_count 57 = .ok (.ireturn, 1) := by decide +kernel
theorem dX6_count_58 : decode cX6_count 58 = .ok (.aload_n 0, 1) := by decide +kernel
theorem dX6_count_59 : decode cX6_count 59 = .ok (.getfield 65, 3) := by decide +kernel
theorem dX6_count_62 : decode cX6_count 62 = .ok (.ireturn, 1) := by decide +kernel
theorem dX6_count_63 : decode cX6_count 63 = .ok (.aload_n 0, 1) := by decide +kernel
theorem dX6_count_64 : decode cX6_count 64 = .ok (.getfield 43, 3) := by decide +kernel
theorem dX6_count_67 : decode cX6_count 67 = .ok (.invokevirtual 141, 3) := by decide +kernel
theorem dX6_count_70 : decode cX6_count 70 = .ok (.ireturn, 1) := by decide +kernel
theorem dX6_count_71 : decode cX6_count 71 = .ok (.aload_n 0, 1) := by decide +kernel
theorem dX6_count_72 : decode cX6_count 72 = .ok (.getfield 43, 3) := by decide +kernel
theorem dX6_count_75 : decode cX6_count 75 = .ok (.invokevirtual 144, 3) := by decide +kernel
theorem dX6_count_78 : decode cX6_count 78 = .ok (.ireturn, 1) := by decide +kernel
theorem dX6_count_79 : decode cX6_count 79 = .ok (.iconst (-1), 1) := by decide +kernel
theorem dX6_count_80 : decode cX6_count 80 = .ok (.ireturn, 1) := by decide +kernel
set_option maxRecDepth 20000 in
theorem ggX6_sent_X5_byteAt : GoodIn wsX6_sent wsX5_byteAt := goodIn_r _ [6, 7, 8, 21, 22, 23] (by decide +kernel) (by decide +kernel)
set_option maxRecDepth 20000 in
theorem gX6_sent_X5_byteAt : GoodIn wsX6_sent (wsV RX6 147 RX5 yX5_byteAt wsX5_byteAt) := goodIn_app (goodIn_of _ (by decide +kernel)) ggX6_sent_X5_byteAt
theorem dX6_sent_0 : decode cX6_sent 0 = .ok (.aload_n 0, 1) := by decide +kernel
theorem dX6_sent_1 : decode cX6_sent 1 = .ok (.getfield 43, 3) := by decide +kernel
theorem dX6_sent_4 : decode cX6_sent 4 = .ok (.iload_n 1, 1) := by decide +kernel
theorem dX6_sent_5 : decode cX6_sent 5 = .ok (.invokevirtual 147, 3) := by decide +kernel
theorem dX6_sent_8 : decode cX6_sent 8 = .ok (.ireturn, 1) := by decide +kernel
set_option maxRecDepth 20000 in
theorem ggX6_neighbor_X3_has : GoodIn wsX6_neighbor wsX3_has := goodIn_r _ [6, 7, 48, 49] (by decide +kernel) (by decide +kernel)
set_option maxRecDepth 20000 in
theorem gX6_neighbor_X3_has : GoodIn wsX6_neighbor (wsV RX6 150 RX3 yX3_has wsX3_has) := goodIn_app (goodIn_of _ (by decide +kernel)) ggX6_neighbor_X3_has
set_option maxRecDepth 20000 in
theorem ggX6_neighbor_X3_at : GoodIn wsX6_neighbor wsX3_at := goodIn_r _ [11, 12, 48, 49] (by decide +kernel) (by decide +kernel)
set_option maxRecDepth 20000 in
theorem gX6_neighbor_X3_at : GoodIn wsX6_neighbor (wsV RX6 153 RX3 yX3_at wsX3_at) := goodIn_app (goodIn_of _ (by decide +kernel)) ggX6_neighbor_X3_at
set_option maxRecDepth 20000 in
theorem ggX6_neighbor_X2_tellAbout : GoodIn wsX6_neighbor wsX2_tellAbout := goodIn_r _ [17, 18, 19, 20, 21, 22, 23, 24, 25, 26, 27, 28, 29, 30, 31, 32, 33, 34, 35, 50, 51, 52, 53, 54, 55] (by decide +kernel) (by decide +kernel)
set_option maxRecDepth 20000 in
theorem gX6_neighbor_X2_tellAbout : GoodIn wsX6_neighbor (wsV RX6 157 RX2 yX2_tellAbout wsX2_tellAbout) := goodIn_app (goodIn_of _ (by decide +kernel)) ggX6_neighbor_X2_tellAbout
theorem dX6_neighbor_0 : decode cX6_neighbor 0 = .ok (.aload_n 0, 1) := by decide +kernel
theorem dX6_neighbor_1 : decode cX6_neighbor 1 = .ok (.getfield 29, 3) := by decide +kernel
theorem dX6_neighbor_4 : decode cX6_neighbor 4 = .ok (.iload_n 1, 1) := by decide +kernel
theorem dX6_neighbor_5 : decode cX6_neighbor 5 = .ok (.invokevirtual 150, 3) := by decide +kernel
theorem dX6_neighbor_8 : decode cX6_neighbor 8 = .ok (.ifCond .ne 5, 3) := by decide +kernel
theorem dX6_neighbor_11 : decode cX6_neighbor 11 = .ok (.iconst (-1), 1) := by decide +kernel
theorem dX6_neighbor_12 : decode cX6_neighbor 12 = .ok (.ireturn, 1) := by decide +kernel
theorem dX6_neighbor_13 : decode cX6_neighbor 13 = .ok (.aload_n 0, 1) := by decide +kernel
theorem dX6_neighbor_14 : decode cX6_neighbor 14 = .ok (.getfield 29, 3) := by decide +kernel
theorem dX6_neighbor_17 : decode cX6_neighbor 17 = .ok (.iload_n 1, 1) := by decide +kernel
theorem dX6_neighbor_18 : decode cX6_neighbor 18 = .ok (.invokevirtual 153, 3) := by decide +kernel
theorem dX6_neighbor_21 : decode cX6_neighbor 21 = .ok (.iload_n 2, 1) := by decide +kernel
theorem dX6_neighbor_22 : decode cX6_neighbor 22 = .ok (.invokevirtual 157, 3) := by decide +kernel
theorem dX6_neighbor_25 : decode cX6_neighbor 25 = .ok (.ireturn, 1) := by decide +kernel
set_option maxRecDepth 20000 in
theorem ggX6_content_X3_has : GoodIn wsX6_content wsX3_has := goodIn_r _ [6, 7, 46, 47] (by decide +kernel) (by decide +kernel)
set_option maxRecDepth 20000 in
theorem gX6_content_X3_has : GoodIn wsX6_content (wsV RX6 150 RX3 yX3_has wsX3_has) := goodIn_app (goodIn_of _ (by decide +kernel)) ggX6_content_X3_has
set_option maxRecDepth 20000 in
theorem ggX6_content_X3_at : GoodIn wsX6_content wsX3_at := goodIn_r _ [11, 12, 46, 47] (by decide +kernel) (by decide +kernel)
set_option maxRecDepth 20000 in
theorem gX6_content_X3_at : GoodIn wsX6_content (wsV RX6 153 RX3 yX3_at wsX3_at) := goodIn_app (goodIn_of _ (by decide +kernel)) ggX6_content_X3_at
set_option maxRecDepth 20000 in
theorem ggX6_content_X2_contents : GoodIn wsX6_content wsX2_contents := goodIn_r _ [17, 18, 48, 49, 50, 51] (by decide +kernel) (by decide +kernel)
set_option maxRecDepth 20000 in
theorem gX6_content_X2_contents : GoodIn wsX6_content (wsV RX6 160 RX2 yX2_contents wsX2_contents) := goodIn_app (goodIn_of _ (by decide +kernel)) ggX6_content_X2_contents
set_option maxRecDepth 20000 in
theorem ggX6_content_X0_sizeOf : GoodIn wsX6_content wsX0_sizeOf := goodIn_r _ [23, 24, 52, 53] (by decide +kernel) (by decide +kernel)
set_option maxRecDepth 20000 in
theorem gX6_content_X0_sizeOf : GoodIn wsX6_content (wsV RX6 164 RX0 yX0_sizeOf wsX0_sizeOf) := goodIn_app (goodIn_of _ (by decide +kernel)) ggX6_content_X0_sizeOf
set_option maxRecDepth 20000 in
theorem ggX6_content_X0_byteAt : GoodIn wsX6_content wsX0_byteAt := goodIn_r _ [28, 29, 30, 20, 21, 22, 23, 24, 31, 32, 33, 52, 53] (by decide +kernel) (by decide +kernel)
set_option maxRecDepth 20000 in
theorem gX6_content_X0_byteAt : GoodIn wsX6_content (wsV RX6 167 RX0 yX0_byteAt wsX0_byteAt) := goodIn_app (goodIn_of _ (by decide +kernel)) ggX6_content_X0_byteAt
theorem dX6_content_0 : decode cX6_content 0 = .ok (.aload_n 0, 1) := by decide +kernel
theorem dX6_content_1 : decode cX6_content 1 = .ok (.getfield 29, 3) := by decide +kernel
theorem dX6_content_4 : decode cX6_content 4 = .ok (.iload_n 1, 1) := by decide +kernel
theorem dX6_content_5 : decode cX6_content 5 = .ok (.invokevirtual 150, 3) := by decide +kernel
theorem dX6_content_8 : decode cX6_content 8 = .ok (.ifCond .ne 5, 3) := by decide +kernel
theorem dX6_content_11 : decode cX6_content 11 = .ok (.iconst (-1), 1) := by decide +kernel
theorem dX6_content_12 : decode cX6_content 12 = .ok (.ireturn, 1) := by decide +kernel
theorem dX6_content_13 : decode cX6_content 13 = .ok (.aload_n 0, 1) := by decide +kernel
theorem dX6_content_14 : decode cX6_content 14 = .ok (.getfield 29, 3) := by decide +kernel
theorem dX6_content_17 : decode cX6_content 17 = .ok (.iload_n 1, 1) := by decide +kernel
theorem dX6_content_18 : decode cX6_content 18 = .ok (.invokevirtual 153, 3) := by decide +kernel
theorem dX6_content_21 : decode cX6_content 21 = .ok (.invokevirtual 160, 3) := by decide +kernel
theorem dX6_content_24 : decode cX6_content 24 = .ok (.astore 4, 2) := by decide +kernel
theorem dX6_content_26 : decode cX6_content 26 = .ok (.iload_n 3, 1) := by decide +kernel
theorem dX6_content_27 : decode cX6_content 27 = .ok (.iconst (-1), 1) := by decide +kernel
theorem dX6_content_28 : decode cX6_content 28 = .ok (.if_icmp .ne 12, 3) := by decide +kernel
theorem dX6_content_31 : decode cX6_content 31 = .ok (.aload 4, 2) := by decide +kernel
theorem dX6_content_33 : decode cX6_content 33 = .ok (.iload_n 2, 1) := by decide +kernel
theorem dX6_content_34 : decode cX6_content 34 = .ok (.invokevirtual 164, 3) := by decide +kernel
theorem dX6_content_37 : decode cX6_content 37 = .ok (.goto 10, 3) := by decide +kernel
theorem dX6_content_40 : decode cX6_content 40 = .ok (.aload 4, 2) := by decide +kernel
theorem dX6_content_42 : decode cX6_content 42 = .ok (.iload_n 2, 1) := by decide +kernel
theorem dX6_content_43 : decode cX6_content 43 = .ok (.iload_n 3, 1) := by decide +kernel
theorem dX6_content_44 : decode cX6_content 44 = .ok (.invokevirtual 167, 3) := by decide +kernel
theorem dX6_content_47 : decode cX6_content 47 = .ok (.ireturn, 1) := by decide +kernel
set_option maxRecDepth 20000 in
theorem ggX6_check_X3_size : GoodIn wsX6_check wsX3_size := goodIn_r _ [7, 8, 71, 72] (by decide +kernel) (by decide +kernel)
set_option maxRecDepth 20000 in
theorem gX6_check_X3_size : GoodIn wsX6_check (wsV RX6 137 RX3 yX3_size wsX3_size) := goodIn_app (goodIn_of _ (by decide +kernel)) ggX6_check_X3_size
set_option maxRecDepth 20000 in
theorem ggX6_check_X3_at : GoodIn wsX6_check wsX3_at := goodIn_r _ [12, 13, 71, 72] (by decide +kernel) (by decide +kernel)
set_option maxRecDepth 20000 in
theorem gX6_check_X3_at : GoodIn wsX6_check (wsV RX6 153 RX3 yX3_at wsX3_at) := goodIn_app (goodIn_of _ (by decide +kernel)) ggX6_check_X3_at
set_option maxRecDepth 20000 in
theorem ggX6_check_X2_portOf : GoodIn wsX6_check wsX2_portOf := goodIn_r _ [18, 19, 73, 74, 75, 76] (by decide +kernel) (by decide +kernel)
set_option maxRecDepth 20000 in
theorem gX6_check_X2_portOf : GoodIn wsX6_check (wsV RX6 169 RX2 yX2_portOf wsX2_portOf) := goodIn_app (goodIn_of _ (by decide +kernel)) ggX6_check_X2_portOf
set_option maxRecDepth 20000 in
theorem ggX6_check_X6_isPort : GoodIn wsX6_check wsX6_isPort := goodIn_r _ [23] (by decide +kernel) (by decide +kernel)
set_option maxRecDepth 20000 in
theorem gX6_check_X6_isPort : GoodIn wsX6_check (va_wsS RX6 79 yX6_isPort wsX6_isPort) := goodIn_app (goodIn_of _ (by decide +kernel)) ggX6_check_X6_isPort
set_option maxRecDepth 20000 in
theorem ggX6_check_X4_isUp : GoodIn wsX6_check wsX4_isUp := goodIn_r _ [28, 29, 77, 78, 79, 80, 81, 82] (by decide +kernel) (by decide +kernel)
set_option maxRecDepth 20000 in
theorem gX6_check_X4_isUp : GoodIn wsX6_check (wsV RX6 83 RX4 yX4_isUp wsX4_isUp) := goodIn_app (goodIn_of _ (by decide +kernel)) ggX6_check_X4_isUp
set_option maxRecDepth 20000 in
theorem ggX6_check_X2_contents : GoodIn wsX6_check wsX2_contents := goodIn_r _ [33, 34, 73, 74, 75, 76] (by decide +kernel) (by decide +kernel)
set_option maxRecDepth 20000 in
theorem gX6_check_X2_contents : GoodIn wsX6_check (wsV RX6 160 RX2 yX2_contents wsX2_contents) := goodIn_app (goodIn_of _ (by decide +kernel)) ggX6_check_X2_contents
set_option maxRecDepth 20000 in
theorem ggX6_check_X3_find : GoodIn wsX6_check wsX3_find := goodIn_r _ [38, 8, 13, 39, 15, 16, 17, 18, 19, 40, 31, 32, 33, 34, 41, 42, 43, 44, 45, 46, 47, 48, 49, 50, 51, 52, 53, 54, 55, 56, 57, 58, 71, 72, 73, 74, 75, 76, 83, 84] (by decide +kernel) (by decide +kernel)
set_option maxRecDepth 20000 in
theorem gX6_check_X3_find : GoodIn wsX6_check (wsV RX6 170 RX3 yX3_find wsX3_find) := goodIn_app (goodIn_of _ (by decide +kernel)) ggX6_check_X3_find
theorem dX6_check_0 : decode cX6_check 0 = .ok (.iconst 0, 1) := by decide +kernel
theorem dX6_check_1 : decode cX6_check 1 = .ok (.istore_n 1, 1) := by decide +kernel
theorem dX6_check_2 : decode cX6_check 2 = .ok (.iload_n 1, 1) := by decide +kernel
theorem dX6_check_3 : decode cX6_check 3 = .ok (.aload_n 0, 1) := by decide +kernel
theorem dX6_check_4 : decode cX6_check 4 = .ok (.getfield 29, 3) := by decide +kernel
theorem dX6_check_7 : decode cX6_check 7 = .ok (.invokevirtual 137, 3) := by decide +kernel
theorem dX6_check_10 : decode cX6_check 10 = .ok (.if_icmp .ge 65, 3) := by decide +kernel
theorem dX6_check_13 : decode cX6_check 13 = .ok (.aload_n 0, 1) := by decide +kernel
theorem dX6_check_14 : decode cX6_check 14 = .ok (.getfield 29, 3) := by decide +kernel
theorem dX6_check_17 : decode cX6_check 17 = .ok (.iload_n 1, 1) := by decide +kernel
theorem dX6_check_18 : decode cX6_check 18 = .ok (.invokevirtual 153, 3) := by decide +kernel
theorem dX6_check_21 : decode cX6_check 21 = .ok (.invokevirtual 169, 3) := by decide +kernel
theorem dX6_check_24 : decode cX6_check 24 = .ok (.istore_n 2, 1) := by decide +kernel
theorem dX6_check_25 : decode cX6_check 25 = .ok (.iload_n 2, 1) := by decide +kernel
theorem dX6_check_26 : decode cX6_check 26 = .ok (.invokestatic 79, 3) := by decide +kernel
theorem dX6_check_29 : decode cX6_check 29 = .ok (.ifCond .eq 38, 3) := by decide +kernel
theorem dX6_check_32 : decode cX6_check 32 = .ok (.aload_n 0, 1) := by decide +kernel
theorem dX6_check_33 : decode cX6_check 33 = .ok (.getfield 22, 3) := by decide +kernel
theorem dX6_check_36 : decode cX6_check 36 = .ok (.iload_n 2, 1) := by decide +kernel
theorem dX6_check_37 : decode cX6_check 37 = .ok (.aaload, 1) := by decide +kernel
theorem dX6_check_38 : decode cX6_check 38 = .ok (.invokevirtual 83, 3) := by decide +kernel
theorem dX6_check_41 : decode cX6_check 41 = .ok (.ifCond .eq 26, 3) := by decide +kernel
theorem dX6_check_44 : decode cX6_check 44 = .ok (.aload_n 0, 1) := by decide +kernel
theorem dX6_check_45 : decode cX6_check 45 = .ok (.getfield 29, 3) := by decide +kernel
theorem dX6_check_48 : decode cX6_check 48 = .ok (.iload_n 2, 1) := by decide +kernel
theorem dX6_check_49 : decode cX6_check 49 = .ok (.aload_n 0, 1) := by decide +kernel
theorem dX6_check_50 : decode cX6_check 50 = .ok (.getfield 29, 3) := by decide +kernel
theorem dX6_check_53 : decode cX6_check 53 = .ok (.iload_n 1, 1) := by decide +kernel
theorem dX6_check_54 : decode cX6_check 54 = .ok (.invokevirtual 153, 3) := by decide +kernel
theorem dX6_check_57 : decode cX6_check 57 = .ok (.invokevirtual 160, 3) := by decide +kernel
theorem dX6_check_60 : decode cX6_check 60 = .ok (.invokevirtual 170, 3) := by decide +kernel
theorem dX6_check_63 : decode cX6_check 63 = .ok (.iload_n 1, 1) := by decide +kernel
theorem dX6_check_64 : decode cX6_check 64 = .ok (.if_icmp .eq 5, 3) := by decide +kernel
theorem dX6_check_67 : decode cX6_check 67 = .ok (.iconst 0, 1) := by decide +kernel
theorem dX6_check_68 : decode cX6_check 68 = .ok (.ireturn, 1) := by decide +kernel
theorem dX6_check_69 : decode cX6_check 69 = .ok (.iinc 1 1, 3) := by decide +kernel
theorem dX6_check_72 : decode cX6_check 72 = .ok (.goto (-70), 3) := by decide +kernel
theorem dX6_check_75 : decode cX6_check 75 = .ok (.iconst 1, 1) := by decide +kernel
theorem dX6_check_76 : decode cX6_check 76 = .ok (.ireturn, 1) := by decide +kernel
theorem dX6_isPort_0 : decode cX6_isPort 0 = .ok (.iload_n 0, 1) := by decide +kernel
theorem dX6_isPort_1 : decode cX6_isPort 1 = .ok (.ifCond .lt 12, 3) := by decide +kernel
theorem dX6_isPort_4 : decode cX6_isPort 4 = .ok (.iload_n 0, 1) := by decide +kernel
theorem dX6_isPort_5 : decode cX6_isPort 5 = .ok (.iconst 4, 1) := by decide +kernel
theorem dX6_isPort_6 : decode cX6_isPort 6 = .ok (.if_icmp .ge 7, 3) := by decide +kernel
theorem dX6_isPort_9 : decode cX6_isPort 9 = .ok (.iconst 1, 1) := by decide +kernel
theorem dX6_isPort_10 : decode cX6_isPort 10 = .ok (.goto 4, 3) := by decide +kernel
theorem dX6_isPort_13 : decode cX6_isPort 13 = .ok (.iconst 0, 1) := by decide +kernel
theorem dX6_isPort_14 : decode cX6_isPort 14 = .ok (.ireturn, 1) := by decide +kernel
set_option maxRecDepth 20000 in
theorem ggX6_isTellable_X6_isMore : GoodIn wsX6_isTellable wsX6_isMore := goodIn_r _ [4] (by decide +kernel) (by decide +kernel)
set_option maxRecDepth 20000 in
theorem gX6_isTellable_X6_isMore : GoodIn wsX6_isTellable (va_wsS RX6 174 yX6_isMore wsX6_isMore) := goodIn_app (goodIn_of _ (by decide +kernel)) ggX6_isTellable_X6_isMore
theorem dX6_isTellable_0 : decode cX6_isTellable 0 = .ok (.iload_n 0, 1) := by decide +kernel
theorem dX6_isTellable_1 : decode cX6_isTellable 1 = .ok (.iconst 1, 1) := by decide +kernel
theorem dX6_isTellable_2 : decode cX6_isTellable 2 = .ok (.if_icmp .eq 8, 3) := by decide +kernel
theorem dX6_isTellable_5 : decode cX6_isTellable 5 = .ok (.iload_n 0, 1) := by decide +kernel
theorem dX6_isTellable_6 : decode cX6_isTellable 6 = .ok (.iconst 2, 1) := by decide +kernel
theorem dX6_isTellable_7 : decode cX6_isTellable 7 = .ok (.if_icmp .ne 20, 3) := by decide +kernel
theorem dX6_isTellable_10 : decode cX6_isTellable 10 = .ok (.iload_n 1, 1) := by decide +kernel
theorem dX6_isTellable_11 : decode cX6_isTellable 11 = .ok (.iconst 2, 1) := by decide +kernel
theorem dX6_isTellable_12 : decode cX6_isTellable 12 = .ok (.if_icmp .lt 13, 3) := by decide +kernel
theorem dX6_isTellable_15 : decode cX6_isTellable 15 = .ok (.iload_n 1, 1) := by decide +kernel
theorem dX6_isTellable_16 : decode cX6_isTellable 16 = .ok (.bipush 59, 2) := by decide +kernel
theorem dX6_isTellable_18 : decode cX6_isTellable 18 = .ok (.if_icmp .gt 7, 3) := by decide +kernel
theorem dX6_isTellable_21 : decode cX6_isTellable 21 = .ok (.iconst 1, 1) := by decide +kernel
theorem dX6_isTellable_22 : decode cX6_isTellable 22 = .ok (.goto 4, 3) := by decide +kernel
theorem dX6_isTellable_25 : decode cX6_isTellable 25 = .ok (.iconst 0, 1) := by decide +kernel
theorem dX6_isTellable_26 : decode cX6_isTellable 26 = .ok (.ireturn, 1) := by decide +kernel
theorem dX6_isTellable_27 : decode cX6_isTellable 27 = .ok (.iload_n 0, 1) := by decide +kernel
theorem dX6_isTellable_28 : decode cX6_isTellable 28 = .ok (.invokestatic 174, 3) := by decide +kernel
theorem dX6_isTellable_31 : decode cX6_isTellable 31 = .ok (.ifCond .eq 13, 3) := by decide +kernel
theorem dX6_isTellable_34 : decode cX6_isTellable 34 = .ok (.iload_n 1, 1) := by decide +kernel
theorem dX6_isTellable_35 : decode cX6_isTellable 35 = .ok (.bipush 60, 2) := by decide +kernel
theorem dX6_isTellable_37 : decode cX6_isTellable 37 = .ok (.if_icmp .gt 7, 3) := by decide +kernel
theorem dX6_isTellable_40 : decode cX6_isTellable 40 = .ok (.iconst 1, 1) := by decide +kernel
theorem dX6_isTellable_41 : decode cX6_isTellable 41 = .ok (.goto 4, 3) := by decide +kernel
theorem dX6_isTellable_44 : decode cX6_isTellable 44 = .ok (.iconst 0, 1) := by decide +kernel
theorem dX6_isTellable_45 : decode cX6_isTellable 45 = .ok (.ireturn, 1) := by decide +kernel
theorem dX6_isMore_0 : decode cX6_isMore 0 = .ok (.iload_n 0, 1) := by decide +kernel
theorem dX6_isMore_1 : decode cX6_isMore 1 = .ok (.iconst 4, 1) := by decide +kernel
theorem dX6_isMore_2 : decode cX6_isMore 2 = .ok (.if_icmp .lt 13, 3) := by decide +kernel
theorem dX6_isMore_5 : decode cX6_isMore 5 = .ok (.iload_n 0, 1) := by decide +kernel
theorem dX6_isMore_6 : decode cX6_isMore 6 = .ok (.bipush 8, 2) := by decide +kernel
theorem dX6_isMore_8 : decode cX6_isMore 8 = .ok (.if_icmp .gt 7, 3) := by decide +kernel
theorem dX6_isMore_11 : decode cX6_isMore 11 = .ok (.iconst 1, 1) := by decide +kernel
theorem dX6_isMore_12 : decode cX6_isMore 12 = .ok (.goto 4, 3) := by decide +kernel
theorem dX6_isMore_15 : decode cX6_isMore 15 = .ok (.iconst 0, 1) := by decide +kernel
theorem dX6_isMore_16 : decode cX6_isMore 16 = .ok (.ireturn, 1) := by decide +kernel
set_option maxRecDepth 20000 in
theorem ggX6_tellNothing_X0_has : GoodIn wsX6_tellNothing wsX0_has := goodIn_r _ [6, 7, 8, 9, 5, 10, 11, 42, 43] (by decide +kernel) (by decide +kernel)
set_option maxRecDepth 20000 in
theorem gX6_tellNothing_X0_has : GoodIn wsX6_tellNothing (wsV RX6 177 RX0 yX0_has wsX0_has) := goodIn_app (goodIn_of _ (by decide +kernel)) ggX6_tellNothing_X0_has
set_option maxRecDepth 20000 in
theorem ggX6_tellNothing_X0_drop : GoodIn wsX6_tellNothing wsX0_drop := goodIn_r _ [15, 11, 16, 3, 4, 5, 6, 7, 8, 9, 10, 42, 43] (by decide +kernel) (by decide +kernel)
set_option maxRecDepth 20000 in
theorem gX6_tellNothing_X0_drop : GoodIn wsX6_tellNothing (wsV RX6 178 RX0 yX0_drop wsX0_drop) := goodIn_app (goodIn_of _ (by decide +kernel)) ggX6_tellNothing_X0_drop
set_option maxRecDepth 20000 in
theorem ggX6_tellNothing_X6_hurryAll : GoodIn wsX6_tellNothing wsX6_hurryAll := goodIn_r _ [21, 22, 23, 24, 25, 26, 27, 28, 29, 30, 31, 32, 33, 34, 35, 36, 37, 38, 39, 40, 41, 44, 45, 46, 47, 48, 49] (by decide +kernel) (by decide +kernel)
set_option maxRecDepth 20000 in
theorem gX6_tellNothing_X6_hurryAll : GoodIn wsX6_tellNothing (wsV RX6 181 RX6 yX6_hurryAll wsX6_hurryAll) := goodIn_app (goodIn_of _ (by decide +kernel)) ggX6_tellNothing_X6_hurryAll
theorem dX6_tellNothing_0 : decode cX6_tellNothing 0 = .ok (.aload_n 0, 1) := by decide +kernel
theorem dX6_tellNothing_1 : decode cX6_tellNothing 1 = .ok (.getfield 16, 3) := by decide +kernel
theorem dX6_tellNothing_4 : decode cX6_tellNothing 4 = .ok (.iload_n 1, 1) := by decide +kernel
theorem dX6_tellNothing_5 : decode cX6_tellNothing 5 = .ok (.invokevirtual 177, 3) := by decide +kernel
theorem dX6_tellNothing_8 : decode cX6_tellNothing 8 = .ok (.ifCond .eq 15, 3) := by decide +kernel
theorem dX6_tellNothing_11 : decode cX6_tellNothing 11 = .ok (.aload_n 0, 1) := by decide +kernel
theorem dX6_tellNothing_12 : decode cX6_tellNothing 12 = .ok (.getfield 16, 3) := by decide +kernel
theorem dX6_tellNothing_15 : decode cX6_tellNothing 15 = .ok (.iload_n 1, 1) := by decide +kernel
theorem dX6_tellNothing_16 : decode cX6_tellNothing 16 = .ok (.invokevirtual 178, 3) := by decide +kernel
theorem dX6_tellNothing_19 : decode cX6_tellNothing 19 = .ok (.aload_n 0, 1) := by decide +kernel
theorem dX6_tellNothing_20 : decode cX6_tellNothing 20 = .ok (.invokevirtual 181, 3) := by decide +kernel
theorem dX6_tellNothing_23 : decode cX6_tellNothing 23 = .ok (.return_, 1) := by decide +kernel
set_option maxRecDepth 20000 in
theorem ggX6_tellTyped_X0_isSame : GoodIn wsX6_tellTyped wsX0_isSame := goodIn_r _ [8, 9, 10, 11, 12, 7, 13, 14, 15, 16, 17, 56, 57] (by decide +kernel) (by decide +kernel)
set_option maxRecDepth 20000 in
theorem gX6_tellTyped_X0_isSame : GoodIn wsX6_tellTyped (wsV RX6 184 RX0 yX0_isSame wsX0_isSame) := goodIn_app (goodIn_of _ (by decide +kernel)) ggX6_tellTyped_X0_isSame
set_option maxRecDepth 20000 in
theorem ggX6_tellTyped_X0_keep : GoodIn wsX6_tellTyped wsX0_keep := goodIn_r _ [21, 9, 22, 23, 24, 25, 14, 26, 27, 7, 28, 29, 30, 31, 15, 16, 17, 56, 57] (by decide +kernel) (by decide +kernel)
set_option maxRecDepth 20000 in
theorem gX6_tellTyped_X0_keep : GoodIn wsX6_tellTyped (wsV RX6 61 RX0 yX0_keep wsX0_keep) := goodIn_app (goodIn_of _ (by decide +kernel)) ggX6_tellTyped_X0_keep
set_option maxRecDepth 20000 in
theorem ggX6_tellTyped_X6_hurryAll : GoodIn wsX6_tellTyped wsX6_hurryAll := goodIn_r _ [35, 36, 37, 38, 39, 40, 41, 42, 43, 44, 45, 46, 47, 48, 49, 50, 51, 52, 53, 54, 55, 58, 59, 60, 61, 62, 63] (by decide +kernel) (by decide +kernel)
set_option maxRecDepth 20000 in
theorem gX6_tellTyped_X6_hurryAll : GoodIn wsX6_tellTyped (wsV RX6 181 RX6 yX6_hurryAll wsX6_hurryAll) := goodIn_app (goodIn_of _ (by decide +kernel)) ggX6_tellTyped_X6_hurryAll
theorem dX6_tellTyped_0 : decode cX6_tellTyped 0 = .ok (.aload_n 0, 1) := by decide +kernel
theorem dX6_tellTyped_1 : decode cX6_tellTyped 1 = .ok (.getfield 16, 3) := by decide +kernel
theorem dX6_tellTyped_4 : decode cX6_tellTyped 4 = .ok (.iload_n 1, 1) := by decide +kernel
theorem dX6_tellTyped_5 : decode cX6_tellTyped 5 = .ok (.aload_n 0, 1) := by decide +kernel
theorem dX6_tellTyped_6 : decode cX6_tellTyped 6 = .ok (.getfield 9, 3) := by decide +kernel
theorem dX6_tellTyped_9 : decode cX6_tellTyped 9 = .ok (.iconst 0, 1) := by decide +kernel
theorem dX6_tellTyped_10 : decode cX6_tellTyped 10 = .ok (.aload_n 0, 1) := by decide +kernel
theorem dX6_tellTyped_11 : decode cX6_tellTyped 11 = .ok (.getfield 65, 3) := by decide +kernel
theorem dX6_tellTyped_14 : decode cX6_tellTyped 14 = .ok (.invokevirtual 184, 3) := by decide +kernel
theorem dX6_tellTyped_17 : decode cX6_tellTyped 17 = .ok (.ifCond .ne 24, 3) := by decide +kernel
theorem dX6_tellTyped_20 : decode cX6_tellTyped 20 = .ok (.aload_n 0, 1) := by decide +kernel
theorem dX6_tellTyped_21 : decode cX6_tellTyped 21 = .ok (.getfield 16, 3) := by decide +kernel
theorem dX6_tellTyped_24 : decode cX6_tellTyped 24 = .ok (.iload_n 1, 1) := by decide +kernel
theorem dX6_tellTyped_25 : decode cX6_tellTyped 25 = .ok (.aload_n 0, 1) := by decide +kernel
theorem dX6_tellTyped_26 : decode cX6_tellTyped 26 = .ok (.getfield 9, 3) := by decide +kernel
theorem dX6_tellTyped_29 : decode cX6_tellTyped 29 = .ok (.iconst 0, 1) := by decide +kernel
theorem dX6_tellTyped_30 : decode cX6_tellTyped 30 = .ok (.aload_n 0, 1) := by decide +kernel
theorem dX6_tellTyped_31 : decode cX6_tellTyped 31 = .ok (.getfield 65, 3) := by decide +kernel
theorem dX6_tellTyped_34 : decode cX6_tellTyped 34 = .ok (.invokevirtual 61, 3) := by decide +kernel
theorem dX6_tellTyped_37 : decode cX6_tellTyped 37 = .ok (.aload_n 0, 1) := by decide +kernel
theorem dX6_tellTyped_38 : decode cX6_tellTyped 38 = .ok (.invokevirtual 181, 3) := by decide +kernel
theorem dX6_tellTyped_41 : decode cX6_tellTyped 41 = .ok (.return_, 1) := by decide +kernel
set_option maxRecDepth 20000 in
theorem ggX6_hurryAll_X4_hurry : GoodIn wsX6_hurryAll wsX4_hurry := goodIn_r _ [6, 7, 8, 21, 22, 23, 24, 25, 26] (by decide +kernel) (by decide +kernel)
set_option maxRecDepth 20000 in
theorem gX6_hurryAll_X4_hurry : GoodIn wsX6_hurryAll (wsV RX6 188 RX4 yX4_hurry wsX4_hurry) := goodIn_app (goodIn_of _ (by decide +kernel)) ggX6_hurryAll_X4_hurry
theorem dX6_hurryAll_0 : decode cX6_hurryAll 0 = .ok (.iconst 0, 1) := by decide +kernel
theorem dX6_hurryAll_1 : decode cX6_hurryAll 1 = .ok (.istore_n 1, 1) := by decide +kernel
theorem dX6_hurryAll_2 : decode cX6_hurryAll 2 = .ok (.iload_n 1, 1) := by decide +kernel
theorem dX6_hurryAll_3 : decode cX6_hurryAll 3 = .ok (.iconst 4, 1) := by decide +kernel
theorem dX6_hurryAll_4 : decode cX6_hurryAll 4 = .ok (.if_icmp .ge 18, 3) := by decide +kernel
theorem dX6_hurryAll_7 : decode cX6_hurryAll 7 = .ok (.aload_n 0, 1) := by decide +kernel
theorem dX6_hurryAll_8 : decode cX6_hurryAll 8 = .ok (.getfield 22, 3) := by decide +kernel
theorem dX6_hurryAll_11 : decode cX6_hurryAll 11 = .ok (.iload_n 1, 1) := by decide +kernel
theorem dX6_hurryAll_12 : decode cX6_hurryAll 12 = .ok (.aaload, 1) := by decide +kernel
theorem dX6_hurryAll_13 : decode cX6_hurryAll 13 = .ok (.invokevirtual 188, 3) := by decide +kernel
theorem dX6_hurryAll_16 : decode cX6_hurryAll 16 = .ok (.iinc 1 1, 3) := by decide +kernel
theorem dX6_hurryAll_19 : decode cX6_hurryAll 19 = .ok (.goto (-17), 3) := by decide +kernel
theorem dX6_hurryAll_22 : decode cX6_hurryAll 22 = .ok (.return_, 1) := by decide +kernel
set_option maxRecDepth 20000 in
theorem ggX6_learn_X1_contents : GoodIn wsX6_learn wsX1_contents := goodIn_r _ [9, 10, 105, 106] (by decide +kernel) (by decide +kernel)
set_option maxRecDepth 20000 in
theorem gX6_learn_X1_contents : GoodIn wsX6_learn (wsV RX6 191 RX1 yX1_contents wsX1_contents) := goodIn_app (goodIn_of _ (by decide +kernel)) ggX6_learn_X1_contents
set_option maxRecDepth 20000 in
theorem ggX6_learn_X3_find : GoodIn wsX6_learn wsX3_find := goodIn_r _ [15, 16, 17, 18, 19, 20, 21, 22, 23, 24, 25, 26, 27, 28, 29, 30, 31, 32, 33, 34, 35, 36, 37, 38, 39, 40, 41, 42, 43, 44, 45, 46, 107, 108, 109, 110, 111, 112, 113, 114] (by decide +kernel) (by decide +kernel)
set_option maxRecDepth 20000 in
theorem gX6_learn_X3_find : GoodIn wsX6_learn (wsV RX6 170 RX3 yX3_find wsX3_find) := goodIn_app (goodIn_of _ (by decide +kernel)) ggX6_learn_X3_find
set_option maxRecDepth 20000 in
theorem ggX6_learn_X1_held : GoodIn wsX6_learn wsX1_held := goodIn_r _ [50, 51, 105, 106] (by decide +kernel) (by decide +kernel)
set_option maxRecDepth 20000 in
theorem gX6_learn_X1_held : GoodIn wsX6_learn (wsV RX6 192 RX1 yX1_held wsX1_held) := goodIn_app (goodIn_of _ (by decide +kernel)) ggX6_learn_X1_held
set_option maxRecDepth 20000 in
theorem ggX6_learn_X3_forget : GoodIn wsX6_learn wsX3_forget := goodIn_r _ [55, 17, 16, 56, 57, 58, 14, 59, 107, 108] (by decide +kernel) (by decide +kernel)
set_option maxRecDepth 20000 in
theorem gX6_learn_X3_forget : GoodIn wsX6_learn (wsV RX6 195 RX3 yX3_forget wsX3_forget) := goodIn_app (goodIn_of _ (by decide +kernel)) ggX6_learn_X3_forget
set_option maxRecDepth 20000 in
theorem ggX6_learn_X3_add : GoodIn wsX6_learn wsX3_add := goodIn_r _ [63, 16, 17, 64, 65, 66, 21, 67, 23, 68, 107, 108, 109, 110, 111, 112] (by decide +kernel) (by decide +kernel)
set_option maxRecDepth 20000 in
theorem gX6_learn_X3_add : GoodIn wsX6_learn (wsV RX6 198 RX3 yX3_add wsX3_add) := goodIn_app (goodIn_of _ (by decide +kernel)) ggX6_learn_X3_add
set_option maxRecDepth 20000 in
theorem ggX6_learn_X4_greet : GoodIn wsX6_learn wsX4_greet := goodIn_r _ [73, 74, 75, 76, 77, 78, 79, 115, 116, 117, 118, 119, 120] (by decide +kernel) (by decide +kernel)
set_option maxRecDepth 20000 in
theorem gX6_learn_X4_greet : GoodIn wsX6_learn (wsV RX6 201 RX4 yX4_greet wsX4_greet) := goodIn_app (goodIn_of _ (by decide +kernel)) ggX6_learn_X4_greet
set_option maxRecDepth 20000 in
theorem ggX6_learn_X3_at : GoodIn wsX6_learn wsX3_at := goodIn_r _ [83, 17, 107, 108] (by decide +kernel) (by decide +kernel)
set_option maxRecDepth 20000 in
theorem gX6_learn_X3_at : GoodIn wsX6_learn (wsV RX6 153 RX3 yX3_at wsX3_at) := goodIn_app (goodIn_of _ (by decide +kernel)) ggX6_learn_X3_at
set_option maxRecDepth 20000 in
theorem ggX6_learn_X2_renew : GoodIn wsX6_learn wsX2_renew := goodIn_r _ [87, 28, 88, 68, 109, 110, 111, 112] (by decide +kernel) (by decide +kernel)
set_option maxRecDepth 20000 in
theorem gX6_learn_X2_renew : GoodIn wsX6_learn (wsV RX6 204 RX2 yX2_renew wsX2_renew) := goodIn_app (goodIn_of _ (by decide +kernel)) ggX6_learn_X2_renew
set_option maxRecDepth 20000 in
theorem ggX6_learn_X1_useNext : GoodIn wsX6_learn wsX1_useNext := goodIn_r _ [92, 10, 105, 106] (by decide +kernel) (by decide +kernel)
set_option maxRecDepth 20000 in
theorem gX6_learn_X1_useNext : GoodIn wsX6_learn (wsV RX6 208 RX1 yX1_useNext wsX1_useNext) := goodIn_app (goodIn_of _ (by decide +kernel)) ggX6_learn_X1_useNext
theorem dX6_learn_0 : decode cX6_learn 0 = .ok (.aload_n 0, 1) := by decide +kernel
theorem dX6_learn_1 : decode cX6_learn 1 = .ok (.getfield 29, 3) := by decide +kernel
theorem dX6_learn_4 : decode cX6_learn 4 = .ok (.iload_n 1, 1) := by decide +kernel
theorem dX6_learn_5 : decode cX6_learn 5 = .ok (.aload_n 0, 1) := by decide +kernel
theorem dX6_learn_6 : decode cX6_learn 6 = .ok (.getfield 36, 3) := by decide +kernel
theorem dX6_learn_9 : decode cX6_learn 9 = .ok (.invokevirtual 191, 3) := by decide +kernel
theorem dX6_learn_12 : decode cX6_learn 12 = .ok (.invokevirtual 170, 3) := by decide +kernel
theorem dX6_learn_15 : decode cX6_learn 15 = .ok (.istore_n 2, 1) := by decide +kernel
theorem dX6_learn_16 : decode cX6_learn 16 = .ok (.aload_n 0, 1) := by decide +kernel
theorem dX6_learn_17 : decode cX6_learn 17 = .ok (.getfield 36, 3) := by decide +kernel
theorem dX6_learn_20 : decode cX6_learn 20 = .ok (.invokevirtual 192, 3) := by decide +kernel
theorem dX6_learn_23 : decode cX6_learn 23 = .ok (.ifCond .ne 13, 3) := by decide +kernel
theorem dX6_learn_26 : decode cX6_learn 26 = .ok (.aload_n 0, 1) := by decide +kernel
theorem dX6_learn_27 : decode cX6_learn 27 = .ok (.getfield 29, 3) := by decide +kernel
theorem dX6_learn_30 : decode cX6_learn 30 = .ok (.iload_n 2, 1) := by decide +kernel
theorem dX6_learn_31 : decode cX6_learn 31 = .ok (.invokevirtual 195, 3) := by decide +kernel
theorem dX6_learn_34 : decode cX6_learn 34 = .ok (.iconst 0, 1) := by decide +kernel
theorem dX6_learn_35 : decode cX6_learn 35 = .ok (.ireturn, 1) := by decide +kernel
theorem dX6_learn_36 : decode cX6_learn 36 = .ok (.iload_n 2, 1) := by decide +kernel
theorem dX6_learn_37 : decode cX6_learn 37 = .ok (.iconst (-1), 1) := by decide +kernel
theorem dX6_learn_38 : decode cX6_learn 38 = .ok (.if_icmp .ne 32, 3) := by decide +kernel
theorem dX6_learn_41 : decode cX6_learn 41 = .ok (.aload_n 0, 1) := by decide +kernel
theorem dX6_learn_42 : decode cX6_learn 42 = .ok (.getfield 29, 3) := by decide +kernel
theorem dX6_learn_45 : decode cX6_learn 45 = .ok (.iload_n 1, 1) := by decide +kernel
theorem dX6_learn_46 : decode cX6_learn 46 = .ok (.invokevirtual 198, 3) := by decide +kernel
theorem dX6_learn_49 : decode cX6_learn 49 = .ok (.istore_n 2, 1) := by decide +kernel
theorem dX6_learn_50 : decode cX6_learn 50 = .ok (.iload_n 2, 1) := by decide +kernel
theorem dX6_learn_51 : decode cX6_learn 51 = .ok (.iconst (-1), 1) := by decide +kernel
theorem dX6_learn_52 : decode cX6_learn 52 = .ok (.if_icmp .ne 5, 3) := by decide +kernel
theorem dX6_learn_55 : decode cX6_learn 55 = .ok (.iconst 5, 1) := by decide +kernel
theorem dX6_learn_56 : decode cX6_learn 56 = .ok (.ireturn, 1) := by decide +kernel
theorem dX6_learn_57 : decode cX6_learn 57 = .ok (.aload_n 0, 1) := by decide +kernel
theorem dX6_learn_58 : decode cX6_learn 58 = .ok (.getfield 22, 3) := by decide +kernel
theorem dX6_learn_61 : decode cX6_learn 61 = .ok (.iload_n 1, 1) := by decide +kernel
theorem dX6_learn_62 : decode cX6_learn 62 = .ok (.aaload, 1) := by decide +kernel
theorem dX6_learn_63 : decode cX6_learn 63 = .ok (.aload_n 0, 1) := by decide +kernel
theorem dX6_learn_64 : decode cX6_learn 64 = .ok (.getfield 54, 3) := by decide +kernel
theorem dX6_learn_67 : decode cX6_learn 67 = .ok (.invokevirtual 201, 3) := by decide +kernel
theorem dX6_learn_70 : decode cX6_learn 70 = .ok (.aload_n 0, 1) := by decide +kernel
theorem dX6_learn_71 : decode cX6_learn 71 = .ok (.getfield 29, 3) := by decide +kernel
theorem dX6_learn_74 : decode cX6_learn 74 = .ok (.iload_n 2, 1) := by decide +kernel
theorem dX6_learn_75 : decode cX6_learn 75 = .ok (.invokevirtual 153, 3) := by decide +kernel
theorem dX6_learn_78 : decode cX6_learn 78 = .ok (.aload_n 0, 1) := by decide +kernel
theorem dX6_learn_79 : decode cX6_learn 79 = .ok (.getfield 36, 3) := by decide +kernel
theorem dX6_learn_82 : decode cX6_learn 82 = .ok (.invokevirtual 191, 3) := by decide +kernel
theorem dX6_learn_85 : decode cX6_learn 85 = .ok (.aload_n 0, 1) := by decide +kernel
theorem dX6_learn_86 : decode cX6_learn 86 = .ok (.getfield 36, 3) := by decide +kernel
theorem dX6_learn_89 : decode cX6_learn 89 = .ok (.invokevirtual 192, 3) := by decide +kernel
theorem dX6_learn_92 : decode cX6_learn 92 = .ok (.invokevirtual 204, 3) := by decide +kernel
theorem dX6_learn_95 : decode cX6_learn 95 = .ok (.astore_n 3, 1) := by decide +kernel
theorem dX6_learn_96 : decode cX6_learn 96 = .ok (.aload_n 0, 1) := by decide +kernel
theorem dX6_learn_97 : decode cX6_learn 97 = .ok (.getfield 36, 3) := by decide +kernel
theorem dX6_learn_100 : decode cX6_learn 100 = .ok (.aload_n 3, 1) := by decide +kernel
theorem dX6_learn_101 : decode cX6_learn 101 = .ok (.invokevirtual 208, 3) := by decide +kernel
theorem dX6_learn_104 : decode cX6_learn 104 = .ok (.iconst 0, 1) := by decide +kernel
theorem dX6_learn_105 : decode cX6_learn 105 = .ok (.ireturn, 1) := by decide +kernel
