set_option maxRecDepth 20000 in
theorem ggX0_init_X0_clear : GoodIn wsX0_init wsX0_clear := goodIn_r _ [12, 5, 13, 14, 15, 16, 17, 18] (by decide +kernel) (by decide +kernel)
set_option maxRecDepth 20000 in
theorem gX0_init_X0_clear : GoodIn wsX0_init (wsV RX0 19 RX0 yX0_clear wsX0_clear) := goodIn_app (goodIn_of _ (by decide +kernel)) ggX0_init_X0_clear
theorem dX0_init_0 : decode cX0_init 0 = .ok (.aload_n 0, 1) := by decide +kernel
theorem dX0_init_1 : decode cX0_init 1 = .ok (.invokespecial 3, 3) := by decide +kernel
theorem dX0_init_4 : decode cX0_init 4 = .ok (.aload_n 0, 1) := by decide +kernel
theorem dX0_init_5 : decode cX0_init 5 = .ok (.bipush 9, 2) := by decide +kernel
theorem dX0_init_7 : decode cX0_init 7 = .ok (.newarray .int, 2) := by decide +kernel
theorem dX0_init_9 : decode cX0_init 9 = .ok (.putfield 9, 3) := by decide +kernel
theorem dX0_init_12 : decode cX0_init 12 = .ok (.aload_n 0, 1) := by decide +kernel
theorem dX0_init_13 : decode cX0_init 13 = .ok (.sipush 420, 3) := by decide +kernel
theorem dX0_init_16 : decode cX0_init 16 = .ok (.newarray .byte, 2) := by decide +kernel
theorem dX0_init_18 : decode cX0_init 18 = .ok (.putfield 15, 3) := by decide +kernel
theorem dX0_init_21 : decode cX0_init 21 = .ok (.aload_n 0, 1) := by decide +kernel
theorem dX0_init_22 : decode cX0_init 22 = .ok (.invokevirtual 19, 3) := by decide +kernel
theorem dX0_init_25 : decode cX0_init 25 = .ok (.return_, 1) := by decide +kernel
set_option maxRecDepth 20000 in
theorem ggX0_isKept_X6_isMore : GoodIn wsX0_isKept wsX6_isMore := goodIn_r _ [3] (by decide +kernel) (by decide +kernel)
set_option maxRecDepth 20000 in
theorem gX0_isKept_X6_isMore_n22 : GoodIn wsX0_isKept (wsX6_isMore) := ggX0_isKept_X6_isMore
theorem dX0_isKept_0 : decode cX0_isKept 0 = .ok (.iload_n 0, 1) := by decide +kernel
theorem dX0_isKept_1 : decode cX0_isKept 1 = .ok (.iconst 1, 1) := by decide +kernel
theorem dX0_isKept_2 : decode cX0_isKept 2 = .ok (.if_icmp .eq 15, 3) := by decide +kernel
theorem dX0_isKept_5 : decode cX0_isKept 5 = .ok (.iload_n 0, 1) := by decide +kernel
theorem dX0_isKept_6 : decode cX0_isKept 6 = .ok (.iconst 2, 1) := by decide +kernel
theorem dX0_isKept_7 : decode cX0_isKept 7 = .ok (.if_icmp .eq 10, 3) := by decide +kernel
theorem dX0_isKept_10 : decode cX0_isKept 10 = .ok (.iload_n 0, 1) := by decide +kernel
theorem dX0_isKept_11 : decode cX0_isKept 11 = .ok (.invokestatic 22, 3) := by decide +kernel
theorem dX0_isKept_14 : decode cX0_isKept 14 = .ok (.ifCond .eq 7, 3) := by decide +kernel
theorem dX0_isKept_17 : decode cX0_isKept 17 = .ok (.iconst 1, 1) := by decide +kernel
theorem dX0_isKept_18 : decode cX0_isKept 18 = .ok (.goto 4, 3) := by decide +kernel
theorem dX0_isKept_21 : decode cX0_isKept 21 = .ok (.iconst 0, 1) := by decide +kernel
theorem dX0_isKept_22 : decode cX0_isKept 22 = .ok (.ireturn, 1) := by decide +kernel
theorem dX0_startOf_0 : decode cX0_startOf 0 = .ok (.iload_n 0, 1) := by decide +kernel
theorem dX0_startOf_1 : decode cX0_startOf 1 = .ok (.iconst 3, 1) := by decide +kernel
theorem dX0_startOf_2 : decode cX0_startOf 2 = .ok (.if_icmp .ge 9, 3) := by decide +kernel
theorem dX0_startOf_5 : decode cX0_startOf 5 = .ok (.iload_n 0, 1) := by decide +kernel
theorem dX0_startOf_6 : decode cX0_startOf 6 = .ok (.iconst 1, 1) := by decide +kernel
theorem dX0_startOf_7 : decode cX0_startOf 7 = .ok (.isub, 1) := by decide +kernel
theorem dX0_startOf_8 : decode cX0_startOf 8 = .ok (.goto 6, 3) := by decide +kernel
theorem dX0_startOf_11 : decode cX0_startOf 11 = .ok (.iload_n 0, 1) := by decide +kernel
theorem dX0_startOf_12 : decode cX0_startOf 12 = .ok (.iconst 2, 1) := by decide +kernel
theorem dX0_startOf_13 : decode cX0_startOf 13 = .ok (.isub, 1) := by decide +kernel
theorem dX0_startOf_14 : decode cX0_startOf 14 = .ok (.bipush 60, 2) := by decide +kernel
theorem dX0_startOf_16 : decode cX0_startOf 16 = .ok (.imul, 1) := by decide +kernel
theorem dX0_startOf_17 : decode cX0_startOf 17 = .ok (.ireturn, 1) := by decide +kernel
set_option maxRecDepth 20000 in
theorem ggX0_clear_J7_fill_53178 : GoodIn wsX0_clear wsJ7_fill_53178 := goodIn_r _ [5] (by decide +kernel) (by decide +kernel)
set_option maxRecDepth 20000 in
theorem gX0_clear_J7_fill_53178 : GoodIn wsX0_clear (va_wsS RX0 26 yJ7_fill_53178 wsJ7_fill_53178) := goodIn_app (goodIn_of _ (by decide +kernel)) ggX0_clear_J7_fill_53178
theorem dX0_clear_0 : decode cX0_clear 0 = .ok (.aload_n 0, 1) := by decide +kernel
theorem dX0_clear_1 : decode cX0_clear 1 = .ok (.getfield 9, 3) := by decide +kernel
theorem dX0_clear_4 : decode cX0_clear 4 = .ok (.iconst (-1), 1) := by decide +kernel
theorem dX0_clear_5 : decode cX0_clear 5 = .ok (.invokestatic 26, 3) := by decide +kernel
theorem dX0_clear_8 : decode cX0_clear 8 = .ok (.return_, 1) := by decide +kernel
set_option maxRecDepth 20000 in
theorem ggX0_keep_X0_isKept : GoodIn wsX0_keep wsX0_isKept := goodIn_r _ [10, 11, 12, 13] (by decide +kernel) (by decide +kernel)
set_option maxRecDepth 20000 in
theorem gX0_keep_X0_isKept : GoodIn wsX0_keep (va_wsS RX0 32 yX0_isKept wsX0_isKept) := goodIn_app (goodIn_of _ (by decide +kernel)) ggX0_keep_X0_isKept
set_option maxRecDepth 20000 in
theorem ggX0_keep_X0_startOf : GoodIn wsX0_keep wsX0_startOf := goodIn_r _ [16] (by decide +kernel) (by decide +kernel)
set_option maxRecDepth 20000 in
theorem gX0_keep_X0_startOf : GoodIn wsX0_keep (va_wsS RX0 35 yX0_startOf wsX0_startOf) := goodIn_app (goodIn_of _ (by decide +kernel)) ggX0_keep_X0_startOf
theorem dX0_keep_0 : decode cX0_keep 0 = .ok (.iload_n 1, 1) := by decide +kernel
theorem dX0_keep_1 : decode cX0_keep 1 = .ok (.invokestatic 32, 3) := by decide +kernel
theorem dX0_keep_4 : decode cX0_keep 4 = .ok (.ifCond .eq 51, 3) := by decide +kernel
theorem dX0_keep_7 : decode cX0_keep 7 = .ok (.iload 4, 2) := by decide +kernel
theorem dX0_keep_9 : decode cX0_keep 9 = .ok (.ifCond .lt 46, 3) := by decide +kernel
theorem dX0_keep_12 : decode cX0_keep 12 = .ok (.iload 4, 2) := by decide +kernel
theorem dX0_keep_14 : decode cX0_keep 14 = .ok (.bipush 60, 2) := by decide +kernel
theorem dX0_keep_16 : decode cX0_keep 16 = .ok (.if_icmp .gt 39, 3) := by decide +kernel
theorem dX0_keep_19 : decode cX0_keep 19 = .ok (.iload_n 3, 1) := by decide +kernel
theorem dX0_keep_20 : decode cX0_keep 20 = .ok (.ifCond .lt 35, 3) := by decide +kernel
theorem dX0_keep_23 : decode cX0_keep 23 = .ok (.iload_n 3, 1) := by decide +kernel
theorem dX0_keep_24 : decode cX0_keep 24 = .ok (.aload_n 2, 1) := by decide +kernel
theorem dX0_keep_25 : decode cX0_keep 25 = .ok (.arraylength, 1) := by decide +kernel
theorem dX0_keep_26 : decode cX0_keep 26 = .ok (.iload 4, 2) := by decide +kernel
theorem dX0_keep_28 : decode cX0_keep 28 = .ok (.isub, 1) := by decide +kernel
theorem dX0_keep_29 : decode cX0_keep 29 = .ok (.if_icmp .gt 26, 3) := by decide +kernel
theorem dX0_keep_32 : decode cX0_keep 32 = .ok (.aload_n 2, 1) := by decide +kernel
theorem dX0_keep_33 : decode cX0_keep 33 = .ok (.iload_n 3, 1) := by decide +kernel
theorem dX0_keep_34 : decode cX0_keep 34 = .ok (.aload_n 0, 1) := by decide +kernel
theorem dX0_keep_35 : decode cX0_keep 35 = .ok (.getfield 15, 3) := by decide +kernel
theorem dX0_keep_38 : decode cX0_keep 38 = .ok (.iload_n 1, 1) := by decide +kernel
theorem dX0_keep_39 : decode cX0_keep 39 = .ok (.invokestatic 35, 3) := by decide +kernel
theorem dX0_keep_42 : decode cX0_keep 42 = .ok (.iload 4, 2) := by decide +kernel
theorem dX0_keep_44 : decode cX0_keep 44 = .ok (.invokestatic 39, 3) := by decide +kernel
theorem dX0_keep_47 : decode cX0_keep 47 = .ok (.aload_n 0, 1) := by decide +kernel
theorem dX0_keep_48 : decode cX0_keep 48 = .ok (.getfield 9, 3) := by decide +kernel
theorem dX0_keep_51 : decode cX0_keep 51 = .ok (.iload_n 1, 1) := by decide +kernel
theorem dX0_keep_52 : decode cX0_keep 52 = .ok (.iload 4, 2) := by decide +kernel
theorem dX0_keep_54 : decode cX0_keep 54 = .ok (.iastore, 1) := by decide +kernel
theorem dX0_keep_55 : decode cX0_keep 55 = .ok (.return_, 1) := by decide +kernel
set_option maxRecDepth 20000 in
theorem ggX0_drop_X0_has : GoodIn wsX0_drop wsX0_has := goodIn_r _ [6, 7, 8, 9, 5, 10, 1, 11, 12] (by decide +kernel) (by decide +kernel)
set_option maxRecDepth 20000 in
theorem gX0_drop_X0_has : GoodIn wsX0_drop (wsV RX0 45 RX0 yX0_has wsX0_has) := goodIn_app (goodIn_of _ (by decide +kernel)) ggX0_drop_X0_has
theorem dX0_drop_0 : decode cX0_drop 0 = .ok (.aload_n 0, 1) := by decide +kernel
theorem dX0_drop_1 : decode cX0_drop 1 = .ok (.iload_n 1, 1) := by decide +kernel
theorem dX0_drop_2 : decode cX0_drop 2 = .ok (.invokevirtual 45, 3) := by decide +kernel
theorem dX0_drop_5 : decode cX0_drop 5 = .ok (.ifCond .eq 10, 3) := by decide +kernel
theorem dX0_drop_8 : decode cX0_drop 8 = .ok (.aload_n 0, 1) := by decide +kernel
theorem dX0_drop_9 : decode cX0_drop 9 = .ok (.getfield 9, 3) := by decide +kernel
theorem dX0_drop_12 : decode cX0_drop 12 = .ok (.iload_n 1, 1) := by decide +kernel
theorem dX0_drop_13 : decode cX0_drop 13 = .ok (.iconst (-1), 1) := by decide +kernel
theorem dX0_drop_14 : decode cX0_drop 14 = .ok (.iastore, 1) := by decide +kernel
theorem dX0_drop_15 : decode cX0_drop 15 = .ok (.return_, 1) := by decide +kernel
set_option maxRecDepth 20000 in
theorem ggX0_has_X0_sizeOf : GoodIn wsX0_has wsX0_sizeOf := goodIn_r _ [5, 6, 7, 8] (by decide +kernel) (by decide +kernel)
set_option maxRecDepth 20000 in
theorem gX0_has_X0_sizeOf : GoodIn wsX0_has (wsV RX0 48 RX0 yX0_sizeOf wsX0_sizeOf) := goodIn_app (goodIn_of _ (by decide +kernel)) ggX0_has_X0_sizeOf
theorem dX0_has_0 : decode cX0_has 0 = .ok (.aload_n 0, 1) := by decide +kernel
theorem dX0_has_1 : decode cX0_has 1 = .ok (.iload_n 1, 1) := by decide +kernel
theorem dX0_has_2 : decode cX0_has 2 = .ok (.invokevirtual 48, 3) := by decide +kernel
theorem dX0_has_5 : decode cX0_has 5 = .ok (.iconst (-1), 1) := by decide +kernel
theorem dX0_has_6 : decode cX0_has 6 = .ok (.if_icmp .eq 7, 3) := by decide +kernel
theorem dX0_has_9 : decode cX0_has 9 = .ok (.iconst 1, 1) := by decide +kernel
theorem dX0_has_10 : decode cX0_has 10 = .ok (.goto 4, 3) := by decide +kernel
theorem dX0_has_13 : decode cX0_has 13 = .ok (.iconst 0, 1) := by decide +kernel
theorem dX0_has_14 : decode cX0_has 14 = .ok (.ireturn, 1) := by decide +kernel
theorem dX0_sizeOf_0 : decode cX0_sizeOf 0 = .ok (.iload_n 1, 1) := by decide +kernel
theorem dX0_sizeOf_1 : decode cX0_sizeOf 1 = .ok (.ifCond .lt 21, 3) := by decide +kernel
theorem dX0_sizeOf_4 : decode cX0_sizeOf 4 = .ok (.iload_n 1, 1) := by decide +kernel
theorem dX0_sizeOf_5 : decode cX0_sizeOf 5 = .ok (.aload_n 0, 1) := by decide +kernel
theorem dX0_sizeOf_6 : decode cX0_sizeOf 6 = .ok (.getfield 9, 3) := by decide +kernel
theorem dX0_sizeOf_9 : decode cX0_sizeOf 9 = .ok (.arraylength, 1) := by decide +kernel
theorem dX0_sizeOf_10 : decode cX0_sizeOf 10 = .ok (.if_icmp .ge 12, 3) := by decide +kernel
theorem dX0_sizeOf_13 : decode cX0_sizeOf 13 = .ok (.aload_n 0, 1) := by decide +kernel
theorem dX0_sizeOf_14 : decode cX0_sizeOf 14 = .ok (.getfield 9, 3) := by decide +kernel
theorem dX0_sizeOf_17 : decode cX0_sizeOf 17 = .ok (.iload_n 1, 1) := by decide +kernel
theorem dX0_sizeOf_18 : decode cX0_sizeOf 18 = .ok (.iaload, 1) := by decide +kernel
theorem dX0_sizeOf_19 : decode cX0_sizeOf 19 = .ok (.goto 4, 3) := by decide +kernel
theorem dX0_sizeOf_22 : decode cX0_sizeOf 22 = .ok (.iconst (-1), 1) := by decide +kernel
theorem dX0_sizeOf_23 : decode cX0_sizeOf 23 = .ok (.ireturn, 1) := by decide +kernel
set_option maxRecDepth 20000 in
theorem ggX0_byteAt_X0_sizeOf : GoodIn wsX0_byteAt wsX0_sizeOf := goodIn_r _ [6, 7, 11, 12] (by decide +kernel) (by decide +kernel)
set_option maxRecDepth 20000 in
theorem gX0_byteAt_X0_sizeOf : GoodIn wsX0_byteAt (wsV RX0 48 RX0 yX0_sizeOf wsX0_sizeOf) := goodIn_app (goodIn_of _ (by decide +kernel)) ggX0_byteAt_X0_sizeOf
set_option maxRecDepth 20000 in
theorem ggX0_byteAt_X0_startOf : GoodIn wsX0_byteAt wsX0_startOf := goodIn_r _ [10] (by decide +kernel) (by decide +kernel)
set_option maxRecDepth 20000 in
theorem gX0_byteAt_X0_startOf : GoodIn wsX0_byteAt (va_wsS RX0 35 yX0_startOf wsX0_startOf) := goodIn_app (goodIn_of _ (by decide +kernel)) ggX0_byteAt_X0_startOf
theorem dX0_byteAt_0 : decode cX0_byteAt 0 = .ok (.iload_n 2, 1) := by decide +kernel
theorem dX0_byteAt_1 : decode cX0_byteAt 1 = .ok (.ifCond .lt 12, 3) := by decide +kernel
theorem dX0_byteAt_4 : decode cX0_byteAt 4 = .ok (.iload_n 2, 1) := by decide +kernel
theorem dX0_byteAt_5 : decode cX0_byteAt 5 = .ok (.aload_n 0, 1) := by decide +kernel
theorem dX0_byteAt_6 : decode cX0_byteAt 6 = .ok (.iload_n 1, 1) := by decide +kernel
theorem dX0_byteAt_7 : decode cX0_byteAt 7 = .ok (.invokevirtual 48, 3) := by decide +kernel
theorem dX0_byteAt_10 : decode cX0_byteAt 10 = .ok (.if_icmp .lt 5, 3) := by decide +kernel
theorem dX0_byteAt_13 : decode cX0_byteAt 13 = .ok (.iconst (-1), 1) := by decide +kernel
theorem dX0_byteAt_14 : decode cX0_byteAt 14 = .ok (.ireturn, 1) := by decide +kernel
theorem dX0_byteAt_15 : decode cX0_byteAt 15 = .ok (.aload_n 0, 1) := by decide +kernel
theorem dX0_byteAt_16 : decode cX0_byteAt 16 = .ok (.getfield 15, 3) := by decide +kernel
theorem dX0_byteAt_19 : decode cX0_byteAt 19 = .ok (.iload_n 1, 1) := by decide +kernel
theorem dX0_byteAt_20 : decode cX0_byteAt 20 = .ok (.invokestatic 35, 3) := by decide +kernel
theorem dX0_byteAt_23 : decode cX0_byteAt 23 = .ok (.iload_n 2, 1) := by decide +kernel
theorem dX0_byteAt_24 : decode cX0_byteAt 24 = .ok (.iadd, 1) := by decide +kernel
theorem dX0_byteAt_25 : decode cX0_byteAt 25 = .ok (.baload, 1) := by decide +kernel
theorem dX0_byteAt_26 : decode cX0_byteAt 26 = .ok (.sipush 255, 3) := by decide +kernel
theorem dX0_byteAt_29 : decode cX0_byteAt 29 = .ok (.iand, 1) := by decide +kernel
theorem dX0_byteAt_30 : decode cX0_byteAt 30 = .ok (.ireturn, 1) := by decide +kernel
set_option maxRecDepth 20000 in
theorem ggX0_isSame_X0_sizeOf : GoodIn wsX0_isSame wsX0_sizeOf := goodIn_r _ [6, 7, 11, 12] (by decide +kernel) (by decide +kernel)
set_option maxRecDepth 20000 in
theorem gX0_isSame_X0_sizeOf : GoodIn wsX0_isSame (wsV RX0 48 RX0 yX0_sizeOf wsX0_sizeOf) := goodIn_app (goodIn_of _ (by decide +kernel)) ggX0_isSame_X0_sizeOf
set_option maxRecDepth 20000 in
theorem ggX0_isSame_X0_startOf : GoodIn wsX0_isSame wsX0_startOf := goodIn_r _ [10] (by decide +kernel) (by decide +kernel)
set_option maxRecDepth 20000 in
theorem gX0_isSame_X0_startOf : GoodIn wsX0_isSame (va_wsS RX0 35 yX0_startOf wsX0_startOf) := goodIn_app (goodIn_of _ (by decide +kernel)) ggX0_isSame_X0_startOf
theorem dX0_isSame_0 : decode cX0_isSame 0 = .ok (.aload_n 0, 1) := by decide +kernel
theorem dX0_isSame_1 : decode cX0_isSame 1 = .ok (.iload_n 1, 1) := by decide +kernel
theorem dX0_isSame_2 : decode cX0_isSame 2 = .ok (.invokevirtual 48, 3) := by decide +kernel
theorem dX0_isSame_5 : decode cX0_isSame 5 = .ok (.iload 4, 2) := by decide +kernel
theorem dX0_isSame_7 : decode cX0_isSame 7 = .ok (.if_icmp .ne 16, 3) := by decide +kernel
theorem dX0_isSame_10 : decode cX0_isSame 10 = .ok (.iload_n 3, 1) := by decide +kernel
theorem dX0_isSame_11 : decode cX0_isSame 11 = .ok (.ifCond .lt 12, 3) := by decide +kernel
theorem dX0_isSame_14 : decode cX0_isSame 14 = .ok (.iload_n 3, 1) := by decide +kernel
theorem dX0_isSame_15 : decode cX0_isSame 15 = .ok (.aload_n 2, 1) := by decide +kernel
theorem dX0_isSame_16 : decode cX0_isSame 16 = .ok (.arraylength, 1) := by decide +kernel
theorem dX0_isSame_17 : decode cX0_isSame 17 = .ok (.iload 4, 2) := by decide +kernel
theorem dX0_isSame_19 : decode cX0_isSame 19 = .ok (.isub, 1) := by decide +kernel
theorem dX0_isSame_20 : decode cX0_isSame 20 = .ok (.if_icmp .le 5, 3) := by decide +kernel
theorem dX0_isSame_23 : decode cX0_isSame 23 = .ok (.iconst 0, 1) := by decide +kernel
theorem dX0_isSame_24 : decode cX0_isSame 24 = .ok (.ireturn, 1) := by decide +kernel
theorem dX0_isSame_25 : decode cX0_isSame 25 = .ok (.iload_n 1, 1) := by decide +kernel
theorem dX0_isSame_26 : decode cX0_isSame 26 = .ok (.invokestatic 35, 3) := by decide +kernel
theorem dX0_isSame_29 : decode cX0_isSame 29 = .ok (.istore 5, 2) := by decide +kernel
theorem dX0_isSame_31 : decode cX0_isSame 31 = .ok (.iconst 0, 1) := by decide +kernel
theorem dX0_isSame_32 : decode cX0_isSame 32 = .ok (.istore 6, 2) := by decide +kernel
theorem dX0_isSame_34 : decode cX0_isSame 34 = .ok (.iload 6, 2) := by decide +kernel
theorem dX0_isSame_36 : decode cX0_isSame 36 = .ok (.iload 4, 2) := by decide +kernel
theorem dX0_isSame_38 : decode cX0_isSame 38 = .ok (.if_icmp .ge 30, 3) := by decide +kernel
theorem dX0_isSame_41 : decode cX0_isSame 41 = .ok (.aload_n 0, 1) := by decide +kernel
theorem dX0_isSame_42 : decode cX0_isSame 42 = .ok (.getfield 15, 3) := by decide +kernel
theorem dX0_isSame_45 : decode cX0_isSame 45 = .ok (.iload 5, 2) := by decide +kernel
theorem dX0_isSame_47 : decode cX0_isSame 47 = .ok (.iload 6, 2) := by decide +kernel
theorem dX0_isSame_49 : decode cX0_isSame 49 = .ok (.iadd, 1) := by decide +kernel
theorem dX0_isSame_50 : decode cX0_isSame 50 = .ok (.baload, 1) := by decide +kernel
theorem dX0_isSame_51 : decode cX0_isSame 51 = .ok (.aload_n 2, 1) := by decide +kernel
theorem dX0_isSame_52 : decode cX0_isSame 52 = .ok (.iload_n 3, 1) := by decide +kernel
theorem dX0_isSame_53 : decode cX0_isSame 53 = .ok (.iload 6, 2) := by decide +kernel
theorem dX0_isSame_55 : decode cX0_isSame 55 = .ok (.iadd, 1) := by decide +kernel
theorem dX0_isSame_56 : decode cX0_isSame 56 = .ok (.baload, 1) := by decide +kernel
theorem dX0_isSame_57 : decode cX0_isSame 57 = .ok (.if_icmp .eq 5, 3) := by decide +kernel
theorem dX0_isSame_60 : decode cX0_isSame 60 = .ok (.iconst 0, 1) := by decide +kernel
theorem dX0_isSame_61 : decode cX0_isSame 61 = .ok (.ireturn, 1) := by decide +kernel
theorem dX0_isSame_62 : decode cX0_isSame 62 = .ok (.iinc 6 1, 3) := by decide +kernel
theorem dX0_isSame_65 : decode cX0_isSame 65 = .ok (.goto (-31), 3) := by decide +kernel
theorem dX0_isSame_68 : decode cX0_isSame 68 = .ok (.iconst 1, 1) := by decide +kernel
theorem dX0_isSame_69 : decode cX0_isSame 69 = .ok (.ireturn, 1) := by decide +kernel
set_option maxRecDepth 20000 in
theorem ggX0_isSameStation_X0_startOf : GoodIn wsX0_isSameStation wsX0_startOf := goodIn_r _ [5] (by decide +kernel) (by decide +kernel)
set_option maxRecDepth 20000 in
theorem gX0_isSameStation_X0_startOf : GoodIn wsX0_isSameStation (va_wsS RX0 35 yX0_startOf wsX0_startOf) := goodIn_app (goodIn_of _ (by decide +kernel)) ggX0_isSameStation_X0_startOf
set_option maxRecDepth 20000 in
theorem ggX0_isSameStation_X0_sizeOf : GoodIn wsX0_isSameStation wsX0_sizeOf := goodIn_r _ [9, 10, 15, 16] (by decide +kernel) (by decide +kernel)
set_option maxRecDepth 20000 in
theorem gX0_isSameStation_X0_sizeOf : GoodIn wsX0_isSameStation (wsV RX0 48 RX0 yX0_sizeOf wsX0_sizeOf) := goodIn_app (goodIn_of _ (by decide +kernel)) ggX0_isSameStation_X0_sizeOf
set_option maxRecDepth 20000 in
theorem ggX0_isSameStation_X0_isSame : GoodIn wsX0_isSameStation wsX0_isSame := goodIn_r _ [14, 1, 6, 7, 8, 4, 9, 10, 2, 3, 5, 15, 16] (by decide +kernel) (by decide +kernel)
set_option maxRecDepth 20000 in
theorem gX0_isSameStation_X0_isSame : GoodIn wsX0_isSameStation (wsV RX0 51 RX0 yX0_isSame wsX0_isSame) := goodIn_app (goodIn_of _ (by decide +kernel)) ggX0_isSameStation_X0_isSame
theorem dX0_isSameStation_0 : decode cX0_isSameStation 0 = .ok (.aload_n 0, 1) := by decide +kernel
theorem dX0_isSameStation_1 : decode cX0_isSameStation 1 = .ok (.iconst 1, 1) := by decide +kernel
theorem dX0_isSameStation_2 : decode cX0_isSameStation 2 = .ok (.aload_n 1, 1) := by decide +kernel
theorem dX0_isSameStation_3 : decode cX0_isSameStation 3 = .ok (.getfield 15, 3) := by decide +kernel
theorem dX0_isSameStation_6 : decode cX0_isSameStation 6 = .ok (.iconst 1, 1) := by decide +kernel
theorem dX0_isSameStation_7 : decode cX0_isSameStation 7 = .ok (.invokestatic 35, 3) := by decide +kernel
theorem dX0_isSameStation_10 : decode cX0_isSameStation 10 = .ok (.aload_n 1, 1) := by decide +kernel
theorem dX0_isSameStation_11 : decode cX0_isSameStation 11 = .ok (.iconst 1, 1) := by decide +kernel
theorem dX0_isSameStation_12 : decode cX0_isSameStation 12 = .ok (.invokevirtual 48, 3) := by decide +kernel
theorem dX0_isSameStation_15 : decode cX0_isSameStation 15 = .ok (.invokevirtual 51, 3) := by decide +kernel
theorem dX0_isSameStation_18 : decode cX0_isSameStation 18 = .ok (.ifCond .eq 28, 3) := by decide +kernel
theorem dX0_isSameStation_21 : decode cX0_isSameStation 21 = .ok (.aload_n 0, 1) := by decide +kernel
theorem dX0_isSameStation_22 : decode cX0_isSameStation 22 = .ok (.iconst 2, 1) := by decide +kernel
theorem dX0_isSameStation_23 : decode cX0_isSameStation 23 = .ok (.aload_n 1, 1) := by decide +kernel
theorem dX0_isSameStation_24 : decode cX0_isSameStation 24 = .ok (.getfield 15, 3) := by decide +kernel
theorem dX0_isSameStation_27 : decode cX0_isSameStation 27 = .ok (.iconst 2, 1) := by decide +kernel
theorem dX0_isSameStation_28 : decode cX0_isSameStation 28 = .ok (.invokestatic 35, 3) := by decide +kernel
theorem dX0_isSameStation_31 : decode cX0_isSameStation 31 = .ok (.aload_n 1, 1) := by decide +kernel
theorem dX0_isSameStation_32 : decode cX0_isSameStation 32 = .ok (.iconst 2, 1) := by decide +kernel
theorem dX0_isSameStation_33 : decode cX0_isSameStation 33 = .ok (.invokevirtual 48, 3) := by decide +kernel
theorem dX0_isSameStation_36 : decode cX0_isSameStation 36 = .ok (.invokevirtual 51, 3) := by decide +kernel
theorem dX0_isSameStation_39 : decode cX0_isSameStation 39 = .ok (.ifCond .eq 7, 3) := by decide +kernel
theorem dX0_isSameStation_42 : decode cX0_isSameStation 42 = .ok (.iconst 1, 1) := by decide +kernel
theorem dX0_isSameStation_43 : decode cX0_isSameStation 43 = .ok (.goto 4, 3) := by decide +kernel
theorem dX0_isSameStation_46 : decode cX0_isSameStation 46 = .ok (.iconst 0, 1) := by decide +kernel
theorem dX0_isSameStation_47 : decode cX0_isSameStation 47 = .ok (.ireturn, 1) := by decide +kernel
set_option maxRecDepth 20000 in
theorem ggX0_typeBits_X0_has : GoodIn wsX0_typeBits wsX0_has := goodIn_r _ [5, 6, 7, 8, 4, 9, 10, 11, 12] (by decide +kernel) (by decide +kernel)
set_option maxRecDepth 20000 in
theorem gX0_typeBits_X0_has : GoodIn wsX0_typeBits (wsV RX0 45 RX0 yX0_has wsX0_has) := goodIn_app (goodIn_of _ (by decide +kernel)) ggX0_typeBits_X0_has
theorem dX0_typeBits_0 : decode cX0_typeBits 0 = .ok (.iconst 0, 1) := by decide +kernel
theorem dX0_typeBits_1 : decode cX0_typeBits 1 = .ok (.istore_n 1, 1) := by decide +kernel
theorem dX0_typeBits_2 : decode cX0_typeBits 2 = .ok (.iconst 1, 1) := by decide +kernel
theorem dX0_typeBits_3 : decode cX0_typeBits 3 = .ok (.istore_n 2, 1) := by decide +kernel
theorem dX0_typeBits_4 : decode cX0_typeBits 4 = .ok (.iload_n 2, 1) := by decide +kernel
theorem dX0_typeBits_5 : decode cX0_typeBits 5 = .ok (.bipush 8, 2) := by decide +kernel
theorem dX0_typeBits_7 : decode cX0_typeBits 7 = .ok (.if_icmp .gt 23, 3) := by decide +kernel
theorem dX0_typeBits_10 : decode cX0_typeBits 10 = .ok (.aload_n 0, 1) := by decide +kernel
theorem dX0_typeBits_11 : decode cX0_typeBits 11 = .ok (.iload_n 2, 1) := by decide +kernel
theorem dX0_typeBits_12 : decode cX0_typeBits 12 = .ok (.invokevirtual 45, 3) := by decide +kernel
theorem dX0_typeBits_15 : decode cX0_typeBits 15 = .ok (.ifCond .eq 9, 3) := by decide +kernel
theorem dX0_typeBits_18 : decode cX0_typeBits 18 = .ok (.iload_n 1, 1) := by decide +kernel
theorem dX0_typeBits_19 : decode cX0_typeBits 19 = .ok (.iconst 1, 1) := by decide +kernel
theorem dX0_typeBits_20 : decode cX0_typeBits 20 = .ok (.iload_n 2, 1) := by decide +kernel
theorem dX0_typeBits_21 : decode cX0_typeBits 21 = .ok (.ishl, 1) := by decide +kernel
theorem dX0_typeBits_22 : decode cX0_typeBits 22 = .ok (.ior, 1) := by decide +kernel
theorem dX0_typeBits_23 : decode cX0_typeBits 23 = .ok (.istore_n 1, 1) := by decide +kernel
theorem dX0_typeBits_24 : decode cX0_typeBits 24 = .ok (.iinc 2 1, 3) := by decide +kernel
theorem dX0_typeBits_27 : decode cX0_typeBits 27 = .ok (.goto (-23), 3) := by decide +kernel
theorem dX0_typeBits_30 : decode cX0_typeBits 30 = .ok (.iload_n 1, 1) := by decide +kernel
theorem dX0_typeBits_31 : decode cX0_typeBits 31 = .ok (.ireturn, 1) := by decide +kernel
set_option maxRecDepth 20000 in
theorem ggX1_init_X0_init : GoodIn wsX1_init wsX0_init := goodIn_r _ [10, 11, 2, 3, 12, 13, 14, 15, 16, 17, 18, 6, 19, 20, 21, 22, 23, 24, 25] (by decide +kernel) (by decide +kernel)
set_option maxRecDepth 20000 in
theorem gX1_init_X0_init : GoodIn wsX1_init (wsX0_init) := ggX1_init_X0_init
theorem dX1_init_0 : decode cX1_init 0 = .ok (.aload_n 0, 1) := by decide +kernel
theorem dX1_init_1 : decode cX1_init 1 = .ok (.invokespecial 3, 3) := by decide +kernel
theorem dX1_init_4 : decode cX1_init 4 = .ok (.aload_n 0, 1) := by decide +kernel
theorem dX1_init_5 : decode cX1_init 5 = .ok (.new 9, 3) := by decide +kernel
theorem dX1_init_8 : decode cX1_init 8 = .ok (.dup, 1) := by decide +kernel
theorem dX1_init_9 : decode cX1_init 9 = .ok (.invokespecial 11, 3) := by decide +kernel
theorem dX1_init_12 : decode cX1_init 12 = .ok (.putfield 12, 3) := by decide +kernel
theorem dX1_init_15 : decode cX1_init 15 = .ok (.return_, 1) := by decide +kernel
theorem dX1_contents_0 : decode cX1_contents 0 = .ok (.aload_n 0, 1) := by decide +kernel
theorem dX1_contents_1 : decode cX1_contents 1 = .ok (.getfield 12, 3) := by decide +kernel
theorem dX1_contents_4 : decode cX1_contents 4 = .ok (.areturn, 1) := by decide +kernel
theorem dX1_held_0 : decode cX1_held 0 = .ok (.aload_n 0, 1) := by decide +kernel
theorem dX1_held_1 : decode cX1_held 1 = .ok (.getfield 18, 3) := by decide +kernel
theorem dX1_held_4 : decode cX1_held 4 = .ok (.ireturn, 1) := by decide +kernel
theorem dX1_useNext_0 : decode cX1_useNext 0 = .ok (.aload_n 0, 1) := by decide +kernel
theorem dX1_useNext_1 : decode cX1_useNext 1 = .ok (.aload_n 1, 1) := by decide +kernel
theorem dX1_useNext_2 : decode cX1_useNext 2 = .ok (.putfield 12, 3) := by decide +kernel
theorem dX1_useNext_5 : decode cX1_useNext 5 = .ok (.return_, 1) := by decide +kernel
set_option maxRecDepth 20000 in
theorem ggX1_read_X0_clear : GoodIn wsX1_read wsX0_clear := goodIn_r _ [6, 7, 8, 9, 10, 11, 59, 60] (by decide +kernel) (by decide +kernel)
set_option maxRecDepth 20000 in
theorem gX1_read_X0_clear : GoodIn wsX1_read (wsV RX1 22 RX0 yX0_clear wsX0_clear) := goodIn_app (goodIn_of _ (by decide +kernel)) ggX1_read_X0_clear
set_option maxRecDepth 20000 in
theorem ggX1_read_X1_pairAt : GoodIn wsX1_read wsX1_pairAt := goodIn_r _ [15] (by decide +kernel) (by decide +kernel)
set_option maxRecDepth 20000 in
theorem gX1_read_X1_pairAt : GoodIn wsX1_read (va_wsS RX1 25 yX1_pairAt wsX1_pairAt) := goodIn_app (goodIn_of _ (by decide +kernel)) ggX1_read_X1_pairAt
set_option maxRecDepth 20000 in
theorem ggX1_read_X1_faultOfPart : GoodIn wsX1_read wsX1_faultOfPart := goodIn_r _ [19, 1, 20, 21, 14, 22, 23, 24, 25, 26, 27, 28, 29, 30, 31, 5, 32, 33, 34, 35, 36, 7, 57, 58, 59, 60] (by decide +kernel) (by decide +kernel)
set_option maxRecDepth 20000 in
theorem gX1_read_X1_faultOfPart : GoodIn wsX1_read (wsV RX1 29 RX1 yX1_faultOfPart wsX1_faultOfPart) := goodIn_app (goodIn_of _ (by decide +kernel)) ggX1_read_X1_faultOfPart
set_option maxRecDepth 20000 in
theorem ggX1_read_X1_takePart : GoodIn wsX1_read wsX1_takePart := goodIn_r _ [40, 41, 1, 12, 13, 14, 15, 42, 43, 44, 5, 45, 46, 47, 48, 49, 50, 7, 51, 52, 53, 26, 27, 28, 54, 55, 56, 57, 58, 59, 60] (by decide +kernel) (by decide +kernel)
set_option maxRecDepth 20000 in
theorem gX1_read_X1_takePart : GoodIn wsX1_read (wsV RX1 33 RX1 yX1_takePart wsX1_takePart) := goodIn_app (goodIn_of _ (by decide +kernel)) ggX1_read_X1_takePart
theorem dX1_read_0 : decode cX1_read 0 = .ok (.aload_n 0, 1) := by decide +kernel
theorem dX1_read_1 : decode cX1_read 1 = .ok (.getfield 12, 3) := by decide +kernel
theorem dX1_read_4 : decode cX1_read 4 = .ok (.invokevirtual 22, 3) := by decide +kernel
theorem dX1_read_7 : decode cX1_read 7 = .ok (.iconst 0, 1) := by decide +kernel
theorem dX1_read_8 : decode cX1_read 8 = .ok (.istore_n 3, 1) := by decide +kernel
theorem dX1_read_9 : decode cX1_read 9 = .ok (.iconst 0, 1) := by decide +kernel
theorem dX1_read_10 : decode cX1_read 10 = .ok (.istore 4, 2) := by decide +kernel
theorem dX1_read_12 : decode cX1_read 12 = .ok (.iload 4, 2) := by decide +kernel
theorem dX1_read_14 : decode cX1_read 14 = .ok (.sipush 350, 3) := by decide +kernel
theorem dX1_read_17 : decode cX1_read 17 = .ok (.if_icmp .gt 91, 3) := by decide +kernel
theorem dX1_read_20 : decode cX1_read 20 = .ok (.iload_n 2, 1) := by decide +kernel
theorem dX1_read_21 : decode cX1_read 21 = .ok (.iload_n 3, 1) := by decide +kernel
theorem dX1_read_22 : decode cX1_read 22 = .ok (.isub, 1) := by decide +kernel
theorem dX1_read_23 : decode cX1_read 23 = .ok (.iconst 2, 1) := by decide +kernel
theorem dX1_read_24 : decode cX1_read 24 = .ok (.isub, 1) := by decide +kernel
theorem dX1_read_25 : decode cX1_read 25 = .ok (.istore 5, 2) := by decide +kernel
theorem dX1_read_27 : decode cX1_read 27 = .ok (.iload 5, 2) := by decide +kernel
theorem dX1_read_29 : decode cX1_read 29 = .ok (.ifCond .ge 5, 3) := by decide +kernel
theorem dX1_read_32 : decode cX1_read 32 = .ok (.iconst 1, 1) := by decide +kernel
theorem dX1_read_33 : decode cX1_read 33 = .ok (.ireturn, 1) := by decide +kernel
theorem dX1_read_34 : decode cX1_read 34 = .ok (.aload_n 1, 1) := by decide +kernel
theorem dX1_read_35 : decode cX1_read 35 = .ok (.iload_n 3, 1) := by decide +kernel
theorem dX1_read_36 : decode cX1_read 36 = .ok (.invokestatic 25, 3) := by decide +kernel
theorem dX1_read_39 : decode cX1_read 39 = .ok (.istore 6, 2) := by decide +kernel
theorem dX1_read_41 : decode cX1_read 41 = .ok (.iload 6, 2) := by decide +kernel
theorem dX1_read_43 : decode cX1_read 43 = .ok (.bipush 9, 2) := by decide +kernel
theorem dX1_read_45 : decode cX1_read 45 = .ok (.ishr, 1) := by decide +kernel
theorem dX1_read_46 : decode cX1_read 46 = .ok (.istore 7, 2) := by decide +kernel
theorem dX1_read_48 : decode cX1_read 48 = .ok (.iload 6, 2) := by decide +kernel
theorem dX1_read_50 : decode cX1_read 50 = .ok (.sipush 511, 3) := by decide +kernel
theorem dX1_read_53 : decode cX1_read 53 = .ok (.iand, 1) := by decide +kernel
theorem dX1_read_54 : decode cX1_read 54 = .ok (.istore 8, 2) := by decide +kernel
theorem dX1_read_56 : decode cX1_read 56 = .ok (.aload_n 0, 1) := by decide +kernel
theorem dX1_read_57 : decode cX1_read 57 = .ok (.iload 4, 2) := by decide +kernel
theorem dX1_read_59 : decode cX1_read 59 = .ok (.iload 7, 2) := by decide +kernel
theorem dX1_read_61 : decode cX1_read 61 = .ok (.iload 8, 2) := by decide +kernel
theorem dX1_read_63 : decode cX1_read 63 = .ok (.iload 5, 2) := by decide +kernel
theorem dX1_read_65 : decode cX1_read 65 = .ok (.invokevirtual 29, 3) := by decide +kernel
theorem dX1_read_68 : decode cX1_read 68 = .ok (.istore 9, 2) := by decide +kernel
theorem dX1_read_70 : decode cX1_read 70 = .ok (.iload 9, 2) := by decide +kernel
theorem dX1_read_72 : decode cX1_read 72 = .ok (.ifCond .ne 8, 3) := by decide +kernel
theorem dX1_read_75 : decode cX1_read 75 = .ok (.iload 7, 2) := by decide +kernel
theorem dX1_read_77 : decode cX1_read 77 = .ok (.ifCond .ne 6, 3) := by decide +kernel
theorem dX1_read_80 : decode cX1_read 80 = .ok (.iload 9, 2) := by decide +kernel
theorem dX1_read_82 : decode cX1_read 82 = .ok (.ireturn, 1) := by decide +kernel
theorem dX1_read_83 : decode cX1_read 83 = .ok (.aload_n 0, 1) := by decide +kernel
theorem dX1_read_84 : decode cX1_read 84 = .ok (.iload 7, 2) := by decide +kernel
theorem dX1_read_86 : decode cX1_read 86 = .ok (.aload_n 1, 1) := by decide +kernel
theorem dX1_read_87 : decode cX1_read 87 = .ok (.iload_n 3, 1) := by decide +kernel
theorem dX1_read_88 : decode cX1_read 88 = .ok (.iconst 2, 1) := by decide +kernel
theorem dX1_read_89 : decode cX1_read 89 = .ok (.iadd, 1) := by decide +kernel
theorem dX1_read_90 : decode cX1_read 90 = .ok (.iload 8, 2) := by decide +kernel
theorem dX1_read_92 : decode cX1_read 92 = .ok (.invokevirtual 33, 3) := by decide +kernel
theorem dX1_read_95 : decode cX1_read 95 = .ok (.iload_n 3, 1) := by decide +kernel
theorem dX1_read_96 : decode cX1_read 96 = .ok (.iconst 2, 1) := by decide +kernel
theorem dX1_read_97 : decode cX1_read 97 = .ok (.iload 8, 2) := by decide +kernel
theorem dX1_read_99 : decode cX1_read 99 = .ok (.iadd, 1) := by decide +kernel
theorem dX1_read_100 : decode cX1_read 100 = .ok (.iadd, 1) := by decide +kernel
theorem dX1_read_101 : decode cX1_read 101 = .ok (.istore_n 3, 1) := by decide +kernel
theorem dX1_read_102 : decode cX1_read 102 = .ok (.iinc 4 1, 3) := by decide +kernel
theorem dX1_read_105 : decode cX1_read 105 = .ok (.goto (-93), 3) := by decide +kernel
theorem dX1_read_108 : decode cX1_read 108 = .ok (.iconst 1, 1) := by decide +kernel
theorem dX1_read_109 : decode cX1_read 109 = .ok (.ireturn, 1) := by decide +kernel
set_option maxRecDepth 20000 in
theorem ggX1_faultOfPart_X1_isOutOfOrder : GoodIn wsX1_faultOfPart wsX1_isOutOfOrder := goodIn_r _ [5] (by decide +kernel) (by decide +kernel)
set_option maxRecDepth 20000 in
theorem gX1_faultOfPart_X1_isOutOfOrder : GoodIn wsX1_faultOfPart (va_wsS RX1 37 yX1_isOutOfOrder wsX1_isOutOfOrder) := goodIn_app (goodIn_of _ (by decide +kernel)) ggX1_faultOfPart_X1_isOutOfOrder
set_option maxRecDepth 20000 in
theorem ggX1_faultOfPart_X1_isWrongSize : GoodIn wsX1_faultOfPart wsX1_isWrongSize := goodIn_r _ [8, 9, 10, 11] (by decide +kernel) (by decide +kernel)
set_option maxRecDepth 20000 in
theorem gX1_faultOfPart_X1_isWrongSize : GoodIn wsX1_faultOfPart (va_wsS RX1 41 yX1_isWrongSize wsX1_isWrongSize) := goodIn_app (goodIn_of _ (by decide +kernel)) ggX1_faultOfPart_X1_isWrongSize
set_option maxRecDepth 20000 in
theorem ggX1_faultOfPart_X6_isMore : GoodIn wsX1_faultOfPart wsX6_isMore := goodIn_r _ [11] (by decide +kernel) (by decide +kernel)
set_option maxRecDepth 20000 in
theorem gX1_faultOfPart_X6_isMore_n44 : GoodIn wsX1_faultOfPart (wsX6_isMore) := ggX1_faultOfPart_X6_isMore
set_option maxRecDepth 20000 in
theorem ggX1_faultOfPart_X0_has : GoodIn wsX1_faultOfPart wsX0_has := goodIn_r _ [16, 17, 18, 19, 15, 20, 21, 24, 25] (by decide +kernel) (by decide +kernel)
set_option maxRecDepth 20000 in
theorem gX1_faultOfPart_X0_has : GoodIn wsX1_faultOfPart (wsV RX1 48 RX0 yX0_has wsX0_has) := goodIn_app (goodIn_of _ (by decide +kernel)) ggX1_faultOfPart_X0_has
theorem dX1_faultOfPart_0 : decode cX1_faultOfPart 0 = .ok (.iload_n 1, 1) := by decide +kernel
theorem dX1_faultOfPart_1 : decode cX1_faultOfPart 1 = .ok (.iload_n 2, 1) := by decide +kernel
theorem dX1_faultOfPart_2 : decode cX1_faultOfPart 2 = .ok (.invokestatic 37, 3) := by decide +kernel
theorem dX1_faultOfPart_5 : decode cX1_faultOfPart 5 = .ok (.ifCond .eq 5, 3) := by decide +kernel
theorem dX1_faultOfPart_8 : decode cX1_faultOfPart 8 = .ok (.iconst 2, 1) := by decide +kernel
theorem dX1_faultOfPart_9 : decode cX1_faultOfPart 9 = .ok (.ireturn, 1) := by decide +kernel
theorem dX1_faultOfPart_10 : decode cX1_faultOfPart 10 = .ok (.iload_n 2, 1) := by decide +kernel
theorem dX1_faultOfPart_11 : decode cX1_faultOfPart 11 = .ok (.iload_n 3, 1) := by decide +kernel
theorem dX1_faultOfPart_12 : decode cX1_faultOfPart 12 = .ok (.invokestatic 41, 3) := by decide +kernel
theorem dX1_faultOfPart_15 : decode cX1_faultOfPart 15 = .ok (.ifCond .eq 5, 3) := by decide +kernel
theorem dX1_faultOfPart_18 : decode cX1_faultOfPart 18 = .ok (.iconst 3, 1) := by decide +kernel
theorem dX1_faultOfPart_19 : decode cX1_faultOfPart 19 = .ok (.ireturn, 1) := by decide +kernel
theorem dX1_faultOfPart_20 : decode cX1_faultOfPart 20 = .ok (.iload_n 3, 1) := by decide +kernel
theorem dX1_faultOfPart_21 : decode cX1_faultOfPart 21 = .ok (.iload 4, 2) := by decide +kernel
theorem dX1_faultOfPart_23 : decode cX1_faultOfPart 23 = .ok (.if_icmp .le 5, 3) := by decide +kernel
theorem dX1_faultOfPart_26 : decode cX1_faultOfPart 26 = .ok (.iconst 1, 1) := by decide +kernel
theorem dX1_faultOfPart_27 : decode cX1_faultOfPart 27 = .ok (.ireturn, 1) := by decide +kernel
theorem dX1_faultOfPart_28 : decode cX1_faultOfPart 28 = .ok (.iload_n 2, 1) := by decide +kernel
theorem dX1_faultOfPart_29 : decode cX1_faultOfPart 29 = .ok (.invokestatic 44, 3) := by decide +kernel
theorem dX1_faultOfPart_32 : decode cX1_faultOfPart 32 = .ok (.ifCond .eq 18, 3) := by decide +kernel
theorem dX1_faultOfPart_35 : decode cX1_faultOfPart 35 = .ok (.aload_n 0, 1) := by decide +kernel
theorem dX1_faultOfPart_36 : decode cX1_faultOfPart 36 = .ok (.getfield 12, 3) := by decide +kernel
theorem dX1_faultOfPart_39 : decode cX1_faultOfPart 39 = .ok (.iload_n 2, 1) := by decide +kernel
theorem dX1_faultOfPart_40 : decode cX1_faultOfPart 40 = .ok (.invokevirtual 48, 3) := by decide +kernel
theorem dX1_faultOfPart_43 : decode cX1_faultOfPart 43 = .ok (.ifCond .eq 7, 3) := by decide +kernel
theorem dX1_faultOfPart_46 : decode cX1_faultOfPart 46 = .ok (.iconst 4, 1) := by decide +kernel
theorem dX1_faultOfPart_47 : decode cX1_faultOfPart 47 = .ok (.goto 4, 3) := by decide +kernel
theorem dX1_faultOfPart_50 : decode cX1_faultOfPart 50 = .ok (.iconst 0, 1) := by decide +kernel
theorem dX1_faultOfPart_51 : decode cX1_faultOfPart 51 = .ok (.ireturn, 1) := by decide +kernel
theorem dX1_isOutOfOrder_0 : decode cX1_isOutOfOrder 0 = .ok (.iload_n 0, 1) := by decide +kernel
theorem dX1_isOutOfOrder_1 : decode cX1_isOutOfOrder 1 = .ok (.iconst 3, 1) := by decide +kernel
theorem dX1_isOutOfOrder_2 : decode cX1_isOutOfOrder 2 = .ok (.if_icmp .ge 16, 3) := by decide +kernel
theorem dX1_isOutOfOrder_5 : decode cX1_isOutOfOrder 5 = .ok (.iload_n 1, 1) := by decide +kernel
theorem dX1_isOutOfOrder_6 : decode cX1_isOutOfOrder 6 = .ok (.iload_n 0, 1) := by decide +kernel
theorem dX1_isOutOfOrder_7 : decode cX1_isOutOfOrder 7 = .ok (.iconst 1, 1) := by decide +kernel
theorem dX1_isOutOfOrder_8 : decode cX1_isOutOfOrder 8 = .ok (.iadd, 1) := by decide +kernel
theorem dX1_isOutOfOrder_9 : decode cX1_isOutOfOrder 9 = .ok (.if_icmp .eq 7, 3) := by decide +kernel
theorem dX1_isOutOfOrder_12 : decode cX1_isOutOfOrder 12 = .ok (.iconst 1, 1) := by decide +kernel
theorem dX1_isOutOfOrder_13 : decode cX1_isOutOfOrder 13 = .ok (.goto 4, 3) := by decide +kernel
theorem dX1_isOutOfOrder_16 : decode cX1_isOutOfOrder 16 = .ok (.iconst 0, 1) := by decide +kernel
theorem dX1_isOutOfOrder_17 : decode cX1_isOutOfOrder 17 = .ok (.ireturn, 1) := by decide +kernel
theorem dX1_isOutOfOrder_18 : decode cX1_isOutOfOrder 18 = .ok (.iload_n 1, 1) := by decide +kernel
theorem dX1_isOutOfOrder_19 : decode cX1_isOutOfOrder 19 = .ok (.iconst 1, 1) := by decide +kernel
theorem dX1_isOutOfOrder_20 : decode cX1_isOutOfOrder 20 = .ok (.if_icmp .lt 12, 3) := by decide +kernel
theorem dX1_isOutOfOrder_23 : decode cX1_isOutOfOrder 23 = .ok (.iload_n 1, 1) := by decide +kernel
theorem dX1_isOutOfOrder_24 : decode cX1_isOutOfOrder 24 = .ok (.iconst 3, 1) := by decide +kernel
theorem dX1_isOutOfOrder_25 : decode cX1_isOutOfOrder 25 = .ok (.if_icmp .gt 7, 3) := by decide +kernel
theorem dX1_isOutOfOrder_28 : decode cX1_isOutOfOrder 28 = .ok (.iconst 1, 1) := by decide +kernel
theorem dX1_isOutOfOrder_29 : decode cX1_isOutOfOrder 29 = .ok (.goto 4, 3) := by decide +kernel
theorem dX1_isOutOfOrder_32 : decode cX1_isOutOfOrder 32 = .ok (.iconst 0, 1) := by decide +kernel
theorem dX1_isOutOfOrder_33 : decode cX1_isOutOfOrder 33 = .ok (.ireturn, 1) := by decide +kernel
set_option maxRecDepth 20000 in
theorem ggX1_isWrongSize_X6_isMore : GoodIn wsX1_isWrongSize wsX6_isMore := goodIn_r _ [3] (by decide +kernel) (by decide +kernel)
set_option maxRecDepth 20000 in
theorem gX1_isWrongSize_X6_isMore_n44 : GoodIn wsX1_isWrongSize (wsX6_isMore) := ggX1_isWrongSize_X6_isMore
theorem dX1_isWrongSize_0 : decode cX1_isWrongSize 0 = .ok (.iload_n 0, 1) := by decide +kernel
theorem dX1_isWrongSize_1 : decode cX1_isWrongSize 1 = .ok (.ifCond .ne 13, 3) := by decide +kernel
theorem dX1_isWrongSize_4 : decode cX1_isWrongSize 4 = .ok (.iload_n 1, 1) := by decide +kernel
theorem dX1_isWrongSize_5 : decode cX1_isWrongSize 5 = .ok (.ifCond .eq 7, 3) := by decide +kernel
theorem dX1_isWrongSize_8 : decode cX1_isWrongSize 8 = .ok (.iconst 1, 1) := by decide +kernel
theorem dX1_isWrongSize_9 : decode cX1_isWrongSize 9 = .ok (.goto 4, 3) := by decide +kernel
theorem dX1_isWrongSize_12 : decode cX1_isWrongSize 12 = .ok (.iconst 0, 1) := by decide +kernel
theorem dX1_isWrongSize_13 : decode cX1_isWrongSize 13 = .ok (.ireturn, 1) := by decide +kernel
theorem dX1_isWrongSize_14 : decode cX1_isWrongSize 14 = .ok (.iload_n 0, 1) := by decide +kernel
theorem dX1_isWrongSize_15 : decode cX1_isWrongSize 15 = .ok (.iconst 1, 1) := by decide +kernel
theorem dX1_isWrongSize_16 : decode cX1_isWrongSize 16 = .ok (.if_icmp .eq 8, 3) := by decide +kernel
theorem dX1_isWrongSize_19 : decode cX1_isWrongSize 19 = .ok (.iload_n 0, 1) := by decide +kernel
theorem dX1_isWrongSize_20 : decode cX1_isWrongSize 20 = .ok (.iconst 2, 1) := by decide +kernel
theorem dX1_isWrongSize_21 : decode cX1_isWrongSize 21 = .ok (.if_icmp .ne 20, 3) := by decide +kernel
theorem dX1_isWrongSize_24 : decode cX1_isWrongSize 24 = .ok (.iload_n 1, 1) := by decide +kernel
theorem dX1_isWrongSize_25 : decode cX1_isWrongSize 25 = .ok (.iconst 2, 1) := by decide +kernel
theorem dX1_isWrongSize_26 : decode cX1_isWrongSize 26 = .ok (.if_icmp .lt 9, 3) := by decide +kernel
theorem dX1_isWrongSize_29 : decode cX1_isWrongSize 29 = .ok (.iload_n 1, 1) := by decide +kernel
theorem dX1_isWrongSize_30 : decode cX1_isWrongSize 30 = .ok (.bipush 60, 2) := by decide +kernel
theorem dX1_isWrongSize_32 : decode cX1_isWrongSize 32 = .ok (.if_icmp .le 7, 3) := by decide +kernel
theorem dX1_isWrongSize_35 : decode cX1_isWrongSize 35 = .ok (.iconst 1, 1) := by decide +kernel
theorem dX1_isWrongSize_36 : decode cX1_isWrongSize 36 = .ok (.goto 4, 3) := by decide +kernel
theorem dX1_isWrongSize_39 : decode cX1_isWrongSize 39 = .ok (.iconst 0, 1) := by decide +kernel
theorem dX1_isWrongSize_40 : decode cX1_isWrongSize 40 = .ok (.ireturn, 1) := by decide +kernel
theorem dX1_isWrongSize_41 : decode cX1_isWrongSize 41 = .ok (.iload_n 0, 1) := by decide +kernel
theorem dX1_isWrongSize_42 : decode cX1_isWrongSize 42 = .ok (.iconst 3, 1) := by decide +kernel
theorem dX1_isWrongSize_43 : decode cX1_isWrongSize 43 = .ok (.if_icmp .ne 14, 3) := by decide +kernel
theorem dX1_isWrongSize_46 : decode cX1_isWrongSize 46 = .ok (.iload_n 1, 1) := by decide +kernel
theorem dX1_isWrongSize_47 : decode cX1_isWrongSize 47 = .ok (.iconst 2, 1) := by decide +kernel
theorem dX1_isWrongSize_48 : decode cX1_isWrongSize 48 = .ok (.if_icmp .ge 7, 3) := by decide +kernel
theorem dX1_isWrongSize_51 : decode cX1_isWrongSize 51 = .ok (.iconst 1, 1) := by decide +kernel
theorem dX1_isWrongSize_52 : decode cX1_isWrongSize 52 = .ok (.goto 4, 3) := by decide +kernel
theorem dX1_isWrongSize_55 : decode cX1_isWrongSize 55 = .ok (.iconst 0, 1) := by decide +kernel
theorem dX1_isWrongSize_56 : decode cX1_isWrongSize 56 = .ok (.ireturn, 1) := by decide +kernel
theorem dX1_isWrongSize_57 : decode cX1_isWrongSize 57 = .ok (.iload_n 0, 1) := by decide +kernel
theorem dX1_isWrongSize_58 : decode cX1_isWrongSize 58 = .ok (.invokestatic 44, 3) := by decide +kernel
theorem dX1_isWrongSize_61 : decode cX1_isWrongSize 61 = .ok (.ifCond .eq 13, 3) := by decide +kernel
theorem dX1_isWrongSize_64 : decode cX1_isWrongSize 64 = .ok (.iload_n 1, 1) := by decide +kernel
theorem dX1_isWrongSize_65 : decode cX1_isWrongSize 65 = .ok (.bipush 60, 2) := by decide +kernel
theorem dX1_isWrongSize_67 : decode cX1_isWrongSize 67 = .ok (.if_icmp .le 7, 3) := by decide +kernel
theorem dX1_isWrongSize_70 : decode cX1_isWrongSize 70 = .ok (.iconst 1, 1) := by decide +kernel
theorem dX1_isWrongSize_71 : decode cX1_isWrongSize 71 = .ok (.goto 4, 3) := by decide +kernel
theorem dX1_isWrongSize_74 : decode cX1_isWrongSize 74 = .ok (.iconst 0, 1) := by decide +kernel
theorem dX1_isWrongSize_75 : decode cX1_isWrongSize 75 = .ok (.ireturn, 1) := by decide +kernel
set_option maxRecDepth 20000 in
theorem ggX1_takePart_X1_pairAt : GoodIn wsX1_takePart wsX1_pairAt := goodIn_r _ [6] (by decide +kernel) (by decide +kernel)
set_option maxRecDepth 20000 in
theorem gX1_takePart_X1_pairAt : GoodIn wsX1_takePart (va_wsS RX1 25 yX1_pairAt wsX1_pairAt) := goodIn_app (goodIn_of _ (by decide +kernel)) ggX1_takePart_X1_pairAt
set_option maxRecDepth 20000 in
theorem ggX1_takePart_X0_keep : GoodIn wsX1_takePart wsX0_keep := goodIn_r _ [11, 12, 13, 14, 15, 16, 17, 18, 19, 10, 20, 21, 22, 23, 24, 25, 26, 29, 30] (by decide +kernel) (by decide +kernel)
set_option maxRecDepth 20000 in
theorem gX1_takePart_X0_keep : GoodIn wsX1_takePart (wsV RX1 51 RX0 yX0_keep wsX0_keep) := goodIn_app (goodIn_of _ (by decide +kernel)) ggX1_takePart_X0_keep
theorem dX1_takePart_0 : decode cX1_takePart 0 = .ok (.iload_n 1, 1) := by decide +kernel
theorem dX1_takePart_1 : decode cX1_takePart 1 = .ok (.iconst 3, 1) := by decide +kernel
theorem dX1_takePart_2 : decode cX1_takePart 2 = .ok (.if_icmp .ne 15, 3) := by decide +kernel
theorem dX1_takePart_5 : decode cX1_takePart 5 = .ok (.aload_n 0, 1) := by decide +kernel
theorem dX1_takePart_6 : decode cX1_takePart 6 = .ok (.aload_n 2, 1) := by decide +kernel
theorem dX1_takePart_7 : decode cX1_takePart 7 = .ok (.iload_n 3, 1) := by decide +kernel
theorem dX1_takePart_8 : decode cX1_takePart 8 = .ok (.invokestatic 25, 3) := by decide +kernel
theorem dX1_takePart_11 : decode cX1_takePart 11 = .ok (.putfield 18, 3) := by decide +kernel
theorem dX1_takePart_14 : decode cX1_takePart 14 = .ok (.goto 15, 3) := by decide +kernel
theorem dX1_takePart_17 : decode cX1_takePart 17 = .ok (.aload_n 0, 1) := by decide +kernel
theorem dX1_takePart_18 : decode cX1_takePart 18 = .ok (.getfield 12, 3) := by decide +kernel
theorem dX1_takePart_21 : decode cX1_takePart 21 = .ok (.iload_n 1, 1) := by decide +kernel
theorem dX1_takePart_22 : decode cX1_takePart 22 = .ok (.aload_n 2, 1) := by decide +kernel
theorem dX1_takePart_23 : decode cX1_takePart 23 = .ok (.iload_n 3, 1) := by decide +kernel
theorem dX1_takePart_24 : decode cX1_takePart 24 = .ok (.iload 4, 2) := by decide +kernel
theorem dX1_takePart_26 : decode cX1_takePart 26 = .ok (.invokevirtual 51, 3) := by decide +kernel
theorem dX1_takePart_29 : decode cX1_takePart 29 = .ok (.return_, 1) := by decide +kernel
theorem dX1_pairAt_0 : decode cX1_pairAt 0 = .ok (.iload_n 1, 1) := by decide +kernel
theorem dX1_pairAt_1 : decode cX1_pairAt 1 = .ok (.ifCond .lt 11, 3) := by decide +kernel
theorem dX1_pairAt_4 : decode cX1_pairAt 4 = .ok (.iload_n 1, 1) := by decide +kernel
theorem dX1_pairAt_5 : decode cX1_pairAt 5 = .ok (.iconst 1, 1) := by decide +kernel
theorem dX1_pairAt_6 : decode cX1_pairAt 6 = .ok (.iadd, 1) := by decide +kernel
theorem dX1_pairAt_7 : decode cX1_pairAt 7 = .ok (.aload_n 0, 1) := by decide +kernel
theorem dX1_pairAt_8 : decode cX1_pairAt 8 = .ok (.arraylength, 1) := by decide +kernel
theorem dX1_pairAt_9 : decode cX1_pairAt 9 = .ok (.if_icmp .lt 5, 3) := by decide +kernel
theorem dX1_pairAt_12 : decode cX1_pairAt 12 = .ok (.iconst 0, 1) := by decide +kernel
theorem dX1_pairAt_13 : decode cX1_pairAt 13 = .ok (.ireturn, 1) := by decide +kernel
theorem dX1_pairAt_14 : decode cX1_pairAt 14 = .ok (.aload_n 0, 1) := by decide +kernel
theorem dX1_pairAt_15 : decode cX1_pairAt 15 = .ok (.iload_n 1, 1) := by decide +kernel
theorem dX1_pairAt_16 : decode cX1_pairAt 16 = .ok (.baload, 1) := by decide +kernel
theorem dX1_pairAt_17 : decode cX1_pairAt 17 = .ok (.sipush 255, 3) := by decide +kernel
theorem dX1_pairAt_20 : decode cX1_pairAt 20 = .ok (.iand, 1) := by decide +kernel
theorem dX1_pairAt_21 : decode cX1_pairAt 21 = .ok (.bipush 8, 2) := by decide +kernel
theorem dX1_pairAt_23 : decode cX1_pairAt 23 = .ok (.ishl, 1) := by decide +kernel
theorem dX1_pairAt_24 : decode cX1_pairAt 24 = .ok (.aload_n 0, 1) := by decide +kernel
theorem dX1_pairAt_25 : decode cX1_pairAt 25 = .ok (.iload_n 1, 1) := by decide +kernel
theorem dX1_pairAt_26 : decode cX1_pairAt 26 = .ok (.iconst 1, 1) := by decide +kernel
theorem dX1_pairAt_27 : decode cX1_pairAt 27 = .ok (.iadd, 1) := by decide +kernel
theorem dX1_pairAt_28 : decode cX1_pairAt 28 = .ok (.baload, 1) := by decide +kernel
theorem dX1_pairAt_29 : decode cX1_pairAt 29 = .ok (.sipush 255, 3) := by decide +kernel
theorem dX1_pairAt_32 : decode cX1_pairAt 32 = .ok (.iand, 1) := by decide +kernel
theorem dX1_pairAt_33 : decode cX1_pairAt 33 = .ok (.ior, 1) := by decide +kernel
theorem dX1_pairAt_34 : decode cX1_pairAt 34 = .ok (.ireturn, 1) := by decide +kernel
set_option maxRecDepth 20000 in
theorem ggX2_init_X0_init : GoodIn wsX2_init wsX0_init := goodIn_r _ [10, 11, 2, 3, 12, 13, 14, 15, 16, 17, 18, 6, 19, 20, 21, 22, 23, 24, 25] (by decide +kernel) (by decide +kernel)
set_option maxRecDepth 20000 in
theorem gX2_init_X0_init : GoodIn wsX2_init (wsX0_init) := ggX2_init_X0_init
theorem dX2_init_0 : decode cX2_init 0 = .ok (.aload_n 0, 1) := by decide +kernel
theorem dX2_init_1 : decode cX2_init 1 = .ok (.invokespecial 3, 3) := by decide +kernel
theorem dX2_init_4 : decode cX2_init 4 = .ok (.aload_n 0, 1) := by decide +kernel
theorem dX2_init_5 : decode cX2_init 5 = .ok (.new 9, 3) := by decide +kernel
theorem dX2_init_8 : decode cX2_init 8 = .ok (.dup, 1) := by decide +kernel
theorem dX2_init_9 : decode cX2_init 9 = .ok (.invokespecial 11, 3) := by decide +kernel
theorem dX2_init_12 : decode cX2_init 12 = .ok (.putfield 12, 3) := by decide +kernel
theorem dX2_init_15 : decode cX2_init 15 = .ok (.return_, 1) := by decide +kernel
theorem dX2_contents_0 : decode cX2_contents 0 = .ok (.aload_n 0, 1) := by decide +kernel
theorem dX2_contents_1 : decode cX2_contents 1 = .ok (.getfield 12, 3) := by decide +kernel
theorem dX2_contents_4 : decode cX2_contents 4 = .ok (.areturn, 1) := by decide +kernel
theorem dX2_portOf_0 : decode cX2_portOf 0 = .ok (.aload_n 0, 1) := by decide +kernel
theorem dX2_portOf_1 : decode cX2_portOf 1 = .ok (.getfield 18, 3) := by decide +kernel
theorem dX2_portOf_4 : decode cX2_portOf 4 = .ok (.ireturn, 1) := by decide +kernel
theorem dX2_begin_0 : decode cX2_begin 0 = .ok (.aload_n 0, 1) := by decide +kernel
theorem dX2_begin_1 : decode cX2_begin 1 = .ok (.iload_n 1, 1) := by decide +kernel
theorem dX2_begin_2 : decode cX2_begin 2 = .ok (.putfield 18, 3) := by decide +kernel
theorem dX2_begin_5 : decode cX2_begin 5 = .ok (.aload_n 0, 1) := by decide +kernel
theorem dX2_begin_6 : decode cX2_begin 6 = .ok (.iconst 0, 1) := by decide +kernel
theorem dX2_begin_7 : decode cX2_begin 7 = .ok (.putfield 22, 3) := by decide +kernel
theorem dX2_begin_10 : decode cX2_begin 10 = .ok (.return_, 1) := by decide +kernel
theorem dX2_renew_0 : decode cX2_renew 0 = .ok (.aload_n 0, 1) := by decide +kernel
theorem dX2_renew_1 : decode cX2_renew 1 = .ok (.getfield 12, 3) := by decide +kernel
theorem dX2_renew_4 : decode cX2_renew 4 = .ok (.astore_n 3, 1) := by decide +kernel
theorem dX2_renew_5 : decode cX2_renew 5 = .ok (.aload_n 0, 1) := by decide +kernel
theorem dX2_renew_6 : decode cX2_renew 6 = .ok (.aload_n 1, 1) := by decide +kernel
theorem dX2_renew_7 : decode cX2_renew 7 = .ok (.putfield 12, 3) := by decide +kernel
theorem dX2_renew_10 : decode cX2_renew 10 = .ok (.aload_n 0, 1) := by decide +kernel
theorem dX2_renew_11 : decode cX2_renew 11 = .ok (.iload_n 2, 1) := by decide +kernel
theorem dX2_renew_12 : decode cX2_renew 12 = .ok (.putfield 25, 3) := by decide +kernel
theorem dX2_renew_15 : decode cX2_renew 15 = .ok (.aload_n 0, 1) := by decide +kernel
theorem dX2_renew_16 : decode cX2_renew 16 = .ok (.dup, 1) := by decide +kernel
theorem dX2_renew_17 : decode cX2_renew 17 = .ok (.getfield 22, 3) := by decide +kernel
theorem dX2_renew_20 : decode cX2_renew 20 = .ok (.iconst 1, 1) := by decide +kernel
theorem dX2_renew_21 : decode cX2_renew 21 = .ok (.iadd, 1) := by decide +kernel
theorem dX2_renew_22 : decode cX2_renew 22 = .ok (.putfield 22, 3) := by decide +kernel
theorem dX2_renew_25 : decode cX2_renew 25 = .ok (.aload_n 3, 1) := by decide +kernel
theorem dX2_renew_26 : decode cX2_renew 26 = .ok (.areturn, 1) := by decide +kernel
theorem dX2_passTick_0 : decode cX2_passTick 0 = .ok (.aload_n 0, 1) := by decide +kernel
theorem dX2_passTick_1 : decode cX2_passTick 1 = .ok (.dup, 1) := by decide +kernel
theorem dX2_passTick_2 : decode cX2_passTick 2 = .ok (.getfield 25, 3) := by decide +kernel
theorem dX2_passTick_5 : decode cX2_passTick 5 = .ok (.iconst 1, 1) := by decide +kernel
theorem dX2_passTick_6 : decode cX2_passTick 6 = .ok (.isub, 1) := by decide +kernel
theorem dX2_passTick_7 : decode cX2_passTick 7 = .ok (.putfield 25, 3) := by decide +kernel
theorem dX2_passTick_10 : decode cX2_passTick 10 = .ok (.aload_n 0, 1) := by decide +kernel
theorem dX2_passTick_11 : decode cX2_passTick 11 = .ok (.getfield 25, 3) := by decide +kernel
theorem dX2_passTick_14 : decode cX2_passTick 14 = .ok (.ifCond .gt 7, 3) := by decide +kernel
theorem dX2_passTick_17 : decode cX2_passTick 17 = .ok (.iconst 1, 1) := by decide +kernel
theorem dX2_passTick_18 : decode cX2_passTick 18 = .ok (.goto 4, 3) := by decide +kernel
theorem dX2_passTick_21 : decode cX2_passTick 21 = .ok (.iconst 0, 1) := by decide +kernel
theorem dX2_passTick_22 : decode cX2_passTick 22 = .ok (.ireturn, 1) := by decide +kernel
set_option maxRecDepth 20000 in
theorem ggX2_tellAbout_X0_typeBits : GoodIn wsX2_tellAbout wsX0_typeBits := goodIn_r _ [9, 10, 11, 12, 8, 13, 14, 15, 16, 17, 18, 23, 24] (by decide +kernel) (by decide +kernel)
set_option maxRecDepth 20000 in
theorem gX2_tellAbout_X0_typeBits : GoodIn wsX2_tellAbout (wsV RX2 28 RX0 yX0_typeBits wsX0_typeBits) := goodIn_app (goodIn_of _ (by decide +kernel)) ggX2_tellAbout_X0_typeBits
theorem dX2_tellAbout_0 : decode cX2_tellAbout 0 = .ok (.iload_n 1, 1) := by decide +kernel
theorem dX2_tellAbout_1 : decode cX2_tellAbout 1 = .ok (.tableswitch 54 0 3 #[31, 36, 41, 46], 31) := by decide +kernel
theorem dX2_tellAbout_32 : decode cX2_tellAbout 32 = .ok (.aload_n 0, 1) := by decide +kernel
theorem dX2_tellAbout_33 : decode cX2_tellAbout 33 = .ok (.getfield 18, 3) := by decide +kernel
theorem dX2_tellAbout_36 : decode cX2_tellAbout 36 = .ok (.ireturn, 1) := by decide +kernel
theorem dX2_tellAbout_37 : decode cX2_tellAbout 37 = .ok (.aload_n 0, 1) := by decide +kernel
theorem dX2_tellAbout_38 : decode cX2_tellAbout 38 = .ok (.getfield 25, 3) := by decide +kernel
theorem dX2_tellAbout_41 : decode cX2_tellAbout 41 = .ok (.ireturn, 1) := by decide +kernel
theorem dX2_tellAbout_42 : decode cX2_tellAbout 42 = .ok (.aload_n 0, 1) := by decide +kernel
theorem dX2_tellAbout_43 : decode cX2_tellAbout 43 = .ok (.getfield 22, 3) := by decide +kernel
theorem dX2_tellAbout_46 : decode cX2_tellAbout 46 = .ok (.ireturn, 1) := by decide +kernel
theorem dX2_tellAbout_47 : decode cX2_tellAbout 47 = .ok (.aload_n 0, 1) := by decide +kernel
theorem dX2_tellAbout_48 : decode cX2_tellAbout 48 = .ok (.getfield 12, 3) := by decide +kernel
theorem dX2_tellAbout_51 : decode cX2_tellAbout 51 = .ok (.invokevirtual 28, 3) := by decide +kernel
theorem dX2_tellAbout_54 : decode cX2_tellAbout 54 = .ok (.ireturn, 1) := by decide +kernel
theorem dX2_tellAbout_55 : decode cX2_tellAbout 55 = .ok (.iconst (-1), 1) := by decide +kernel
theorem dX2_tellAbout_56 : decode cX2_tellAbout 56 = .ok (.ireturn, 1) := by decide +kernel
set_option maxRecDepth 20000 in
theorem ggX3_init_X2_init : GoodIn wsX3_init wsX2_init := goodIn_r _ [9, 10, 2, 3, 11, 12, 13, 14, 15, 16, 17, 18, 19, 20, 21, 22, 23, 24, 25, 26, 27, 28, 29, 30, 37, 38, 33, 34, 35, 36] (by decide +kernel) (by decide +kernel)
set_option maxRecDepth 20000 in
theorem gX3_init_X2_init_n17 : GoodIn wsX3_init (wsX2_init) := ggX3_init_X2_init
theorem dX3_init_0 : decode cX3_init 0 = .ok (.aload_n 0, 1) := by decide +kernel
theorem dX3_init_1 : decode cX3_init 1 = .ok (.invokespecial 3, 3) := by decide +kernel
theorem dX3_init_4 : decode cX3_init 4 = .ok (.aload_n 0, 1) := by decide +kernel
theorem dX3_init_5 : decode cX3_init 5 = .ok (.bipush 12, 2) := by decide +kernel
theorem dX3_init_7 : decode cX3_init 7 = .ok (.anewarray 9, 3) := by decide +kernel
theorem dX3_init_10 : decode cX3_init 10 = .ok (.putfield 11, 3) := by decide +kernel
theorem dX3_init_13 : decode cX3_init 13 = .ok (.iconst 0, 1) := by decide +kernel
theorem dX3_init_14 : decode cX3_init 14 = .ok (.istore_n 1, 1) := by decide +kernel
theorem dX3_init_15 : decode cX3_init 15 = .ok (.iload_n 1, 1) := by decide +kernel
theorem dX3_init_16 : decode cX3_init 16 = .ok (.bipush 12, 2) := by decide +kernel
theorem dX3_init_18 : decode cX3_init 18 = .ok (.if_icmp .ge 22, 3) := by decide +kernel
theorem dX3_init_21 : decode cX3_init 21 = .ok (.aload_n 0, 1) := by decide +kernel
theorem dX3_init_22 : decode cX3_init 22 = .ok (.getfield 11, 3) := by decide +kernel
theorem dX3_init_25 : decode cX3_init 25 = .ok (.iload_n 1, 1) := by decide +kernel
theorem dX3_init_26 : decode cX3_init 26 = .ok (.new 9, 3) := by decide +kernel
theorem dX3_init_29 : decode cX3_init 29 = .ok (.dup, 1) := by decide +kernel
theorem dX3_init_30 : decode cX3_init 30 = .ok (.invokespecial 17, 3) := by decide +kernel
theorem dX3_init_33 : decode cX3_init 33 = .ok (.aastore, 1) := by decide +kernel
theorem dX3_init_34 : decode cX3_init 34 = .ok (.iinc 1 1, 3) := by decide +kernel
theorem dX3_init_37 : decode cX3_init 37 = .ok (.goto (-22), 3) := by decide +kernel
theorem dX3_init_40 : decode cX3_init 40 = .ok (.return_, 1) := by decide +kernel
theorem dX3_size_0 : decode cX3_size 0 = .ok (.aload_n 0, 1) := by decide +kernel
theorem dX3_size_1 : decode cX3_size 1 = .ok (.getfield 18, 3) := by decide +kernel
theorem dX3_size_4 : decode cX3_size 4 = .ok (.ireturn, 1) := by decide +kernel
theorem dX3_has_0 : decode cX3_has 0 = .ok (.iload_n 1, 1) := by decide +kernel
theorem dX3_has_1 : decode cX3_has 1 = .ok (.ifCond .lt 15, 3) := by decide +kernel
theorem dX3_has_4 : decode cX3_has 4 = .ok (.iload_n 1, 1) := by decide +kernel
theorem dX3_has_5 : decode cX3_has 5 = .ok (.aload_n 0, 1) := by decide +kernel
theorem dX3_has_6 : decode cX3_has 6 = .ok (.getfield 18, 3) := by decide +kernel
theorem dX3_has_9 : decode cX3_has 9 = .ok (.if_icmp .ge 7, 3) := by decide +kernel
theorem dX3_has_12 : decode cX3_has 12 = .ok (.iconst 1, 1) := by decide +kernel
theorem dX3_has_13 : decode cX3_has 13 = .ok (.goto 4, 3) := by decide +kernel
theorem dX3_has_16 : decode cX3_has 16 = .ok (.iconst 0, 1) := by decide +kernel
theorem dX3_has_17 : decode cX3_has 17 = .ok (.ireturn, 1) := by decide +kernel
theorem dX3_at_0 : decode cX3_at 0 = .ok (.aload_n 0, 1) := by decide +kernel
theorem dX3_at_1 : decode cX3_at 1 = .ok (.getfield 11, 3) := by decide +kernel
theorem dX3_at_4 : decode cX3_at 4 = .ok (.iload_n 1, 1) := by decide +kernel
theorem dX3_at_5 : decode cX3_at 5 = .ok (.aaload, 1) := by decide +kernel
theorem dX3_at_6 : decode cX3_at 6 = .ok (.areturn, 1) := by decide +kernel
set_option maxRecDepth 20000 in
theorem ggX3_sizeAt_X2_portOf : GoodIn wsX3_sizeAt wsX2_portOf := goodIn_r _ [7, 8, 11, 12, 13, 14] (by decide +kernel) (by decide +kernel)
set_option maxRecDepth 20000 in
theorem gX3_sizeAt_X2_portOf : GoodIn wsX3_sizeAt (wsV RX3 22 RX2 yX2_portOf wsX2_portOf) := goodIn_app (goodIn_of _ (by decide +kernel)) ggX3_sizeAt_X2_portOf
theorem dX3_sizeAt_0 : decode cX3_sizeAt 0 = .ok (.iconst 0, 1) := by decide +kernel
theorem dX3_sizeAt_1 : decode cX3_sizeAt 1 = .ok (.istore_n 2, 1) := by decide +kernel
theorem dX3_sizeAt_2 : decode cX3_sizeAt 2 = .ok (.iconst 0, 1) := by decide +kernel
theorem dX3_sizeAt_3 : decode cX3_sizeAt 3 = .ok (.istore_n 3, 1) := by decide +kernel
theorem dX3_sizeAt_4 : decode cX3_sizeAt 4 = .ok (.iload_n 3, 1) := by decide +kernel
theorem dX3_sizeAt_5 : decode cX3_sizeAt 5 = .ok (.aload_n 0, 1) := by decide +kernel
theorem dX3_sizeAt_6 : decode cX3_sizeAt 6 = .ok (.getfield 18, 3) := by decide +kernel
theorem dX3_sizeAt_9 : decode cX3_sizeAt 9 = .ok (.if_icmp .ge 25, 3) := by decide +kernel
theorem dX3_sizeAt_12 : decode cX3_sizeAt 12 = .ok (.aload_n 0, 1) := by decide +kernel
theorem dX3_sizeAt_13 : decode cX3_sizeAt 13 = .ok (.getfield 11, 3) := by decide +kernel
theorem dX3_sizeAt_16 : decode cX3_sizeAt 16 = .ok (.iload_n 3, 1) := by decide +kernel
theorem dX3_sizeAt_17 : decode cX3_sizeAt 17 = .ok (.aaload, 1) := by decide +kernel
theorem dX3_sizeAt_18 : decode cX3_sizeAt 18 = .ok (.invokevirtual 22, 3) := by decide +kernel
theorem dX3_sizeAt_21 : decode cX3_sizeAt 21 = .ok (.iload_n 1, 1) := by decide +kernel
theorem dX3_sizeAt_22 : decode cX3_sizeAt 22 = .ok (.if_icmp .ne 6, 3) := by decide +kernel
theorem dX3_sizeAt_25 : decode cX3_sizeAt 25 = .ok (.iinc 2 1, 3) := by decide +kernel
theorem dX3_sizeAt_28 : decode cX3_sizeAt 28 = .ok (.iinc 3 1, 3) := by decide +kernel
theorem dX3_sizeAt_31 : decode cX3_sizeAt 31 = .ok (.goto (-27), 3) := by decide +kernel
theorem dX3_sizeAt_34 : decode cX3_sizeAt 34 = .ok (.iload_n 2, 1) := by decide +kernel
theorem dX3_sizeAt_35 : decode cX3_sizeAt 35 = .ok (.ireturn, 1) := by decide +kernel
set_option maxRecDepth 20000 in
theorem ggX3_find_X2_portOf : GoodIn wsX3_find wsX2_portOf := goodIn_r _ [7, 8, 34, 35, 36, 37] (by decide +kernel) (by decide +kernel)
set_option maxRecDepth 20000 in
theorem gX3_find_X2_portOf : GoodIn wsX3_find (wsV RX3 22 RX2 yX2_portOf wsX2_portOf) := goodIn_app (goodIn_of _ (by decide +kernel)) ggX3_find_X2_portOf
set_option maxRecDepth 20000 in
theorem ggX3_find_X2_contents : GoodIn wsX3_find wsX2_contents := goodIn_r _ [12, 13, 34, 35, 36, 37] (by decide +kernel) (by decide +kernel)
set_option maxRecDepth 20000 in
theorem gX3_find_X2_contents : GoodIn wsX3_find (wsV RX3 26 RX2 yX2_contents wsX2_contents) := goodIn_app (goodIn_of _ (by decide +kernel)) ggX3_find_X2_contents
set_option maxRecDepth 20000 in
theorem ggX3_find_X0_isSameStation : GoodIn wsX3_find wsX0_isSameStation := goodIn_r _ [18, 19, 20, 21, 17, 22, 23, 24, 25, 26, 27, 28, 29, 30, 31, 38, 39] (by decide +kernel) (by decide +kernel)
set_option maxRecDepth 20000 in
theorem gX3_find_X0_isSameStation : GoodIn wsX3_find (wsV RX3 30 RX0 yX0_isSameStation wsX0_isSameStation) := goodIn_app (goodIn_of _ (by decide +kernel)) ggX3_find_X0_isSameStation
theorem dX3_find_0 : decode cX3_find 0 = .ok (.iconst 0, 1) := by decide +kernel
theorem dX3_find_1 : decode cX3_find 1 = .ok (.istore_n 3, 1) := by decide +kernel
theorem dX3_find_2 : decode cX3_find 2 = .ok (.iload_n 3, 1) := by decide +kernel
theorem dX3_find_3 : decode cX3_find 3 = .ok (.aload_n 0, 1) := by decide +kernel
theorem dX3_find_4 : decode cX3_find 4 = .ok (.getfield 18, 3) := by decide +kernel
theorem dX3_find_7 : decode cX3_find 7 = .ok (.if_icmp .ge 40, 3) := by decide +kernel
theorem dX3_find_10 : decode cX3_find 10 = .ok (.aload_n 0, 1) := by decide +kernel
theorem dX3_find_11 : decode cX3_find 11 = .ok (.getfield 11, 3) := by decide +kernel
theorem dX3_find_14 : decode cX3_find 14 = .ok (.iload_n 3, 1) := by decide +kernel
theorem dX3_find_15 : decode cX3_find 15 = .ok (.aaload, 1) := by decide +kernel
theorem dX3_find_16 : decode cX3_find 16 = .ok (.invokevirtual 22, 3) := by decide +kernel
theorem dX3_find_19 : decode cX3_find 19 = .ok (.iload_n 1, 1) := by decide +kernel
theorem dX3_find_20 : decode cX3_find 20 = .ok (.if_icmp .ne 21, 3) := by decide +kernel
theorem dX3_find_23 : decode cX3_find 23 = .ok (.aload_n 0, 1) := by decide +kernel
theorem dX3_find_24 : decode cX3_find 24 = .ok (.getfield 11, 3) := by decide +kernel
theorem dX3_find_27 : decode cX3_find 27 = .ok (.iload_n 3, 1) := by decide +kernel
theorem dX3_find_28 : decode cX3_find 28 = .ok (.aaload, 1) := by decide +kernel
theorem dX3_find_29 : decode cX3_find 29 = .ok (.invokevirtual 26, 3) := by decide +kernel
theorem dX3_find_32 : decode cX3_find 32 = .ok (.aload_n 2, 1) := by decide +kernel
theorem dX3_find_33 : decode cX3_find 33 = .ok (.invokevirtual 30, 3) := by decide +kernel
theorem dX3_find_36 : decode cX3_find 36 = .ok (.ifCond .eq 5, 3) := by decide +kernel
theorem dX3_find_39 : decode cX3_find 39 = .ok (.iload_n 3, 1) := by decide +kernel
theorem dX3_find_40 : decode cX3_find 40 = .ok (.ireturn, 1) := by decide +kernel
theorem dX3_find_41 : decode cX3_find 41 = .ok (.iinc 3 1, 3) := by decide +kernel
theorem dX3_find_44 : decode cX3_find 44 = .ok (.goto (-42), 3) := by decide +kernel
theorem dX3_find_47 : decode cX3_find 47 = .ok (.iconst (-1), 1) := by decide +kernel
theorem dX3_find_48 : decode cX3_find 48 = .ok (.ireturn, 1) := by decide +kernel
set_option maxRecDepth 20000 in
theorem ggX3_add_X2_begin : GoodIn wsX3_add wsX2_begin := goodIn_r _ [7, 8, 9, 12, 13, 14, 15] (by decide +kernel) (by decide +kernel)
set_option maxRecDepth 20000 in
theorem gX3_add_X2_begin : GoodIn wsX3_add (wsV RX3 36 RX2 yX2_begin wsX2_begin) := goodIn_app (goodIn_of _ (by decide +kernel)) ggX3_add_X2_begin
theorem dX3_add_0 : decode cX3_add 0 = .ok (.aload_n 0, 1) := by decide +kernel
theorem dX3_add_1 : decode cX3_add 1 = .ok (.getfield 18, 3) := by decide +kernel
theorem dX3_add_4 : decode cX3_add 4 = .ok (.bipush 12, 2) := by decide +kernel
theorem dX3_add_6 : decode cX3_add 6 = .ok (.if_icmp .lt 5, 3) := by decide +kernel
theorem dX3_add_9 : decode cX3_add 9 = .ok (.iconst (-1), 1) := by decide +kernel
theorem dX3_add_10 : decode cX3_add 10 = .ok (.ireturn, 1) := by decide +kernel
theorem dX3_add_11 : decode cX3_add 11 = .ok (.aload_n 0, 1) := by decide +kernel
theorem dX3_add_12 : decode cX3_add 12 = .ok (.getfield 18, 3) := by decide +kernel
theorem dX3_add_15 : decode cX3_add 15 = .ok (.istore_n 2, 1) := by decide +kernel
theorem dX3_add_16 : decode cX3_add 16 = .ok (.aload_n 0, 1) := by decide +kernel
theorem dX3_add_17 : decode cX3_add 17 = .ok (.getfield 11, 3) := by decide +kernel
theorem dX3_add_20 : decode cX3_add 20 = .ok (.iload_n 2, 1) := by decide +kernel
theorem dX3_add_21 : decode cX3_add 21 = .ok (.aaload, 1) := by decide +kernel
theorem dX3_add_22 : decode cX3_add 22 = .ok (.iload_n 1, 1) := by decide +kernel
theorem dX3_add_23 : decode cX3_add 23 = .ok (.invokevirtual 36, 3) := by decide +kernel
theorem dX3_add_26 : decode cX3_add 26 = .ok (.aload_n 0, 1) := by decide +kernel
theorem dX3_add_27 : decode cX3_add 27 = .ok (.dup, 1) := by decide +kernel
theorem dX3_add_28 : decode cX3_add 28 = .ok (.getfield 18, 3) := by decide +kernel
theorem dX3_add_31 : decode cX3_add 31 = .ok (.iconst 1, 1) := by decide +kernel
theorem dX3_add_32 : decode cX3_add 32 = .ok (.iadd, 1) := by decide +kernel
theorem dX3_add_33 : decode cX3_add 33 = .ok (.putfield 18, 3) := by decide +kernel
theorem dX3_add_36 : decode cX3_add 36 = .ok (.iload_n 2, 1) := by decide +kernel
theorem dX3_add_37 : decode cX3_add 37 = .ok (.ireturn, 1) := by decide +kernel
set_option maxRecDepth 20000 in
theorem ggX3_forget_X3_has : GoodIn wsX3_forget wsX3_has := goodIn_r _ [7, 2, 8, 9] (by decide +kernel) (by decide +kernel)
set_option maxRecDepth 20000 in
theorem gX3_forget_X3_has : GoodIn wsX3_forget (wsV RX3 40 RX3 yX3_has wsX3_has) := goodIn_app (goodIn_of _ (by decide +kernel)) ggX3_forget_X3_has
theorem dX3_forget_0 : decode cX3_forget 0 = .ok (.aload_n 0, 1) := by decide +kernel
theorem dX3_forget_1 : decode cX3_forget 1 = .ok (.iload_n 1, 1) := by decide +kernel
theorem dX3_forget_2 : decode cX3_forget 2 = .ok (.invokevirtual 40, 3) := by decide +kernel
theorem dX3_forget_5 : decode cX3_forget 5 = .ok (.ifCond .ne 4, 3) := by decide +kernel
theorem dX3_forget_8 : decode cX3_forget 8 = .ok (.return_, 1) := by decide +kernel
theorem dX3_forget_9 : decode cX3_forget 9 = .ok (.aload_n 0, 1) := by decide +kernel
theorem dX3_forget_10 : decode cX3_forget 10 = .ok (.getfield 11, 3) := by decide +kernel
theorem dX3_forget_13 : decode cX3_forget 13 = .ok (.iload_n 1, 1) := by decide +kernel
theorem dX3_forget_14 : decode cX3_forget 14 = .ok (.aaload, 1) := by decide +kernel
theorem dX3_forget_15 : decode cX3_forget 15 = .ok (.astore_n 2, 1) := by decide +kernel
theorem dX3_forget_16 : decode cX3_forget 16 = .ok (.aload_n 0, 1) := by decide +kernel
theorem dX3_forget_17 : decode cX3_forget 17 = .ok (.dup, 1) := by decide +kernel
theorem dX3_forget_18 : decode cX3_forget 18 = .ok (.getfield 18, 3) := by decide +kernel
theorem dX3_forget_21 : decode cX3_forget 21 = .ok (.iconst 1, 1) := by decide +kernel
theorem dX3_forget_22 : decode cX3_forget 22 = .ok (.isub, 1) := by decide +kernel
theorem dX3_forget_23 : decode cX3_forget 23 = .ok (.putfield 18, 3) := by decide +kernel
theorem dX3_forget_26 : decode cX3_forget 26 = .ok (.iload_n 1, 1) := by decide +kernel
theorem dX3_forget_27 : decode cX3_forget 27 = .ok (.istore_n 3, 1) := by decide +kernel
theorem dX3_forget_28 : decode cX3_forget 28 = .ok (.iload_n 3, 1) := by decide +kernel
theorem dX3_forget_29 : decode cX3_forget 29 = .ok (.aload_n 0, 1) := by decide +kernel
theorem dX3_forget_30 : decode cX3_forget 30 = .ok (.getfield 18, 3) := by decide +kernel
theorem dX3_forget_33 : decode cX3_forget 33 = .ok (.if_icmp .ge 23, 3) := by decide +kernel
theorem dX3_forget_36 : decode cX3_forget 36 = .ok (.aload_n 0, 1) := by decide +kernel
theorem dX3_forget_37 : decode cX3_forget 37 = .ok (.getfield 11, 3) := by decide +kernel
theorem dX3_forget_40 : decode cX3_forget 40 = .ok (.iload_n 3, 1) := by decide +kernel
theorem dX3_forget_41 : decode cX3_forget 41 = .ok (.aload_n 0, 1) := by decide +kernel
theorem dX3_forget_42 : decode cX3_forget 42 = .ok (.getfield 11, 3) := by decide +kernel
theorem dX3_forget_45 : decode cX3_forget 45 = .ok (.iload_n 3, 1) := by decide +kernel
theorem dX3_forget_46 : decode cX3_forget 46 = .ok (.iconst 1, 1) := by decide +kernel
theorem dX3_forget_47 : decode cX3_forget 47 = .ok (.iadd, 1) := by decide +kernel
theorem dX3_forget_48 : decode cX3_forget 48 = .ok (.aaload, 1) := by decide +kernel
theorem dX3_forget_49 : decode cX3_forget 49 = .ok (.aastore, 1) := by decide +kernel
theorem dX3_forget_50 : decode cX3_forget 50 = .ok (.iinc 3 1, 3) := by decide +kernel
theorem dX3_forget_53 : decode cX3_forget 53 = .ok (.goto (-25), 3) := by decide +kernel
theorem dX3_forget_56 : decode cX3_forget 56 = .ok (.aload_n 0, 1) := by decide +kernel
theorem dX3_forget_57 : decode cX3_forget 57 = .ok (.getfield 11, 3) := by decide +kernel
theorem dX3_forget_60 : decode cX3_forget 60 = .ok (.aload_n 0, 1) := by decide +kernel
theorem dX3_forget_61 : decode cX3_forget 61 = .ok (.getfield 18, 3) := by decide +kernel
theorem dX3_forget_64 : decode cX3_forget 64 = .ok (.aload_n 2, 1) := by decide +kernel
theorem dX3_forget_65 : decode cX3_forget 65 = .ok (.aastore, 1) := by decide +kernel
theorem dX3_forget_66 : decode cX3_forget 66 = .ok (.return_, 1) := by decide +kernel
set_option maxRecDepth 20000 in
theorem ggX3_forgetAllAt_X2_portOf : GoodIn wsX3_forgetAllAt wsX2_portOf := goodIn_r _ [7, 8, 20, 21, 22, 23] (by decide +kernel) (by decide +kernel)
set_option maxRecDepth 20000 in
theorem gX3_forgetAllAt_X2_portOf : GoodIn wsX3_forgetAllAt (wsV RX3 22 RX2 yX2_portOf wsX2_portOf) := goodIn_app (goodIn_of _ (by decide +kernel)) ggX3_forgetAllAt_X2_portOf
set_option maxRecDepth 20000 in
theorem ggX3_forgetAllAt_X3_forget : GoodIn wsX3_forgetAllAt wsX3_forget := goodIn_r _ [13, 2, 1, 14, 15, 16, 12, 17, 18, 19] (by decide +kernel) (by decide +kernel)
set_option maxRecDepth 20000 in
theorem gX3_forgetAllAt_X3_forget : GoodIn wsX3_forgetAllAt (wsV RX3 44 RX3 yX3_forget wsX3_forget) := goodIn_app (goodIn_of _ (by decide +kernel)) ggX3_forgetAllAt_X3_forget
theorem dX3_forgetAllAt_0 : decode cX3_forgetAllAt 0 = .ok (.aload_n 0, 1) := by decide +kernel
theorem dX3_forgetAllAt_1 : decode cX3_forgetAllAt 1 = .ok (.getfield 18, 3) := by decide +kernel
theorem dX3_forgetAllAt_4 : decode cX3_forgetAllAt 4 = .ok (.iconst 1, 1) := by decide +kernel
theorem dX3_forgetAllAt_5 : decode cX3_forgetAllAt 5 = .ok (.isub, 1) := by decide +kernel
theorem dX3_forgetAllAt_6 : decode cX3_forgetAllAt 6 = .ok (.istore_n 2, 1) := by decide +kernel
theorem dX3_forgetAllAt_7 : decode cX3_forgetAllAt 7 = .ok (.iload_n 2, 1) := by decide +kernel
theorem dX3_forgetAllAt_8 : decode cX3_forgetAllAt 8 = .ok (.ifCond .lt 27, 3) := by decide +kernel
theorem dX3_forgetAllAt_11 : decode cX3_forgetAllAt 11 = .ok (.aload_n 0, 1) := by decide +kernel
theorem dX3_forgetAllAt_12 : decode cX3_forgetAllAt 12 = .ok (.getfield 11, 3) := by decide +kernel
theorem dX3_forgetAllAt_15 : decode cX3_forgetAllAt 15 = .ok (.iload_n 2, 1) := by decide +kernel
theorem dX3_forgetAllAt_16 : decode cX3_forgetAllAt 16 = .ok (.aaload, 1) := by decide +kernel
theorem dX3_forgetAllAt_17 : decode cX3_forgetAllAt 17 = .ok (.invokevirtual 22, 3) := by decide +kernel
theorem dX3_forgetAllAt_20 : decode cX3_forgetAllAt 20 = .ok (.iload_n 1, 1) := by decide +kernel
theorem dX3_forgetAllAt_21 : decode cX3_forgetAllAt 21 = .ok (.if_icmp .ne 8, 3) := by decide +kernel
theorem dX3_forgetAllAt_24 : decode cX3_forgetAllAt 24 = .ok (.aload_n 0, 1) := by decide +kernel
theorem dX3_forgetAllAt_25 : decode cX3_forgetAllAt 25 = .ok (.iload_n 2, 1) := by decide +kernel
theorem dX3_forgetAllAt_26 : decode cX3_forgetAllAt 26 = .ok (.invokevirtual 44, 3) := by decide +kernel
theorem dX3_forgetAllAt_29 : decode cX3_forgetAllAt 29 = .ok (.iinc 2 (-1), 3) := by decide +kernel
theorem dX3_forgetAllAt_32 : decode cX3_forgetAllAt 32 = .ok (.goto (-25), 3) := by decide +kernel
theorem dX3_forgetAllAt_35 : decode cX3_forgetAllAt 35 = .ok (.return_, 1) := by decide +kernel
set_option maxRecDepth 20000 in
theorem ggX3_passTick_X2_passTick : GoodIn wsX3_passTick wsX2_passTick := goodIn_r _ [7, 8, 20, 21, 22, 23] (by decide +kernel) (by decide +kernel)
set_option maxRecDepth 20000 in
theorem gX3_passTick_X2_passTick : GoodIn wsX3_passTick (wsV RX3 47 RX2 yX2_passTick wsX2_passTick) := goodIn_app (goodIn_of _ (by decide +kernel)) ggX3_passTick_X2_passTick
set_option maxRecDepth 20000 in
theorem ggX3_passTick_X3_forget : GoodIn wsX3_passTick wsX3_forget := goodIn_r _ [13, 2, 1, 14, 15, 16, 12, 17, 18, 19] (by decide +kernel) (by decide +kernel)
set_option maxRecDepth 20000 in
theorem gX3_passTick_X3_forget : GoodIn wsX3_passTick (wsV RX3 44 RX3 yX3_forget wsX3_forget) := goodIn_app (goodIn_of _ (by decide +kernel)) ggX3_passTick_X3_forget
theorem dX3_passTick_0 : decode cX3_passTick 0 = .ok (.aload_n 0, 1) := by decide +kernel
theorem dX3_passTick_1 : decode cX3_passTick 1 = .ok (.getfield 18, 3) := by decide +kernel
theorem dX3_passTick_4 : decode cX3_passTick 4 = .ok (.iconst 1, 1) := by decide +kernel
theorem dX3_passTick_5 : decode cX3_passTick 5 = .ok (.isub, 1) := by decide +kernel
theorem dX3_passTick_6 : decode cX3_passTick 6 = .ok (.istore_n 1, 1) := by decide +kernel
theorem dX3_passTick_7 : decode cX3_passTick 7 = .ok (.iload_n 1, 1) := by decide +kernel
theorem dX3_passTick_8 : decode cX3_passTick 8 = .ok (.ifCond .lt 26, 3) := by decide +kernel
theorem dX3_passTick_11 : decode cX3_passTick 11 = .ok (.aload_n 0, 1) := by decide +kernel
theorem dX3_passTick_12 : decode cX3_passTick 12 = .ok (.getfield 11, 3) := by decide +kernel
theorem dX3_passTick_15 : decode cX3_passTick 15 = .ok (.iload_n 1, 1) := by decide +kernel
theorem dX3_passTick_16 : decode cX3_passTick 16 = .ok (.aaload, 1) := by decide +kernel
theorem dX3_passTick_17 : decode cX3_passTick 17 = .ok (.invokevirtual 47, 3) := by decide +kernel
theorem dX3_passTick_20 : decode cX3_passTick 20 = .ok (.ifCond .eq 8, 3) := by decide +kernel
theorem dX3_passTick_23 : decode cX3_passTick 23 = .ok (.aload_n 0, 1) := by decide +kernel
theorem dX3_passTick_24 : decode cX3_passTick 24 = .ok (.iload_n 1, 1) := by decide +kernel
theorem dX3_passTick_25 : decode cX3_passTick 25 = .ok (.invokevirtual 44, 3) := by decide +kernel
theorem dX3_passTick_28 : decode cX3_passTick 28 = .ok (.iinc 1 (-1), 3) := by decide +kernel
theorem dX3_passTick_31 : decode cX3_passTick 31 = .ok (.goto (-24), 3) := by decide +kernel
theorem dX3_passTick_34 : decode cX3_passTick 34 = .ok (.return_, 1) := by decide +kernel
theorem dX4_init_0 : decode cX4_init 0 = .ok (.aload_n 0, 1) := by decide +kernel
theorem dX4_init_1 : decode cX4_init 1 = .ok (.invokespecial 3, 3) := by decide +kernel
theorem dX4_init_4 : decode cX4_init 4 = .ok (.return_, 1) := by decide +kernel
theorem dX4_isUp_0 : decode cX4_isUp 0 = .ok (.aload_n 0, 1) := by decide +kernel
theorem dX4_isUp_1 : decode cX4_isUp 1 = .ok (.getfield 9, 3) := by decide +kernel
theorem dX4_isUp_4 : decode cX4_isUp 4 = .ok (.ireturn, 1) := by decide +kernel
theorem dX4_goUp_0 : decode cX4_goUp 0 = .ok (.aload_n 0, 1) := by decide +kernel
theorem dX4_goUp_1 : decode cX4_goUp 1 = .ok (.iconst 1, 1) := by decide +kernel
theorem dX4_goUp_2 : decode cX4_goUp 2 = .ok (.putfield 9, 3) := by decide +kernel
theorem dX4_goUp_5 : decode cX4_goUp 5 = .ok (.aload_n 0, 1) := by decide +kernel
theorem dX4_goUp_6 : decode cX4_goUp 6 = .ok (.iload_n 1, 1) := by decide +kernel
theorem dX4_goUp_7 : decode cX4_goUp 7 = .ok (.putfield 15, 3) := by decide +kernel
theorem dX4_goUp_10 : decode cX4_goUp 10 = .ok (.aload_n 0, 1) := by decide +kernel
theorem dX4_goUp_11 : decode cX4_goUp 11 = .ok (.iconst 1, 1) := by decide +kernel
theorem dX4_goUp_12 : decode cX4_goUp 12 = .ok (.putfield 19, 3) := by decide +kernel
theorem dX4_goUp_15 : decode cX4_goUp 15 = .ok (.return_, 1) := by decide +kernel
theorem dX4_goDown_0 : decode cX4_goDown 0 = .ok (.aload_n 0, 1) := by decide +kernel
theorem dX4_goDown_1 : decode cX4_goDown 1 = .ok (.iconst 0, 1) := by decide +kernel
theorem dX4_goDown_2 : decode cX4_goDown 2 = .ok (.putfield 9, 3) := by decide +kernel
theorem dX4_goDown_5 : decode cX4_goDown 5 = .ok (.aload_n 0, 1) := by decide +kernel
theorem dX4_goDown_6 : decode cX4_goDown 6 = .ok (.iconst 0, 1) := by decide +kernel
theorem dX4_goDown_7 : decode cX4_goDown 7 = .ok (.putfield 19, 3) := by decide +kernel
theorem dX4_goDown_10 : decode cX4_goDown 10 = .ok (.aload_n 0, 1) := by decide +kernel
theorem dX4_goDown_11 : decode cX4_goDown 11 = .ok (.dup, 1) := by decide +kernel
theorem dX4_goDown_12 : decode cX4_goDown 12 = .ok (.getfield 22, 3) := by decide +kernel
theorem dX4_goDown_15 : decode cX4_goDown 15 = .ok (.iconst 1, 1) := by decide +kernel
theorem dX4_goDown_16 : decode cX4_goDown 16 = .ok (.iadd, 1) := by decide +kernel
theorem dX4_goDown_17 : decode cX4_goDown 17 = .ok (.putfield 22, 3) := by decide +kernel
theorem dX4_goDown_20 : decode cX4_goDown 20 = .ok (.return_, 1) := by decide +kernel
theorem dX4_hurry_0 : decode cX4_hurry 0 = .ok (.aload_n 0, 1) := by decide +kernel
theorem dX4_hurry_1 : decode cX4_hurry 1 = .ok (.getfield 9, 3) := by decide +kernel
theorem dX4_hurry_4 : decode cX4_hurry 4 = .ok (.ifCond .eq 8, 3) := by decide +kernel
theorem dX4_hurry_7 : decode cX4_hurry 7 = .ok (.aload_n 0, 1) := by decide +kernel
theorem dX4_hurry_8 : decode cX4_hurry 8 = .ok (.iconst 1, 1) := by decide +kernel
theorem dX4_hurry_9 : decode cX4_hurry 9 = .ok (.putfield 19, 3) := by decide +kernel
theorem dX4_hurry_12 : decode cX4_hurry 12 = .ok (.return_, 1) := by decide +kernel
theorem dX4_greet_0 : decode cX4_greet 0 = .ok (.aload_n 0, 1) := by decide +kernel
theorem dX4_greet_1 : decode cX4_greet 1 = .ok (.aload_n 0, 1) := by decide +kernel
theorem dX4_greet_2 : decode cX4_greet 2 = .ok (.getfield 15, 3) := by decide +kernel
theorem dX4_greet_5 : decode cX4_greet 5 = .ok (.iload_n 1, 1) := by decide +kernel
theorem dX4_greet_6 : decode cX4_greet 6 = .ok (.invokestatic 25, 3) := by decide +kernel
theorem dX4_greet_9 : decode cX4_greet 9 = .ok (.putfield 15, 3) := by decide +kernel
theorem dX4_greet_12 : decode cX4_greet 12 = .ok (.aload_n 0, 1) := by decide +kernel
theorem dX4_greet_13 : decode cX4_greet 13 = .ok (.iconst 1, 1) := by decide +kernel
theorem dX4_greet_14 : decode cX4_greet 14 = .ok (.putfield 19, 3) := by decide +kernel
theorem dX4_greet_17 : decode cX4_greet 17 = .ok (.return_, 1) := by decide +kernel
theorem dX4_noteHeard_0 : decode cX4_noteHeard 0 = .ok (.iload_n 1, 1) := by decide +kernel
theorem dX4_noteHeard_1 : decode cX4_noteHeard 1 = .ok (.ifCond .eq 16, 3) := by decide +kernel
theorem dX4_noteHeard_4 : decode cX4_noteHeard 4 = .ok (.aload_n 0, 1) := by decide +kernel
theorem dX4_noteHeard_5 : decode cX4_noteHeard 5 = .ok (.dup, 1) := by decide +kernel
theorem dX4_noteHeard_6 : decode cX4_noteHeard 6 = .ok (.getfield 31, 3) := by decide +kernel
theorem dX4_noteHeard_9 : decode cX4_noteHeard 9 = .ok (.iconst 1, 1) := by decide +kernel
theorem dX4_noteHeard_10 : decode cX4_noteHeard 10 = .ok (.iadd, 1) := by decide +kernel
theorem dX4_noteHeard_11 : decode cX4_noteHeard 11 = .ok (.putfield 31, 3) := by decide +kernel
theorem dX4_noteHeard_14 : decode cX4_noteHeard 14 = .ok (.goto 13, 3) := by decide +kernel
theorem dX4_noteHeard_17 : decode cX4_noteHeard 17 = .ok (.aload_n 0, 1) := by decide +kernel
theorem dX4_noteHeard_18 : decode cX4_noteHeard 18 = .ok (.dup, 1) := by decide +kernel
theorem dX4_noteHeard_19 : decode cX4_noteHeard 19 = .ok (.getfield 34, 3) := by decide +kernel
theorem dX4_noteHeard_22 : decode cX4_noteHeard 22 = .ok (.iconst 1, 1) := by decide +kernel
theorem dX4_noteHeard_23 : decode cX4_noteHeard 23 = .ok (.iadd, 1) := by decide +kernel
theorem dX4_noteHeard_24 : decode cX4_noteHeard 24 = .ok (.putfield 34, 3) := by decide +kernel
theorem dX4_noteHeard_27 : decode cX4_noteHeard 27 = .ok (.return_, 1) := by decide +kernel
theorem dX4_passTick_0 : decode cX4_passTick 0 = .ok (.aload_n 0, 1) := by decide +kernel
theorem dX4_passTick_1 : decode cX4_passTick 1 = .ok (.getfield 9, 3) := by decide +kernel
theorem dX4_passTick_4 : decode cX4_passTick 4 = .ok (.ifCond .ne 5, 3) := by decide +kernel
theorem dX4_passTick_7 : decode cX4_passTick 7 = .ok (.iconst 0, 1) := by decide +kernel
theorem dX4_passTick_8 : decode cX4_passTick 8 = .ok (.ireturn, 1) := by decide +kernel
theorem dX4_passTick_9 : decode cX4_passTick 9 = .ok (.aload_n 0, 1) := by decide +kernel
theorem dX4_passTick_10 : decode cX4_passTick 10 = .ok (.dup, 1) := by decide +kernel
theorem dX4_passTick_11 : decode cX4_passTick 11 = .ok (.getfield 19, 3) := by decide +kernel
theorem dX4_passTick_14 : decode cX4_passTick 14 = .ok (.iconst 1, 1) := by decide +kernel
theorem dX4_passTick_15 : decode cX4_passTick 15 = .ok (.isub, 1) := by decide +kernel
theorem dX4_passTick_16 : decode cX4_passTick 16 = .ok (.putfield 19, 3) := by decide +kernel
theorem dX4_passTick_19 : decode cX4_passTick 19 = .ok (.aload_n 0, 1) := by decide +kernel
theorem dX4_passTick_20 : decode cX4_passTick 20 = .ok (.getfield 19, 3) := by decide +kernel
theorem dX4_passTick_23 : decode cX4_passTick 23 = .ok (.ifCond .le 5, 3) := by decide +kernel
theorem dX4_passTick_26 : decode cX4_passTick 26 = .ok (.iconst 0, 1) := by decide +kernel
theorem dX4_passTick_27 : decode cX4_passTick 27 = .ok (.ireturn, 1) := by decide +kernel
theorem dX4_passTick_28 : decode cX4_passTick 28 = .ok (.aload_n 0, 1) := by decide +kernel
theorem dX4_passTick_29 : decode cX4_passTick 29 = .ok (.dup, 1) := by decide +kernel
theorem dX4_passTick_30 : decode cX4_passTick 30 = .ok (.getfield 22, 3) := by decide +kernel
theorem dX4_passTick_33 : decode cX4_passTick 33 = .ok (.iconst 1, 1) := by decide +kernel
theorem dX4_passTick_34 : decode cX4_passTick 34 = .ok (.iadd, 1) := by decide +kernel
theorem dX4_passTick_35 : decode cX4_passTick 35 = .ok (.putfield 22, 3) := by decide +kernel
theorem dX4_passTick_38 : decode cX4_passTick 38 = .ok (.aload_n 0, 1) := by decide +kernel
theorem dX4_passTick_39 : decode cX4_passTick 39 = .ok (.getfield 15, 3) := by decide +kernel
theorem dX4_passTick_42 : decode cX4_passTick 42 = .ok (.ifCond .le 13, 3) := by decide +kernel
theorem dX4_passTick_45 : decode cX4_passTick 45 = .ok (.aload_n 0, 1) := by decide +kernel
theorem dX4_passTick_46 : decode cX4_passTick 46 = .ok (.dup, 1) := by decide +kernel
theorem dX4_passTick_47 : decode cX4_passTick 47 = .ok (.getfield 15, 3) := by decide +kernel
theorem dX4_passTick_50 : decode cX4_passTick 50 = .ok (.iconst 1, 1) := by decide +kernel
theorem dX4_passTick_51 : decode cX4_passTick 51 = .ok (.isub, 1) := by decide +kernel
theorem dX4_passTick_52 : decode cX4_passTick 52 = .ok (.putfield 15, 3) := by decide +kernel
theorem dX4_passTick_55 : decode cX4_passTick 55 = .ok (.aload_n 0, 1) := by decide +kernel
theorem dX4_passTick_56 : decode cX4_passTick 56 = .ok (.aload_n 0, 1) := by decide +kernel
theorem dX4_passTick_57 : decode cX4_passTick 57 = .ok (.getfield 15, 3) := by decide +kernel
theorem dX4_passTick_60 : decode cX4_passTick 60 = .ok (.ifCond .le 7, 3) := by decide +kernel
theorem dX4_passTick_63 : decode cX4_passTick 63 = .ok (.iconst 1, 1) := by decide +kernel
theorem dX4_passTick_64 : decode cX4_passTick 64 = .ok (.goto 4, 3) := by decide +kernel
theorem dX4_passTick_67 : decode cX4_passTick 67 = .ok (.iload_n 1, 1) := by decide +kernel
theorem dX4_passTick_68 : decode cX4_passTick 68 = .ok (.putfield 19, 3) := by decide +kernel
theorem dX4_passTick_71 : decode cX4_passTick 71 = .ok (.iconst 1, 1) := by decide +kernel
theorem dX4_passTick_72 : decode cX4_passTick 72 = .ok (.ireturn, 1) := by decide +kernel
theorem dX4_tellAbout_0 : decode cX4_tellAbout 0 = .ok (.iload_n 1, 1) := by decide +kernel
theorem dX4_tellAbout_1 : decode cX4_tellAbout 1 = .ok (.tableswitch 81 0 6 #[43, 56, 61, 66, 81, 71, 76], 43) := by decide +kernel
theorem dX4_tellAbout_44 : decode cX4_tellAbout 44 = .ok (.aload_n 0, 1) := by decide +kernel
theorem dX4_tellAbout_45 : decode cX4_tellAbout 45 = .ok (.getfield 9, 3) := by decide +kernel
theorem dX4_tellAbout_48 : decode cX4_tellAbout 48 = .ok (.ifCond .eq 7, 3) := by decide +kernel
theorem dX4_tellAbout_51 : decode cX4_tellAbout 51 = .ok (.iconst 1, 1) := by decide +kernel
theorem dX4_tellAbout_52 : decode cX4_tellAbout 52 = .ok (.goto 4, 3) := by decide +kernel
theorem dX4_tellAbout_55 : decode cX4_tellAbout 55 = .ok (.iconst 0, 1) := by decide +kernel
theorem dX4_tellAbout_56 : decode cX4_tellAbout 56 = .ok (.ireturn, 1) := by decide +kernel
theorem dX4_tellAbout_57 : decode cX4_tellAbout 57 = .ok (.aload_n 0, 1) := by decide +kernel
theorem dX4_tellAbout_58 : decode cX4_tellAbout 58 = .ok (.getfield 22, 3) := by decide +kernel
theorem dX4_tellAbout_61 : decode cX4_tellAbout 61 = .ok (.ireturn, 1) := by decide +kernel
theorem dX4_tellAbout_62 : decode cX4_tellAbout 62 = .ok (.aload_n 0, 1) := by decide +kernel
theorem dX4_tellAbout_63 : decode cX4_tellAbout 63 = .ok (.getfield 31, 3) := by decide +kernel
theorem dX4_tellAbout_66 : decode cX4_tellAbout 66 = .ok (.ireturn, 1) := by decide +kernel
theorem dX4_tellAbout_67 : decode cX4_tellAbout 67 = .ok (.aload_n 0, 1) := by decide +kernel
theorem dX4_tellAbout_68 : decode cX4_tellAbout 68 = .ok (.getfield 34, 3) := by decide +kernel
theorem dX4_tellAbout_71 : decode cX4_tellAbout 71 = .ok (.ireturn, 1) := by decide +kernel
theorem dX4_tellAbout_72 : decode cX4_tellAbout 72 = .ok (.aload_n 0, 1) := by decide +kernel
theorem dX4_tellAbout_73 : decode cX4_tellAbout 73 = .ok (.getfield 19, 3) := by decide +kernel
theorem dX4_tellAbout_76 : decode cX4_tellAbout 76 = .ok (.ireturn, 1) := by decide +kernel
theorem dX4_tellAbout_77 : decode cX4_tellAbout 77 = .ok (.aload_n 0, 1) := by decide +kernel
theorem dX4_tellAbout_78 : decode cX4_tellAbout 78 = .ok (.getfield 15, 3) := by decide +kernel
theorem dX4_tellAbout_81 : decode cX4_tellAbout 81 = .ok (.ireturn, 1) := by decide +kernel
theorem dX4_tellAbout_82 : decode cX4_tellAbout 82 = .ok (.iconst (-1), 1) := by decide +kernel
theorem dX4_tellAbout_83 : decode cX4_tellAbout 83 = .ok (.ireturn, 1) := by decide +kernel
