theorem dX2_init_0 : decode cX2_init 0 = .ok (.aload_n 0, 1) := by decide +kernel
theorem dX2_init_1 : decode cX2_init 1 = .ok (.invokespecial 1, 3) := by decide +kernel
theorem dX2_init_4 : decode cX2_init 4 = .ok (.aload_n 0, 1) := by decide +kernel
theorem dX2_init_5 : decode cX2_init 5 = .ok (.new 7, 3) := by decide +kernel
theorem dX2_init_8 : decode cX2_init 8 = .ok (.dup, 1) := by decide +kernel
theorem dX2_init_9 : decode cX2_init 9 = .ok (.invokespecial 9, 3) := by decide +kernel
theorem dX2_init_12 : decode cX2_init 12 = .ok (.putfield 10, 3) := by decide +kernel
theorem dX2_init_15 : decode cX2_init 15 = .ok (.aload_n 0, 1) := by decide +kernel
theorem dX2_init_16 : decode cX2_init 16 = .ok (.new 16, 3) := by decide +kernel
theorem dX2_init_19 : decode cX2_init 19 = .ok (.dup, 1) := by decide +kernel
theorem dX2_init_20 : decode cX2_init 20 = .ok (.invokespecial 18, 3) := by decide +kernel
theorem dX2_init_23 : decode cX2_init 23 = .ok (.putfield 19, 3) := by decide +kernel
theorem dX2_init_26 : decode cX2_init 26 = .ok (.aload_n 0, 1) := by decide +kernel
theorem dX2_init_27 : decode cX2_init 27 = .ok (.bipush 16, 2) := by decide +kernel
theorem dX2_init_29 : decode cX2_init 29 = .ok (.newarray .int, 2) := by decide +kernel
theorem dX2_init_31 : decode cX2_init 31 = .ok (.putfield 23, 3) := by decide +kernel
theorem dX2_init_34 : decode cX2_init 34 = .ok (.aload_n 0, 1) := by decide +kernel
theorem dX2_init_35 : decode cX2_init 35 = .ok (.iconst 0, 1) := by decide +kernel
theorem dX2_init_36 : decode cX2_init 36 = .ok (.putfield 27, 3) := by decide +kernel
theorem dX2_init_39 : decode cX2_init 39 = .ok (.aload_n 0, 1) := by decide +kernel
theorem dX2_init_40 : decode cX2_init 40 = .ok (.iconst 0, 1) := by decide +kernel
theorem dX2_init_41 : decode cX2_init 41 = .ok (.putfield 31, 3) := by decide +kernel
theorem dX2_init_44 : decode cX2_init 44 = .ok (.aload_n 0, 1) := by decide +kernel
theorem dX2_init_45 : decode cX2_init 45 = .ok (.iconst 0, 1) := by decide +kernel
theorem dX2_init_46 : decode cX2_init 46 = .ok (.putfield 34, 3) := by decide +kernel
theorem dX2_init_49 : decode cX2_init 49 = .ok (.aload_n 0, 1) := by decide +kernel
theorem dX2_init_50 : decode cX2_init 50 = .ok (.iconst 0, 1) := by decide +kernel
theorem dX2_init_51 : decode cX2_init 51 = .ok (.putfield 37, 3) := by decide +kernel
theorem dX2_init_54 : decode cX2_init 54 = .ok (.aload_n 0, 1) := by decide +kernel
theorem dX2_init_55 : decode cX2_init 55 = .ok (.iconst 0, 1) := by decide +kernel
theorem dX2_init_56 : decode cX2_init 56 = .ok (.sipush 400, 3) := by decide +kernel
theorem dX2_init_59 : decode cX2_init 59 = .ok (.iload_n 1, 1) := by decide +kernel
theorem dX2_init_60 : decode cX2_init 60 = .ok (.invokestatic 40, 3) := by decide +kernel
theorem dX2_init_63 : decode cX2_init 63 = .ok (.invokestatic 46, 3) := by decide +kernel
theorem dX2_init_66 : decode cX2_init 66 = .ok (.newarray .int, 2) := by decide +kernel
theorem dX2_init_68 : decode cX2_init 68 = .ok (.putfield 49, 3) := by decide +kernel
theorem dX2_init_71 : decode cX2_init 71 = .ok (.return_, 1) := by decide +kernel
set_option maxRecDepth 20000 in
theorem ggX2_setKeyWord_X0_putKeyWord : GoodIn wsX2_setKeyWord wsX0_putKeyWord := goodIn_r _ [7, 8, 17, 18] (by decide +kernel) (by decide +kernel)
set_option maxRecDepth 20000 in
theorem gX2_setKeyWord_X0_putKeyWord : GoodIn wsX2_setKeyWord (wsV RX2 52 RX0 yX0_putKeyWord wsX0_putKeyWord) := goodIn_app (goodIn_of _ (by decide +kernel)) ggX2_setKeyWord_X0_putKeyWord
theorem dX2_setKeyWord_0 : decode cX2_setKeyWord 0 = .ok (.aload_n 0, 1) := by decide +kernel
theorem dX2_setKeyWord_1 : decode cX2_setKeyWord 1 = .ok (.getfield 27, 3) := by decide +kernel
theorem dX2_setKeyWord_4 : decode cX2_setKeyWord 4 = .ok (.ifCond .ne 13, 3) := by decide +kernel
theorem dX2_setKeyWord_7 : decode cX2_setKeyWord 7 = .ok (.iload_n 1, 1) := by decide +kernel
theorem dX2_setKeyWord_8 : decode cX2_setKeyWord 8 = .ok (.ifCond .lt 9, 3) := by decide +kernel
theorem dX2_setKeyWord_11 : decode cX2_setKeyWord 11 = .ok (.iload_n 1, 1) := by decide +kernel
theorem dX2_setKeyWord_12 : decode cX2_setKeyWord 12 = .ok (.bipush 8, 2) := by decide +kernel
theorem dX2_setKeyWord_14 : decode cX2_setKeyWord 14 = .ok (.if_icmp .lt 5, 3) := by decide +kernel
theorem dX2_setKeyWord_17 : decode cX2_setKeyWord 17 = .ok (.iconst 0, 1) := by decide +kernel
theorem dX2_setKeyWord_18 : decode cX2_setKeyWord 18 = .ok (.ireturn, 1) := by decide +kernel
theorem dX2_setKeyWord_19 : decode cX2_setKeyWord 19 = .ok (.aload_n 0, 1) := by decide +kernel
theorem dX2_setKeyWord_20 : decode cX2_setKeyWord 20 = .ok (.getfield 10, 3) := by decide +kernel
theorem dX2_setKeyWord_23 : decode cX2_setKeyWord 23 = .ok (.iload_n 1, 1) := by decide +kernel
theorem dX2_setKeyWord_24 : decode cX2_setKeyWord 24 = .ok (.iload_n 2, 1) := by decide +kernel
theorem dX2_setKeyWord_25 : decode cX2_setKeyWord 25 = .ok (.invokevirtual 52, 3) := by decide +kernel
theorem dX2_setKeyWord_28 : decode cX2_setKeyWord 28 = .ok (.iconst 1, 1) := by decide +kernel
theorem dX2_setKeyWord_29 : decode cX2_setKeyWord 29 = .ok (.ireturn, 1) := by decide +kernel
set_option maxRecDepth 20000 in
theorem ggX2_setNonceWord_X0_putNonceWord : GoodIn wsX2_setNonceWord wsX0_putNonceWord := goodIn_r _ [7, 8, 17, 18] (by decide +kernel) (by decide +kernel)
set_option maxRecDepth 20000 in
theorem gX2_setNonceWord_X0_putNonceWord : GoodIn wsX2_setNonceWord (wsV RX2 56 RX0 yX0_putNonceWord wsX0_putNonceWord) := goodIn_app (goodIn_of _ (by decide +kernel)) ggX2_setNonceWord_X0_putNonceWord
theorem dX2_setNonceWord_0 : decode cX2_setNonceWord 0 = .ok (.aload_n 0, 1) := by decide +kernel
theorem dX2_setNonceWord_1 : decode cX2_setNonceWord 1 = .ok (.getfield 27, 3) := by decide +kernel
theorem dX2_setNonceWord_4 : decode cX2_setNonceWord 4 = .ok (.ifCond .ne 12, 3) := by decide +kernel
theorem dX2_setNonceWord_7 : decode cX2_setNonceWord 7 = .ok (.iload_n 1, 1) := by decide +kernel
theorem dX2_setNonceWord_8 : decode cX2_setNonceWord 8 = .ok (.ifCond .lt 8, 3) := by decide +kernel
theorem dX2_setNonceWord_11 : decode cX2_setNonceWord 11 = .ok (.iload_n 1, 1) := by decide +kernel
theorem dX2_setNonceWord_12 : decode cX2_setNonceWord 12 = .ok (.iconst 3, 1) := by decide +kernel
theorem dX2_setNonceWord_13 : decode cX2_setNonceWord 13 = .ok (.if_icmp .lt 5, 3) := by decide +kernel
theorem dX2_setNonceWord_16 : decode cX2_setNonceWord 16 = .ok (.iconst 0, 1) := by decide +kernel
theorem dX2_setNonceWord_17 : decode cX2_setNonceWord 17 = .ok (.ireturn, 1) := by decide +kernel
theorem dX2_setNonceWord_18 : decode cX2_setNonceWord 18 = .ok (.aload_n 0, 1) := by decide +kernel
theorem dX2_setNonceWord_19 : decode cX2_setNonceWord 19 = .ok (.getfield 10, 3) := by decide +kernel
theorem dX2_setNonceWord_22 : decode cX2_setNonceWord 22 = .ok (.iload_n 1, 1) := by decide +kernel
theorem dX2_setNonceWord_23 : decode cX2_setNonceWord 23 = .ok (.iload_n 2, 1) := by decide +kernel
theorem dX2_setNonceWord_24 : decode cX2_setNonceWord 24 = .ok (.invokevirtual 56, 3) := by decide +kernel
theorem dX2_setNonceWord_27 : decode cX2_setNonceWord 27 = .ok (.iconst 1, 1) := by decide +kernel
theorem dX2_setNonceWord_28 : decode cX2_setNonceWord 28 = .ok (.ireturn, 1) := by decide +kernel
set_option maxRecDepth 20000 in
theorem ggX2_begin_X2_clearExpectedTag : GoodIn wsX2_begin wsX2_clearExpectedTag := goodIn_r _ [11, 12, 48, 49, 50, 51, 52, 53, 54, 55] (by decide +kernel) (by decide +kernel)
set_option maxRecDepth 20000 in
theorem gX2_begin_X2_clearExpectedTag : GoodIn wsX2_begin (wsV RX2 59 RX2 yX2_clearExpectedTag wsX2_clearExpectedTag) := goodIn_app (goodIn_of _ (by decide +kernel)) ggX2_begin_X2_clearExpectedTag
set_option maxRecDepth 20000 in
theorem ggX2_begin_X0_makeBlock : GoodIn wsX2_begin wsX0_makeBlock := goodIn_r _ [17, 18, 19, 20, 21, 22, 16, 23, 24, 25, 26, 27, 28, 29, 30, 31, 56, 57] (by decide +kernel) (by decide +kernel)
set_option maxRecDepth 20000 in
theorem gX2_begin_X0_makeBlock : GoodIn wsX2_begin (wsV RX2 62 RX0 yX0_makeBlock wsX0_makeBlock) := goodIn_app (goodIn_of _ (by decide +kernel)) ggX2_begin_X0_makeBlock
set_option maxRecDepth 20000 in
theorem ggX2_begin_X1_start : GoodIn wsX2_begin wsX1_start := goodIn_r _ [36, 37, 38, 39, 40, 41, 42, 43, 16, 44, 19, 45, 46, 35, 47, 58, 59, 60, 61, 62, 63, 56, 57] (by decide +kernel) (by decide +kernel)
set_option maxRecDepth 20000 in
theorem gX2_begin_X1_start : GoodIn wsX2_begin (wsV RX2 66 RX1 yX1_start wsX1_start) := goodIn_app (goodIn_of _ (by decide +kernel)) ggX2_begin_X1_start
theorem dX2_begin_0 : decode cX2_begin 0 = .ok (.aload_n 0, 1) := by decide +kernel
theorem dX2_begin_1 : decode cX2_begin 1 = .ok (.getfield 27, 3) := by decide +kernel
theorem dX2_begin_4 : decode cX2_begin 4 = .ok (.ifCond .ne 12, 3) := by decide +kernel
theorem dX2_begin_7 : decode cX2_begin 7 = .ok (.iload_n 1, 1) := by decide +kernel
theorem dX2_begin_8 : decode cX2_begin 8 = .ok (.ifCond .eq 10, 3) := by decide +kernel
theorem dX2_begin_11 : decode cX2_begin 11 = .ok (.iload_n 1, 1) := by decide +kernel
theorem dX2_begin_12 : decode cX2_begin 12 = .ok (.iconst 1, 1) := by decide +kernel
theorem dX2_begin_13 : decode cX2_begin 13 = .ok (.if_icmp .eq 5, 3) := by decide +kernel
theorem dX2_begin_16 : decode cX2_begin 16 = .ok (.iconst 0, 1) := by decide +kernel
theorem dX2_begin_17 : decode cX2_begin 17 = .ok (.ireturn, 1) := by decide +kernel
theorem dX2_begin_18 : decode cX2_begin 18 = .ok (.aload_n 0, 1) := by decide +kernel
theorem dX2_begin_19 : decode cX2_begin 19 = .ok (.iconst 1, 1) := by decide +kernel
theorem dX2_begin_20 : decode cX2_begin 20 = .ok (.putfield 27, 3) := by decide +kernel
theorem dX2_begin_23 : decode cX2_begin 23 = .ok (.aload_n 0, 1) := by decide +kernel
theorem dX2_begin_24 : decode cX2_begin 24 = .ok (.iload_n 1, 1) := by decide +kernel
theorem dX2_begin_25 : decode cX2_begin 25 = .ok (.putfield 31, 3) := by decide +kernel
theorem dX2_begin_28 : decode cX2_begin 28 = .ok (.aload_n 0, 1) := by decide +kernel
theorem dX2_begin_29 : decode cX2_begin 29 = .ok (.iconst 0, 1) := by decide +kernel
theorem dX2_begin_30 : decode cX2_begin 30 = .ok (.putfield 34, 3) := by decide +kernel
theorem dX2_begin_33 : decode cX2_begin 33 = .ok (.aload_n 0, 1) := by decide +kernel
theorem dX2_begin_34 : decode cX2_begin 34 = .ok (.iconst 0, 1) := by decide +kernel
theorem dX2_begin_35 : decode cX2_begin 35 = .ok (.putfield 37, 3) := by decide +kernel
theorem dX2_begin_38 : decode cX2_begin 38 = .ok (.aload_n 0, 1) := by decide +kernel
theorem dX2_begin_39 : decode cX2_begin 39 = .ok (.invokevirtual 59, 3) := by decide +kernel
theorem dX2_begin_42 : decode cX2_begin 42 = .ok (.aload_n 0, 1) := by decide +kernel
theorem dX2_begin_43 : decode cX2_begin 43 = .ok (.getfield 10, 3) := by decide +kernel
theorem dX2_begin_46 : decode cX2_begin 46 = .ok (.iconst 0, 1) := by decide +kernel
theorem dX2_begin_47 : decode cX2_begin 47 = .ok (.invokevirtual 62, 3) := by decide +kernel
theorem dX2_begin_50 : decode cX2_begin 50 = .ok (.aload_n 0, 1) := by decide +kernel
theorem dX2_begin_51 : decode cX2_begin 51 = .ok (.getfield 19, 3) := by decide +kernel
theorem dX2_begin_54 : decode cX2_begin 54 = .ok (.aload_n 0, 1) := by decide +kernel
theorem dX2_begin_55 : decode cX2_begin 55 = .ok (.getfield 10, 3) := by decide +kernel
theorem dX2_begin_58 : decode cX2_begin 58 = .ok (.invokevirtual 66, 3) := by decide +kernel
theorem dX2_begin_61 : decode cX2_begin 61 = .ok (.iconst 1, 1) := by decide +kernel
theorem dX2_begin_62 : decode cX2_begin 62 = .ok (.ireturn, 1) := by decide +kernel
set_option maxRecDepth 20000 in
theorem ggX2_aad_X2_isByte : GoodIn wsX2_aad wsX2_isByte := goodIn_r _ [7] (by decide +kernel) (by decide +kernel)
set_option maxRecDepth 20000 in
theorem gX2_aad_X2_isByte : GoodIn wsX2_aad (va_wsS RX2 70 yX2_isByte wsX2_isByte) := goodIn_app (goodIn_of _ (by decide +kernel)) ggX2_aad_X2_isByte
set_option maxRecDepth 20000 in
theorem ggX2_aad_X1_take : GoodIn wsX2_aad wsX1_take := goodIn_r _ [12, 13, 14, 15, 16, 17, 11, 18, 19, 20, 21, 22, 23, 24, 25, 26, 27, 28, 29, 30, 31, 32, 41, 42, 43, 44, 45, 46] (by decide +kernel) (by decide +kernel)
set_option maxRecDepth 20000 in
theorem gX2_aad_X1_take : GoodIn wsX2_aad (wsV RX2 74 RX1 yX1_take wsX1_take) := goodIn_app (goodIn_of _ (by decide +kernel)) ggX2_aad_X1_take
theorem dX2_aad_0 : decode cX2_aad 0 = .ok (.aload_n 0, 1) := by decide +kernel
theorem dX2_aad_1 : decode cX2_aad 1 = .ok (.getfield 27, 3) := by decide +kernel
theorem dX2_aad_4 : decode cX2_aad 4 = .ok (.iconst 1, 1) := by decide +kernel
theorem dX2_aad_5 : decode cX2_aad 5 = .ok (.if_icmp .ne 20, 3) := by decide +kernel
theorem dX2_aad_8 : decode cX2_aad 8 = .ok (.iload_n 1, 1) := by decide +kernel
theorem dX2_aad_9 : decode cX2_aad 9 = .ok (.invokestatic 70, 3) := by decide +kernel
theorem dX2_aad_12 : decode cX2_aad 12 = .ok (.ifCond .eq 13, 3) := by decide +kernel
theorem dX2_aad_15 : decode cX2_aad 15 = .ok (.aload_n 0, 1) := by decide +kernel
theorem dX2_aad_16 : decode cX2_aad 16 = .ok (.getfield 37, 3) := by decide +kernel
theorem dX2_aad_19 : decode cX2_aad 19 = .ok (.sipush 1000, 3) := by decide +kernel
theorem dX2_aad_22 : decode cX2_aad 22 = .ok (.if_icmp .lt 5, 3) := by decide +kernel
theorem dX2_aad_25 : decode cX2_aad 25 = .ok (.iconst 0, 1) := by decide +kernel
theorem dX2_aad_26 : decode cX2_aad 26 = .ok (.ireturn, 1) := by decide +kernel
theorem dX2_aad_27 : decode cX2_aad 27 = .ok (.aload_n 0, 1) := by decide +kernel
theorem dX2_aad_28 : decode cX2_aad 28 = .ok (.getfield 19, 3) := by decide +kernel
theorem dX2_aad_31 : decode cX2_aad 31 = .ok (.iload_n 1, 1) := by decide +kernel
theorem dX2_aad_32 : decode cX2_aad 32 = .ok (.invokevirtual 74, 3) := by decide +kernel
theorem dX2_aad_35 : decode cX2_aad 35 = .ok (.aload_n 0, 1) := by decide +kernel
theorem dX2_aad_36 : decode cX2_aad 36 = .ok (.dup, 1) := by decide +kernel
theorem dX2_aad_37 : decode cX2_aad 37 = .ok (.getfield 37, 3) := by decide +kernel
theorem dX2_aad_40 : decode cX2_aad 40 = .ok (.iconst 1, 1) := by decide +kernel
theorem dX2_aad_41 : decode cX2_aad 41 = .ok (.iadd, 1) := by decide +kernel
theorem dX2_aad_42 : decode cX2_aad 42 = .ok (.putfield 37, 3) := by decide +kernel
theorem dX2_aad_45 : decode cX2_aad 45 = .ok (.iconst 1, 1) := by decide +kernel
theorem dX2_aad_46 : decode cX2_aad 46 = .ok (.ireturn, 1) := by decide +kernel
set_option maxRecDepth 20000 in
theorem ggX2_data_X2_takesData : GoodIn wsX2_data wsX2_takesData := goodIn_r _ [9, 3, 75, 76, 77, 78, 79, 80, 81, 82] (by decide +kernel) (by decide +kernel)
set_option maxRecDepth 20000 in
theorem gX2_data_X2_takesData : GoodIn wsX2_data (wsV RX2 77 RX2 yX2_takesData wsX2_takesData) := goodIn_app (goodIn_of _ (by decide +kernel)) ggX2_data_X2_takesData
set_option maxRecDepth 20000 in
theorem ggX2_data_X2_isByte : GoodIn wsX2_data wsX2_isByte := goodIn_r _ [12] (by decide +kernel) (by decide +kernel)
set_option maxRecDepth 20000 in
theorem gX2_data_X2_isByte : GoodIn wsX2_data (va_wsS RX2 70 yX2_isByte wsX2_isByte) := goodIn_app (goodIn_of _ (by decide +kernel)) ggX2_data_X2_isByte
set_option maxRecDepth 20000 in
theorem ggX2_data_X1_fillUp : GoodIn wsX2_data wsX1_fillUp := goodIn_r _ [17, 18, 19, 20, 21, 16, 22, 23, 24, 25, 26, 27, 28, 29, 30, 31, 32, 33, 34, 35, 36, 37, 83, 84, 85, 86, 87, 88] (by decide +kernel) (by decide +kernel)
set_option maxRecDepth 20000 in
theorem gX2_data_X1_fillUp : GoodIn wsX2_data (wsV RX2 81 RX1 yX1_fillUp wsX1_fillUp) := goodIn_app (goodIn_of _ (by decide +kernel)) ggX2_data_X1_fillUp
set_option maxRecDepth 20000 in
theorem ggX2_data_X2_nextStreamByte : GoodIn wsX2_data wsX2_nextStreamByte := goodIn_r _ [41, 1, 42, 43, 44, 45, 46, 47, 48, 49, 50, 51, 52, 53, 54, 55, 56, 57, 58, 59, 60, 61, 62, 63, 64, 65, 75, 76, 77, 78, 79, 80, 81, 82, 89, 90] (by decide +kernel) (by decide +kernel)
set_option maxRecDepth 20000 in
theorem gX2_data_X2_nextStreamByte : GoodIn wsX2_data (wsV RX2 84 RX2 yX2_nextStreamByte wsX2_nextStreamByte) := goodIn_app (goodIn_of _ (by decide +kernel)) ggX2_data_X2_nextStreamByte
set_option maxRecDepth 20000 in
theorem ggX2_data_X2_isSealing : GoodIn wsX2_data wsX2_isSealing := goodIn_r _ [69, 70, 75, 76, 77, 78, 79, 80, 81, 82] (by decide +kernel) (by decide +kernel)
set_option maxRecDepth 20000 in
theorem gX2_data_X2_isSealing : GoodIn wsX2_data (wsV RX2 88 RX2 yX2_isSealing wsX2_isSealing) := goodIn_app (goodIn_of _ (by decide +kernel)) ggX2_data_X2_isSealing
set_option maxRecDepth 20000 in
theorem ggX2_data_X1_take : GoodIn wsX2_data wsX1_take := goodIn_r _ [74, 23, 18, 19, 20, 21, 16, 22, 24, 25, 26, 27, 28, 29, 30, 31, 32, 33, 34, 35, 36, 37, 83, 84, 85, 86, 87, 88] (by decide +kernel) (by decide +kernel)
set_option maxRecDepth 20000 in
theorem gX2_data_X1_take : GoodIn wsX2_data (wsV RX2 74 RX1 yX1_take wsX1_take) := goodIn_app (goodIn_of _ (by decide +kernel)) ggX2_data_X1_take
theorem dX2_data_0 : decode cX2_data 0 = .ok (.aload_n 0, 1) := by decide +kernel
theorem dX2_data_1 : decode cX2_data 1 = .ok (.invokevirtual 77, 3) := by decide +kernel
theorem dX2_data_4 : decode cX2_data 4 = .ok (.ifCond .eq 10, 3) := by decide +kernel
theorem dX2_data_7 : decode cX2_data 7 = .ok (.iload_n 1, 1) := by decide +kernel
theorem dX2_data_8 : decode cX2_data 8 = .ok (.invokestatic 70, 3) := by decide +kernel
theorem dX2_data_11 : decode cX2_data 11 = .ok (.ifCond .ne 5, 3) := by decide +kernel
theorem dX2_data_14 : decode cX2_data 14 = .ok (.iconst (-1), 1) := by decide +kernel
theorem dX2_data_15 : decode cX2_data 15 = .ok (.ireturn, 1) := by decide +kernel
theorem dX2_data_16 : decode cX2_data 16 = .ok (.aload_n 0, 1) := by decide +kernel
theorem dX2_data_17 : decode cX2_data 17 = .ok (.getfield 34, 3) := by decide +kernel
theorem dX2_data_20 : decode cX2_data 20 = .ok (.aload_n 0, 1) := by decide +kernel
theorem dX2_data_21 : decode cX2_data 21 = .ok (.getfield 49, 3) := by decide +kernel
theorem dX2_data_24 : decode cX2_data 24 = .ok (.arraylength, 1) := by decide +kernel
theorem dX2_data_25 : decode cX2_data 25 = .ok (.if_icmp .lt 6, 3) := by decide +kernel
theorem dX2_data_28 : decode cX2_data 28 = .ok (.bipush (-2), 2) := by decide +kernel
theorem dX2_data_30 : decode cX2_data 30 = .ok (.ireturn, 1) := by decide +kernel
theorem dX2_data_31 : decode cX2_data 31 = .ok (.aload_n 0, 1) := by decide +kernel
theorem dX2_data_32 : decode cX2_data 32 = .ok (.getfield 27, 3) := by decide +kernel
theorem dX2_data_35 : decode cX2_data 35 = .ok (.iconst 1, 1) := by decide +kernel
theorem dX2_data_36 : decode cX2_data 36 = .ok (.if_icmp .ne 15, 3) := by decide +kernel
theorem dX2_data_39 : decode cX2_data 39 = .ok (.aload_n 0, 1) := by decide +kernel
theorem dX2_data_40 : decode cX2_data 40 = .ok (.getfield 19, 3) := by decide +kernel
theorem dX2_data_43 : decode cX2_data 43 = .ok (.invokevirtual 81, 3) := by decide +kernel
theorem dX2_data_46 : decode cX2_data 46 = .ok (.aload_n 0, 1) := by decide +kernel
theorem dX2_data_47 : decode cX2_data 47 = .ok (.iconst 2, 1) := by decide +kernel
theorem dX2_data_48 : decode cX2_data 48 = .ok (.putfield 27, 3) := by decide +kernel
theorem dX2_data_51 : decode cX2_data 51 = .ok (.iload_n 1, 1) := by decide +kernel
theorem dX2_data_52 : decode cX2_data 52 = .ok (.aload_n 0, 1) := by decide +kernel
theorem dX2_data_53 : decode cX2_data 53 = .ok (.invokevirtual 84, 3) := by decide +kernel
theorem dX2_data_56 : decode cX2_data 56 = .ok (.ixor, 1) := by decide +kernel
theorem dX2_data_57 : decode cX2_data 57 = .ok (.istore_n 2, 1) := by decide +kernel
theorem dX2_data_58 : decode cX2_data 58 = .ok (.aload_n 0, 1) := by decide +kernel
theorem dX2_data_59 : decode cX2_data 59 = .ok (.getfield 49, 3) := by decide +kernel
theorem dX2_data_62 : decode cX2_data 62 = .ok (.aload_n 0, 1) := by decide +kernel
theorem dX2_data_63 : decode cX2_data 63 = .ok (.getfield 34, 3) := by decide +kernel
theorem dX2_data_66 : decode cX2_data 66 = .ok (.iload_n 2, 1) := by decide +kernel
theorem dX2_data_67 : decode cX2_data 67 = .ok (.iastore, 1) := by decide +kernel
theorem dX2_data_68 : decode cX2_data 68 = .ok (.aload_n 0, 1) := by decide +kernel
theorem dX2_data_69 : decode cX2_data 69 = .ok (.dup, 1) := by decide +kernel
theorem dX2_data_70 : decode cX2_data 70 = .ok (.getfield 34, 3) := by decide +kernel
theorem dX2_data_73 : decode cX2_data 73 = .ok (.iconst 1, 1) := by decide +kernel
theorem dX2_data_74 : decode cX2_data 74 = .ok (.iadd, 1) := by decide +kernel
theorem dX2_data_75 : decode cX2_data 75 = .ok (.putfield 34, 3) := by decide +kernel
theorem dX2_data_78 : decode cX2_data 78 = .ok (.aload_n 0, 1) := by decide +kernel
theorem dX2_data_79 : decode cX2_data 79 = .ok (.getfield 19, 3) := by decide +kernel
theorem dX2_data_82 : decode cX2_data 82 = .ok (.aload_n 0, 1) := by decide +kernel
theorem dX2_data_83 : decode cX2_data 83 = .ok (.invokevirtual 88, 3) := by decide +kernel
theorem dX2_data_86 : decode cX2_data 86 = .ok (.ifCond .eq 7, 3) := by decide +kernel
theorem dX2_data_89 : decode cX2_data 89 = .ok (.iload_n 2, 1) := by decide +kernel
theorem dX2_data_90 : decode cX2_data 90 = .ok (.goto 4, 3) := by decide +kernel
theorem dX2_data_93 : decode cX2_data 93 = .ok (.iload_n 1, 1) := by decide +kernel
theorem dX2_data_94 : decode cX2_data 94 = .ok (.invokevirtual 74, 3) := by decide +kernel
theorem dX2_data_97 : decode cX2_data 97 = .ok (.aload_n 0, 1) := by decide +kernel
theorem dX2_data_98 : decode cX2_data 98 = .ok (.invokevirtual 88, 3) := by decide +kernel
theorem dX2_data_101 : decode cX2_data 101 = .ok (.ifCond .eq 7, 3) := by decide +kernel
theorem dX2_data_104 : decode cX2_data 104 = .ok (.iload_n 2, 1) := by decide +kernel
theorem dX2_data_105 : decode cX2_data 105 = .ok (.goto 4, 3) := by decide +kernel
theorem dX2_data_108 : decode cX2_data 108 = .ok (.iconst 0, 1) := by decide +kernel
theorem dX2_data_109 : decode cX2_data 109 = .ok (.ireturn, 1) := by decide +kernel
set_option maxRecDepth 20000 in
theorem ggX2_finish_X2_takesData : GoodIn wsX2_finish wsX2_takesData := goodIn_r _ [9, 4, 53, 54, 55, 56, 57, 58, 59, 60] (by decide +kernel) (by decide +kernel)
set_option maxRecDepth 20000 in
theorem gX2_finish_X2_takesData : GoodIn wsX2_finish (wsV RX2 77 RX2 yX2_takesData wsX2_takesData) := goodIn_app (goodIn_of _ (by decide +kernel)) ggX2_finish_X2_takesData
set_option maxRecDepth 20000 in
theorem ggX2_finish_X1_fillUp : GoodIn wsX2_finish wsX1_fillUp := goodIn_r _ [14, 15, 16, 17, 18, 13, 19, 20, 21, 22, 23, 24, 25, 26, 27, 28, 29, 30, 31, 32, 33, 34, 61, 62, 63, 64, 65, 66] (by decide +kernel) (by decide +kernel)
set_option maxRecDepth 20000 in
theorem gX2_finish_X1_fillUp : GoodIn wsX2_finish (wsV RX2 81 RX1 yX1_fillUp wsX1_fillUp) := goodIn_app (goodIn_of _ (by decide +kernel)) ggX2_finish_X1_fillUp
set_option maxRecDepth 20000 in
theorem ggX2_finish_X1_takeCount : GoodIn wsX2_finish wsX1_takeCount := goodIn_r _ [38, 39, 40, 41, 13, 42, 20, 15, 16, 17, 18, 19, 21, 22, 23, 24, 25, 26, 27, 28, 29, 30, 31, 32, 33, 34, 61, 62, 63, 64, 65, 66] (by decide +kernel) (by decide +kernel)
set_option maxRecDepth 20000 in
theorem gX2_finish_X1_takeCount : GoodIn wsX2_finish (wsV RX2 91 RX1 yX1_takeCount wsX1_takeCount) := goodIn_app (goodIn_of _ (by decide +kernel)) ggX2_finish_X1_takeCount
set_option maxRecDepth 20000 in
theorem ggX2_finish_X1_close : GoodIn wsX2_finish wsX1_close := goodIn_r _ [46, 20, 47, 48, 49, 50, 51, 13, 52, 31, 32, 33, 34, 61, 62, 63, 64, 65, 66] (by decide +kernel) (by decide +kernel)
set_option maxRecDepth 20000 in
theorem gX2_finish_X1_close : GoodIn wsX2_finish (wsV RX2 94 RX1 yX1_close wsX1_close) := goodIn_app (goodIn_of _ (by decide +kernel)) ggX2_finish_X1_close
theorem dX2_finish_0 : decode cX2_finish 0 = .ok (.aload_n 0, 1) := by decide +kernel
theorem dX2_finish_1 : decode cX2_finish 1 = .ok (.invokevirtual 77, 3) := by decide +kernel
theorem dX2_finish_4 : decode cX2_finish 4 = .ok (.ifCond .ne 5, 3) := by decide +kernel
theorem dX2_finish_7 : decode cX2_finish 7 = .ok (.iconst 0, 1) := by decide +kernel
theorem dX2_finish_8 : decode cX2_finish 8 = .ok (.ireturn, 1) := by decide +kernel
theorem dX2_finish_9 : decode cX2_finish 9 = .ok (.aload_n 0, 1) := by decide +kernel
theorem dX2_finish_10 : decode cX2_finish 10 = .ok (.getfield 19, 3) := by decide +kernel
theorem dX2_finish_13 : decode cX2_finish 13 = .ok (.invokevirtual 81, 3) := by decide +kernel
theorem dX2_finish_16 : decode cX2_finish 16 = .ok (.aload_n 0, 1) := by decide +kernel
theorem dX2_finish_17 : decode cX2_finish 17 = .ok (.getfield 19, 3) := by decide +kernel
theorem dX2_finish_20 : decode cX2_finish 20 = .ok (.aload_n 0, 1) := by decide +kernel
theorem dX2_finish_21 : decode cX2_finish 21 = .ok (.getfield 37, 3) := by decide +kernel
theorem dX2_finish_24 : decode cX2_finish 24 = .ok (.invokevirtual 91, 3) := by decide +kernel
theorem dX2_finish_27 : decode cX2_finish 27 = .ok (.aload_n 0, 1) := by decide +kernel
theorem dX2_finish_28 : decode cX2_finish 28 = .ok (.getfield 19, 3) := by decide +kernel
theorem dX2_finish_31 : decode cX2_finish 31 = .ok (.aload_n 0, 1) := by decide +kernel
theorem dX2_finish_32 : decode cX2_finish 32 = .ok (.getfield 34, 3) := by decide +kernel
theorem dX2_finish_35 : decode cX2_finish 35 = .ok (.invokevirtual 91, 3) := by decide +kernel
theorem dX2_finish_38 : decode cX2_finish 38 = .ok (.aload_n 0, 1) := by decide +kernel
theorem dX2_finish_39 : decode cX2_finish 39 = .ok (.getfield 19, 3) := by decide +kernel
theorem dX2_finish_42 : decode cX2_finish 42 = .ok (.invokevirtual 94, 3) := by decide +kernel
theorem dX2_finish_45 : decode cX2_finish 45 = .ok (.aload_n 0, 1) := by decide +kernel
theorem dX2_finish_46 : decode cX2_finish 46 = .ok (.iconst 3, 1) := by decide +kernel
theorem dX2_finish_47 : decode cX2_finish 47 = .ok (.putfield 27, 3) := by decide +kernel
theorem dX2_finish_50 : decode cX2_finish 50 = .ok (.iconst 1, 1) := by decide +kernel
theorem dX2_finish_51 : decode cX2_finish 51 = .ok (.ireturn, 1) := by decide +kernel
set_option maxRecDepth 20000 in
theorem ggX2_expectTag_X2_isSealing : GoodIn wsX2_expectTag wsX2_isSealing := goodIn_r _ [7, 8, 15, 16, 17, 18, 19, 20, 21, 22] (by decide +kernel) (by decide +kernel)
set_option maxRecDepth 20000 in
theorem gX2_expectTag_X2_isSealing : GoodIn wsX2_expectTag (wsV RX2 88 RX2 yX2_isSealing wsX2_isSealing) := goodIn_app (goodIn_of _ (by decide +kernel)) ggX2_expectTag_X2_isSealing
set_option maxRecDepth 20000 in
theorem ggX2_expectTag_X2_isTagIndex : GoodIn wsX2_expectTag wsX2_isTagIndex := goodIn_r _ [11] (by decide +kernel) (by decide +kernel)
set_option maxRecDepth 20000 in
theorem gX2_expectTag_X2_isTagIndex : GoodIn wsX2_expectTag (va_wsS RX2 97 yX2_isTagIndex wsX2_isTagIndex) := goodIn_app (goodIn_of _ (by decide +kernel)) ggX2_expectTag_X2_isTagIndex
set_option maxRecDepth 20000 in
theorem ggX2_expectTag_X2_isByte : GoodIn wsX2_expectTag wsX2_isByte := goodIn_r _ [14] (by decide +kernel) (by decide +kernel)
set_option maxRecDepth 20000 in
theorem gX2_expectTag_X2_isByte : GoodIn wsX2_expectTag (va_wsS RX2 70 yX2_isByte wsX2_isByte) := goodIn_app (goodIn_of _ (by decide +kernel)) ggX2_expectTag_X2_isByte
theorem dX2_expectTag_0 : decode cX2_expectTag 0 = .ok (.aload_n 0, 1) := by decide +kernel
theorem dX2_expectTag_1 : decode cX2_expectTag 1 = .ok (.getfield 27, 3) := by decide +kernel
theorem dX2_expectTag_4 : decode cX2_expectTag 4 = .ok (.iconst 3, 1) := by decide +kernel
theorem dX2_expectTag_5 : decode cX2_expectTag 5 = .ok (.if_icmp .ne 24, 3) := by decide +kernel
theorem dX2_expectTag_8 : decode cX2_expectTag 8 = .ok (.aload_n 0, 1) := by decide +kernel
theorem dX2_expectTag_9 : decode cX2_expectTag 9 = .ok (.invokevirtual 88, 3) := by decide +kernel
theorem dX2_expectTag_12 : decode cX2_expectTag 12 = .ok (.ifCond .ne 17, 3) := by decide +kernel
theorem dX2_expectTag_15 : decode cX2_expectTag 15 = .ok (.iload_n 1, 1) := by decide +kernel
theorem dX2_expectTag_16 : decode cX2_expectTag 16 = .ok (.invokestatic 97, 3) := by decide +kernel
theorem dX2_expectTag_19 : decode cX2_expectTag 19 = .ok (.ifCond .eq 10, 3) := by decide +kernel
theorem dX2_expectTag_22 : decode cX2_expectTag 22 = .ok (.iload_n 2, 1) := by decide +kernel
theorem dX2_expectTag_23 : decode cX2_expectTag 23 = .ok (.invokestatic 70, 3) := by decide +kernel
theorem dX2_expectTag_26 : decode cX2_expectTag 26 = .ok (.ifCond .ne 5, 3) := by decide +kernel
theorem dX2_expectTag_29 : decode cX2_expectTag 29 = .ok (.iconst 0, 1) := by decide +kernel
theorem dX2_expectTag_30 : decode cX2_expectTag 30 = .ok (.ireturn, 1) := by decide +kernel
theorem dX2_expectTag_31 : decode cX2_expectTag 31 = .ok (.aload_n 0, 1) := by decide +kernel
theorem dX2_expectTag_32 : decode cX2_expectTag 32 = .ok (.getfield 23, 3) := by decide +kernel
theorem dX2_expectTag_35 : decode cX2_expectTag 35 = .ok (.iload_n 1, 1) := by decide +kernel
theorem dX2_expectTag_36 : decode cX2_expectTag 36 = .ok (.iload_n 2, 1) := by decide +kernel
theorem dX2_expectTag_37 : decode cX2_expectTag 37 = .ok (.iastore, 1) := by decide +kernel
theorem dX2_expectTag_38 : decode cX2_expectTag 38 = .ok (.iconst 1, 1) := by decide +kernel
theorem dX2_expectTag_39 : decode cX2_expectTag 39 = .ok (.ireturn, 1) := by decide +kernel
set_option maxRecDepth 20000 in
theorem ggX2_verify_X2_isSealing : GoodIn wsX2_verify wsX2_isSealing := goodIn_r _ [6, 7, 20, 21, 22, 23, 24, 25, 26, 27] (by decide +kernel) (by decide +kernel)
set_option maxRecDepth 20000 in
theorem gX2_verify_X2_isSealing : GoodIn wsX2_verify (wsV RX2 88 RX2 yX2_isSealing wsX2_isSealing) := goodIn_app (goodIn_of _ (by decide +kernel)) ggX2_verify_X2_isSealing
set_option maxRecDepth 20000 in
theorem ggX2_verify_X2_isTagAsExpected : GoodIn wsX2_verify wsX2_isTagAsExpected := goodIn_r _ [11, 12, 13, 14, 15, 16, 17, 18, 19, 20, 21, 22, 23, 24, 25, 26, 27, 28, 29, 30, 31, 32, 33] (by decide +kernel) (by decide +kernel)
set_option maxRecDepth 20000 in
theorem gX2_verify_X2_isTagAsExpected : GoodIn wsX2_verify (wsV RX2 100 RX2 yX2_isTagAsExpected wsX2_isTagAsExpected) := goodIn_app (goodIn_of _ (by decide +kernel)) ggX2_verify_X2_isTagAsExpected
theorem dX2_verify_0 : decode cX2_verify 0 = .ok (.aload_n 0, 1) := by decide +kernel
theorem dX2_verify_1 : decode cX2_verify 1 = .ok (.getfield 27, 3) := by decide +kernel
theorem dX2_verify_4 : decode cX2_verify 4 = .ok (.iconst 3, 1) := by decide +kernel
theorem dX2_verify_5 : decode cX2_verify 5 = .ok (.if_icmp .ne 17, 3) := by decide +kernel
theorem dX2_verify_8 : decode cX2_verify 8 = .ok (.aload_n 0, 1) := by decide +kernel
theorem dX2_verify_9 : decode cX2_verify 9 = .ok (.invokevirtual 88, 3) := by decide +kernel
theorem dX2_verify_12 : decode cX2_verify 12 = .ok (.ifCond .ne 10, 3) := by decide +kernel
theorem dX2_verify_15 : decode cX2_verify 15 = .ok (.aload_n 0, 1) := by decide +kernel
theorem dX2_verify_16 : decode cX2_verify 16 = .ok (.invokevirtual 100, 3) := by decide +kernel
theorem dX2_verify_19 : decode cX2_verify 19 = .ok (.ifCond .ne 5, 3) := by decide +kernel
theorem dX2_verify_22 : decode cX2_verify 22 = .ok (.iconst 0, 1) := by decide +kernel
theorem dX2_verify_23 : decode cX2_verify 23 = .ok (.ireturn, 1) := by decide +kernel
theorem dX2_verify_24 : decode cX2_verify 24 = .ok (.aload_n 0, 1) := by decide +kernel
theorem dX2_verify_25 : decode cX2_verify 25 = .ok (.iconst 4, 1) := by decide +kernel
theorem dX2_verify_26 : decode cX2_verify 26 = .ok (.putfield 27, 3) := by decide +kernel
theorem dX2_verify_29 : decode cX2_verify 29 = .ok (.iconst 1, 1) := by decide +kernel
theorem dX2_verify_30 : decode cX2_verify 30 = .ok (.ireturn, 1) := by decide +kernel
set_option maxRecDepth 20000 in
theorem ggX2_tag_X2_isSealing : GoodIn wsX2_tag wsX2_isSealing := goodIn_r _ [7, 8, 18, 19, 20, 21, 22, 23, 24, 25] (by decide +kernel) (by decide +kernel)
set_option maxRecDepth 20000 in
theorem gX2_tag_X2_isSealing : GoodIn wsX2_tag (wsV RX2 88 RX2 yX2_isSealing wsX2_isSealing) := goodIn_app (goodIn_of _ (by decide +kernel)) ggX2_tag_X2_isSealing
set_option maxRecDepth 20000 in
theorem ggX2_tag_X2_isTagIndex : GoodIn wsX2_tag wsX2_isTagIndex := goodIn_r _ [11] (by decide +kernel) (by decide +kernel)
set_option maxRecDepth 20000 in
theorem gX2_tag_X2_isTagIndex : GoodIn wsX2_tag (va_wsS RX2 97 yX2_isTagIndex wsX2_isTagIndex) := goodIn_app (goodIn_of _ (by decide +kernel)) ggX2_tag_X2_isTagIndex
set_option maxRecDepth 20000 in
theorem ggX2_tag_X1_tagByte : GoodIn wsX2_tag wsX1_tagByte := goodIn_r _ [16, 17, 26, 27, 28, 29, 30, 31] (by decide +kernel) (by decide +kernel)
set_option maxRecDepth 20000 in
theorem gX2_tag_X1_tagByte : GoodIn wsX2_tag (wsV RX2 103 RX1 yX1_tagByte wsX1_tagByte) := goodIn_app (goodIn_of _ (by decide +kernel)) ggX2_tag_X1_tagByte
theorem dX2_tag_0 : decode cX2_tag 0 = .ok (.aload_n 0, 1) := by decide +kernel
theorem dX2_tag_1 : decode cX2_tag 1 = .ok (.getfield 27, 3) := by decide +kernel
theorem dX2_tag_4 : decode cX2_tag 4 = .ok (.iconst 3, 1) := by decide +kernel
theorem dX2_tag_5 : decode cX2_tag 5 = .ok (.if_icmp .ne 17, 3) := by decide +kernel
theorem dX2_tag_8 : decode cX2_tag 8 = .ok (.aload_n 0, 1) := by decide +kernel
theorem dX2_tag_9 : decode cX2_tag 9 = .ok (.invokevirtual 88, 3) := by decide +kernel
theorem dX2_tag_12 : decode cX2_tag 12 = .ok (.ifCond .eq 10, 3) := by decide +kernel
theorem dX2_tag_15 : decode cX2_tag 15 = .ok (.iload_n 1, 1) := by decide +kernel
theorem dX2_tag_16 : decode cX2_tag 16 = .ok (.invokestatic 97, 3) := by decide +kernel
theorem dX2_tag_19 : decode cX2_tag 19 = .ok (.ifCond .ne 5, 3) := by decide +kernel
theorem dX2_tag_22 : decode cX2_tag 22 = .ok (.iconst (-1), 1) := by decide +kernel
theorem dX2_tag_23 : decode cX2_tag 23 = .ok (.ireturn, 1) := by decide +kernel
theorem dX2_tag_24 : decode cX2_tag 24 = .ok (.aload_n 0, 1) := by decide +kernel
theorem dX2_tag_25 : decode cX2_tag 25 = .ok (.getfield 19, 3) := by decide +kernel
theorem dX2_tag_28 : decode cX2_tag 28 = .ok (.iload_n 1, 1) := by decide +kernel
theorem dX2_tag_29 : decode cX2_tag 29 = .ok (.invokevirtual 103, 3) := by decide +kernel
theorem dX2_tag_32 : decode cX2_tag 32 = .ok (.ireturn, 1) := by decide +kernel
set_option maxRecDepth 20000 in
theorem ggX2_out_X2_tellsResults : GoodIn wsX2_out wsX2_tellsResults := goodIn_r _ [7, 8, 9, 10, 11, 6, 12, 13, 14, 15, 16, 17, 18, 19, 20, 21] (by decide +kernel) (by decide +kernel)
set_option maxRecDepth 20000 in
theorem gX2_out_X2_tellsResults : GoodIn wsX2_out (wsV RX2 107 RX2 yX2_tellsResults wsX2_tellsResults) := goodIn_app (goodIn_of _ (by decide +kernel)) ggX2_out_X2_tellsResults
theorem dX2_out_0 : decode cX2_out 0 = .ok (.aload_n 0, 1) := by decide +kernel
theorem dX2_out_1 : decode cX2_out 1 = .ok (.invokevirtual 107, 3) := by decide +kernel
theorem dX2_out_4 : decode cX2_out 4 = .ok (.ifCond .eq 15, 3) := by decide +kernel
theorem dX2_out_7 : decode cX2_out 7 = .ok (.iload_n 1, 1) := by decide +kernel
theorem dX2_out_8 : decode cX2_out 8 = .ok (.ifCond .lt 11, 3) := by decide +kernel
theorem dX2_out_11 : decode cX2_out 11 = .ok (.iload_n 1, 1) := by decide +kernel
theorem dX2_out_12 : decode cX2_out 12 = .ok (.aload_n 0, 1) := by decide +kernel
theorem dX2_out_13 : decode cX2_out 13 = .ok (.getfield 34, 3) := by decide +kernel
theorem dX2_out_16 : decode cX2_out 16 = .ok (.if_icmp .lt 5, 3) := by decide +kernel
theorem dX2_out_19 : decode cX2_out 19 = .ok (.iconst (-1), 1) := by decide +kernel
theorem dX2_out_20 : decode cX2_out 20 = .ok (.ireturn, 1) := by decide +kernel
theorem dX2_out_21 : decode cX2_out 21 = .ok (.aload_n 0, 1) := by decide +kernel
theorem dX2_out_22 : decode cX2_out 22 = .ok (.getfield 49, 3) := by decide +kernel
theorem dX2_out_25 : decode cX2_out 25 = .ok (.iload_n 1, 1) := by decide +kernel
theorem dX2_out_26 : decode cX2_out 26 = .ok (.iaload, 1) := by decide +kernel
theorem dX2_out_27 : decode cX2_out 27 = .ok (.ireturn, 1) := by decide +kernel
theorem dX2_length_0 : decode cX2_length 0 = .ok (.aload_n 0, 1) := by decide +kernel
theorem dX2_length_1 : decode cX2_length 1 = .ok (.getfield 34, 3) := by decide +kernel
theorem dX2_length_4 : decode cX2_length 4 = .ok (.ireturn, 1) := by decide +kernel
theorem dX2_added_0 : decode cX2_added 0 = .ok (.aload_n 0, 1) := by decide +kernel
theorem dX2_added_1 : decode cX2_added 1 = .ok (.getfield 37, 3) := by decide +kernel
theorem dX2_added_4 : decode cX2_added 4 = .ok (.ireturn, 1) := by decide +kernel
theorem dX2_phase_0 : decode cX2_phase 0 = .ok (.aload_n 0, 1) := by decide +kernel
theorem dX2_phase_1 : decode cX2_phase 1 = .ok (.getfield 27, 3) := by decide +kernel
theorem dX2_phase_4 : decode cX2_phase 4 = .ok (.ireturn, 1) := by decide +kernel
theorem dX2_reset_0 : decode cX2_reset 0 = .ok (.aload_n 0, 1) := by decide +kernel
theorem dX2_reset_1 : decode cX2_reset 1 = .ok (.iconst 0, 1) := by decide +kernel
theorem dX2_reset_2 : decode cX2_reset 2 = .ok (.putfield 27, 3) := by decide +kernel
theorem dX2_reset_5 : decode cX2_reset 5 = .ok (.return_, 1) := by decide +kernel
theorem dX2_isByte_0 : decode cX2_isByte 0 = .ok (.iload_n 0, 1) := by decide +kernel
theorem dX2_isByte_1 : decode cX2_isByte 1 = .ok (.ifCond .lt 14, 3) := by decide +kernel
theorem dX2_isByte_4 : decode cX2_isByte 4 = .ok (.iload_n 0, 1) := by decide +kernel
theorem dX2_isByte_5 : decode cX2_isByte 5 = .ok (.sipush 255, 3) := by decide +kernel
theorem dX2_isByte_8 : decode cX2_isByte 8 = .ok (.if_icmp .gt 7, 3) := by decide +kernel
theorem dX2_isByte_11 : decode cX2_isByte 11 = .ok (.iconst 1, 1) := by decide +kernel
theorem dX2_isByte_12 : decode cX2_isByte 12 = .ok (.goto 4, 3) := by decide +kernel
theorem dX2_isByte_15 : decode cX2_isByte 15 = .ok (.iconst 0, 1) := by decide +kernel
theorem dX2_isByte_16 : decode cX2_isByte 16 = .ok (.ireturn, 1) := by decide +kernel
theorem dX2_isTagIndex_0 : decode cX2_isTagIndex 0 = .ok (.iload_n 0, 1) := by decide +kernel
theorem dX2_isTagIndex_1 : decode cX2_isTagIndex 1 = .ok (.ifCond .lt 13, 3) := by decide +kernel
theorem dX2_isTagIndex_4 : decode cX2_isTagIndex 4 = .ok (.iload_n 0, 1) := by decide +kernel
theorem dX2_isTagIndex_5 : decode cX2_isTagIndex 5 = .ok (.bipush 16, 2) := by decide +kernel
theorem dX2_isTagIndex_7 : decode cX2_isTagIndex 7 = .ok (.if_icmp .ge 7, 3) := by decide +kernel
theorem dX2_isTagIndex_10 : decode cX2_isTagIndex 10 = .ok (.iconst 1, 1) := by decide +kernel
theorem dX2_isTagIndex_11 : decode cX2_isTagIndex 11 = .ok (.goto 4, 3) := by decide +kernel
theorem dX2_isTagIndex_14 : decode cX2_isTagIndex 14 = .ok (.iconst 0, 1) := by decide +kernel
theorem dX2_isTagIndex_15 : decode cX2_isTagIndex 15 = .ok (.ireturn, 1) := by decide +kernel
theorem dX2_isSealing_0 : decode cX2_isSealing 0 = .ok (.aload_n 0, 1) := by decide +kernel
theorem dX2_isSealing_1 : decode cX2_isSealing 1 = .ok (.getfield 31, 3) := by decide +kernel
theorem dX2_isSealing_4 : decode cX2_isSealing 4 = .ok (.ifCond .ne 7, 3) := by decide +kernel
theorem dX2_isSealing_7 : decode cX2_isSealing 7 = .ok (.iconst 1, 1) := by decide +kernel
theorem dX2_isSealing_8 : decode cX2_isSealing 8 = .ok (.goto 4, 3) := by decide +kernel
theorem dX2_isSealing_11 : decode cX2_isSealing 11 = .ok (.iconst 0, 1) := by decide +kernel
theorem dX2_isSealing_12 : decode cX2_isSealing 12 = .ok (.ireturn, 1) := by decide +kernel
theorem dX2_takesData_0 : decode cX2_takesData 0 = .ok (.aload_n 0, 1) := by decide +kernel
theorem dX2_takesData_1 : decode cX2_takesData 1 = .ok (.getfield 27, 3) := by decide +kernel
theorem dX2_takesData_4 : decode cX2_takesData 4 = .ok (.iconst 1, 1) := by decide +kernel
theorem dX2_takesData_5 : decode cX2_takesData 5 = .ok (.if_icmp .eq 11, 3) := by decide +kernel
theorem dX2_takesData_8 : decode cX2_takesData 8 = .ok (.aload_n 0, 1) := by decide +kernel
theorem dX2_takesData_9 : decode cX2_takesData 9 = .ok (.getfield 27, 3) := by decide +kernel
theorem dX2_takesData_12 : decode cX2_takesData 12 = .ok (.iconst 2, 1) := by decide +kernel
theorem dX2_takesData_13 : decode cX2_takesData 13 = .ok (.if_icmp .ne 7, 3) := by decide +kernel
theorem dX2_takesData_16 : decode cX2_takesData 16 = .ok (.iconst 1, 1) := by decide +kernel
theorem dX2_takesData_17 : decode cX2_takesData 17 = .ok (.goto 4, 3) := by decide +kernel
theorem dX2_takesData_20 : decode cX2_takesData 20 = .ok (.iconst 0, 1) := by decide +kernel
theorem dX2_takesData_21 : decode cX2_takesData 21 = .ok (.ireturn, 1) := by decide +kernel
set_option maxRecDepth 20000 in
theorem ggX2_tellsResults_X2_isSealing : GoodIn wsX2_tellsResults wsX2_isSealing := goodIn_r _ [6, 7, 8, 9, 10, 11, 12, 13, 14, 15] (by decide +kernel) (by decide +kernel)
set_option maxRecDepth 20000 in
theorem gX2_tellsResults_X2_isSealing : GoodIn wsX2_tellsResults (wsV RX2 88 RX2 yX2_isSealing wsX2_isSealing) := goodIn_app (goodIn_of _ (by decide +kernel)) ggX2_tellsResults_X2_isSealing
theorem dX2_tellsResults_0 : decode cX2_tellsResults 0 = .ok (.aload_n 0, 1) := by decide +kernel
theorem dX2_tellsResults_1 : decode cX2_tellsResults 1 = .ok (.getfield 27, 3) := by decide +kernel
theorem dX2_tellsResults_4 : decode cX2_tellsResults 4 = .ok (.iconst 4, 1) := by decide +kernel
theorem dX2_tellsResults_5 : decode cX2_tellsResults 5 = .ok (.if_icmp .eq 18, 3) := by decide +kernel
theorem dX2_tellsResults_8 : decode cX2_tellsResults 8 = .ok (.aload_n 0, 1) := by decide +kernel
theorem dX2_tellsResults_9 : decode cX2_tellsResults 9 = .ok (.getfield 27, 3) := by decide +kernel
theorem dX2_tellsResults_12 : decode cX2_tellsResults 12 = .ok (.iconst 3, 1) := by decide +kernel
theorem dX2_tellsResults_13 : decode cX2_tellsResults 13 = .ok (.if_icmp .ne 14, 3) := by decide +kernel
theorem dX2_tellsResults_16 : decode cX2_tellsResults 16 = .ok (.aload_n 0, 1) := by decide +kernel
theorem dX2_tellsResults_17 : decode cX2_tellsResults 17 = .ok (.invokevirtual 88, 3) := by decide +kernel
theorem dX2_tellsResults_20 : decode cX2_tellsResults 20 = .ok (.ifCond .eq 7, 3) := by decide +kernel
theorem dX2_tellsResults_23 : decode cX2_tellsResults 23 = .ok (.iconst 1, 1) := by decide +kernel
theorem dX2_tellsResults_24 : decode cX2_tellsResults 24 = .ok (.goto 4, 3) := by decide +kernel
theorem dX2_tellsResults_27 : decode cX2_tellsResults 27 = .ok (.iconst 0, 1) := by decide +kernel
theorem dX2_tellsResults_28 : decode cX2_tellsResults 28 = .ok (.ireturn, 1) := by decide +kernel
set_option maxRecDepth 20000 in
theorem ggX2_nextStreamByte_X0_makeBlock : GoodIn wsX2_nextStreamByte wsX0_makeBlock := goodIn_r _ [7, 8, 9, 10, 11, 12, 6, 13, 14, 15, 16, 17, 18, 19, 20, 21, 34, 35] (by decide +kernel) (by decide +kernel)
set_option maxRecDepth 20000 in
theorem gX2_nextStreamByte_X0_makeBlock : GoodIn wsX2_nextStreamByte (wsV RX2 62 RX0 yX0_makeBlock wsX0_makeBlock) := goodIn_app (goodIn_of _ (by decide +kernel)) ggX2_nextStreamByte_X0_makeBlock
set_option maxRecDepth 20000 in
theorem ggX2_nextStreamByte_X0_blockByte : GoodIn wsX2_nextStreamByte wsX0_blockByte := goodIn_r _ [25, 9, 34, 35] (by decide +kernel) (by decide +kernel)
set_option maxRecDepth 20000 in
theorem gX2_nextStreamByte_X0_blockByte : GoodIn wsX2_nextStreamByte (wsV RX2 110 RX0 yX0_blockByte wsX0_blockByte) := goodIn_app (goodIn_of _ (by decide +kernel)) ggX2_nextStreamByte_X0_blockByte
theorem dX2_nextStreamByte_0 : decode cX2_nextStreamByte 0 = .ok (.aload_n 0, 1) := by decide +kernel
theorem dX2_nextStreamByte_1 : decode cX2_nextStreamByte 1 = .ok (.getfield 34, 3) := by decide +kernel
theorem dX2_nextStreamByte_4 : decode cX2_nextStreamByte 4 = .ok (.bipush 64, 2) := by decide +kernel
theorem dX2_nextStreamByte_6 : decode cX2_nextStreamByte 6 = .ok (.irem, 1) := by decide +kernel
theorem dX2_nextStreamByte_7 : decode cX2_nextStreamByte 7 = .ok (.istore_n 1, 1) := by decide +kernel
theorem dX2_nextStreamByte_8 : decode cX2_nextStreamByte 8 = .ok (.iload_n 1, 1) := by decide +kernel
theorem dX2_nextStreamByte_9 : decode cX2_nextStreamByte 9 = .ok (.ifCond .ne 19, 3) := by decide +kernel
theorem dX2_nextStreamByte_12 : decode cX2_nextStreamByte 12 = .ok (.aload_n 0, 1) := by decide +kernel
theorem dX2_nextStreamByte_13 : decode cX2_nextStreamByte 13 = .ok (.getfield 10, 3) := by decide +kernel
theorem dX2_nextStreamByte_16 : decode cX2_nextStreamByte 16 = .ok (.iconst 1, 1) := by decide +kernel
theorem dX2_nextStreamByte_17 : decode cX2_nextStreamByte 17 = .ok (.aload_n 0, 1) := by decide +kernel
theorem dX2_nextStreamByte_18 : decode cX2_nextStreamByte 18 = .ok (.getfield 34, 3) := by decide +kernel
theorem dX2_nextStreamByte_21 : decode cX2_nextStreamByte 21 = .ok (.bipush 64, 2) := by decide +kernel
theorem dX2_nextStreamByte_23 : decode cX2_nextStreamByte 23 = .ok (.idiv, 1) := by decide +kernel
theorem dX2_nextStreamByte_24 : decode cX2_nextStreamByte 24 = .ok (.iadd, 1) := by decide +kernel
theorem dX2_nextStreamByte_25 : decode cX2_nextStreamByte 25 = .ok (.invokevirtual 62, 3) := by decide +kernel
theorem dX2_nextStreamByte_28 : decode cX2_nextStreamByte 28 = .ok (.aload_n 0, 1) := by decide +kernel
theorem dX2_nextStreamByte_29 : decode cX2_nextStreamByte 29 = .ok (.getfield 10, 3) := by decide +kernel
theorem dX2_nextStreamByte_32 : decode cX2_nextStreamByte 32 = .ok (.iload_n 1, 1) := by decide +kernel
theorem dX2_nextStreamByte_33 : decode cX2_nextStreamByte 33 = .ok (.invokevirtual 110, 3) := by decide +kernel
theorem dX2_nextStreamByte_36 : decode cX2_nextStreamByte 36 = .ok (.ireturn, 1) := by decide +kernel
theorem dX2_clearExpectedTag_0 : decode cX2_clearExpectedTag 0 = .ok (.iconst 0, 1) := by decide +kernel
theorem dX2_clearExpectedTag_1 : decode cX2_clearExpectedTag 1 = .ok (.istore_n 1, 1) := by decide +kernel
theorem dX2_clearExpectedTag_2 : decode cX2_clearExpectedTag 2 = .ok (.iload_n 1, 1) := by decide +kernel
theorem dX2_clearExpectedTag_3 : decode cX2_clearExpectedTag 3 = .ok (.aload_n 0, 1) := by decide +kernel
theorem dX2_clearExpectedTag_4 : decode cX2_clearExpectedTag 4 = .ok (.getfield 23, 3) := by decide +kernel
theorem dX2_clearExpectedTag_7 : decode cX2_clearExpectedTag 7 = .ok (.arraylength, 1) := by decide +kernel
theorem dX2_clearExpectedTag_8 : decode cX2_clearExpectedTag 8 = .ok (.if_icmp .ge 16, 3) := by decide +kernel
theorem dX2_clearExpectedTag_11 : decode cX2_clearExpectedTag 11 = .ok (.aload_n 0, 1) := by decide +kernel
theorem dX2_clearExpectedTag_12 : decode cX2_clearExpectedTag 12 = .ok (.getfield 23, 3) := by decide +kernel
theorem dX2_clearExpectedTag_15 : decode cX2_clearExpectedTag 15 = .ok (.iload_n 1, 1) := by decide +kernel
theorem dX2_clearExpectedTag_16 : decode cX2_clearExpectedTag 16 = .ok (.iconst 0, 1) := by decide +kernel
theorem dX2_clearExpectedTag_17 : decode cX2_clearExpectedTag 17 = .ok (.iastore, 1) := by decide +kernel
theorem dX2_clearExpectedTag_18 : decode cX2_clearExpectedTag 18 = .ok (.iinc 1 1, 3) := by decide +kernel
theorem dX2_clearExpectedTag_21 : decode cX2_clearExpectedTag 21 = .ok (.goto (-19), 3) := by decide +kernel
theorem dX2_clearExpectedTag_24 : decode cX2_clearExpectedTag 24 = .ok (.return_, 1) := by decide +kernel
set_option maxRecDepth 20000 in
theorem ggX2_isTagAsExpected_X1_tagByte : GoodIn wsX2_isTagAsExpected wsX1_tagByte := goodIn_r _ [7, 8, 17, 18, 19, 20, 21, 22] (by decide +kernel) (by decide +kernel)
set_option maxRecDepth 20000 in
theorem gX2_isTagAsExpected_X1_tagByte : GoodIn wsX2_isTagAsExpected (wsV RX2 103 RX1 yX1_tagByte wsX1_tagByte) := goodIn_app (goodIn_of _ (by decide +kernel)) ggX2_isTagAsExpected_X1_tagByte
theorem dX2_isTagAsExpected_0 : decode cX2_isTagAsExpected 0 = .ok (.iconst 0, 1) := by decide +kernel
theorem dX2_isTagAsExpected_1 : decode cX2_isTagAsExpected 1 = .ok (.istore_n 1, 1) := by decide +kernel
theorem dX2_isTagAsExpected_2 : decode cX2_isTagAsExpected 2 = .ok (.iconst 0, 1) := by decide +kernel
theorem dX2_isTagAsExpected_3 : decode cX2_isTagAsExpected 3 = .ok (.istore_n 2, 1) := by decide +kernel
theorem dX2_isTagAsExpected_4 : decode cX2_isTagAsExpected 4 = .ok (.iload_n 2, 1) := by decide +kernel
theorem dX2_isTagAsExpected_5 : decode cX2_isTagAsExpected 5 = .ok (.aload_n 0, 1) := by decide +kernel
theorem dX2_isTagAsExpected_6 : decode cX2_isTagAsExpected 6 = .ok (.getfield 23, 3) := by decide +kernel
theorem dX2_isTagAsExpected_9 : decode cX2_isTagAsExpected 9 = .ok (.arraylength, 1) := by decide +kernel
theorem dX2_isTagAsExpected_10 : decode cX2_isTagAsExpected 10 = .ok (.if_icmp .ge 27, 3) := by decide +kernel
theorem dX2_isTagAsExpected_13 : decode cX2_isTagAsExpected 13 = .ok (.iload_n 1, 1) := by decide +kernel
theorem dX2_isTagAsExpected_14 : decode cX2_isTagAsExpected 14 = .ok (.aload_n 0, 1) := by decide +kernel
theorem dX2_isTagAsExpected_15 : decode cX2_isTagAsExpected 15 = .ok (.getfield 23, 3) := by decide +kernel
theorem dX2_isTagAsExpected_18 : decode cX2_isTagAsExpected 18 = .ok (.iload_n 2, 1) := by decide +kernel
theorem dX2_isTagAsExpected_19 : decode cX2_isTagAsExpected 19 = .ok (.iaload, 1) := by decide +kernel
theorem dX2_isTagAsExpected_20 : decode cX2_isTagAsExpected 20 = .ok (.aload_n 0, 1) := by decide +kernel
theorem dX2_isTagAsExpected_21 : decode cX2_isTagAsExpected 21 = .ok (.getfield 19, 3) := by decide +kernel
theorem dX2_isTagAsExpected_24 : decode cX2_isTagAsExpected 24 = .ok (.iload_n 2, 1) := by decide +kernel
theorem dX2_isTagAsExpected_25 : decode cX2_isTagAsExpected 25 = .ok (.invokevirtual 103, 3) := by decide +kernel
theorem dX2_isTagAsExpected_28 : decode cX2_isTagAsExpected 28 = .ok (.ixor, 1) := by decide +kernel
theorem dX2_isTagAsExpected_29 : decode cX2_isTagAsExpected 29 = .ok (.ior, 1) := by decide +kernel
theorem dX2_isTagAsExpected_30 : decode cX2_isTagAsExpected 30 = .ok (.istore_n 1, 1) := by decide +kernel
theorem dX2_isTagAsExpected_31 : decode cX2_isTagAsExpected 31 = .ok (.iinc 2 1, 3) := by decide +kernel
theorem dX2_isTagAsExpected_34 : decode cX2_isTagAsExpected 34 = .ok (.goto (-30), 3) := by decide +kernel
theorem dX2_isTagAsExpected_37 : decode cX2_isTagAsExpected 37 = .ok (.iload_n 1, 1) := by decide +kernel
theorem dX2_isTagAsExpected_38 : decode cX2_isTagAsExpected 38 = .ok (.ifCond .ne 7, 3) := by decide +kernel
theorem dX2_isTagAsExpected_41 : decode cX2_isTagAsExpected 41 = .ok (.iconst 1, 1) := by decide +kernel
theorem dX2_isTagAsExpected_42 : decode cX2_isTagAsExpected 42 = .ok (.goto 4, 3) := by decide +kernel
theorem dX2_isTagAsExpected_45 : decode cX2_isTagAsExpected 45 = .ok (.iconst 0, 1) := by decide +kernel
theorem dX2_isTagAsExpected_46 : decode cX2_isTagAsExpected 46 = .ok (.ireturn, 1) := by decide +kernel
