theorem dX0_init_0 : decode cX0_init 0 = .ok (.aload_n 0, 1) := by decide +kernel
theorem dX0_init_1 : decode cX0_init 1 = .ok (.invokespecial 1, 3) := by decide +kernel
theorem dX0_init_4 : decode cX0_init 4 = .ok (.aload_n 0, 1) := by decide +kernel
theorem dX0_init_5 : decode cX0_init 5 = .ok (.bipush 16, 2) := by decide +kernel
theorem dX0_init_7 : decode cX0_init 7 = .ok (.newarray .int, 2) := by decide +kernel
theorem dX0_init_9 : decode cX0_init 9 = .ok (.putfield 9, 3) := by decide +kernel
theorem dX0_init_12 : decode cX0_init 12 = .ok (.aload_n 0, 1) := by decide +kernel
theorem dX0_init_13 : decode cX0_init 13 = .ok (.bipush 16, 2) := by decide +kernel
theorem dX0_init_15 : decode cX0_init 15 = .ok (.newarray .int, 2) := by decide +kernel
theorem dX0_init_17 : decode cX0_init 17 = .ok (.putfield 13, 3) := by decide +kernel
theorem dX0_init_20 : decode cX0_init 20 = .ok (.aload_n 0, 1) := by decide +kernel
theorem dX0_init_21 : decode cX0_init 21 = .ok (.getfield 9, 3) := by decide +kernel
theorem dX0_init_24 : decode cX0_init 24 = .ok (.iconst 0, 1) := by decide +kernel
theorem dX0_init_25 : decode cX0_init 25 = .ok (.ldc 16, 2) := by decide +kernel
theorem dX0_init_27 : decode cX0_init 27 = .ok (.iastore, 1) := by decide +kernel
theorem dX0_init_28 : decode cX0_init 28 = .ok (.aload_n 0, 1) := by decide +kernel
theorem dX0_init_29 : decode cX0_init 29 = .ok (.getfield 9, 3) := by decide +kernel
theorem dX0_init_32 : decode cX0_init 32 = .ok (.iconst 1, 1) := by decide +kernel
theorem dX0_init_33 : decode cX0_init 33 = .ok (.ldc 17, 2) := by decide +kernel
theorem dX0_init_35 : decode cX0_init 35 = .ok (.iastore, 1) := by decide +kernel
theorem dX0_init_36 : decode cX0_init 36 = .ok (.aload_n 0, 1) := by decide +kernel
theorem dX0_init_37 : decode cX0_init 37 = .ok (.getfield 9, 3) := by decide +kernel
theorem dX0_init_40 : decode cX0_init 40 = .ok (.iconst 2, 1) := by decide +kernel
theorem dX0_init_41 : decode cX0_init 41 = .ok (.ldc 18, 2) := by decide +kernel
theorem dX0_init_43 : decode cX0_init 43 = .ok (.iastore, 1) := by decide +kernel
theorem dX0_init_44 : decode cX0_init 44 = .ok (.aload_n 0, 1) := by decide +kernel
theorem dX0_init_45 : decode cX0_init 45 = .ok (.getfield 9, 3) := by decide +kernel
theorem dX0_init_48 : decode cX0_init 48 = .ok (.iconst 3, 1) := by decide +kernel
theorem dX0_init_49 : decode cX0_init 49 = .ok (.ldc 19, 2) := by decide +kernel
theorem dX0_init_51 : decode cX0_init 51 = .ok (.iastore, 1) := by decide +kernel
theorem dX0_init_52 : decode cX0_init 52 = .ok (.return_, 1) := by decide +kernel
theorem dX0_putKeyWord_0 : decode cX0_putKeyWord 0 = .ok (.aload_n 0, 1) := by decide +kernel
theorem dX0_putKeyWord_1 : decode cX0_putKeyWord 1 = .ok (.getfield 9, 3) := by decide +kernel
theorem dX0_putKeyWord_4 : decode cX0_putKeyWord 4 = .ok (.iconst 4, 1) := by decide +kernel
theorem dX0_putKeyWord_5 : decode cX0_putKeyWord 5 = .ok (.iload_n 1, 1) := by decide +kernel
theorem dX0_putKeyWord_6 : decode cX0_putKeyWord 6 = .ok (.iadd, 1) := by decide +kernel
theorem dX0_putKeyWord_7 : decode cX0_putKeyWord 7 = .ok (.iload_n 2, 1) := by decide +kernel
theorem dX0_putKeyWord_8 : decode cX0_putKeyWord 8 = .ok (.iastore, 1) := by decide +kernel
theorem dX0_putKeyWord_9 : decode cX0_putKeyWord 9 = .ok (.return_, 1) := by decide +kernel
theorem dX0_putNonceWord_0 : decode cX0_putNonceWord 0 = .ok (.aload_n 0, 1) := by decide +kernel
theorem dX0_putNonceWord_1 : decode cX0_putNonceWord 1 = .ok (.getfield 9, 3) := by decide +kernel
theorem dX0_putNonceWord_4 : decode cX0_putNonceWord 4 = .ok (.bipush 13, 2) := by decide +kernel
theorem dX0_putNonceWord_6 : decode cX0_putNonceWord 6 = .ok (.iload_n 1, 1) := by decide +kernel
theorem dX0_putNonceWord_7 : decode cX0_putNonceWord 7 = .ok (.iadd, 1) := by decide +kernel
theorem dX0_putNonceWord_8 : decode cX0_putNonceWord 8 = .ok (.iload_n 2, 1) := by decide +kernel
theorem dX0_putNonceWord_9 : decode cX0_putNonceWord 9 = .ok (.iastore, 1) := by decide +kernel
theorem dX0_putNonceWord_10 : decode cX0_putNonceWord 10 = .ok (.return_, 1) := by decide +kernel
set_option maxRecDepth 20000 in
theorem ggX0_makeBlock_X0_doubleRound : GoodIn wsX0_makeBlock wsX0_doubleRound := goodIn_r _ [7, 8, 9, 10, 6, 11, 12, 13, 14, 15, 2, 16, 17] (by decide +kernel) (by decide +kernel)
set_option maxRecDepth 20000 in
theorem gX0_makeBlock_X0_doubleRound : GoodIn wsX0_makeBlock (wsV RX0 20 RX0 yX0_doubleRound wsX0_doubleRound) := goodIn_app (goodIn_of _ (by decide +kernel)) ggX0_makeBlock_X0_doubleRound
theorem dX0_makeBlock_0 : decode cX0_makeBlock 0 = .ok (.aload_n 0, 1) := by decide +kernel
theorem dX0_makeBlock_1 : decode cX0_makeBlock 1 = .ok (.getfield 9, 3) := by decide +kernel
theorem dX0_makeBlock_4 : decode cX0_makeBlock 4 = .ok (.bipush 12, 2) := by decide +kernel
theorem dX0_makeBlock_6 : decode cX0_makeBlock 6 = .ok (.iload_n 1, 1) := by decide +kernel
theorem dX0_makeBlock_7 : decode cX0_makeBlock 7 = .ok (.iastore, 1) := by decide +kernel
theorem dX0_makeBlock_8 : decode cX0_makeBlock 8 = .ok (.iconst 0, 1) := by decide +kernel
theorem dX0_makeBlock_9 : decode cX0_makeBlock 9 = .ok (.istore_n 2, 1) := by decide +kernel
theorem dX0_makeBlock_10 : decode cX0_makeBlock 10 = .ok (.iload_n 2, 1) := by decide +kernel
theorem dX0_makeBlock_11 : decode cX0_makeBlock 11 = .ok (.bipush 16, 2) := by decide +kernel
theorem dX0_makeBlock_13 : decode cX0_makeBlock 13 = .ok (.if_icmp .ge 21, 3) := by decide +kernel
theorem dX0_makeBlock_16 : decode cX0_makeBlock 16 = .ok (.aload_n 0, 1) := by decide +kernel
theorem dX0_makeBlock_17 : decode cX0_makeBlock 17 = .ok (.getfield 13, 3) := by decide +kernel
theorem dX0_makeBlock_20 : decode cX0_makeBlock 20 = .ok (.iload_n 2, 1) := by decide +kernel
theorem dX0_makeBlock_21 : decode cX0_makeBlock 21 = .ok (.aload_n 0, 1) := by decide +kernel
theorem dX0_makeBlock_22 : decode cX0_makeBlock 22 = .ok (.getfield 9, 3) := by decide +kernel
theorem dX0_makeBlock_25 : decode cX0_makeBlock 25 = .ok (.iload_n 2, 1) := by decide +kernel
theorem dX0_makeBlock_26 : decode cX0_makeBlock 26 = .ok (.iaload, 1) := by decide +kernel
theorem dX0_makeBlock_27 : decode cX0_makeBlock 27 = .ok (.iastore, 1) := by decide +kernel
theorem dX0_makeBlock_28 : decode cX0_makeBlock 28 = .ok (.iinc 2 1, 3) := by decide +kernel
theorem dX0_makeBlock_31 : decode cX0_makeBlock 31 = .ok (.goto (-21), 3) := by decide +kernel
theorem dX0_makeBlock_34 : decode cX0_makeBlock 34 = .ok (.iconst 0, 1) := by decide +kernel
theorem dX0_makeBlock_35 : decode cX0_makeBlock 35 = .ok (.istore_n 2, 1) := by decide +kernel
theorem dX0_makeBlock_36 : decode cX0_makeBlock 36 = .ok (.iload_n 2, 1) := by decide +kernel
theorem dX0_makeBlock_37 : decode cX0_makeBlock 37 = .ok (.bipush 10, 2) := by decide +kernel
theorem dX0_makeBlock_39 : decode cX0_makeBlock 39 = .ok (.if_icmp .ge 13, 3) := by decide +kernel
theorem dX0_makeBlock_42 : decode cX0_makeBlock 42 = .ok (.aload_n 0, 1) := by decide +kernel
theorem dX0_makeBlock_43 : decode cX0_makeBlock 43 = .ok (.invokevirtual 20, 3) := by decide +kernel
theorem dX0_makeBlock_46 : decode cX0_makeBlock 46 = .ok (.iinc 2 1, 3) := by decide +kernel
theorem dX0_makeBlock_49 : decode cX0_makeBlock 49 = .ok (.goto (-13), 3) := by decide +kernel
theorem dX0_makeBlock_52 : decode cX0_makeBlock 52 = .ok (.iconst 0, 1) := by decide +kernel
theorem dX0_makeBlock_53 : decode cX0_makeBlock 53 = .ok (.istore_n 2, 1) := by decide +kernel
theorem dX0_makeBlock_54 : decode cX0_makeBlock 54 = .ok (.iload_n 2, 1) := by decide +kernel
theorem dX0_makeBlock_55 : decode cX0_makeBlock 55 = .ok (.bipush 16, 2) := by decide +kernel
theorem dX0_makeBlock_57 : decode cX0_makeBlock 57 = .ok (.if_icmp .ge 24, 3) := by decide +kernel
theorem dX0_makeBlock_60 : decode cX0_makeBlock 60 = .ok (.aload_n 0, 1) := by decide +kernel
theorem dX0_makeBlock_61 : decode cX0_makeBlock 61 = .ok (.getfield 13, 3) := by decide +kernel
theorem dX0_makeBlock_64 : decode cX0_makeBlock 64 = .ok (.iload_n 2, 1) := by decide +kernel
theorem dX0_makeBlock_65 : decode cX0_makeBlock 65 = .ok (.dup2, 1) := by decide +kernel
theorem dX0_makeBlock_66 : decode cX0_makeBlock 66 = .ok (.iaload, 1) := by decide +kernel
theorem dX0_makeBlock_67 : decode cX0_makeBlock 67 = .ok (.aload_n 0, 1) := by decide +kernel
theorem dX0_makeBlock_68 : decode cX0_makeBlock 68 = .ok (.getfield 9, 3) := by decide +kernel
theorem dX0_makeBlock_71 : decode cX0_makeBlock 71 = .ok (.iload_n 2, 1) := by decide +kernel
theorem dX0_makeBlock_72 : decode cX0_makeBlock 72 = .ok (.iaload, 1) := by decide +kernel
theorem dX0_makeBlock_73 : decode cX0_makeBlock 73 = .ok (.iadd, 1) := by decide +kernel
theorem dX0_makeBlock_74 : decode cX0_makeBlock 74 = .ok (.iastore, 1) := by decide +kernel
theorem dX0_makeBlock_75 : decode cX0_makeBlock 75 = .ok (.iinc 2 1, 3) := by decide +kernel
theorem dX0_makeBlock_78 : decode cX0_makeBlock 78 = .ok (.goto (-24), 3) := by decide +kernel
theorem dX0_makeBlock_81 : decode cX0_makeBlock 81 = .ok (.return_, 1) := by decide +kernel
theorem dX0_blockByte_0 : decode cX0_blockByte 0 = .ok (.aload_n 0, 1) := by decide +kernel
theorem dX0_blockByte_1 : decode cX0_blockByte 1 = .ok (.getfield 13, 3) := by decide +kernel
theorem dX0_blockByte_4 : decode cX0_blockByte 4 = .ok (.iload_n 1, 1) := by decide +kernel
theorem dX0_blockByte_5 : decode cX0_blockByte 5 = .ok (.iconst 4, 1) := by decide +kernel
theorem dX0_blockByte_6 : decode cX0_blockByte 6 = .ok (.idiv, 1) := by decide +kernel
theorem dX0_blockByte_7 : decode cX0_blockByte 7 = .ok (.iaload, 1) := by decide +kernel
theorem dX0_blockByte_8 : decode cX0_blockByte 8 = .ok (.bipush 8, 2) := by decide +kernel
theorem dX0_blockByte_10 : decode cX0_blockByte 10 = .ok (.iload_n 1, 1) := by decide +kernel
theorem dX0_blockByte_11 : decode cX0_blockByte 11 = .ok (.iconst 4, 1) := by decide +kernel
theorem dX0_blockByte_12 : decode cX0_blockByte 12 = .ok (.irem, 1) := by decide +kernel
theorem dX0_blockByte_13 : decode cX0_blockByte 13 = .ok (.imul, 1) := by decide +kernel
theorem dX0_blockByte_14 : decode cX0_blockByte 14 = .ok (.iushr, 1) := by decide +kernel
theorem dX0_blockByte_15 : decode cX0_blockByte 15 = .ok (.sipush 255, 3) := by decide +kernel
theorem dX0_blockByte_18 : decode cX0_blockByte 18 = .ok (.iand, 1) := by decide +kernel
theorem dX0_blockByte_19 : decode cX0_blockByte 19 = .ok (.ireturn, 1) := by decide +kernel
set_option maxRecDepth 20000 in
theorem ggX0_doubleRound_X0_quarterRound : GoodIn wsX0_doubleRound wsX0_quarterRound := goodIn_r _ [5, 6, 7, 8, 4, 9, 10, 11, 12] (by decide +kernel) (by decide +kernel)
set_option maxRecDepth 20000 in
theorem gX0_doubleRound_X0_quarterRound : GoodIn wsX0_doubleRound (wsV RX0 23 RX0 yX0_quarterRound wsX0_quarterRound) := goodIn_app (goodIn_of _ (by decide +kernel)) ggX0_doubleRound_X0_quarterRound
theorem dX0_doubleRound_0 : decode cX0_doubleRound 0 = .ok (.aload_n 0, 1) := by decide +kernel
theorem dX0_doubleRound_1 : decode cX0_doubleRound 1 = .ok (.iconst 0, 1) := by decide +kernel
theorem dX0_doubleRound_2 : decode cX0_doubleRound 2 = .ok (.iconst 4, 1) := by decide +kernel
theorem dX0_doubleRound_3 : decode cX0_doubleRound 3 = .ok (.bipush 8, 2) := by decide +kernel
theorem dX0_doubleRound_5 : decode cX0_doubleRound 5 = .ok (.bipush 12, 2) := by decide +kernel
theorem dX0_doubleRound_7 : decode cX0_doubleRound 7 = .ok (.invokevirtual 23, 3) := by decide +kernel
theorem dX0_doubleRound_10 : decode cX0_doubleRound 10 = .ok (.aload_n 0, 1) := by decide +kernel
theorem dX0_doubleRound_11 : decode cX0_doubleRound 11 = .ok (.iconst 1, 1) := by decide +kernel
theorem dX0_doubleRound_12 : decode cX0_doubleRound 12 = .ok (.iconst 5, 1) := by decide +kernel
theorem dX0_doubleRound_13 : decode cX0_doubleRound 13 = .ok (.bipush 9, 2) := by decide +kernel
theorem dX0_doubleRound_15 : decode cX0_doubleRound 15 = .ok (.bipush 13, 2) := by decide +kernel
theorem dX0_doubleRound_17 : decode cX0_doubleRound 17 = .ok (.invokevirtual 23, 3) := by decide +kernel
theorem dX0_doubleRound_20 : decode cX0_doubleRound 20 = .ok (.aload_n 0, 1) := by decide +kernel
theorem dX0_doubleRound_21 : decode cX0_doubleRound 21 = .ok (.iconst 2, 1) := by decide +kernel
theorem dX0_doubleRound_22 : decode cX0_doubleRound 22 = .ok (.bipush 6, 2) := by decide +kernel
theorem dX0_doubleRound_24 : decode cX0_doubleRound 24 = .ok (.bipush 10, 2) := by decide +kernel
theorem dX0_doubleRound_26 : decode cX0_doubleRound 26 = .ok (.bipush 14, 2) := by decide +kernel
theorem dX0_doubleRound_28 : decode cX0_doubleRound 28 = .ok (.invokevirtual 23, 3) := by decide +kernel
theorem dX0_doubleRound_31 : decode cX0_doubleRound 31 = .ok (.aload_n 0, 1) := by decide +kernel
theorem dX0_doubleRound_32 : decode cX0_doubleRound 32 = .ok (.iconst 3, 1) := by decide +kernel
theorem dX0_doubleRound_33 : decode cX0_doubleRound 33 = .ok (.bipush 7, 2) := by decide +kernel
theorem dX0_doubleRound_35 : decode cX0_doubleRound 35 = .ok (.bipush 11, 2) := by decide +kernel
theorem dX0_doubleRound_37 : decode cX0_doubleRound 37 = .ok (.bipush 15, 2) := by decide +kernel
theorem dX0_doubleRound_39 : decode cX0_doubleRound 39 = .ok (.invokevirtual 23, 3) := by decide +kernel
theorem dX0_doubleRound_42 : decode cX0_doubleRound 42 = .ok (.aload_n 0, 1) := by decide +kernel
theorem dX0_doubleRound_43 : decode cX0_doubleRound 43 = .ok (.iconst 0, 1) := by decide +kernel
theorem dX0_doubleRound_44 : decode cX0_doubleRound 44 = .ok (.iconst 5, 1) := by decide +kernel
theorem dX0_doubleRound_45 : decode cX0_doubleRound 45 = .ok (.bipush 10, 2) := by decide +kernel
theorem dX0_doubleRound_47 : decode cX0_doubleRound 47 = .ok (.bipush 15, 2) := by decide +kernel
theorem dX0_doubleRound_49 : decode cX0_doubleRound 49 = .ok (.invokevirtual 23, 3) := by decide +kernel
theorem dX0_doubleRound_52 : decode cX0_doubleRound 52 = .ok (.aload_n 0, 1) := by decide +kernel
theorem dX0_doubleRound_53 : decode cX0_doubleRound 53 = .ok (.iconst 1, 1) := by decide +kernel
theorem dX0_doubleRound_54 : decode cX0_doubleRound 54 = .ok (.bipush 6, 2) := by decide +kernel
theorem dX0_doubleRound_56 : decode cX0_doubleRound 56 = .ok (.bipush 11, 2) := by decide +kernel
theorem dX0_doubleRound_58 : decode cX0_doubleRound 58 = .ok (.bipush 12, 2) := by decide +kernel
theorem dX0_doubleRound_60 : decode cX0_doubleRound 60 = .ok (.invokevirtual 23, 3) := by decide +kernel
theorem dX0_doubleRound_63 : decode cX0_doubleRound 63 = .ok (.aload_n 0, 1) := by decide +kernel
theorem dX0_doubleRound_64 : decode cX0_doubleRound 64 = .ok (.iconst 2, 1) := by decide +kernel
theorem dX0_doubleRound_65 : decode cX0_doubleRound 65 = .ok (.bipush 7, 2) := by decide +kernel
theorem dX0_doubleRound_67 : decode cX0_doubleRound 67 = .ok (.bipush 8, 2) := by decide +kernel
theorem dX0_doubleRound_69 : decode cX0_doubleRound 69 = .ok (.bipush 13, 2) := by decide +kernel
theorem dX0_doubleRound_71 : decode cX0_doubleRound 71 = .ok (.invokevirtual 23, 3) := by decide +kernel
theorem dX0_doubleRound_74 : decode cX0_doubleRound 74 = .ok (.aload_n 0, 1) := by decide +kernel
theorem dX0_doubleRound_75 : decode cX0_doubleRound 75 = .ok (.iconst 3, 1) := by decide +kernel
theorem dX0_doubleRound_76 : decode cX0_doubleRound 76 = .ok (.iconst 4, 1) := by decide +kernel
theorem dX0_doubleRound_77 : decode cX0_doubleRound 77 = .ok (.bipush 9, 2) := by decide +kernel
theorem dX0_doubleRound_79 : decode cX0_doubleRound 79 = .ok (.bipush 14, 2) := by decide +kernel
theorem dX0_doubleRound_81 : decode cX0_doubleRound 81 = .ok (.invokevirtual 23, 3) := by decide +kernel
theorem dX0_doubleRound_84 : decode cX0_doubleRound 84 = .ok (.return_, 1) := by decide +kernel
set_option maxRecDepth 20000 in
theorem ggX0_quarterRound_X0_addAndTurn : GoodIn wsX0_quarterRound wsX0_addAndTurn := goodIn_r _ [5, 6, 7, 8] (by decide +kernel) (by decide +kernel)
set_option maxRecDepth 20000 in
theorem gX0_quarterRound_X0_addAndTurn : GoodIn wsX0_quarterRound (wsV RX0 27 RX0 yX0_addAndTurn wsX0_addAndTurn) := goodIn_app (goodIn_of _ (by decide +kernel)) ggX0_quarterRound_X0_addAndTurn
theorem dX0_quarterRound_0 : decode cX0_quarterRound 0 = .ok (.aload_n 0, 1) := by decide +kernel
theorem dX0_quarterRound_1 : decode cX0_quarterRound 1 = .ok (.iload_n 1, 1) := by decide +kernel
theorem dX0_quarterRound_2 : decode cX0_quarterRound 2 = .ok (.iload_n 2, 1) := by decide +kernel
theorem dX0_quarterRound_3 : decode cX0_quarterRound 3 = .ok (.iload 4, 2) := by decide +kernel
theorem dX0_quarterRound_5 : decode cX0_quarterRound 5 = .ok (.bipush 16, 2) := by decide +kernel
theorem dX0_quarterRound_7 : decode cX0_quarterRound 7 = .ok (.invokevirtual 27, 3) := by decide +kernel
theorem dX0_quarterRound_10 : decode cX0_quarterRound 10 = .ok (.aload_n 0, 1) := by decide +kernel
theorem dX0_quarterRound_11 : decode cX0_quarterRound 11 = .ok (.iload_n 3, 1) := by decide +kernel
theorem dX0_quarterRound_12 : decode cX0_quarterRound 12 = .ok (.iload 4, 2) := by decide +kernel
theorem dX0_quarterRound_14 : decode cX0_quarterRound 14 = .ok (.iload_n 2, 1) := by decide +kernel
theorem dX0_quarterRound_15 : decode cX0_quarterRound 15 = .ok (.bipush 12, 2) := by decide +kernel
theorem dX0_quarterRound_17 : decode cX0_quarterRound 17 = .ok (.invokevirtual 27, 3) := by decide +kernel
theorem dX0_quarterRound_20 : decode cX0_quarterRound 20 = .ok (.aload_n 0, 1) := by decide +kernel
theorem dX0_quarterRound_21 : decode cX0_quarterRound 21 = .ok (.iload_n 1, 1) := by decide +kernel
theorem dX0_quarterRound_22 : decode cX0_quarterRound 22 = .ok (.iload_n 2, 1) := by decide +kernel
theorem dX0_quarterRound_23 : decode cX0_quarterRound 23 = .ok (.iload 4, 2) := by decide +kernel
theorem dX0_quarterRound_25 : decode cX0_quarterRound 25 = .ok (.bipush 8, 2) := by decide +kernel
theorem dX0_quarterRound_27 : decode cX0_quarterRound 27 = .ok (.invokevirtual 27, 3) := by decide +kernel
theorem dX0_quarterRound_30 : decode cX0_quarterRound 30 = .ok (.aload_n 0, 1) := by decide +kernel
theorem dX0_quarterRound_31 : decode cX0_quarterRound 31 = .ok (.iload_n 3, 1) := by decide +kernel
theorem dX0_quarterRound_32 : decode cX0_quarterRound 32 = .ok (.iload 4, 2) := by decide +kernel
theorem dX0_quarterRound_34 : decode cX0_quarterRound 34 = .ok (.iload_n 2, 1) := by decide +kernel
theorem dX0_quarterRound_35 : decode cX0_quarterRound 35 = .ok (.bipush 7, 2) := by decide +kernel
theorem dX0_quarterRound_37 : decode cX0_quarterRound 37 = .ok (.invokevirtual 27, 3) := by decide +kernel
theorem dX0_quarterRound_40 : decode cX0_quarterRound 40 = .ok (.return_, 1) := by decide +kernel
theorem dX0_addAndTurn_0 : decode cX0_addAndTurn 0 = .ok (.aload_n 0, 1) := by decide +kernel
theorem dX0_addAndTurn_1 : decode cX0_addAndTurn 1 = .ok (.getfield 13, 3) := by decide +kernel
theorem dX0_addAndTurn_4 : decode cX0_addAndTurn 4 = .ok (.iload_n 1, 1) := by decide +kernel
theorem dX0_addAndTurn_5 : decode cX0_addAndTurn 5 = .ok (.dup2, 1) := by decide +kernel
theorem dX0_addAndTurn_6 : decode cX0_addAndTurn 6 = .ok (.iaload, 1) := by decide +kernel
theorem dX0_addAndTurn_7 : decode cX0_addAndTurn 7 = .ok (.aload_n 0, 1) := by decide +kernel
theorem dX0_addAndTurn_8 : decode cX0_addAndTurn 8 = .ok (.getfield 13, 3) := by decide +kernel
theorem dX0_addAndTurn_11 : decode cX0_addAndTurn 11 = .ok (.iload_n 2, 1) := by decide +kernel
theorem dX0_addAndTurn_12 : decode cX0_addAndTurn 12 = .ok (.iaload, 1) := by decide +kernel
theorem dX0_addAndTurn_13 : decode cX0_addAndTurn 13 = .ok (.iadd, 1) := by decide +kernel
theorem dX0_addAndTurn_14 : decode cX0_addAndTurn 14 = .ok (.iastore, 1) := by decide +kernel
theorem dX0_addAndTurn_15 : decode cX0_addAndTurn 15 = .ok (.aload_n 0, 1) := by decide +kernel
theorem dX0_addAndTurn_16 : decode cX0_addAndTurn 16 = .ok (.getfield 13, 3) := by decide +kernel
theorem dX0_addAndTurn_19 : decode cX0_addAndTurn 19 = .ok (.iload_n 3, 1) := by decide +kernel
theorem dX0_addAndTurn_20 : decode cX0_addAndTurn 20 = .ok (.iaload, 1) := by decide +kernel
theorem dX0_addAndTurn_21 : decode cX0_addAndTurn 21 = .ok (.aload_n 0, 1) := by decide +kernel
theorem dX0_addAndTurn_22 : decode cX0_addAndTurn 22 = .ok (.getfield 13, 3) := by decide +kernel
theorem dX0_addAndTurn_25 : decode cX0_addAndTurn 25 = .ok (.iload_n 1, 1) := by decide +kernel
theorem dX0_addAndTurn_26 : decode cX0_addAndTurn 26 = .ok (.iaload, 1) := by decide +kernel
theorem dX0_addAndTurn_27 : decode cX0_addAndTurn 27 = .ok (.ixor, 1) := by decide +kernel
theorem dX0_addAndTurn_28 : decode cX0_addAndTurn 28 = .ok (.istore 5, 2) := by decide +kernel
theorem dX0_addAndTurn_30 : decode cX0_addAndTurn 30 = .ok (.aload_n 0, 1) := by decide +kernel
theorem dX0_addAndTurn_31 : decode cX0_addAndTurn 31 = .ok (.getfield 13, 3) := by decide +kernel
theorem dX0_addAndTurn_34 : decode cX0_addAndTurn 34 = .ok (.iload_n 3, 1) := by decide +kernel
theorem dX0_addAndTurn_35 : decode cX0_addAndTurn 35 = .ok (.iload 5, 2) := by decide +kernel
theorem dX0_addAndTurn_37 : decode cX0_addAndTurn 37 = .ok (.iload 4, 2) := by decide +kernel
theorem dX0_addAndTurn_39 : decode cX0_addAndTurn 39 = .ok (.ishl, 1) := by decide +kernel
theorem dX0_addAndTurn_40 : decode cX0_addAndTurn 40 = .ok (.iload 5, 2) := by decide +kernel
theorem dX0_addAndTurn_42 : decode cX0_addAndTurn 42 = .ok (.bipush 32, 2) := by decide +kernel
theorem dX0_addAndTurn_44 : decode cX0_addAndTurn 44 = .ok (.iload 4, 2) := by decide +kernel
theorem dX0_addAndTurn_46 : decode cX0_addAndTurn 46 = .ok (.isub, 1) := by decide +kernel
theorem dX0_addAndTurn_47 : decode cX0_addAndTurn 47 = .ok (.iushr, 1) := by decide +kernel
theorem dX0_addAndTurn_48 : decode cX0_addAndTurn 48 = .ok (.ior, 1) := by decide +kernel
theorem dX0_addAndTurn_49 : decode cX0_addAndTurn 49 = .ok (.iastore, 1) := by decide +kernel
theorem dX0_addAndTurn_50 : decode cX0_addAndTurn 50 = .ok (.return_, 1) := by decide +kernel
theorem dX1_init_0 : decode cX1_init 0 = .ok (.aload_n 0, 1) := by decide +kernel
theorem dX1_init_1 : decode cX1_init 1 = .ok (.invokespecial 1, 3) := by decide +kernel
theorem dX1_init_4 : decode cX1_init 4 = .ok (.aload_n 0, 1) := by decide +kernel
theorem dX1_init_5 : decode cX1_init 5 = .ok (.bipush 17, 2) := by decide +kernel
theorem dX1_init_7 : decode cX1_init 7 = .ok (.newarray .int, 2) := by decide +kernel
theorem dX1_init_9 : decode cX1_init 9 = .ok (.putfield 9, 3) := by decide +kernel
theorem dX1_init_12 : decode cX1_init 12 = .ok (.aload_n 0, 1) := by decide +kernel
theorem dX1_init_13 : decode cX1_init 13 = .ok (.bipush 16, 2) := by decide +kernel
theorem dX1_init_15 : decode cX1_init 15 = .ok (.newarray .int, 2) := by decide +kernel
theorem dX1_init_17 : decode cX1_init 17 = .ok (.putfield 13, 3) := by decide +kernel
theorem dX1_init_20 : decode cX1_init 20 = .ok (.aload_n 0, 1) := by decide +kernel
theorem dX1_init_21 : decode cX1_init 21 = .ok (.bipush 17, 2) := by decide +kernel
theorem dX1_init_23 : decode cX1_init 23 = .ok (.newarray .int, 2) := by decide +kernel
theorem dX1_init_25 : decode cX1_init 25 = .ok (.putfield 16, 3) := by decide +kernel
theorem dX1_init_28 : decode cX1_init 28 = .ok (.aload_n 0, 1) := by decide +kernel
theorem dX1_init_29 : decode cX1_init 29 = .ok (.bipush 17, 2) := by decide +kernel
theorem dX1_init_31 : decode cX1_init 31 = .ok (.newarray .int, 2) := by decide +kernel
theorem dX1_init_33 : decode cX1_init 33 = .ok (.putfield 19, 3) := by decide +kernel
theorem dX1_init_36 : decode cX1_init 36 = .ok (.aload_n 0, 1) := by decide +kernel
theorem dX1_init_37 : decode cX1_init 37 = .ok (.bipush 16, 2) := by decide +kernel
theorem dX1_init_39 : decode cX1_init 39 = .ok (.newarray .int, 2) := by decide +kernel
theorem dX1_init_41 : decode cX1_init 41 = .ok (.putfield 22, 3) := by decide +kernel
theorem dX1_init_44 : decode cX1_init 44 = .ok (.aload_n 0, 1) := by decide +kernel
theorem dX1_init_45 : decode cX1_init 45 = .ok (.iconst 0, 1) := by decide +kernel
theorem dX1_init_46 : decode cX1_init 46 = .ok (.putfield 25, 3) := by decide +kernel
theorem dX1_init_49 : decode cX1_init 49 = .ok (.return_, 1) := by decide +kernel
set_option maxRecDepth 20000 in
theorem ggX1_start_X0_blockByte : GoodIn wsX1_start wsX0_blockByte := goodIn_r _ [9, 10, 21, 22] (by decide +kernel) (by decide +kernel)
set_option maxRecDepth 20000 in
theorem gX1_start_X0_blockByte : GoodIn wsX1_start (wsV RX1 29 RX0 yX0_blockByte wsX0_blockByte) := goodIn_app (goodIn_of _ (by decide +kernel)) ggX1_start_X0_blockByte
set_option maxRecDepth 20000 in
theorem ggX1_start_X1_factorMask : GoodIn wsX1_start wsX1_factorMask := goodIn_r _ [14] (by decide +kernel) (by decide +kernel)
set_option maxRecDepth 20000 in
theorem gX1_start_X1_factorMask : GoodIn wsX1_start (va_wsS RX1 35 yX1_factorMask wsX1_factorMask) := goodIn_app (goodIn_of _ (by decide +kernel)) ggX1_start_X1_factorMask
theorem dX1_start_0 : decode cX1_start 0 = .ok (.iconst 0, 1) := by decide +kernel
theorem dX1_start_1 : decode cX1_start 1 = .ok (.istore_n 2, 1) := by decide +kernel
theorem dX1_start_2 : decode cX1_start 2 = .ok (.iload_n 2, 1) := by decide +kernel
theorem dX1_start_3 : decode cX1_start 3 = .ok (.bipush 16, 2) := by decide +kernel
theorem dX1_start_5 : decode cX1_start 5 = .ok (.if_icmp .ge 39, 3) := by decide +kernel
theorem dX1_start_8 : decode cX1_start 8 = .ok (.aload_n 0, 1) := by decide +kernel
theorem dX1_start_9 : decode cX1_start 9 = .ok (.getfield 9, 3) := by decide +kernel
theorem dX1_start_12 : decode cX1_start 12 = .ok (.iload_n 2, 1) := by decide +kernel
theorem dX1_start_13 : decode cX1_start 13 = .ok (.aload_n 1, 1) := by decide +kernel
theorem dX1_start_14 : decode cX1_start 14 = .ok (.iload_n 2, 1) := by decide +kernel
theorem dX1_start_15 : decode cX1_start 15 = .ok (.invokevirtual 29, 3) := by decide +kernel
theorem dX1_start_18 : decode cX1_start 18 = .ok (.iload_n 2, 1) := by decide +kernel
theorem dX1_start_19 : decode cX1_start 19 = .ok (.invokestatic 35, 3) := by decide +kernel
theorem dX1_start_22 : decode cX1_start 22 = .ok (.iand, 1) := by decide +kernel
theorem dX1_start_23 : decode cX1_start 23 = .ok (.iastore, 1) := by decide +kernel
theorem dX1_start_24 : decode cX1_start 24 = .ok (.aload_n 0, 1) := by decide +kernel
theorem dX1_start_25 : decode cX1_start 25 = .ok (.getfield 13, 3) := by decide +kernel
theorem dX1_start_28 : decode cX1_start 28 = .ok (.iload_n 2, 1) := by decide +kernel
theorem dX1_start_29 : decode cX1_start 29 = .ok (.aload_n 1, 1) := by decide +kernel
theorem dX1_start_30 : decode cX1_start 30 = .ok (.bipush 16, 2) := by decide +kernel
theorem dX1_start_32 : decode cX1_start 32 = .ok (.iload_n 2, 1) := by decide +kernel
theorem dX1_start_33 : decode cX1_start 33 = .ok (.iadd, 1) := by decide +kernel
theorem dX1_start_34 : decode cX1_start 34 = .ok (.invokevirtual 29, 3) := by decide +kernel
theorem dX1_start_37 : decode cX1_start 37 = .ok (.iastore, 1) := by decide +kernel
theorem dX1_start_38 : decode cX1_start 38 = .ok (.iinc 2 1, 3) := by decide +kernel
theorem dX1_start_41 : decode cX1_start 41 = .ok (.goto (-39), 3) := by decide +kernel
theorem dX1_start_44 : decode cX1_start 44 = .ok (.iconst 0, 1) := by decide +kernel
theorem dX1_start_45 : decode cX1_start 45 = .ok (.istore_n 2, 1) := by decide +kernel
theorem dX1_start_46 : decode cX1_start 46 = .ok (.iload_n 2, 1) := by decide +kernel
theorem dX1_start_47 : decode cX1_start 47 = .ok (.bipush 17, 2) := by decide +kernel
theorem dX1_start_49 : decode cX1_start 49 = .ok (.if_icmp .ge 16, 3) := by decide +kernel
theorem dX1_start_52 : decode cX1_start 52 = .ok (.aload_n 0, 1) := by decide +kernel
theorem dX1_start_53 : decode cX1_start 53 = .ok (.getfield 16, 3) := by decide +kernel
theorem dX1_start_56 : decode cX1_start 56 = .ok (.iload_n 2, 1) := by decide +kernel
theorem dX1_start_57 : decode cX1_start 57 = .ok (.iconst 0, 1) := by decide +kernel
theorem dX1_start_58 : decode cX1_start 58 = .ok (.iastore, 1) := by decide +kernel
theorem dX1_start_59 : decode cX1_start 59 = .ok (.iinc 2 1, 3) := by decide +kernel
theorem dX1_start_62 : decode cX1_start 62 = .ok (.goto (-16), 3) := by decide +kernel
theorem dX1_start_65 : decode cX1_start 65 = .ok (.aload_n 0, 1) := by decide +kernel
theorem dX1_start_66 : decode cX1_start 66 = .ok (.iconst 0, 1) := by decide +kernel
theorem dX1_start_67 : decode cX1_start 67 = .ok (.putfield 25, 3) := by decide +kernel
theorem dX1_start_70 : decode cX1_start 70 = .ok (.return_, 1) := by decide +kernel
set_option maxRecDepth 20000 in
theorem ggX1_take_X1_endChunk : GoodIn wsX1_take wsX1_endChunk := goodIn_r _ [7, 1, 2, 8, 9, 10, 6, 11, 12, 13, 14, 15, 16, 17, 18, 19, 20, 21, 22, 23, 24, 25, 26, 27] (by decide +kernel) (by decide +kernel)
set_option maxRecDepth 20000 in
theorem gX1_take_X1_endChunk : GoodIn wsX1_take (wsV RX1 38 RX1 yX1_endChunk wsX1_endChunk) := goodIn_app (goodIn_of _ (by decide +kernel)) ggX1_take_X1_endChunk
theorem dX1_take_0 : decode cX1_take 0 = .ok (.aload_n 0, 1) := by decide +kernel
theorem dX1_take_1 : decode cX1_take 1 = .ok (.getfield 16, 3) := by decide +kernel
theorem dX1_take_4 : decode cX1_take 4 = .ok (.aload_n 0, 1) := by decide +kernel
theorem dX1_take_5 : decode cX1_take 5 = .ok (.getfield 25, 3) := by decide +kernel
theorem dX1_take_8 : decode cX1_take 8 = .ok (.dup2, 1) := by decide +kernel
theorem dX1_take_9 : decode cX1_take 9 = .ok (.iaload, 1) := by decide +kernel
theorem dX1_take_10 : decode cX1_take 10 = .ok (.iload_n 1, 1) := by decide +kernel
theorem dX1_take_11 : decode cX1_take 11 = .ok (.iadd, 1) := by decide +kernel
theorem dX1_take_12 : decode cX1_take 12 = .ok (.iastore, 1) := by decide +kernel
theorem dX1_take_13 : decode cX1_take 13 = .ok (.aload_n 0, 1) := by decide +kernel
theorem dX1_take_14 : decode cX1_take 14 = .ok (.dup, 1) := by decide +kernel
theorem dX1_take_15 : decode cX1_take 15 = .ok (.getfield 25, 3) := by decide +kernel
theorem dX1_take_18 : decode cX1_take 18 = .ok (.iconst 1, 1) := by decide +kernel
theorem dX1_take_19 : decode cX1_take 19 = .ok (.iadd, 1) := by decide +kernel
theorem dX1_take_20 : decode cX1_take 20 = .ok (.putfield 25, 3) := by decide +kernel
theorem dX1_take_23 : decode cX1_take 23 = .ok (.aload_n 0, 1) := by decide +kernel
theorem dX1_take_24 : decode cX1_take 24 = .ok (.getfield 25, 3) := by decide +kernel
theorem dX1_take_27 : decode cX1_take 27 = .ok (.bipush 16, 2) := by decide +kernel
theorem dX1_take_29 : decode cX1_take 29 = .ok (.if_icmp .ne 7, 3) := by decide +kernel
theorem dX1_take_32 : decode cX1_take 32 = .ok (.aload_n 0, 1) := by decide +kernel
theorem dX1_take_33 : decode cX1_take 33 = .ok (.invokevirtual 38, 3) := by decide +kernel
theorem dX1_take_36 : decode cX1_take 36 = .ok (.return_, 1) := by decide +kernel
set_option maxRecDepth 20000 in
theorem ggX1_fillUp_X1_endChunk : GoodIn wsX1_fillUp wsX1_endChunk := goodIn_r _ [6, 7, 1, 8, 9, 10, 5, 11, 12, 13, 14, 15, 16, 17, 18, 19, 20, 21, 22, 23, 24, 25, 26, 27] (by decide +kernel) (by decide +kernel)
set_option maxRecDepth 20000 in
theorem gX1_fillUp_X1_endChunk : GoodIn wsX1_fillUp (wsV RX1 38 RX1 yX1_endChunk wsX1_endChunk) := goodIn_app (goodIn_of _ (by decide +kernel)) ggX1_fillUp_X1_endChunk
theorem dX1_fillUp_0 : decode cX1_fillUp 0 = .ok (.aload_n 0, 1) := by decide +kernel
theorem dX1_fillUp_1 : decode cX1_fillUp 1 = .ok (.getfield 25, 3) := by decide +kernel
theorem dX1_fillUp_4 : decode cX1_fillUp 4 = .ok (.ifCond .le 7, 3) := by decide +kernel
theorem dX1_fillUp_7 : decode cX1_fillUp 7 = .ok (.aload_n 0, 1) := by decide +kernel
theorem dX1_fillUp_8 : decode cX1_fillUp 8 = .ok (.invokevirtual 38, 3) := by decide +kernel
theorem dX1_fillUp_11 : decode cX1_fillUp 11 = .ok (.return_, 1) := by decide +kernel
set_option maxRecDepth 20000 in
theorem ggX1_takeCount_X1_take : GoodIn wsX1_takeCount wsX1_take := goodIn_r _ [5, 6, 7, 8, 9, 10, 4, 11, 12, 13, 14, 15, 16, 17, 18, 19, 20, 21, 22, 23, 24, 25, 26, 27, 28, 29, 30, 31] (by decide +kernel) (by decide +kernel)
set_option maxRecDepth 20000 in
theorem gX1_takeCount_X1_take : GoodIn wsX1_takeCount (wsV RX1 41 RX1 yX1_take wsX1_take) := goodIn_app (goodIn_of _ (by decide +kernel)) ggX1_takeCount_X1_take
theorem dX1_takeCount_0 : decode cX1_takeCount 0 = .ok (.iconst 0, 1) := by decide +kernel
theorem dX1_takeCount_1 : decode cX1_takeCount 1 = .ok (.istore_n 2, 1) := by decide +kernel
theorem dX1_takeCount_2 : decode cX1_takeCount 2 = .ok (.iload_n 2, 1) := by decide +kernel
theorem dX1_takeCount_3 : decode cX1_takeCount 3 = .ok (.bipush 8, 2) := by decide +kernel
theorem dX1_takeCount_5 : decode cX1_takeCount 5 = .ok (.if_icmp .ge 32, 3) := by decide +kernel
theorem dX1_takeCount_8 : decode cX1_takeCount 8 = .ok (.aload_n 0, 1) := by decide +kernel
theorem dX1_takeCount_9 : decode cX1_takeCount 9 = .ok (.iload_n 2, 1) := by decide +kernel
theorem dX1_takeCount_10 : decode cX1_takeCount 10 = .ok (.iconst 4, 1) := by decide +kernel
theorem dX1_takeCount_11 : decode cX1_takeCount 11 = .ok (.if_icmp .ge 16, 3) := by decide +kernel
theorem dX1_takeCount_14 : decode cX1_takeCount 14 = .ok (.iload_n 1, 1) := by decide +kernel
theorem dX1_takeCount_15 : decode cX1_takeCount 15 = .ok (.bipush 8, 2) := by decide +kernel
theorem dX1_takeCount_17 : decode cX1_takeCount 17 = .ok (.iload_n 2, 1) := by decide +kernel
theorem dX1_takeCount_18 : decode cX1_takeCount 18 = .ok (.imul, 1) := by decide +kernel
theorem dX1_takeCount_19 : decode cX1_takeCount 19 = .ok (.iushr, 1) := by decide +kernel
theorem dX1_takeCount_20 : decode cX1_takeCount 20 = .ok (.sipush 255, 3) := by decide +kernel
theorem dX1_takeCount_23 : decode cX1_takeCount 23 = .ok (.iand, 1) := by decide +kernel
theorem dX1_takeCount_24 : decode cX1_takeCount 24 = .ok (.goto 4, 3) := by decide +kernel
theorem dX1_takeCount_27 : decode cX1_takeCount 27 = .ok (.iconst 0, 1) := by decide +kernel
theorem dX1_takeCount_28 : decode cX1_takeCount 28 = .ok (.invokevirtual 41, 3) := by decide +kernel
theorem dX1_takeCount_31 : decode cX1_takeCount 31 = .ok (.iinc 2 1, 3) := by decide +kernel
theorem dX1_takeCount_34 : decode cX1_takeCount 34 = .ok (.goto (-32), 3) := by decide +kernel
theorem dX1_takeCount_37 : decode cX1_takeCount 37 = .ok (.return_, 1) := by decide +kernel
set_option maxRecDepth 20000 in
theorem ggX1_close_X1_reachesModulus : GoodIn wsX1_close wsX1_reachesModulus := goodIn_r _ [8, 1, 13, 14, 15, 16, 17, 18] (by decide +kernel) (by decide +kernel)
set_option maxRecDepth 20000 in
theorem gX1_close_X1_reachesModulus : GoodIn wsX1_close (wsV RX1 45 RX1 yX1_reachesModulus wsX1_reachesModulus) := goodIn_app (goodIn_of _ (by decide +kernel)) ggX1_close_X1_reachesModulus
set_option maxRecDepth 20000 in
theorem ggX1_close_X1_addSmall : GoodIn wsX1_close wsX1_addSmall := goodIn_r _ [12, 1, 13, 14, 15, 16, 17, 18] (by decide +kernel) (by decide +kernel)
set_option maxRecDepth 20000 in
theorem gX1_close_X1_addSmall : GoodIn wsX1_close (wsV RX1 49 RX1 yX1_addSmall wsX1_addSmall) := goodIn_app (goodIn_of _ (by decide +kernel)) ggX1_close_X1_addSmall
theorem dX1_close_0 : decode cX1_close 0 = .ok (.aload_n 0, 1) := by decide +kernel
theorem dX1_close_1 : decode cX1_close 1 = .ok (.invokevirtual 45, 3) := by decide +kernel
theorem dX1_close_4 : decode cX1_close 4 = .ok (.ifCond .eq 8, 3) := by decide +kernel
theorem dX1_close_7 : decode cX1_close 7 = .ok (.aload_n 0, 1) := by decide +kernel
theorem dX1_close_8 : decode cX1_close 8 = .ok (.iconst 5, 1) := by decide +kernel
theorem dX1_close_9 : decode cX1_close 9 = .ok (.invokevirtual 49, 3) := by decide +kernel
theorem dX1_close_12 : decode cX1_close 12 = .ok (.iconst 0, 1) := by decide +kernel
theorem dX1_close_13 : decode cX1_close 13 = .ok (.istore_n 1, 1) := by decide +kernel
theorem dX1_close_14 : decode cX1_close 14 = .ok (.iconst 0, 1) := by decide +kernel
theorem dX1_close_15 : decode cX1_close 15 = .ok (.istore_n 2, 1) := by decide +kernel
theorem dX1_close_16 : decode cX1_close 16 = .ok (.iload_n 2, 1) := by decide +kernel
theorem dX1_close_17 : decode cX1_close 17 = .ok (.bipush 16, 2) := by decide +kernel
theorem dX1_close_19 : decode cX1_close 19 = .ok (.if_icmp .ge 41, 3) := by decide +kernel
theorem dX1_close_22 : decode cX1_close 22 = .ok (.iload_n 1, 1) := by decide +kernel
theorem dX1_close_23 : decode cX1_close 23 = .ok (.aload_n 0, 1) := by decide +kernel
theorem dX1_close_24 : decode cX1_close 24 = .ok (.getfield 16, 3) := by decide +kernel
theorem dX1_close_27 : decode cX1_close 27 = .ok (.iload_n 2, 1) := by decide +kernel
theorem dX1_close_28 : decode cX1_close 28 = .ok (.iaload, 1) := by decide +kernel
theorem dX1_close_29 : decode cX1_close 29 = .ok (.aload_n 0, 1) := by decide +kernel
theorem dX1_close_30 : decode cX1_close 30 = .ok (.getfield 13, 3) := by decide +kernel
theorem dX1_close_33 : decode cX1_close 33 = .ok (.iload_n 2, 1) := by decide +kernel
theorem dX1_close_34 : decode cX1_close 34 = .ok (.iaload, 1) := by decide +kernel
theorem dX1_close_35 : decode cX1_close 35 = .ok (.iadd, 1) := by decide +kernel
theorem dX1_close_36 : decode cX1_close 36 = .ok (.iadd, 1) := by decide +kernel
theorem dX1_close_37 : decode cX1_close 37 = .ok (.istore_n 1, 1) := by decide +kernel
theorem dX1_close_38 : decode cX1_close 38 = .ok (.aload_n 0, 1) := by decide +kernel
theorem dX1_close_39 : decode cX1_close 39 = .ok (.getfield 22, 3) := by decide +kernel
theorem dX1_close_42 : decode cX1_close 42 = .ok (.iload_n 2, 1) := by decide +kernel
theorem dX1_close_43 : decode cX1_close 43 = .ok (.iload_n 1, 1) := by decide +kernel
theorem dX1_close_44 : decode cX1_close 44 = .ok (.sipush 255, 3) := by decide +kernel
theorem dX1_close_47 : decode cX1_close 47 = .ok (.iand, 1) := by decide +kernel
theorem dX1_close_48 : decode cX1_close 48 = .ok (.iastore, 1) := by decide +kernel
theorem dX1_close_49 : decode cX1_close 49 = .ok (.iload_n 1, 1) := by decide +kernel
theorem dX1_close_50 : decode cX1_close 50 = .ok (.bipush 8, 2) := by decide +kernel
theorem dX1_close_52 : decode cX1_close 52 = .ok (.iushr, 1) := by decide +kernel
theorem dX1_close_53 : decode cX1_close 53 = .ok (.istore_n 1, 1) := by decide +kernel
theorem dX1_close_54 : decode cX1_close 54 = .ok (.iinc 2 1, 3) := by decide +kernel
theorem dX1_close_57 : decode cX1_close 57 = .ok (.goto (-41), 3) := by decide +kernel
theorem dX1_close_60 : decode cX1_close 60 = .ok (.return_, 1) := by decide +kernel
theorem dX1_tagByte_0 : decode cX1_tagByte 0 = .ok (.aload_n 0, 1) := by decide +kernel
theorem dX1_tagByte_1 : decode cX1_tagByte 1 = .ok (.getfield 22, 3) := by decide +kernel
theorem dX1_tagByte_4 : decode cX1_tagByte 4 = .ok (.iload_n 1, 1) := by decide +kernel
theorem dX1_tagByte_5 : decode cX1_tagByte 5 = .ok (.iaload, 1) := by decide +kernel
theorem dX1_tagByte_6 : decode cX1_tagByte 6 = .ok (.ireturn, 1) := by decide +kernel
theorem dX1_factorMask_0 : decode cX1_factorMask 0 = .ok (.iload_n 0, 1) := by decide +kernel
theorem dX1_factorMask_1 : decode cX1_factorMask 1 = .ok (.iconst 4, 1) := by decide +kernel
theorem dX1_factorMask_2 : decode cX1_factorMask 2 = .ok (.irem, 1) := by decide +kernel
theorem dX1_factorMask_3 : decode cX1_factorMask 3 = .ok (.iconst 3, 1) := by decide +kernel
theorem dX1_factorMask_4 : decode cX1_factorMask 4 = .ok (.if_icmp .ne 6, 3) := by decide +kernel
theorem dX1_factorMask_7 : decode cX1_factorMask 7 = .ok (.bipush 15, 2) := by decide +kernel
theorem dX1_factorMask_9 : decode cX1_factorMask 9 = .ok (.ireturn, 1) := by decide +kernel
theorem dX1_factorMask_10 : decode cX1_factorMask 10 = .ok (.iload_n 0, 1) := by decide +kernel
theorem dX1_factorMask_11 : decode cX1_factorMask 11 = .ok (.iconst 4, 1) := by decide +kernel
theorem dX1_factorMask_12 : decode cX1_factorMask 12 = .ok (.irem, 1) := by decide +kernel
theorem dX1_factorMask_13 : decode cX1_factorMask 13 = .ok (.ifCond .ne 13, 3) := by decide +kernel
theorem dX1_factorMask_16 : decode cX1_factorMask 16 = .ok (.iload_n 0, 1) := by decide +kernel
theorem dX1_factorMask_17 : decode cX1_factorMask 17 = .ok (.ifCond .le 9, 3) := by decide +kernel
theorem dX1_factorMask_20 : decode cX1_factorMask 20 = .ok (.sipush 252, 3) := by decide +kernel
theorem dX1_factorMask_23 : decode cX1_factorMask 23 = .ok (.goto 6, 3) := by decide +kernel
theorem dX1_factorMask_26 : decode cX1_factorMask 26 = .ok (.sipush 255, 3) := by decide +kernel
theorem dX1_factorMask_29 : decode cX1_factorMask 29 = .ok (.ireturn, 1) := by decide +kernel
set_option maxRecDepth 20000 in
theorem ggX1_endChunk_X1_multiply : GoodIn wsX1_endChunk wsX1_multiply := goodIn_r _ [7, 1, 8, 9, 18, 19, 20, 21, 22, 23] (by decide +kernel) (by decide +kernel)
set_option maxRecDepth 20000 in
theorem gX1_endChunk_X1_multiply : GoodIn wsX1_endChunk (wsV RX1 52 RX1 yX1_multiply wsX1_multiply) := goodIn_app (goodIn_of _ (by decide +kernel)) ggX1_endChunk_X1_multiply
set_option maxRecDepth 20000 in
theorem ggX1_endChunk_X1_carryProducts : GoodIn wsX1_endChunk wsX1_carryProducts := goodIn_r _ [13, 9, 1, 14, 15, 16, 6, 17, 18, 19, 20, 21, 22, 23] (by decide +kernel) (by decide +kernel)
set_option maxRecDepth 20000 in
theorem gX1_endChunk_X1_carryProducts : GoodIn wsX1_endChunk (wsV RX1 55 RX1 yX1_carryProducts wsX1_carryProducts) := goodIn_app (goodIn_of _ (by decide +kernel)) ggX1_endChunk_X1_carryProducts
theorem dX1_endChunk_0 : decode cX1_endChunk 0 = .ok (.aload_n 0, 1) := by decide +kernel
theorem dX1_endChunk_1 : decode cX1_endChunk 1 = .ok (.getfield 16, 3) := by decide +kernel
theorem dX1_endChunk_4 : decode cX1_endChunk 4 = .ok (.bipush 16, 2) := by decide +kernel
theorem dX1_endChunk_6 : decode cX1_endChunk 6 = .ok (.dup2, 1) := by decide +kernel
theorem dX1_endChunk_7 : decode cX1_endChunk 7 = .ok (.iaload, 1) := by decide +kernel
theorem dX1_endChunk_8 : decode cX1_endChunk 8 = .ok (.iconst 1, 1) := by decide +kernel
theorem dX1_endChunk_9 : decode cX1_endChunk 9 = .ok (.iadd, 1) := by decide +kernel
theorem dX1_endChunk_10 : decode cX1_endChunk 10 = .ok (.iastore, 1) := by decide +kernel
theorem dX1_endChunk_11 : decode cX1_endChunk 11 = .ok (.aload_n 0, 1) := by decide +kernel
theorem dX1_endChunk_12 : decode cX1_endChunk 12 = .ok (.invokevirtual 52, 3) := by decide +kernel
theorem dX1_endChunk_15 : decode cX1_endChunk 15 = .ok (.aload_n 0, 1) := by decide +kernel
theorem dX1_endChunk_16 : decode cX1_endChunk 16 = .ok (.invokevirtual 55, 3) := by decide +kernel
theorem dX1_endChunk_19 : decode cX1_endChunk 19 = .ok (.aload_n 0, 1) := by decide +kernel
theorem dX1_endChunk_20 : decode cX1_endChunk 20 = .ok (.iconst 0, 1) := by decide +kernel
theorem dX1_endChunk_21 : decode cX1_endChunk 21 = .ok (.putfield 25, 3) := by decide +kernel
theorem dX1_endChunk_24 : decode cX1_endChunk 24 = .ok (.return_, 1) := by decide +kernel
theorem dX1_multiply_0 : decode cX1_multiply 0 = .ok (.iconst 0, 1) := by decide +kernel
theorem dX1_multiply_1 : decode cX1_multiply 1 = .ok (.istore_n 1, 1) := by decide +kernel
theorem dX1_multiply_2 : decode cX1_multiply 2 = .ok (.iload_n 1, 1) := by decide +kernel
theorem dX1_multiply_3 : decode cX1_multiply 3 = .ok (.bipush 17, 2) := by decide +kernel
theorem dX1_multiply_5 : decode cX1_multiply 5 = .ok (.if_icmp .ge 90, 3) := by decide +kernel
theorem dX1_multiply_8 : decode cX1_multiply 8 = .ok (.iconst 0, 1) := by decide +kernel
theorem dX1_multiply_9 : decode cX1_multiply 9 = .ok (.istore_n 2, 1) := by decide +kernel
theorem dX1_multiply_10 : decode cX1_multiply 10 = .ok (.iconst 0, 1) := by decide +kernel
theorem dX1_multiply_11 : decode cX1_multiply 11 = .ok (.istore_n 3, 1) := by decide +kernel
theorem dX1_multiply_12 : decode cX1_multiply 12 = .ok (.iload_n 3, 1) := by decide +kernel
theorem dX1_multiply_13 : decode cX1_multiply 13 = .ok (.iload_n 1, 1) := by decide +kernel
theorem dX1_multiply_14 : decode cX1_multiply 14 = .ok (.if_icmp .gt 27, 3) := by decide +kernel
theorem dX1_multiply_17 : decode cX1_multiply 17 = .ok (.iload_n 2, 1) := by decide +kernel
theorem dX1_multiply_18 : decode cX1_multiply 18 = .ok (.aload_n 0, 1) := by decide +kernel
theorem dX1_multiply_19 : decode cX1_multiply 19 = .ok (.getfield 16, 3) := by decide +kernel
theorem dX1_multiply_22 : decode cX1_multiply 22 = .ok (.iload_n 3, 1) := by decide +kernel
theorem dX1_multiply_23 : decode cX1_multiply 23 = .ok (.iaload, 1) := by decide +kernel
theorem dX1_multiply_24 : decode cX1_multiply 24 = .ok (.aload_n 0, 1) := by decide +kernel
theorem dX1_multiply_25 : decode cX1_multiply 25 = .ok (.getfield 9, 3) := by decide +kernel
theorem dX1_multiply_28 : decode cX1_multiply 28 = .ok (.iload_n 1, 1) := by decide +kernel
theorem dX1_multiply_29 : decode cX1_multiply 29 = .ok (.iload_n 3, 1) := by decide +kernel
theorem dX1_multiply_30 : decode cX1_multiply 30 = .ok (.isub, 1) := by decide +kernel
theorem dX1_multiply_31 : decode cX1_multiply 31 = .ok (.iaload, 1) := by decide +kernel
theorem dX1_multiply_32 : decode cX1_multiply 32 = .ok (.imul, 1) := by decide +kernel
theorem dX1_multiply_33 : decode cX1_multiply 33 = .ok (.iadd, 1) := by decide +kernel
theorem dX1_multiply_34 : decode cX1_multiply 34 = .ok (.istore_n 2, 1) := by decide +kernel
theorem dX1_multiply_35 : decode cX1_multiply 35 = .ok (.iinc 3 1, 3) := by decide +kernel
theorem dX1_multiply_38 : decode cX1_multiply 38 = .ok (.goto (-26), 3) := by decide +kernel
theorem dX1_multiply_41 : decode cX1_multiply 41 = .ok (.iload_n 1, 1) := by decide +kernel
theorem dX1_multiply_42 : decode cX1_multiply 42 = .ok (.iconst 1, 1) := by decide +kernel
theorem dX1_multiply_43 : decode cX1_multiply 43 = .ok (.iadd, 1) := by decide +kernel
theorem dX1_multiply_44 : decode cX1_multiply 44 = .ok (.istore_n 3, 1) := by decide +kernel
theorem dX1_multiply_45 : decode cX1_multiply 45 = .ok (.iload_n 3, 1) := by decide +kernel
theorem dX1_multiply_46 : decode cX1_multiply 46 = .ok (.bipush 17, 2) := by decide +kernel
theorem dX1_multiply_48 : decode cX1_multiply 48 = .ok (.if_icmp .ge 34, 3) := by decide +kernel
theorem dX1_multiply_51 : decode cX1_multiply 51 = .ok (.iload_n 2, 1) := by decide +kernel
theorem dX1_multiply_52 : decode cX1_multiply 52 = .ok (.sipush 320, 3) := by decide +kernel
theorem dX1_multiply_55 : decode cX1_multiply 55 = .ok (.aload_n 0, 1) := by decide +kernel
theorem dX1_multiply_56 : decode cX1_multiply 56 = .ok (.getfield 16, 3) := by decide +kernel
theorem dX1_multiply_59 : decode cX1_multiply 59 = .ok (.iload_n 3, 1) := by decide +kernel
theorem dX1_multiply_60 : decode cX1_multiply 60 = .ok (.iaload, 1) := by decide +kernel
theorem dX1_multiply_61 : decode cX1_multiply 61 = .ok (.imul, 1) := by decide +kernel
theorem dX1_multiply_62 : decode cX1_multiply 62 = .ok (.aload_n 0, 1) := by decide +kernel
theorem dX1_multiply_63 : decode cX1_multiply 63 = .ok (.getfield 9, 3) := by decide +kernel
theorem dX1_multiply_66 : decode cX1_multiply 66 = .ok (.bipush 17, 2) := by decide +kernel
theorem dX1_multiply_68 : decode cX1_multiply 68 = .ok (.iload_n 1, 1) := by decide +kernel
theorem dX1_multiply_69 : decode cX1_multiply 69 = .ok (.iadd, 1) := by decide +kernel
theorem dX1_multiply_70 : decode cX1_multiply 70 = .ok (.iload_n 3, 1) := by decide +kernel
theorem dX1_multiply_71 : decode cX1_multiply 71 = .ok (.isub, 1) := by decide +kernel
theorem dX1_multiply_72 : decode cX1_multiply 72 = .ok (.iaload, 1) := by decide +kernel
theorem dX1_multiply_73 : decode cX1_multiply 73 = .ok (.imul, 1) := by decide +kernel
theorem dX1_multiply_74 : decode cX1_multiply 74 = .ok (.iadd, 1) := by decide +kernel
theorem dX1_multiply_75 : decode cX1_multiply 75 = .ok (.istore_n 2, 1) := by decide +kernel
theorem dX1_multiply_76 : decode cX1_multiply 76 = .ok (.iinc 3 1, 3) := by decide +kernel
theorem dX1_multiply_79 : decode cX1_multiply 79 = .ok (.goto (-34), 3) := by decide +kernel
theorem dX1_multiply_82 : decode cX1_multiply 82 = .ok (.aload_n 0, 1) := by decide +kernel
theorem dX1_multiply_83 : decode cX1_multiply 83 = .ok (.getfield 19, 3) := by decide +kernel
theorem dX1_multiply_86 : decode cX1_multiply 86 = .ok (.iload_n 1, 1) := by decide +kernel
theorem dX1_multiply_87 : decode cX1_multiply 87 = .ok (.iload_n 2, 1) := by decide +kernel
theorem dX1_multiply_88 : decode cX1_multiply 88 = .ok (.iastore, 1) := by decide +kernel
theorem dX1_multiply_89 : decode cX1_multiply 89 = .ok (.iinc 1 1, 3) := by decide +kernel
theorem dX1_multiply_92 : decode cX1_multiply 92 = .ok (.goto (-90), 3) := by decide +kernel
theorem dX1_multiply_95 : decode cX1_multiply 95 = .ok (.return_, 1) := by decide +kernel
set_option maxRecDepth 20000 in
theorem ggX1_carryProducts_X1_addSmall : GoodIn wsX1_carryProducts wsX1_addSmall := goodIn_r _ [7, 2, 8, 9, 10, 11, 12, 13] (by decide +kernel) (by decide +kernel)
set_option maxRecDepth 20000 in
theorem gX1_carryProducts_X1_addSmall : GoodIn wsX1_carryProducts (wsV RX1 49 RX1 yX1_addSmall wsX1_addSmall) := goodIn_app (goodIn_of _ (by decide +kernel)) ggX1_carryProducts_X1_addSmall
theorem dX1_carryProducts_0 : decode cX1_carryProducts 0 = .ok (.iconst 0, 1) := by decide +kernel
theorem dX1_carryProducts_1 : decode cX1_carryProducts 1 = .ok (.istore_n 1, 1) := by decide +kernel
theorem dX1_carryProducts_2 : decode cX1_carryProducts 2 = .ok (.iconst 0, 1) := by decide +kernel
theorem dX1_carryProducts_3 : decode cX1_carryProducts 3 = .ok (.istore_n 2, 1) := by decide +kernel
theorem dX1_carryProducts_4 : decode cX1_carryProducts 4 = .ok (.iload_n 2, 1) := by decide +kernel
theorem dX1_carryProducts_5 : decode cX1_carryProducts 5 = .ok (.bipush 17, 2) := by decide +kernel
theorem dX1_carryProducts_7 : decode cX1_carryProducts 7 = .ok (.if_icmp .ge 34, 3) := by decide +kernel
theorem dX1_carryProducts_10 : decode cX1_carryProducts 10 = .ok (.iload_n 1, 1) := by decide +kernel
theorem dX1_carryProducts_11 : decode cX1_carryProducts 11 = .ok (.aload_n 0, 1) := by decide +kernel
theorem dX1_carryProducts_12 : decode cX1_carryProducts 12 = .ok (.getfield 19, 3) := by decide +kernel
theorem dX1_carryProducts_15 : decode cX1_carryProducts 15 = .ok (.iload_n 2, 1) := by decide +kernel
theorem dX1_carryProducts_16 : decode cX1_carryProducts 16 = .ok (.iaload, 1) := by decide +kernel
theorem dX1_carryProducts_17 : decode cX1_carryProducts 17 = .ok (.iadd, 1) := by decide +kernel
theorem dX1_carryProducts_18 : decode cX1_carryProducts 18 = .ok (.istore_n 1, 1) := by decide +kernel
theorem dX1_carryProducts_19 : decode cX1_carryProducts 19 = .ok (.aload_n 0, 1) := by decide +kernel
theorem dX1_carryProducts_20 : decode cX1_carryProducts 20 = .ok (.getfield 16, 3) := by decide +kernel
theorem dX1_carryProducts_23 : decode cX1_carryProducts 23 = .ok (.iload_n 2, 1) := by decide +kernel
theorem dX1_carryProducts_24 : decode cX1_carryProducts 24 = .ok (.iload_n 1, 1) := by decide +kernel
theorem dX1_carryProducts_25 : decode cX1_carryProducts 25 = .ok (.sipush 255, 3) := by decide +kernel
theorem dX1_carryProducts_28 : decode cX1_carryProducts 28 = .ok (.iand, 1) := by decide +kernel
theorem dX1_carryProducts_29 : decode cX1_carryProducts 29 = .ok (.iastore, 1) := by decide +kernel
theorem dX1_carryProducts_30 : decode cX1_carryProducts 30 = .ok (.iload_n 1, 1) := by decide +kernel
theorem dX1_carryProducts_31 : decode cX1_carryProducts 31 = .ok (.bipush 8, 2) := by decide +kernel
theorem dX1_carryProducts_33 : decode cX1_carryProducts 33 = .ok (.iushr, 1) := by decide +kernel
theorem dX1_carryProducts_34 : decode cX1_carryProducts 34 = .ok (.istore_n 1, 1) := by decide +kernel
theorem dX1_carryProducts_35 : decode cX1_carryProducts 35 = .ok (.iinc 2 1, 3) := by decide +kernel
theorem dX1_carryProducts_38 : decode cX1_carryProducts 38 = .ok (.goto (-34), 3) := by decide +kernel
theorem dX1_carryProducts_41 : decode cX1_carryProducts 41 = .ok (.iload_n 1, 1) := by decide +kernel
theorem dX1_carryProducts_42 : decode cX1_carryProducts 42 = .ok (.bipush 6, 2) := by decide +kernel
theorem dX1_carryProducts_44 : decode cX1_carryProducts 44 = .ok (.ishl, 1) := by decide +kernel
theorem dX1_carryProducts_45 : decode cX1_carryProducts 45 = .ok (.aload_n 0, 1) := by decide +kernel
theorem dX1_carryProducts_46 : decode cX1_carryProducts 46 = .ok (.getfield 16, 3) := by decide +kernel
theorem dX1_carryProducts_49 : decode cX1_carryProducts 49 = .ok (.bipush 16, 2) := by decide +kernel
theorem dX1_carryProducts_51 : decode cX1_carryProducts 51 = .ok (.iaload, 1) := by decide +kernel
theorem dX1_carryProducts_52 : decode cX1_carryProducts 52 = .ok (.iconst 2, 1) := by decide +kernel
theorem dX1_carryProducts_53 : decode cX1_carryProducts 53 = .ok (.iushr, 1) := by decide +kernel
theorem dX1_carryProducts_54 : decode cX1_carryProducts 54 = .ok (.ior, 1) := by decide +kernel
theorem dX1_carryProducts_55 : decode cX1_carryProducts 55 = .ok (.istore_n 2, 1) := by decide +kernel
theorem dX1_carryProducts_56 : decode cX1_carryProducts 56 = .ok (.aload_n 0, 1) := by decide +kernel
theorem dX1_carryProducts_57 : decode cX1_carryProducts 57 = .ok (.getfield 16, 3) := by decide +kernel
theorem dX1_carryProducts_60 : decode cX1_carryProducts 60 = .ok (.bipush 16, 2) := by decide +kernel
theorem dX1_carryProducts_62 : decode cX1_carryProducts 62 = .ok (.dup2, 1) := by decide +kernel
theorem dX1_carryProducts_63 : decode cX1_carryProducts 63 = .ok (.iaload, 1) := by decide +kernel
theorem dX1_carryProducts_64 : decode cX1_carryProducts 64 = .ok (.iconst 3, 1) := by decide +kernel
theorem dX1_carryProducts_65 : decode cX1_carryProducts 65 = .ok (.iand, 1) := by decide +kernel
theorem dX1_carryProducts_66 : decode cX1_carryProducts 66 = .ok (.iastore, 1) := by decide +kernel
theorem dX1_carryProducts_67 : decode cX1_carryProducts 67 = .ok (.aload_n 0, 1) := by decide +kernel
theorem dX1_carryProducts_68 : decode cX1_carryProducts 68 = .ok (.iconst 5, 1) := by decide +kernel
theorem dX1_carryProducts_69 : decode cX1_carryProducts 69 = .ok (.iload_n 2, 1) := by decide +kernel
theorem dX1_carryProducts_70 : decode cX1_carryProducts 70 = .ok (.imul, 1) := by decide +kernel
theorem dX1_carryProducts_71 : decode cX1_carryProducts 71 = .ok (.invokevirtual 49, 3) := by decide +kernel
theorem dX1_carryProducts_74 : decode cX1_carryProducts 74 = .ok (.return_, 1) := by decide +kernel
theorem dX1_addSmall_0 : decode cX1_addSmall 0 = .ok (.iload_n 1, 1) := by decide +kernel
theorem dX1_addSmall_1 : decode cX1_addSmall 1 = .ok (.istore_n 2, 1) := by decide +kernel
theorem dX1_addSmall_2 : decode cX1_addSmall 2 = .ok (.iconst 0, 1) := by decide +kernel
theorem dX1_addSmall_3 : decode cX1_addSmall 3 = .ok (.istore_n 3, 1) := by decide +kernel
theorem dX1_addSmall_4 : decode cX1_addSmall 4 = .ok (.iload_n 3, 1) := by decide +kernel
theorem dX1_addSmall_5 : decode cX1_addSmall 5 = .ok (.bipush 17, 2) := by decide +kernel
theorem dX1_addSmall_7 : decode cX1_addSmall 7 = .ok (.if_icmp .ge 34, 3) := by decide +kernel
theorem dX1_addSmall_10 : decode cX1_addSmall 10 = .ok (.iload_n 2, 1) := by decide +kernel
theorem dX1_addSmall_11 : decode cX1_addSmall 11 = .ok (.aload_n 0, 1) := by decide +kernel
theorem dX1_addSmall_12 : decode cX1_addSmall 12 = .ok (.getfield 16, 3) := by decide +kernel
theorem dX1_addSmall_15 : decode cX1_addSmall 15 = .ok (.iload_n 3, 1) := by decide +kernel
theorem dX1_addSmall_16 : decode cX1_addSmall 16 = .ok (.iaload, 1) := by decide +kernel
theorem dX1_addSmall_17 : decode cX1_addSmall 17 = .ok (.iadd, 1) := by decide +kernel
theorem dX1_addSmall_18 : decode cX1_addSmall 18 = .ok (.istore_n 2, 1) := by decide +kernel
theorem dX1_addSmall_19 : decode cX1_addSmall 19 = .ok (.aload_n 0, 1) := by decide +kernel
theorem dX1_addSmall_20 : decode cX1_addSmall 20 = .ok (.getfield 16, 3) := by decide +kernel
theorem dX1_addSmall_23 : decode cX1_addSmall 23 = .ok (.iload_n 3, 1) := by decide +kernel
theorem dX1_addSmall_24 : decode cX1_addSmall 24 = .ok (.iload_n 2, 1) := by decide +kernel
theorem dX1_addSmall_25 : decode cX1_addSmall 25 = .ok (.sipush 255, 3) := by decide +kernel
theorem dX1_addSmall_28 : decode cX1_addSmall 28 = .ok (.iand, 1) := by decide +kernel
theorem dX1_addSmall_29 : decode cX1_addSmall 29 = .ok (.iastore, 1) := by decide +kernel
theorem dX1_addSmall_30 : decode cX1_addSmall 30 = .ok (.iload_n 2, 1) := by decide +kernel
theorem dX1_addSmall_31 : decode cX1_addSmall 31 = .ok (.bipush 8, 2) := by decide +kernel
theorem dX1_addSmall_33 : decode cX1_addSmall 33 = .ok (.iushr, 1) := by decide +kernel
theorem dX1_addSmall_34 : decode cX1_addSmall 34 = .ok (.istore_n 2, 1) := by decide +kernel
theorem dX1_addSmall_35 : decode cX1_addSmall 35 = .ok (.iinc 3 1, 3) := by decide +kernel
theorem dX1_addSmall_38 : decode cX1_addSmall 38 = .ok (.goto (-34), 3) := by decide +kernel
theorem dX1_addSmall_41 : decode cX1_addSmall 41 = .ok (.return_, 1) := by decide +kernel
theorem dX1_reachesModulus_0 : decode cX1_reachesModulus 0 = .ok (.iconst 5, 1) := by decide +kernel
theorem dX1_reachesModulus_1 : decode cX1_reachesModulus 1 = .ok (.istore_n 1, 1) := by decide +kernel
theorem dX1_reachesModulus_2 : decode cX1_reachesModulus 2 = .ok (.iconst 0, 1) := by decide +kernel
theorem dX1_reachesModulus_3 : decode cX1_reachesModulus 3 = .ok (.istore_n 2, 1) := by decide +kernel
theorem dX1_reachesModulus_4 : decode cX1_reachesModulus 4 = .ok (.iload_n 2, 1) := by decide +kernel
theorem dX1_reachesModulus_5 : decode cX1_reachesModulus 5 = .ok (.bipush 16, 2) := by decide +kernel
theorem dX1_reachesModulus_7 : decode cX1_reachesModulus 7 = .ok (.if_icmp .ge 21, 3) := by decide +kernel
theorem dX1_reachesModulus_10 : decode cX1_reachesModulus 10 = .ok (.iload_n 1, 1) := by decide +kernel
theorem dX1_reachesModulus_11 : decode cX1_reachesModulus 11 = .ok (.aload_n 0, 1) := by decide +kernel
theorem dX1_reachesModulus_12 : decode cX1_reachesModulus 12 = .ok (.getfield 16, 3) := by decide +kernel
theorem dX1_reachesModulus_15 : decode cX1_reachesModulus 15 = .ok (.iload_n 2, 1) := by decide +kernel
theorem dX1_reachesModulus_16 : decode cX1_reachesModulus 16 = .ok (.iaload, 1) := by decide +kernel
theorem dX1_reachesModulus_17 : decode cX1_reachesModulus 17 = .ok (.iadd, 1) := by decide +kernel
theorem dX1_reachesModulus_18 : decode cX1_reachesModulus 18 = .ok (.bipush 8, 2) := by decide +kernel
theorem dX1_reachesModulus_20 : decode cX1_reachesModulus 20 = .ok (.iushr, 1) := by decide +kernel
theorem dX1_reachesModulus_21 : decode cX1_reachesModulus 21 = .ok (.istore_n 1, 1) := by decide +kernel
theorem dX1_reachesModulus_22 : decode cX1_reachesModulus 22 = .ok (.iinc 2 1, 3) := by decide +kernel
theorem dX1_reachesModulus_25 : decode cX1_reachesModulus 25 = .ok (.goto (-21), 3) := by decide +kernel
theorem dX1_reachesModulus_28 : decode cX1_reachesModulus 28 = .ok (.iload_n 1, 1) := by decide +kernel
theorem dX1_reachesModulus_29 : decode cX1_reachesModulus 29 = .ok (.aload_n 0, 1) := by decide +kernel
theorem dX1_reachesModulus_30 : decode cX1_reachesModulus 30 = .ok (.getfield 16, 3) := by decide +kernel
theorem dX1_reachesModulus_33 : decode cX1_reachesModulus 33 = .ok (.bipush 16, 2) := by decide +kernel
theorem dX1_reachesModulus_35 : decode cX1_reachesModulus 35 = .ok (.iaload, 1) := by decide +kernel
theorem dX1_reachesModulus_36 : decode cX1_reachesModulus 36 = .ok (.iadd, 1) := by decide +kernel
theorem dX1_reachesModulus_37 : decode cX1_reachesModulus 37 = .ok (.iconst 4, 1) := by decide +kernel
theorem dX1_reachesModulus_38 : decode cX1_reachesModulus 38 = .ok (.if_icmp .lt 7, 3) := by decide +kernel
theorem dX1_reachesModulus_41 : decode cX1_reachesModulus 41 = .ok (.iconst 1, 1) := by decide +kernel
theorem dX1_reachesModulus_42 : decode cX1_reachesModulus 42 = .ok (.goto 4, 3) := by decide +kernel
theorem dX1_reachesModulus_45 : decode cX1_reachesModulus 45 = .ok (.iconst 0, 1) := by decide +kernel
theorem dX1_reachesModulus_46 : decode cX1_reachesModulus 46 = .ok (.ireturn, 1) := by decide +kernel
set_option maxRecDepth 20000 in
theorem ggX2_init_X0_init : GoodIn wsX2_init wsX0_init := goodIn_r _ [28, 29, 2, 3, 12, 30, 31, 32, 33, 34, 35, 45, 46] (by decide +kernel) (by decide +kernel)
set_option maxRecDepth 20000 in
theorem gX2_init_X0_init : GoodIn wsX2_init (wsX0_init) := ggX2_init_X0_init
set_option maxRecDepth 20000 in
theorem ggX2_init_X1_init : GoodIn wsX2_init wsX1_init := goodIn_r _ [37, 38, 2, 3, 12, 39, 40, 41, 42, 43, 44, 55, 56, 57, 58, 59, 60] (by decide +kernel) (by decide +kernel)
set_option maxRecDepth 20000 in
theorem gX2_init_X1_init_n18 : GoodIn wsX2_init (wsX1_init) := ggX2_init_X1_init
