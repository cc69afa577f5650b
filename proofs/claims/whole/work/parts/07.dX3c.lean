theorem dX3_setKeyWord_0 : decode cX3_setKeyWord 0 = .ok (.aload_n 0, 1) := by decide +kernel
theorem dX3_setKeyWord_1 : decode cX3_setKeyWord 1 = .ok (.iconst 0, 1) := by decide +kernel
theorem dX3_setKeyWord_2 : decode cX3_setKeyWord 2 = .ok (.putfield 56, 3) := by decide +kernel
theorem dX3_setKeyWord_5 : decode cX3_setKeyWord 5 = .ok (.aload_n 0, 1) := by decide +kernel
theorem dX3_setKeyWord_6 : decode cX3_setKeyWord 6 = .ok (.getfield 102, 3) := by decide +kernel
theorem dX3_setKeyWord_9 : decode cX3_setKeyWord 9 = .ok (.ifCond .ne 13, 3) := by decide +kernel
theorem dX3_setKeyWord_12 : decode cX3_setKeyWord 12 = .ok (.iload_n 1, 1) := by decide +kernel
theorem dX3_setKeyWord_13 : decode cX3_setKeyWord 13 = .ok (.ifCond .lt 9, 3) := by decide +kernel
theorem dX3_setKeyWord_16 : decode cX3_setKeyWord 16 = .ok (.iload_n 1, 1) := by decide +kernel
theorem dX3_setKeyWord_17 : decode cX3_setKeyWord 17 = .ok (.bipush 7, 2) := by decide +kernel
theorem dX3_setKeyWord_19 : decode cX3_setKeyWord 19 = .ok (.if_icmp .le 5, 3) := by decide +kernel
theorem dX3_setKeyWord_22 : decode cX3_setKeyWord 22 = .ok (.iconst 0, 1) := by decide +kernel
theorem dX3_setKeyWord_23 : decode cX3_setKeyWord 23 = .ok (.ireturn, 1) := by decide +kernel
theorem dX3_setKeyWord_24 : decode cX3_setKeyWord 24 = .ok (.aload_n 0, 1) := by decide +kernel
theorem dX3_setKeyWord_25 : decode cX3_setKeyWord 25 = .ok (.getfield 7, 3) := by decide +kernel
theorem dX3_setKeyWord_28 : decode cX3_setKeyWord 28 = .ok (.iload_n 1, 1) := by decide +kernel
theorem dX3_setKeyWord_29 : decode cX3_setKeyWord 29 = .ok (.iload_n 2, 1) := by decide +kernel
theorem dX3_setKeyWord_30 : decode cX3_setKeyWord 30 = .ok (.iastore, 1) := by decide +kernel
theorem dX3_setKeyWord_31 : decode cX3_setKeyWord 31 = .ok (.iconst 1, 1) := by decide +kernel
theorem dX3_setKeyWord_32 : decode cX3_setKeyWord 32 = .ok (.ireturn, 1) := by decide +kernel
theorem dX3_setNonceWord_0 : decode cX3_setNonceWord 0 = .ok (.aload_n 0, 1) := by decide +kernel
theorem dX3_setNonceWord_1 : decode cX3_setNonceWord 1 = .ok (.iconst 0, 1) := by decide +kernel
theorem dX3_setNonceWord_2 : decode cX3_setNonceWord 2 = .ok (.putfield 56, 3) := by decide +kernel
theorem dX3_setNonceWord_5 : decode cX3_setNonceWord 5 = .ok (.aload_n 0, 1) := by decide +kernel
theorem dX3_setNonceWord_6 : decode cX3_setNonceWord 6 = .ok (.getfield 102, 3) := by decide +kernel
theorem dX3_setNonceWord_9 : decode cX3_setNonceWord 9 = .ok (.ifCond .ne 12, 3) := by decide +kernel
theorem dX3_setNonceWord_12 : decode cX3_setNonceWord 12 = .ok (.iload_n 1, 1) := by decide +kernel
theorem dX3_setNonceWord_13 : decode cX3_setNonceWord 13 = .ok (.ifCond .lt 8, 3) := by decide +kernel
theorem dX3_setNonceWord_16 : decode cX3_setNonceWord 16 = .ok (.iload_n 1, 1) := by decide +kernel
theorem dX3_setNonceWord_17 : decode cX3_setNonceWord 17 = .ok (.iconst 2, 1) := by decide +kernel
theorem dX3_setNonceWord_18 : decode cX3_setNonceWord 18 = .ok (.if_icmp .le 5, 3) := by decide +kernel
theorem dX3_setNonceWord_21 : decode cX3_setNonceWord 21 = .ok (.iconst 0, 1) := by decide +kernel
theorem dX3_setNonceWord_22 : decode cX3_setNonceWord 22 = .ok (.ireturn, 1) := by decide +kernel
theorem dX3_setNonceWord_23 : decode cX3_setNonceWord 23 = .ok (.aload_n 0, 1) := by decide +kernel
theorem dX3_setNonceWord_24 : decode cX3_setNonceWord 24 = .ok (.getfield 13, 3) := by decide +kernel
theorem dX3_setNonceWord_27 : decode cX3_setNonceWord 27 = .ok (.iload_n 1, 1) := by decide +kernel
theorem dX3_setNonceWord_28 : decode cX3_setNonceWord 28 = .ok (.iload_n 2, 1) := by decide +kernel
theorem dX3_setNonceWord_29 : decode cX3_setNonceWord 29 = .ok (.iastore, 1) := by decide +kernel
theorem dX3_setNonceWord_30 : decode cX3_setNonceWord 30 = .ok (.iconst 1, 1) := by decide +kernel
theorem dX3_setNonceWord_31 : decode cX3_setNonceWord 31 = .ok (.ireturn, 1) := by decide +kernel
theorem dX3_begin_0 : decode cX3_begin 0 = .ok (.aload_n 0, 1) := by decide +kernel
theorem dX3_begin_1 : decode cX3_begin 1 = .ok (.iconst 0, 1) := by decide +kernel
theorem dX3_begin_2 : decode cX3_begin 2 = .ok (.putfield 56, 3) := by decide +kernel
theorem dX3_begin_5 : decode cX3_begin 5 = .ok (.aload_n 0, 1) := by decide +kernel
theorem dX3_begin_6 : decode cX3_begin 6 = .ok (.getfield 102, 3) := by decide +kernel
theorem dX3_begin_9 : decode cX3_begin 9 = .ok (.ifCond .ne 12, 3) := by decide +kernel
theorem dX3_begin_12 : decode cX3_begin 12 = .ok (.iload_n 1, 1) := by decide +kernel
theorem dX3_begin_13 : decode cX3_begin 13 = .ok (.ifCond .lt 8, 3) := by decide +kernel
theorem dX3_begin_16 : decode cX3_begin 16 = .ok (.iload_n 1, 1) := by decide +kernel
theorem dX3_begin_17 : decode cX3_begin 17 = .ok (.iconst 1, 1) := by decide +kernel
theorem dX3_begin_18 : decode cX3_begin 18 = .ok (.if_icmp .le 5, 3) := by decide +kernel
theorem dX3_begin_21 : decode cX3_begin 21 = .ok (.iconst 0, 1) := by decide +kernel
theorem dX3_begin_22 : decode cX3_begin 22 = .ok (.ireturn, 1) := by decide +kernel
theorem dX3_begin_23 : decode cX3_begin 23 = .ok (.aload_n 0, 1) := by decide +kernel
theorem dX3_begin_24 : decode cX3_begin 24 = .ok (.iconst 1, 1) := by decide +kernel
theorem dX3_begin_25 : decode cX3_begin 25 = .ok (.putfield 102, 3) := by decide +kernel
theorem dX3_begin_28 : decode cX3_begin 28 = .ok (.aload_n 0, 1) := by decide +kernel
theorem dX3_begin_29 : decode cX3_begin 29 = .ok (.iload_n 1, 1) := by decide +kernel
theorem dX3_begin_30 : decode cX3_begin 30 = .ok (.iconst 1, 1) := by decide +kernel
theorem dX3_begin_31 : decode cX3_begin 31 = .ok (.if_icmp .ne 7, 3) := by decide +kernel
theorem dX3_begin_34 : decode cX3_begin 34 = .ok (.iconst 1, 1) := by decide +kernel
theorem dX3_begin_35 : decode cX3_begin 35 = .ok (.goto 4, 3) := by decide +kernel
theorem dX3_begin_38 : decode cX3_begin 38 = .ok (.iconst 0, 1) := by decide +kernel
theorem dX3_begin_39 : decode cX3_begin 39 = .ok (.putfield 98, 3) := by decide +kernel
theorem dX3_begin_42 : decode cX3_begin 42 = .ok (.aload_n 0, 1) := by decide +kernel
theorem dX3_begin_43 : decode cX3_begin 43 = .ok (.iconst 0, 1) := by decide +kernel
theorem dX3_begin_44 : decode cX3_begin 44 = .ok (.putfield 89, 3) := by decide +kernel
theorem dX3_begin_47 : decode cX3_begin 47 = .ok (.aload_n 0, 1) := by decide +kernel
theorem dX3_begin_48 : decode cX3_begin 48 = .ok (.iconst 0, 1) := by decide +kernel
theorem dX3_begin_49 : decode cX3_begin 49 = .ok (.putfield 95, 3) := by decide +kernel
theorem dX3_begin_52 : decode cX3_begin 52 = .ok (.iconst 0, 1) := by decide +kernel
theorem dX3_begin_53 : decode cX3_begin 53 = .ok (.istore_n 2, 1) := by decide +kernel
theorem dX3_begin_54 : decode cX3_begin 54 = .ok (.iload_n 2, 1) := by decide +kernel
theorem dX3_begin_55 : decode cX3_begin 55 = .ok (.bipush 16, 2) := by decide +kernel
theorem dX3_begin_57 : decode cX3_begin 57 = .ok (.if_icmp .ge 16, 3) := by decide +kernel
theorem dX3_begin_60 : decode cX3_begin 60 = .ok (.aload_n 0, 1) := by decide +kernel
theorem dX3_begin_61 : decode cX3_begin 61 = .ok (.getfield 25, 3) := by decide +kernel
theorem dX3_begin_64 : decode cX3_begin 64 = .ok (.iload_n 2, 1) := by decide +kernel
theorem dX3_begin_65 : decode cX3_begin 65 = .ok (.iconst 0, 1) := by decide +kernel
theorem dX3_begin_66 : decode cX3_begin 66 = .ok (.iastore, 1) := by decide +kernel
theorem dX3_begin_67 : decode cX3_begin 67 = .ok (.iinc 2 1, 3) := by decide +kernel
theorem dX3_begin_70 : decode cX3_begin 70 = .ok (.goto (-16), 3) := by decide +kernel
theorem dX3_begin_73 : decode cX3_begin 73 = .ok (.iconst 1, 1) := by decide +kernel
theorem dX3_begin_74 : decode cX3_begin 74 = .ok (.ireturn, 1) := by decide +kernel
set_option maxRecDepth 20000 in
theorem ggX3_aad_X3_isByte : GoodIn wsX3_aad wsX3_isByte := goodIn_r _ [8] (by decide +kernel) (by decide +kernel)
set_option maxRecDepth 20000 in
theorem gX3_aad_X3_isByte : GoodIn wsX3_aad (va_wsS RX3 105 yX3_isByte wsX3_isByte) := goodIn_app (goodIn_of _ (by decide +kernel)) ggX3_aad_X3_isByte
theorem dX3_aad_0 : decode cX3_aad 0 = .ok (.aload_n 0, 1) := by decide +kernel
theorem dX3_aad_1 : decode cX3_aad 1 = .ok (.iconst 0, 1) := by decide +kernel
theorem dX3_aad_2 : decode cX3_aad 2 = .ok (.putfield 56, 3) := by decide +kernel
theorem dX3_aad_5 : decode cX3_aad 5 = .ok (.aload_n 0, 1) := by decide +kernel
theorem dX3_aad_6 : decode cX3_aad 6 = .ok (.getfield 102, 3) := by decide +kernel
theorem dX3_aad_9 : decode cX3_aad 9 = .ok (.iconst 1, 1) := by decide +kernel
theorem dX3_aad_10 : decode cX3_aad 10 = .ok (.if_icmp .ne 20, 3) := by decide +kernel
theorem dX3_aad_13 : decode cX3_aad 13 = .ok (.iload_n 1, 1) := by decide +kernel
theorem dX3_aad_14 : decode cX3_aad 14 = .ok (.invokestatic 105, 3) := by decide +kernel
theorem dX3_aad_17 : decode cX3_aad 17 = .ok (.ifCond .eq 13, 3) := by decide +kernel
theorem dX3_aad_20 : decode cX3_aad 20 = .ok (.aload_n 0, 1) := by decide +kernel
theorem dX3_aad_21 : decode cX3_aad 21 = .ok (.getfield 89, 3) := by decide +kernel
theorem dX3_aad_24 : decode cX3_aad 24 = .ok (.sipush 1000, 3) := by decide +kernel
theorem dX3_aad_27 : decode cX3_aad 27 = .ok (.if_icmp .ne 5, 3) := by decide +kernel
theorem dX3_aad_30 : decode cX3_aad 30 = .ok (.iconst 0, 1) := by decide +kernel
theorem dX3_aad_31 : decode cX3_aad 31 = .ok (.ireturn, 1) := by decide +kernel
theorem dX3_aad_32 : decode cX3_aad 32 = .ok (.aload_n 0, 1) := by decide +kernel
theorem dX3_aad_33 : decode cX3_aad 33 = .ok (.getfield 16, 3) := by decide +kernel
theorem dX3_aad_36 : decode cX3_aad 36 = .ok (.aload_n 0, 1) := by decide +kernel
theorem dX3_aad_37 : decode cX3_aad 37 = .ok (.getfield 89, 3) := by decide +kernel
theorem dX3_aad_40 : decode cX3_aad 40 = .ok (.iload_n 1, 1) := by decide +kernel
theorem dX3_aad_41 : decode cX3_aad 41 = .ok (.iastore, 1) := by decide +kernel
theorem dX3_aad_42 : decode cX3_aad 42 = .ok (.aload_n 0, 1) := by decide +kernel
theorem dX3_aad_43 : decode cX3_aad 43 = .ok (.dup, 1) := by decide +kernel
theorem dX3_aad_44 : decode cX3_aad 44 = .ok (.getfield 89, 3) := by decide +kernel
theorem dX3_aad_47 : decode cX3_aad 47 = .ok (.iconst 1, 1) := by decide +kernel
theorem dX3_aad_48 : decode cX3_aad 48 = .ok (.iadd, 1) := by decide +kernel
theorem dX3_aad_49 : decode cX3_aad 49 = .ok (.putfield 89, 3) := by decide +kernel
theorem dX3_aad_52 : decode cX3_aad 52 = .ok (.iconst 1, 1) := by decide +kernel
theorem dX3_aad_53 : decode cX3_aad 53 = .ok (.ireturn, 1) := by decide +kernel
set_option maxRecDepth 20000 in
theorem ggX3_data_X3_isByte : GoodIn wsX3_data wsX3_isByte := goodIn_r _ [11] (by decide +kernel) (by decide +kernel)
set_option maxRecDepth 20000 in
theorem gX3_data_X3_isByte : GoodIn wsX3_data (va_wsS RX3 105 yX3_isByte wsX3_isByte) := goodIn_app (goodIn_of _ (by decide +kernel)) ggX3_data_X3_isByte
set_option maxRecDepth 20000 in
theorem ggX3_data_X3_block : GoodIn wsX3_data wsX3_block := goodIn_r _ [15, 16, 17, 18, 19, 20, 21, 22, 23, 24, 25, 26, 10, 27, 28, 29, 30, 35, 36, 37, 38, 39, 40, 41, 42, 43, 44, 45, 46, 47, 48, 49, 50, 51, 52, 53, 54] (by decide +kernel) (by decide +kernel)
set_option maxRecDepth 20000 in
theorem gX3_data_X3_block : GoodIn wsX3_data (wsV RX3 81 RX3 yX3_block wsX3_block) := goodIn_app (goodIn_of _ (by decide +kernel)) ggX3_data_X3_block
set_option maxRecDepth 20000 in
theorem ggX3_data_X3_byteOf : GoodIn wsX3_data wsX3_byteOf := goodIn_r _ [34, 23, 35, 36, 37, 38, 39, 40, 41, 42, 43, 44, 45, 46, 47, 48, 49, 50, 51, 52, 53, 54] (by decide +kernel) (by decide +kernel)
set_option maxRecDepth 20000 in
theorem gX3_data_X3_byteOf : GoodIn wsX3_data (wsV RX3 85 RX3 yX3_byteOf wsX3_byteOf) := goodIn_app (goodIn_of _ (by decide +kernel)) ggX3_data_X3_byteOf
theorem dX3_data_0 : decode cX3_data 0 = .ok (.aload_n 0, 1) := by decide +kernel
theorem dX3_data_1 : decode cX3_data 1 = .ok (.iconst 0, 1) := by decide +kernel
theorem dX3_data_2 : decode cX3_data 2 = .ok (.putfield 56, 3) := by decide +kernel
theorem dX3_data_5 : decode cX3_data 5 = .ok (.aload_n 0, 1) := by decide +kernel
theorem dX3_data_6 : decode cX3_data 6 = .ok (.getfield 102, 3) := by decide +kernel
theorem dX3_data_9 : decode cX3_data 9 = .ok (.iconst 1, 1) := by decide +kernel
theorem dX3_data_10 : decode cX3_data 10 = .ok (.if_icmp .eq 11, 3) := by decide +kernel
theorem dX3_data_13 : decode cX3_data 13 = .ok (.aload_n 0, 1) := by decide +kernel
theorem dX3_data_14 : decode cX3_data 14 = .ok (.getfield 102, 3) := by decide +kernel
theorem dX3_data_17 : decode cX3_data 17 = .ok (.iconst 2, 1) := by decide +kernel
theorem dX3_data_18 : decode cX3_data 18 = .ok (.if_icmp .ne 10, 3) := by decide +kernel
theorem dX3_data_21 : decode cX3_data 21 = .ok (.iload_n 1, 1) := by decide +kernel
theorem dX3_data_22 : decode cX3_data 22 = .ok (.invokestatic 105, 3) := by decide +kernel
theorem dX3_data_25 : decode cX3_data 25 = .ok (.ifCond .ne 5, 3) := by decide +kernel
theorem dX3_data_28 : decode cX3_data 28 = .ok (.iconst (-1), 1) := by decide +kernel
theorem dX3_data_29 : decode cX3_data 29 = .ok (.ireturn, 1) := by decide +kernel
theorem dX3_data_30 : decode cX3_data 30 = .ok (.aload_n 0, 1) := by decide +kernel
theorem dX3_data_31 : decode cX3_data 31 = .ok (.getfield 95, 3) := by decide +kernel
theorem dX3_data_34 : decode cX3_data 34 = .ok (.aload_n 0, 1) := by decide +kernel
theorem dX3_data_35 : decode cX3_data 35 = .ok (.getfield 52, 3) := by decide +kernel
theorem dX3_data_38 : decode cX3_data 38 = .ok (.if_icmp .ne 6, 3) := by decide +kernel
theorem dX3_data_41 : decode cX3_data 41 = .ok (.bipush (-2), 2) := by decide +kernel
theorem dX3_data_43 : decode cX3_data 43 = .ok (.ireturn, 1) := by decide +kernel
theorem dX3_data_44 : decode cX3_data 44 = .ok (.aload_n 0, 1) := by decide +kernel
theorem dX3_data_45 : decode cX3_data 45 = .ok (.iconst 1, 1) := by decide +kernel
theorem dX3_data_46 : decode cX3_data 46 = .ok (.aload_n 0, 1) := by decide +kernel
theorem dX3_data_47 : decode cX3_data 47 = .ok (.getfield 95, 3) := by decide +kernel
theorem dX3_data_50 : decode cX3_data 50 = .ok (.bipush 64, 2) := by decide +kernel
theorem dX3_data_52 : decode cX3_data 52 = .ok (.idiv, 1) := by decide +kernel
theorem dX3_data_53 : decode cX3_data 53 = .ok (.iadd, 1) := by decide +kernel
theorem dX3_data_54 : decode cX3_data 54 = .ok (.invokevirtual 81, 3) := by decide +kernel
theorem dX3_data_57 : decode cX3_data 57 = .ok (.aload_n 0, 1) := by decide +kernel
theorem dX3_data_58 : decode cX3_data 58 = .ok (.iconst 2, 1) := by decide +kernel
theorem dX3_data_59 : decode cX3_data 59 = .ok (.putfield 102, 3) := by decide +kernel
theorem dX3_data_62 : decode cX3_data 62 = .ok (.aload_n 0, 1) := by decide +kernel
theorem dX3_data_63 : decode cX3_data 63 = .ok (.getfield 19, 3) := by decide +kernel
theorem dX3_data_66 : decode cX3_data 66 = .ok (.aload_n 0, 1) := by decide +kernel
theorem dX3_data_67 : decode cX3_data 67 = .ok (.getfield 95, 3) := by decide +kernel
theorem dX3_data_70 : decode cX3_data 70 = .ok (.iload_n 1, 1) := by decide +kernel
theorem dX3_data_71 : decode cX3_data 71 = .ok (.iastore, 1) := by decide +kernel
theorem dX3_data_72 : decode cX3_data 72 = .ok (.aload_n 0, 1) := by decide +kernel
theorem dX3_data_73 : decode cX3_data 73 = .ok (.getfield 22, 3) := by decide +kernel
theorem dX3_data_76 : decode cX3_data 76 = .ok (.aload_n 0, 1) := by decide +kernel
theorem dX3_data_77 : decode cX3_data 77 = .ok (.getfield 95, 3) := by decide +kernel
theorem dX3_data_80 : decode cX3_data 80 = .ok (.iload_n 1, 1) := by decide +kernel
theorem dX3_data_81 : decode cX3_data 81 = .ok (.aload_n 0, 1) := by decide +kernel
theorem dX3_data_82 : decode cX3_data 82 = .ok (.aload_n 0, 1) := by decide +kernel
theorem dX3_data_83 : decode cX3_data 83 = .ok (.getfield 95, 3) := by decide +kernel
theorem dX3_data_86 : decode cX3_data 86 = .ok (.bipush 64, 2) := by decide +kernel
theorem dX3_data_88 : decode cX3_data 88 = .ok (.irem, 1) := by decide +kernel
theorem dX3_data_89 : decode cX3_data 89 = .ok (.invokevirtual 85, 3) := by decide +kernel
theorem dX3_data_92 : decode cX3_data 92 = .ok (.ixor, 1) := by decide +kernel
theorem dX3_data_93 : decode cX3_data 93 = .ok (.iastore, 1) := by decide +kernel
theorem dX3_data_94 : decode cX3_data 94 = .ok (.aload_n 0, 1) := by decide +kernel
theorem dX3_data_95 : decode cX3_data 95 = .ok (.dup, 1) := by decide +kernel
theorem dX3_data_96 : decode cX3_data 96 = .ok (.getfield 95, 3) := by decide +kernel
theorem dX3_data_99 : decode cX3_data 99 = .ok (.iconst 1, 1) := by decide +kernel
theorem dX3_data_100 : decode cX3_data 100 = .ok (.iadd, 1) := by decide +kernel
theorem dX3_data_101 : decode cX3_data 101 = .ok (.putfield 95, 3) := by decide +kernel
theorem dX3_data_104 : decode cX3_data 104 = .ok (.aload_n 0, 1) := by decide +kernel
theorem dX3_data_105 : decode cX3_data 105 = .ok (.getfield 98, 3) := by decide +kernel
theorem dX3_data_108 : decode cX3_data 108 = .ok (.ifCond .eq 7, 3) := by decide +kernel
theorem dX3_data_111 : decode cX3_data 111 = .ok (.iconst 0, 1) := by decide +kernel
theorem dX3_data_112 : decode cX3_data 112 = .ok (.goto 14, 3) := by decide +kernel
theorem dX3_data_115 : decode cX3_data 115 = .ok (.aload_n 0, 1) := by decide +kernel
theorem dX3_data_116 : decode cX3_data 116 = .ok (.getfield 22, 3) := by decide +kernel
theorem dX3_data_119 : decode cX3_data 119 = .ok (.aload_n 0, 1) := by decide +kernel
theorem dX3_data_120 : decode cX3_data 120 = .ok (.getfield 95, 3) := by decide +kernel
theorem dX3_data_123 : decode cX3_data 123 = .ok (.iconst 1, 1) := by decide +kernel
theorem dX3_data_124 : decode cX3_data 124 = .ok (.isub, 1) := by decide +kernel
theorem dX3_data_125 : decode cX3_data 125 = .ok (.iaload, 1) := by decide +kernel
theorem dX3_data_126 : decode cX3_data 126 = .ok (.ireturn, 1) := by decide +kernel
theorem dX3_finish_0 : decode cX3_finish 0 = .ok (.aload_n 0, 1) := by decide +kernel
theorem dX3_finish_1 : decode cX3_finish 1 = .ok (.iconst 0, 1) := by decide +kernel
theorem dX3_finish_2 : decode cX3_finish 2 = .ok (.putfield 56, 3) := by decide +kernel
theorem dX3_finish_5 : decode cX3_finish 5 = .ok (.aload_n 0, 1) := by decide +kernel
theorem dX3_finish_6 : decode cX3_finish 6 = .ok (.getfield 102, 3) := by decide +kernel
theorem dX3_finish_9 : decode cX3_finish 9 = .ok (.iconst 1, 1) := by decide +kernel
theorem dX3_finish_10 : decode cX3_finish 10 = .ok (.if_icmp .eq 13, 3) := by decide +kernel
theorem dX3_finish_13 : decode cX3_finish 13 = .ok (.aload_n 0, 1) := by decide +kernel
theorem dX3_finish_14 : decode cX3_finish 14 = .ok (.getfield 102, 3) := by decide +kernel
theorem dX3_finish_17 : decode cX3_finish 17 = .ok (.iconst 2, 1) := by decide +kernel
theorem dX3_finish_18 : decode cX3_finish 18 = .ok (.if_icmp .eq 5, 3) := by decide +kernel
theorem dX3_finish_21 : decode cX3_finish 21 = .ok (.iconst 0, 1) := by decide +kernel
theorem dX3_finish_22 : decode cX3_finish 22 = .ok (.ireturn, 1) := by decide +kernel
theorem dX3_finish_23 : decode cX3_finish 23 = .ok (.aload_n 0, 1) := by decide +kernel
theorem dX3_finish_24 : decode cX3_finish 24 = .ok (.iconst 3, 1) := by decide +kernel
theorem dX3_finish_25 : decode cX3_finish 25 = .ok (.putfield 102, 3) := by decide +kernel
theorem dX3_finish_28 : decode cX3_finish 28 = .ok (.iconst 1, 1) := by decide +kernel
theorem dX3_finish_29 : decode cX3_finish 29 = .ok (.ireturn, 1) := by decide +kernel
theorem dX3_isPlace_0 : decode cX3_isPlace 0 = .ok (.iload_n 0, 1) := by decide +kernel
theorem dX3_isPlace_1 : decode cX3_isPlace 1 = .ok (.ifCond .lt 13, 3) := by decide +kernel
theorem dX3_isPlace_4 : decode cX3_isPlace 4 = .ok (.iload_n 0, 1) := by decide +kernel
theorem dX3_isPlace_5 : decode cX3_isPlace 5 = .ok (.bipush 16, 2) := by decide +kernel
theorem dX3_isPlace_7 : decode cX3_isPlace 7 = .ok (.if_icmp .ge 7, 3) := by decide +kernel
theorem dX3_isPlace_10 : decode cX3_isPlace 10 = .ok (.iconst 1, 1) := by decide +kernel
theorem dX3_isPlace_11 : decode cX3_isPlace 11 = .ok (.goto 4, 3) := by decide +kernel
theorem dX3_isPlace_14 : decode cX3_isPlace 14 = .ok (.iconst 0, 1) := by decide +kernel
theorem dX3_isPlace_15 : decode cX3_isPlace 15 = .ok (.ireturn, 1) := by decide +kernel
set_option maxRecDepth 20000 in
theorem ggX3_expectTag_X3_isPlace : GoodIn wsX3_expectTag wsX3_isPlace := goodIn_r _ [8] (by decide +kernel) (by decide +kernel)
set_option maxRecDepth 20000 in
theorem gX3_expectTag_X3_isPlace : GoodIn wsX3_expectTag (va_wsS RX3 109 yX3_isPlace wsX3_isPlace) := goodIn_app (goodIn_of _ (by decide +kernel)) ggX3_expectTag_X3_isPlace
set_option maxRecDepth 20000 in
theorem ggX3_expectTag_X3_isByte : GoodIn wsX3_expectTag wsX3_isByte := goodIn_r _ [11] (by decide +kernel) (by decide +kernel)
set_option maxRecDepth 20000 in
theorem gX3_expectTag_X3_isByte : GoodIn wsX3_expectTag (va_wsS RX3 105 yX3_isByte wsX3_isByte) := goodIn_app (goodIn_of _ (by decide +kernel)) ggX3_expectTag_X3_isByte
theorem dX3_expectTag_0 : decode cX3_expectTag 0 = .ok (.aload_n 0, 1) := by decide +kernel
theorem dX3_expectTag_1 : decode cX3_expectTag 1 = .ok (.iconst 0, 1) := by decide +kernel
theorem dX3_expectTag_2 : decode cX3_expectTag 2 = .ok (.putfield 56, 3) := by decide +kernel
theorem dX3_expectTag_5 : decode cX3_expectTag 5 = .ok (.aload_n 0, 1) := by decide +kernel
theorem dX3_expectTag_6 : decode cX3_expectTag 6 = .ok (.getfield 102, 3) := by decide +kernel
theorem dX3_expectTag_9 : decode cX3_expectTag 9 = .ok (.iconst 3, 1) := by decide +kernel
theorem dX3_expectTag_10 : decode cX3_expectTag 10 = .ok (.if_icmp .ne 24, 3) := by decide +kernel
theorem dX3_expectTag_13 : decode cX3_expectTag 13 = .ok (.aload_n 0, 1) := by decide +kernel
theorem dX3_expectTag_14 : decode cX3_expectTag 14 = .ok (.getfield 98, 3) := by decide +kernel
theorem dX3_expectTag_17 : decode cX3_expectTag 17 = .ok (.ifCond .eq 17, 3) := by decide +kernel
theorem dX3_expectTag_20 : decode cX3_expectTag 20 = .ok (.iload_n 1, 1) := by decide +kernel
theorem dX3_expectTag_21 : decode cX3_expectTag 21 = .ok (.invokestatic 109, 3) := by decide +kernel
theorem dX3_expectTag_24 : decode cX3_expectTag 24 = .ok (.ifCond .eq 10, 3) := by decide +kernel
theorem dX3_expectTag_27 : decode cX3_expectTag 27 = .ok (.iload_n 2, 1) := by decide +kernel
theorem dX3_expectTag_28 : decode cX3_expectTag 28 = .ok (.invokestatic 105, 3) := by decide +kernel
theorem dX3_expectTag_31 : decode cX3_expectTag 31 = .ok (.ifCond .ne 5, 3) := by decide +kernel
theorem dX3_expectTag_34 : decode cX3_expectTag 34 = .ok (.iconst 0, 1) := by decide +kernel
theorem dX3_expectTag_35 : decode cX3_expectTag 35 = .ok (.ireturn, 1) := by decide +kernel
theorem dX3_expectTag_36 : decode cX3_expectTag 36 = .ok (.aload_n 0, 1) := by decide +kernel
theorem dX3_expectTag_37 : decode cX3_expectTag 37 = .ok (.getfield 25, 3) := by decide +kernel
theorem dX3_expectTag_40 : decode cX3_expectTag 40 = .ok (.iload_n 1, 1) := by decide +kernel
theorem dX3_expectTag_41 : decode cX3_expectTag 41 = .ok (.iload_n 2, 1) := by decide +kernel
theorem dX3_expectTag_42 : decode cX3_expectTag 42 = .ok (.iastore, 1) := by decide +kernel
theorem dX3_expectTag_43 : decode cX3_expectTag 43 = .ok (.iconst 1, 1) := by decide +kernel
theorem dX3_expectTag_44 : decode cX3_expectTag 44 = .ok (.ireturn, 1) := by decide +kernel
set_option maxRecDepth 20000 in
theorem ggX3_verify_X3_tag0 : GoodIn wsX3_verify wsX3_tag0 := goodIn_r _ [10, 11, 4, 12, 13, 14, 15, 16, 3, 17, 18, 19, 20, 21, 9, 22, 23, 24, 25, 26, 27, 28, 29, 30, 31, 32, 33, 34, 35, 36, 37, 38, 39, 40, 41, 42, 43, 44, 45, 46, 47, 48, 49, 50, 51, 52, 53, 54, 55, 56, 57, 58, 59, 60, 61, 62, 63, 64, 65, 66, 67, 68, 69, 70, 71, 72, 73, 74, 75, 76, 77, 78, 79] (by decide +kernel) (by decide +kernel)
set_option maxRecDepth 20000 in
theorem gX3_verify_X3_tag0 : GoodIn wsX3_verify (wsV RX3 112 RX3 yX3_tag0 wsX3_tag0) := goodIn_app (goodIn_of _ (by decide +kernel)) ggX3_verify_X3_tag0
theorem dX3_verify_0 : decode cX3_verify 0 = .ok (.aload_n 0, 1) := by decide +kernel
theorem dX3_verify_1 : decode cX3_verify 1 = .ok (.iconst 0, 1) := by decide +kernel
theorem dX3_verify_2 : decode cX3_verify 2 = .ok (.putfield 56, 3) := by decide +kernel
theorem dX3_verify_5 : decode cX3_verify 5 = .ok (.aload_n 0, 1) := by decide +kernel
theorem dX3_verify_6 : decode cX3_verify 6 = .ok (.getfield 102, 3) := by decide +kernel
theorem dX3_verify_9 : decode cX3_verify 9 = .ok (.iconst 3, 1) := by decide +kernel
theorem dX3_verify_10 : decode cX3_verify 10 = .ok (.if_icmp .ne 10, 3) := by decide +kernel
theorem dX3_verify_13 : decode cX3_verify 13 = .ok (.aload_n 0, 1) := by decide +kernel
theorem dX3_verify_14 : decode cX3_verify 14 = .ok (.getfield 98, 3) := by decide +kernel
theorem dX3_verify_17 : decode cX3_verify 17 = .ok (.ifCond .ne 5, 3) := by decide +kernel
theorem dX3_verify_20 : decode cX3_verify 20 = .ok (.iconst 0, 1) := by decide +kernel
theorem dX3_verify_21 : decode cX3_verify 21 = .ok (.ireturn, 1) := by decide +kernel
theorem dX3_verify_22 : decode cX3_verify 22 = .ok (.aload_n 0, 1) := by decide +kernel
theorem dX3_verify_23 : decode cX3_verify 23 = .ok (.invokevirtual 112, 3) := by decide +kernel
theorem dX3_verify_26 : decode cX3_verify 26 = .ok (.iconst 0, 1) := by decide +kernel
theorem dX3_verify_27 : decode cX3_verify 27 = .ok (.istore_n 1, 1) := by decide +kernel
theorem dX3_verify_28 : decode cX3_verify 28 = .ok (.iload_n 1, 1) := by decide +kernel
theorem dX3_verify_29 : decode cX3_verify 29 = .ok (.bipush 16, 2) := by decide +kernel
theorem dX3_verify_31 : decode cX3_verify 31 = .ok (.if_icmp .ge 26, 3) := by decide +kernel
theorem dX3_verify_34 : decode cX3_verify 34 = .ok (.aload_n 0, 1) := by decide +kernel
theorem dX3_verify_35 : decode cX3_verify 35 = .ok (.getfield 46, 3) := by decide +kernel
theorem dX3_verify_38 : decode cX3_verify 38 = .ok (.iload_n 1, 1) := by decide +kernel
theorem dX3_verify_39 : decode cX3_verify 39 = .ok (.iaload, 1) := by decide +kernel
theorem dX3_verify_40 : decode cX3_verify 40 = .ok (.aload_n 0, 1) := by decide +kernel
theorem dX3_verify_41 : decode cX3_verify 41 = .ok (.getfield 25, 3) := by decide +kernel
theorem dX3_verify_44 : decode cX3_verify 44 = .ok (.iload_n 1, 1) := by decide +kernel
theorem dX3_verify_45 : decode cX3_verify 45 = .ok (.iaload, 1) := by decide +kernel
theorem dX3_verify_46 : decode cX3_verify 46 = .ok (.if_icmp .eq 5, 3) := by decide +kernel
theorem dX3_verify_49 : decode cX3_verify 49 = .ok (.iconst 0, 1) := by decide +kernel
theorem dX3_verify_50 : decode cX3_verify 50 = .ok (.ireturn, 1) := by decide +kernel
theorem dX3_verify_51 : decode cX3_verify 51 = .ok (.iinc 1 1, 3) := by decide +kernel
theorem dX3_verify_54 : decode cX3_verify 54 = .ok (.goto (-26), 3) := by decide +kernel
theorem dX3_verify_57 : decode cX3_verify 57 = .ok (.aload_n 0, 1) := by decide +kernel
theorem dX3_verify_58 : decode cX3_verify 58 = .ok (.iconst 4, 1) := by decide +kernel
theorem dX3_verify_59 : decode cX3_verify 59 = .ok (.putfield 102, 3) := by decide +kernel
theorem dX3_verify_62 : decode cX3_verify 62 = .ok (.iconst 1, 1) := by decide +kernel
theorem dX3_verify_63 : decode cX3_verify 63 = .ok (.ireturn, 1) := by decide +kernel
set_option maxRecDepth 20000 in
theorem ggX3_tag_X3_isPlace : GoodIn wsX3_tag wsX3_isPlace := goodIn_r _ [8] (by decide +kernel) (by decide +kernel)
set_option maxRecDepth 20000 in
theorem gX3_tag_X3_isPlace : GoodIn wsX3_tag (va_wsS RX3 109 yX3_isPlace wsX3_isPlace) := goodIn_app (goodIn_of _ (by decide +kernel)) ggX3_tag_X3_isPlace
set_option maxRecDepth 20000 in
theorem ggX3_tag_X3_tag0 : GoodIn wsX3_tag wsX3_tag0 := goodIn_r _ [12, 13, 4, 14, 15, 16, 17, 18, 3, 19, 20, 21, 22, 23, 7, 24, 25, 26, 27, 28, 29, 30, 31, 32, 33, 34, 35, 36, 37, 38, 39, 40, 41, 42, 43, 44, 45, 46, 47, 48, 49, 50, 51, 52, 53, 54, 55, 56, 57, 58, 59, 60, 61, 62, 63, 64, 65, 66, 67, 68, 69, 70, 71, 72, 73, 74, 75, 76, 77, 78, 79, 80, 81] (by decide +kernel) (by decide +kernel)
set_option maxRecDepth 20000 in
theorem gX3_tag_X3_tag0 : GoodIn wsX3_tag (wsV RX3 112 RX3 yX3_tag0 wsX3_tag0) := goodIn_app (goodIn_of _ (by decide +kernel)) ggX3_tag_X3_tag0
theorem dX3_tag_0 : decode cX3_tag 0 = .ok (.aload_n 0, 1) := by decide +kernel
theorem dX3_tag_1 : decode cX3_tag 1 = .ok (.iconst 0, 1) := by decide +kernel
theorem dX3_tag_2 : decode cX3_tag 2 = .ok (.putfield 56, 3) := by decide +kernel
theorem dX3_tag_5 : decode cX3_tag 5 = .ok (.aload_n 0, 1) := by decide +kernel
theorem dX3_tag_6 : decode cX3_tag 6 = .ok (.getfield 102, 3) := by decide +kernel
theorem dX3_tag_9 : decode cX3_tag 9 = .ok (.iconst 3, 1) := by decide +kernel
theorem dX3_tag_10 : decode cX3_tag 10 = .ok (.if_icmp .ne 17, 3) := by decide +kernel
theorem dX3_tag_13 : decode cX3_tag 13 = .ok (.aload_n 0, 1) := by decide +kernel
theorem dX3_tag_14 : decode cX3_tag 14 = .ok (.getfield 98, 3) := by decide +kernel
theorem dX3_tag_17 : decode cX3_tag 17 = .ok (.ifCond .ne 10, 3) := by decide +kernel
theorem dX3_tag_20 : decode cX3_tag 20 = .ok (.iload_n 1, 1) := by decide +kernel
theorem dX3_tag_21 : decode cX3_tag 21 = .ok (.invokestatic 109, 3) := by decide +kernel
theorem dX3_tag_24 : decode cX3_tag 24 = .ok (.ifCond .ne 5, 3) := by decide +kernel
theorem dX3_tag_27 : decode cX3_tag 27 = .ok (.iconst (-1), 1) := by decide +kernel
theorem dX3_tag_28 : decode cX3_tag 28 = .ok (.ireturn, 1) := by decide +kernel
theorem dX3_tag_29 : decode cX3_tag 29 = .ok (.aload_n 0, 1) := by decide +kernel
theorem dX3_tag_30 : decode cX3_tag 30 = .ok (.invokevirtual 112, 3) := by decide +kernel
theorem dX3_tag_33 : decode cX3_tag 33 = .ok (.aload_n 0, 1) := by decide +kernel
theorem dX3_tag_34 : decode cX3_tag 34 = .ok (.getfield 46, 3) := by decide +kernel
theorem dX3_tag_37 : decode cX3_tag 37 = .ok (.iload_n 1, 1) := by decide +kernel
theorem dX3_tag_38 : decode cX3_tag 38 = .ok (.iaload, 1) := by decide +kernel
theorem dX3_tag_39 : decode cX3_tag 39 = .ok (.ireturn, 1) := by decide +kernel
theorem dX3_out_0 : decode cX3_out 0 = .ok (.aload_n 0, 1) := by decide +kernel
theorem dX3_out_1 : decode cX3_out 1 = .ok (.iconst 0, 1) := by decide +kernel
theorem dX3_out_2 : decode cX3_out 2 = .ok (.putfield 56, 3) := by decide +kernel
theorem dX3_out_5 : decode cX3_out 5 = .ok (.aload_n 0, 1) := by decide +kernel
theorem dX3_out_6 : decode cX3_out 6 = .ok (.getfield 102, 3) := by decide +kernel
theorem dX3_out_9 : decode cX3_out 9 = .ok (.iconst 3, 1) := by decide +kernel
theorem dX3_out_10 : decode cX3_out 10 = .ok (.if_icmp .ne 10, 3) := by decide +kernel
theorem dX3_out_13 : decode cX3_out 13 = .ok (.aload_n 0, 1) := by decide +kernel
theorem dX3_out_14 : decode cX3_out 14 = .ok (.getfield 98, 3) := by decide +kernel
theorem dX3_out_17 : decode cX3_out 17 = .ok (.ifCond .eq 11, 3) := by decide +kernel
theorem dX3_out_20 : decode cX3_out 20 = .ok (.aload_n 0, 1) := by decide +kernel
theorem dX3_out_21 : decode cX3_out 21 = .ok (.getfield 102, 3) := by decide +kernel
theorem dX3_out_24 : decode cX3_out 24 = .ok (.iconst 4, 1) := by decide +kernel
theorem dX3_out_25 : decode cX3_out 25 = .ok (.if_icmp .ne 7, 3) := by decide +kernel
theorem dX3_out_28 : decode cX3_out 28 = .ok (.iconst 1, 1) := by decide +kernel
theorem dX3_out_29 : decode cX3_out 29 = .ok (.goto 4, 3) := by decide +kernel
theorem dX3_out_32 : decode cX3_out 32 = .ok (.iconst 0, 1) := by decide +kernel
theorem dX3_out_33 : decode cX3_out 33 = .ok (.istore_n 2, 1) := by decide +kernel
theorem dX3_out_34 : decode cX3_out 34 = .ok (.iload_n 2, 1) := by decide +kernel
theorem dX3_out_35 : decode cX3_out 35 = .ok (.ifCond .eq 24, 3) := by decide +kernel
theorem dX3_out_38 : decode cX3_out 38 = .ok (.iload_n 1, 1) := by decide +kernel
theorem dX3_out_39 : decode cX3_out 39 = .ok (.ifCond .lt 20, 3) := by decide +kernel
theorem dX3_out_42 : decode cX3_out 42 = .ok (.iload_n 1, 1) := by decide +kernel
theorem dX3_out_43 : decode cX3_out 43 = .ok (.aload_n 0, 1) := by decide +kernel
theorem dX3_out_44 : decode cX3_out 44 = .ok (.getfield 95, 3) := by decide +kernel
theorem dX3_out_47 : decode cX3_out 47 = .ok (.if_icmp .ge 12, 3) := by decide +kernel
theorem dX3_out_50 : decode cX3_out 50 = .ok (.aload_n 0, 1) := by decide +kernel
theorem dX3_out_51 : decode cX3_out 51 = .ok (.getfield 22, 3) := by decide +kernel
theorem dX3_out_54 : decode cX3_out 54 = .ok (.iload_n 1, 1) := by decide +kernel
theorem dX3_out_55 : decode cX3_out 55 = .ok (.iaload, 1) := by decide +kernel
theorem dX3_out_56 : decode cX3_out 56 = .ok (.goto 4, 3) := by decide +kernel
theorem dX3_out_59 : decode cX3_out 59 = .ok (.iconst (-1), 1) := by decide +kernel
theorem dX3_out_60 : decode cX3_out 60 = .ok (.ireturn, 1) := by decide +kernel
theorem dX3_length_0 : decode cX3_length 0 = .ok (.aload_n 0, 1) := by decide +kernel
theorem dX3_length_1 : decode cX3_length 1 = .ok (.iconst 0, 1) := by decide +kernel
theorem dX3_length_2 : decode cX3_length 2 = .ok (.putfield 56, 3) := by decide +kernel
theorem dX3_length_5 : decode cX3_length 5 = .ok (.aload_n 0, 1) := by decide +kernel
theorem dX3_length_6 : decode cX3_length 6 = .ok (.getfield 95, 3) := by decide +kernel
theorem dX3_length_9 : decode cX3_length 9 = .ok (.ireturn, 1) := by decide +kernel
theorem dX3_added_0 : decode cX3_added 0 = .ok (.aload_n 0, 1) := by decide +kernel
theorem dX3_added_1 : decode cX3_added 1 = .ok (.iconst 0, 1) := by decide +kernel
theorem dX3_added_2 : decode cX3_added 2 = .ok (.putfield 56, 3) := by decide +kernel
theorem dX3_added_5 : decode cX3_added 5 = .ok (.aload_n 0, 1) := by decide +kernel
theorem dX3_added_6 : decode cX3_added 6 = .ok (.getfield 89, 3) := by decide +kernel
theorem dX3_added_9 : decode cX3_added 9 = .ok (.ireturn, 1) := by decide +kernel
theorem dX3_phase_0 : decode cX3_phase 0 = .ok (.aload_n 0, 1) := by decide +kernel
theorem dX3_phase_1 : decode cX3_phase 1 = .ok (.iconst 0, 1) := by decide +kernel
theorem dX3_phase_2 : decode cX3_phase 2 = .ok (.putfield 56, 3) := by decide +kernel
theorem dX3_phase_5 : decode cX3_phase 5 = .ok (.aload_n 0, 1) := by decide +kernel
theorem dX3_phase_6 : decode cX3_phase 6 = .ok (.getfield 102, 3) := by decide +kernel
theorem dX3_phase_9 : decode cX3_phase 9 = .ok (.ireturn, 1) := by decide +kernel
theorem dX3_reset_0 : decode cX3_reset 0 = .ok (.aload_n 0, 1) := by decide +kernel
theorem dX3_reset_1 : decode cX3_reset 1 = .ok (.iconst 0, 1) := by decide +kernel
theorem dX3_reset_2 : decode cX3_reset 2 = .ok (.putfield 56, 3) := by decide +kernel
theorem dX3_reset_5 : decode cX3_reset 5 = .ok (.aload_n 0, 1) := by decide +kernel
theorem dX3_reset_6 : decode cX3_reset 6 = .ok (.iconst 0, 1) := by decide +kernel
theorem dX3_reset_7 : decode cX3_reset 7 = .ok (.putfield 102, 3) := by decide +kernel
theorem dX3_reset_10 : decode cX3_reset 10 = .ok (.return_, 1) := by decide +kernel
