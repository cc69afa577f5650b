theorem dX3_init_0 : decode cX3_init 0 = .ok (.aload_n 0, 1) := by decide +kernel
theorem dX3_init_1 : decode cX3_init 1 = .ok (.invokespecial 1, 3) := by decide +kernel
theorem dX3_init_4 : decode cX3_init 4 = .ok (.aload_n 0, 1) := by decide +kernel
theorem dX3_init_5 : decode cX3_init 5 = .ok (.bipush 8, 2) := by decide +kernel
theorem dX3_init_7 : decode cX3_init 7 = .ok (.newarray .int, 2) := by decide +kernel
theorem dX3_init_9 : decode cX3_init 9 = .ok (.putfield 7, 3) := by decide +kernel
theorem dX3_init_12 : decode cX3_init 12 = .ok (.aload_n 0, 1) := by decide +kernel
theorem dX3_init_13 : decode cX3_init 13 = .ok (.iconst 3, 1) := by decide +kernel
theorem dX3_init_14 : decode cX3_init 14 = .ok (.newarray .int, 2) := by decide +kernel
theorem dX3_init_16 : decode cX3_init 16 = .ok (.putfield 13, 3) := by decide +kernel
theorem dX3_init_19 : decode cX3_init 19 = .ok (.aload_n 0, 1) := by decide +kernel
theorem dX3_init_20 : decode cX3_init 20 = .ok (.sipush 1000, 3) := by decide +kernel
theorem dX3_init_23 : decode cX3_init 23 = .ok (.newarray .int, 2) := by decide +kernel
theorem dX3_init_25 : decode cX3_init 25 = .ok (.putfield 16, 3) := by decide +kernel
theorem dX3_init_28 : decode cX3_init 28 = .ok (.aload_n 0, 1) := by decide +kernel
theorem dX3_init_29 : decode cX3_init 29 = .ok (.sipush 400, 3) := by decide +kernel
theorem dX3_init_32 : decode cX3_init 32 = .ok (.newarray .int, 2) := by decide +kernel
theorem dX3_init_34 : decode cX3_init 34 = .ok (.putfield 19, 3) := by decide +kernel
theorem dX3_init_37 : decode cX3_init 37 = .ok (.aload_n 0, 1) := by decide +kernel
theorem dX3_init_38 : decode cX3_init 38 = .ok (.sipush 400, 3) := by decide +kernel
theorem dX3_init_41 : decode cX3_init 41 = .ok (.newarray .int, 2) := by decide +kernel
theorem dX3_init_43 : decode cX3_init 43 = .ok (.putfield 22, 3) := by decide +kernel
theorem dX3_init_46 : decode cX3_init 46 = .ok (.aload_n 0, 1) := by decide +kernel
theorem dX3_init_47 : decode cX3_init 47 = .ok (.bipush 16, 2) := by decide +kernel
theorem dX3_init_49 : decode cX3_init 49 = .ok (.newarray .int, 2) := by decide +kernel
theorem dX3_init_51 : decode cX3_init 51 = .ok (.putfield 25, 3) := by decide +kernel
theorem dX3_init_54 : decode cX3_init 54 = .ok (.aload_n 0, 1) := by decide +kernel
theorem dX3_init_55 : decode cX3_init 55 = .ok (.bipush 16, 2) := by decide +kernel
theorem dX3_init_57 : decode cX3_init 57 = .ok (.newarray .int, 2) := by decide +kernel
theorem dX3_init_59 : decode cX3_init 59 = .ok (.putfield 28, 3) := by decide +kernel
theorem dX3_init_62 : decode cX3_init 62 = .ok (.aload_n 0, 1) := by decide +kernel
theorem dX3_init_63 : decode cX3_init 63 = .ok (.bipush 16, 2) := by decide +kernel
theorem dX3_init_65 : decode cX3_init 65 = .ok (.newarray .int, 2) := by decide +kernel
theorem dX3_init_67 : decode cX3_init 67 = .ok (.putfield 31, 3) := by decide +kernel
theorem dX3_init_70 : decode cX3_init 70 = .ok (.aload_n 0, 1) := by decide +kernel
theorem dX3_init_71 : decode cX3_init 71 = .ok (.bipush 40, 2) := by decide +kernel
theorem dX3_init_73 : decode cX3_init 73 = .ok (.newarray .int, 2) := by decide +kernel
theorem dX3_init_75 : decode cX3_init 75 = .ok (.putfield 34, 3) := by decide +kernel
theorem dX3_init_78 : decode cX3_init 78 = .ok (.aload_n 0, 1) := by decide +kernel
theorem dX3_init_79 : decode cX3_init 79 = .ok (.bipush 16, 2) := by decide +kernel
theorem dX3_init_81 : decode cX3_init 81 = .ok (.newarray .int, 2) := by decide +kernel
theorem dX3_init_83 : decode cX3_init 83 = .ok (.putfield 37, 3) := by decide +kernel
theorem dX3_init_86 : decode cX3_init 86 = .ok (.aload_n 0, 1) := by decide +kernel
theorem dX3_init_87 : decode cX3_init 87 = .ok (.bipush 40, 2) := by decide +kernel
theorem dX3_init_89 : decode cX3_init 89 = .ok (.newarray .int, 2) := by decide +kernel
theorem dX3_init_91 : decode cX3_init 91 = .ok (.putfield 40, 3) := by decide +kernel
theorem dX3_init_94 : decode cX3_init 94 = .ok (.aload_n 0, 1) := by decide +kernel
theorem dX3_init_95 : decode cX3_init 95 = .ok (.bipush 40, 2) := by decide +kernel
theorem dX3_init_97 : decode cX3_init 97 = .ok (.newarray .int, 2) := by decide +kernel
theorem dX3_init_99 : decode cX3_init 99 = .ok (.putfield 43, 3) := by decide +kernel
theorem dX3_init_102 : decode cX3_init 102 = .ok (.aload_n 0, 1) := by decide +kernel
theorem dX3_init_103 : decode cX3_init 103 = .ok (.bipush 16, 2) := by decide +kernel
theorem dX3_init_105 : decode cX3_init 105 = .ok (.newarray .int, 2) := by decide +kernel
theorem dX3_init_107 : decode cX3_init 107 = .ok (.putfield 46, 3) := by decide +kernel
theorem dX3_init_110 : decode cX3_init 110 = .ok (.aload_n 0, 1) := by decide +kernel
theorem dX3_init_111 : decode cX3_init 111 = .ok (.bipush 16, 2) := by decide +kernel
theorem dX3_init_113 : decode cX3_init 113 = .ok (.newarray .int, 2) := by decide +kernel
theorem dX3_init_115 : decode cX3_init 115 = .ok (.putfield 49, 3) := by decide +kernel
theorem dX3_init_118 : decode cX3_init 118 = .ok (.aload_n 0, 1) := by decide +kernel
theorem dX3_init_119 : decode cX3_init 119 = .ok (.iload_n 1, 1) := by decide +kernel
theorem dX3_init_120 : decode cX3_init 120 = .ok (.ifCond .ge 7, 3) := by decide +kernel
theorem dX3_init_123 : decode cX3_init 123 = .ok (.iconst 0, 1) := by decide +kernel
theorem dX3_init_124 : decode cX3_init 124 = .ok (.goto 17, 3) := by decide +kernel
theorem dX3_init_127 : decode cX3_init 127 = .ok (.iload_n 1, 1) := by decide +kernel
theorem dX3_init_128 : decode cX3_init 128 = .ok (.sipush 400, 3) := by decide +kernel
theorem dX3_init_131 : decode cX3_init 131 = .ok (.if_icmp .le 9, 3) := by decide +kernel
theorem dX3_init_134 : decode cX3_init 134 = .ok (.sipush 400, 3) := by decide +kernel
theorem dX3_init_137 : decode cX3_init 137 = .ok (.goto 4, 3) := by decide +kernel
theorem dX3_init_140 : decode cX3_init 140 = .ok (.iload_n 1, 1) := by decide +kernel
theorem dX3_init_141 : decode cX3_init 141 = .ok (.putfield 52, 3) := by decide +kernel
theorem dX3_init_144 : decode cX3_init 144 = .ok (.return_, 1) := by decide +kernel
theorem dX3_isByte_0 : decode cX3_isByte 0 = .ok (.iload_n 0, 1) := by decide +kernel
theorem dX3_isByte_1 : decode cX3_isByte 1 = .ok (.ifCond .lt 14, 3) := by decide +kernel
theorem dX3_isByte_4 : decode cX3_isByte 4 = .ok (.iload_n 0, 1) := by decide +kernel
theorem dX3_isByte_5 : decode cX3_isByte 5 = .ok (.sipush 256, 3) := by decide +kernel
theorem dX3_isByte_8 : decode cX3_isByte 8 = .ok (.if_icmp .ge 7, 3) := by decide +kernel
theorem dX3_isByte_11 : decode cX3_isByte 11 = .ok (.iconst 1, 1) := by decide +kernel
theorem dX3_isByte_12 : decode cX3_isByte 12 = .ok (.goto 4, 3) := by decide +kernel
theorem dX3_isByte_15 : decode cX3_isByte 15 = .ok (.iconst 0, 1) := by decide +kernel
theorem dX3_isByte_16 : decode cX3_isByte 16 = .ok (.ireturn, 1) := by decide +kernel
theorem dX3_up_0 : decode cX3_up 0 = .ok (.iload_n 0, 1) := by decide +kernel
theorem dX3_up_1 : decode cX3_up 1 = .ok (.iload_n 1, 1) := by decide +kernel
theorem dX3_up_2 : decode cX3_up 2 = .ok (.ishl, 1) := by decide +kernel
theorem dX3_up_3 : decode cX3_up 3 = .ok (.iload_n 0, 1) := by decide +kernel
theorem dX3_up_4 : decode cX3_up 4 = .ok (.bipush 32, 2) := by decide +kernel
theorem dX3_up_6 : decode cX3_up 6 = .ok (.iload_n 1, 1) := by decide +kernel
theorem dX3_up_7 : decode cX3_up 7 = .ok (.isub, 1) := by decide +kernel
theorem dX3_up_8 : decode cX3_up 8 = .ok (.iushr, 1) := by decide +kernel
theorem dX3_up_9 : decode cX3_up 9 = .ok (.ior, 1) := by decide +kernel
theorem dX3_up_10 : decode cX3_up 10 = .ok (.ireturn, 1) := by decide +kernel
set_option maxRecDepth 20000 in
theorem ggX3_quarter_X3_up : GoodIn wsX3_quarter wsX3_up := goodIn_r _ [5] (by decide +kernel) (by decide +kernel)
set_option maxRecDepth 20000 in
theorem gX3_quarter_X3_up : GoodIn wsX3_quarter (va_wsS RX3 59 yX3_up wsX3_up) := goodIn_app (goodIn_of _ (by decide +kernel)) ggX3_quarter_X3_up
theorem dX3_quarter_0 : decode cX3_quarter 0 = .ok (.aload_n 0, 1) := by decide +kernel
theorem dX3_quarter_1 : decode cX3_quarter 1 = .ok (.getfield 31, 3) := by decide +kernel
theorem dX3_quarter_4 : decode cX3_quarter 4 = .ok (.iload_n 1, 1) := by decide +kernel
theorem dX3_quarter_5 : decode cX3_quarter 5 = .ok (.dup2, 1) := by decide +kernel
theorem dX3_quarter_6 : decode cX3_quarter 6 = .ok (.iaload, 1) := by decide +kernel
theorem dX3_quarter_7 : decode cX3_quarter 7 = .ok (.aload_n 0, 1) := by decide +kernel
theorem dX3_quarter_8 : decode cX3_quarter 8 = .ok (.getfield 31, 3) := by decide +kernel
theorem dX3_quarter_11 : decode cX3_quarter 11 = .ok (.iload_n 2, 1) := by decide +kernel
theorem dX3_quarter_12 : decode cX3_quarter 12 = .ok (.iaload, 1) := by decide +kernel
theorem dX3_quarter_13 : decode cX3_quarter 13 = .ok (.iadd, 1) := by decide +kernel
theorem dX3_quarter_14 : decode cX3_quarter 14 = .ok (.iastore, 1) := by decide +kernel
theorem dX3_quarter_15 : decode cX3_quarter 15 = .ok (.aload_n 0, 1) := by decide +kernel
theorem dX3_quarter_16 : decode cX3_quarter 16 = .ok (.getfield 31, 3) := by decide +kernel
theorem dX3_quarter_19 : decode cX3_quarter 19 = .ok (.iload 4, 2) := by decide +kernel
theorem dX3_quarter_21 : decode cX3_quarter 21 = .ok (.aload_n 0, 1) := by decide +kernel
theorem dX3_quarter_22 : decode cX3_quarter 22 = .ok (.getfield 31, 3) := by decide +kernel
theorem dX3_quarter_25 : decode cX3_quarter 25 = .ok (.iload 4, 2) := by decide +kernel
theorem dX3_quarter_27 : decode cX3_quarter 27 = .ok (.iaload, 1) := by decide +kernel
theorem dX3_quarter_28 : decode cX3_quarter 28 = .ok (.aload_n 0, 1) := by decide +kernel
theorem dX3_quarter_29 : decode cX3_quarter 29 = .ok (.getfield 31, 3) := by decide +kernel
theorem dX3_quarter_32 : decode cX3_quarter 32 = .ok (.iload_n 1, 1) := by decide +kernel
theorem dX3_quarter_33 : decode cX3_quarter 33 = .ok (.iaload, 1) := by decide +kernel
theorem dX3_quarter_34 : decode cX3_quarter 34 = .ok (.ixor, 1) := by decide +kernel
theorem dX3_quarter_35 : decode cX3_quarter 35 = .ok (.bipush 16, 2) := by decide +kernel
theorem dX3_quarter_37 : decode cX3_quarter 37 = .ok (.invokestatic 59, 3) := by decide +kernel
theorem dX3_quarter_40 : decode cX3_quarter 40 = .ok (.iastore, 1) := by decide +kernel
theorem dX3_quarter_41 : decode cX3_quarter 41 = .ok (.aload_n 0, 1) := by decide +kernel
theorem dX3_quarter_42 : decode cX3_quarter 42 = .ok (.getfield 31, 3) := by decide +kernel
theorem dX3_quarter_45 : decode cX3_quarter 45 = .ok (.iload_n 3, 1) := by decide +kernel
theorem dX3_quarter_46 : decode cX3_quarter 46 = .ok (.dup2, 1) := by decide +kernel
theorem dX3_quarter_47 : decode cX3_quarter 47 = .ok (.iaload, 1) := by decide +kernel
theorem dX3_quarter_48 : decode cX3_quarter 48 = .ok (.aload_n 0, 1) := by decide +kernel
theorem dX3_quarter_49 : decode cX3_quarter 49 = .ok (.getfield 31, 3) := by decide +kernel
theorem dX3_quarter_52 : decode cX3_quarter 52 = .ok (.iload 4, 2) := by decide +kernel
theorem dX3_quarter_54 : decode cX3_quarter 54 = .ok (.iaload, 1) := by decide +kernel
theorem dX3_quarter_55 : decode cX3_quarter 55 = .ok (.iadd, 1) := by decide +kernel
theorem dX3_quarter_56 : decode cX3_quarter 56 = .ok (.iastore, 1) := by decide +kernel
theorem dX3_quarter_57 : decode cX3_quarter 57 = .ok (.aload_n 0, 1) := by decide +kernel
theorem dX3_quarter_58 : decode cX3_quarter 58 = .ok (.getfield 31, 3) := by decide +kernel
theorem dX3_quarter_61 : decode cX3_quarter 61 = .ok (.iload_n 2, 1) := by decide +kernel
theorem dX3_quarter_62 : decode cX3_quarter 62 = .ok (.aload_n 0, 1) := by decide +kernel
theorem dX3_quarter_63 : decode cX3_quarter 63 = .ok (.getfield 31, 3) := by decide +kernel
theorem dX3_quarter_66 : decode cX3_quarter 66 = .ok (.iload_n 2, 1) := by decide +kernel
theorem dX3_quarter_67 : decode cX3_quarter 67 = .ok (.iaload, 1) := by decide +kernel
theorem dX3_quarter_68 : decode cX3_quarter 68 = .ok (.aload_n 0, 1) := by decide +kernel
theorem dX3_quarter_69 : decode cX3_quarter 69 = .ok (.getfield 31, 3) := by decide +kernel
theorem dX3_quarter_72 : decode cX3_quarter 72 = .ok (.iload_n 3, 1) := by decide +kernel
theorem dX3_quarter_73 : decode cX3_quarter 73 = .ok (.iaload, 1) := by decide +kernel
theorem dX3_quarter_74 : decode cX3_quarter 74 = .ok (.ixor, 1) := by decide +kernel
theorem dX3_quarter_75 : decode cX3_quarter 75 = .ok (.bipush 12, 2) := by decide +kernel
theorem dX3_quarter_77 : decode cX3_quarter 77 = .ok (.invokestatic 59, 3) := by decide +kernel
theorem dX3_quarter_80 : decode cX3_quarter 80 = .ok (.iastore, 1) := by decide +kernel
theorem dX3_quarter_81 : decode cX3_quarter 81 = .ok (.aload_n 0, 1) := by decide +kernel
theorem dX3_quarter_82 : decode cX3_quarter 82 = .ok (.getfield 31, 3) := by decide +kernel
theorem dX3_quarter_85 : decode cX3_quarter 85 = .ok (.iload_n 1, 1) := by decide +kernel
theorem dX3_quarter_86 : decode cX3_quarter 86 = .ok (.dup2, 1) := by decide +kernel
theorem dX3_quarter_87 : decode cX3_quarter 87 = .ok (.iaload, 1) := by decide +kernel
theorem dX3_quarter_88 : decode cX3_quarter 88 = .ok (.aload_n 0, 1) := by decide +kernel
theorem dX3_quarter_89 : decode cX3_quarter 89 = .ok (.getfield 31, 3) := by decide +kernel
theorem dX3_quarter_92 : decode cX3_quarter 92 = .ok (.iload_n 2, 1) := by decide +kernel
theorem dX3_quarter_93 : decode cX3_quarter 93 = .ok (.iaload, 1) := by decide +kernel
theorem dX3_quarter_94 : decode cX3_quarter 94 = .ok (.iadd, 1) := by decide +kernel
theorem dX3_quarter_95 : decode cX3_quarter 95 = .ok (.iastore, 1) := by decide +kernel
theorem dX3_quarter_96 : decode cX3_quarter 96 = .ok (.aload_n 0, 1) := by decide +kernel
theorem dX3_quarter_97 : decode cX3_quarter 97 = .ok (.getfield 31, 3) := by decide +kernel
theorem dX3_quarter_100 : decode cX3_quarter 100 = .ok (.iload 4, 2) := by decide +kernel
theorem dX3_quarter_102 : decode cX3_quarter 102 = .ok (.aload_n 0, 1) := by decide +kernel
theorem dX3_quarter_103 : decode cX3_quarter 103 = .ok (.getfield 31, 3) := by decide +kernel
theorem dX3_quarter_106 : decode cX3_quarter 106 = .ok (.iload 4, 2) := by decide +kernel
theorem dX3_quarter_108 : decode cX3_quarter 108 = .ok (.iaload, 1) := by decide +kernel
theorem dX3_quarter_109 : decode cX3_quarter 109 = .ok (.aload_n 0, 1) := by decide +kernel
theorem dX3_quarter_110 : decode cX3_quarter 110 = .ok (.getfield 31, 3) := by decide +kernel
theorem dX3_quarter_113 : decode cX3_quarter 113 = .ok (.iload_n 1, 1) := by decide +kernel
theorem dX3_quarter_114 : decode cX3_quarter 114 = .ok (.iaload, 1) := by decide +kernel
theorem dX3_quarter_115 : decode cX3_quarter 115 = .ok (.ixor, 1) := by decide +kernel
theorem dX3_quarter_116 : decode cX3_quarter 116 = .ok (.bipush 8, 2) := by decide +kernel
theorem dX3_quarter_118 : decode cX3_quarter 118 = .ok (.invokestatic 59, 3) := by decide +kernel
theorem dX3_quarter_121 : decode cX3_quarter 121 = .ok (.iastore, 1) := by decide +kernel
theorem dX3_quarter_122 : decode cX3_quarter 122 = .ok (.aload_n 0, 1) := by decide +kernel
theorem dX3_quarter_123 : decode cX3_quarter 123 = .ok (.getfield 31, 3) := by decide +kernel
theorem dX3_quarter_126 : decode cX3_quarter 126 = .ok (.iload_n 3, 1) := by decide +kernel
theorem dX3_quarter_127 : decode cX3_quarter 127 = .ok (.dup2, 1) := by decide +kernel
theorem dX3_quarter_128 : decode cX3_quarter 128 = .ok (.iaload, 1) := by decide +kernel
theorem dX3_quarter_129 : decode cX3_quarter 129 = .ok (.aload_n 0, 1) := by decide +kernel
theorem dX3_quarter_130 : decode cX3_quarter 130 = .ok (.getfield 31, 3) := by decide +kernel
theorem dX3_quarter_133 : decode cX3_quarter 133 = .ok (.iload 4, 2) := by decide +kernel
theorem dX3_quarter_135 : decode cX3_quarter 135 = .ok (.iaload, 1) := by decide +kernel
theorem dX3_quarter_136 : decode cX3_quarter 136 = .ok (.iadd, 1) := by decide +kernel
theorem dX3_quarter_137 : decode cX3_quarter 137 = .ok (.iastore, 1) := by decide +kernel
theorem dX3_quarter_138 : decode cX3_quarter 138 = .ok (.aload_n 0, 1) := by decide +kernel
theorem dX3_quarter_139 : decode cX3_quarter 139 = .ok (.getfield 31, 3) := by decide +kernel
theorem dX3_quarter_142 : decode cX3_quarter 142 = .ok (.iload_n 2, 1) := by decide +kernel
theorem dX3_quarter_143 : decode cX3_quarter 143 = .ok (.aload_n 0, 1) := by decide +kernel
theorem dX3_quarter_144 : decode cX3_quarter 144 = .ok (.getfield 31, 3) := by decide +kernel
theorem dX3_quarter_147 : decode cX3_quarter 147 = .ok (.iload_n 2, 1) := by decide +kernel
theorem dX3_quarter_148 : decode cX3_quarter 148 = .ok (.iaload, 1) := by decide +kernel
theorem dX3_quarter_149 : decode cX3_quarter 149 = .ok (.aload_n 0, 1) := by decide +kernel
theorem dX3_quarter_150 : decode cX3_quarter 150 = .ok (.getfield 31, 3) := by decide +kernel
theorem dX3_quarter_153 : decode cX3_quarter 153 = .ok (.iload_n 3, 1) := by decide +kernel
theorem dX3_quarter_154 : decode cX3_quarter 154 = .ok (.iaload, 1) := by decide +kernel
theorem dX3_quarter_155 : decode cX3_quarter 155 = .ok (.ixor, 1) := by decide +kernel
theorem dX3_quarter_156 : decode cX3_quarter 156 = .ok (.bipush 7, 2) := by decide +kernel
theorem dX3_quarter_158 : decode cX3_quarter 158 = .ok (.invokestatic 59, 3) := by decide +kernel
theorem dX3_quarter_161 : decode cX3_quarter 161 = .ok (.iastore, 1) := by decide +kernel
theorem dX3_quarter_162 : decode cX3_quarter 162 = .ok (.return_, 1) := by decide +kernel
set_option maxRecDepth 20000 in
theorem ggX3_block_X3_quarter : GoodIn wsX3_block wsX3_quarter := goodIn_r _ [13, 8, 14, 15, 12, 16, 17, 18, 19, 20, 21, 22, 23, 24, 25, 26, 27, 28, 29, 30, 31, 32, 33, 34, 35, 36] (by decide +kernel) (by decide +kernel)
set_option maxRecDepth 20000 in
theorem gX3_block_X3_quarter : GoodIn wsX3_block (wsV RX3 67 RX3 yX3_quarter wsX3_quarter) := goodIn_app (goodIn_of _ (by decide +kernel)) ggX3_block_X3_quarter
theorem dX3_block_0 : decode cX3_block 0 = .ok (.aload_n 0, 1) := by decide +kernel
theorem dX3_block_1 : decode cX3_block 1 = .ok (.getfield 28, 3) := by decide +kernel
theorem dX3_block_4 : decode cX3_block 4 = .ok (.iconst 0, 1) := by decide +kernel
theorem dX3_block_5 : decode cX3_block 5 = .ok (.ldc 63, 2) := by decide +kernel
theorem dX3_block_7 : decode cX3_block 7 = .ok (.iastore, 1) := by decide +kernel
theorem dX3_block_8 : decode cX3_block 8 = .ok (.aload_n 0, 1) := by decide +kernel
theorem dX3_block_9 : decode cX3_block 9 = .ok (.getfield 28, 3) := by decide +kernel
theorem dX3_block_12 : decode cX3_block 12 = .ok (.iconst 1, 1) := by decide +kernel
theorem dX3_block_13 : decode cX3_block 13 = .ok (.ldc 64, 2) := by decide +kernel
theorem dX3_block_15 : decode cX3_block 15 = .ok (.iastore, 1) := by decide +kernel
theorem dX3_block_16 : decode cX3_block 16 = .ok (.aload_n 0, 1) := by decide +kernel
theorem dX3_block_17 : decode cX3_block 17 = .ok (.getfield 28, 3) := by decide +kernel
theorem dX3_block_20 : decode cX3_block 20 = .ok (.iconst 2, 1) := by decide +kernel
theorem dX3_block_21 : decode cX3_block 21 = .ok (.ldc 65, 2) := by decide +kernel
theorem dX3_block_23 : decode cX3_block 23 = .ok (.iastore, 1) := by decide +kernel
theorem dX3_block_24 : decode cX3_block 24 = .ok (.aload_n 0, 1) := by decide +kernel
theorem dX3_block_25 : decode cX3_block 25 = .ok (.getfield 28, 3) := by decide +kernel
theorem dX3_block_28 : decode cX3_block 28 = .ok (.iconst 3, 1) := by decide +kernel
theorem dX3_block_29 : decode cX3_block 29 = .ok (.ldc 66, 2) := by decide +kernel
theorem dX3_block_31 : decode cX3_block 31 = .ok (.iastore, 1) := by decide +kernel
theorem dX3_block_32 : decode cX3_block 32 = .ok (.iconst 0, 1) := by decide +kernel
theorem dX3_block_33 : decode cX3_block 33 = .ok (.istore_n 2, 1) := by decide +kernel
theorem dX3_block_34 : decode cX3_block 34 = .ok (.iload_n 2, 1) := by decide +kernel
theorem dX3_block_35 : decode cX3_block 35 = .ok (.bipush 8, 2) := by decide +kernel
theorem dX3_block_37 : decode cX3_block 37 = .ok (.if_icmp .ge 23, 3) := by decide +kernel
theorem dX3_block_40 : decode cX3_block 40 = .ok (.aload_n 0, 1) := by decide +kernel
theorem dX3_block_41 : decode cX3_block 41 = .ok (.getfield 28, 3) := by decide +kernel
theorem dX3_block_44 : decode cX3_block 44 = .ok (.iconst 4, 1) := by decide +kernel
theorem dX3_block_45 : decode cX3_block 45 = .ok (.iload_n 2, 1) := by decide +kernel
theorem dX3_block_46 : decode cX3_block 46 = .ok (.iadd, 1) := by decide +kernel
theorem dX3_block_47 : decode cX3_block 47 = .ok (.aload_n 0, 1) := by decide +kernel
theorem dX3_block_48 : decode cX3_block 48 = .ok (.getfield 7, 3) := by decide +kernel
theorem dX3_block_51 : decode cX3_block 51 = .ok (.iload_n 2, 1) := by decide +kernel
theorem dX3_block_52 : decode cX3_block 52 = .ok (.iaload, 1) := by decide +kernel
theorem dX3_block_53 : decode cX3_block 53 = .ok (.iastore, 1) := by decide +kernel
theorem dX3_block_54 : decode cX3_block 54 = .ok (.iinc 2 1, 3) := by decide +kernel
theorem dX3_block_57 : decode cX3_block 57 = .ok (.goto (-23), 3) := by decide +kernel
theorem dX3_block_60 : decode cX3_block 60 = .ok (.aload_n 0, 1) := by decide +kernel
theorem dX3_block_61 : decode cX3_block 61 = .ok (.getfield 28, 3) := by decide +kernel
theorem dX3_block_64 : decode cX3_block 64 = .ok (.bipush 12, 2) := by decide +kernel
theorem dX3_block_66 : decode cX3_block 66 = .ok (.iload_n 1, 1) := by decide +kernel
theorem dX3_block_67 : decode cX3_block 67 = .ok (.iastore, 1) := by decide +kernel
theorem dX3_block_68 : decode cX3_block 68 = .ok (.iconst 0, 1) := by decide +kernel
theorem dX3_block_69 : decode cX3_block 69 = .ok (.istore_n 2, 1) := by decide +kernel
theorem dX3_block_70 : decode cX3_block 70 = .ok (.iload_n 2, 1) := by decide +kernel
theorem dX3_block_71 : decode cX3_block 71 = .ok (.iconst 3, 1) := by decide +kernel
theorem dX3_block_72 : decode cX3_block 72 = .ok (.if_icmp .ge 24, 3) := by decide +kernel
theorem dX3_block_75 : decode cX3_block 75 = .ok (.aload_n 0, 1) := by decide +kernel
theorem dX3_block_76 : decode cX3_block 76 = .ok (.getfield 28, 3) := by decide +kernel
theorem dX3_block_79 : decode cX3_block 79 = .ok (.bipush 13, 2) := by decide +kernel
theorem dX3_block_81 : decode cX3_block 81 = .ok (.iload_n 2, 1) := by decide +kernel
theorem dX3_block_82 : decode cX3_block 82 = .ok (.iadd, 1) := by decide +kernel
theorem dX3_block_83 : decode cX3_block 83 = .ok (.aload_n 0, 1) := by decide +kernel
theorem dX3_block_84 : decode cX3_block 84 = .ok (.getfield 13, 3) := by decide +kernel
theorem dX3_block_87 : decode cX3_block 87 = .ok (.iload_n 2, 1) := by decide +kernel
theorem dX3_block_88 : decode cX3_block 88 = .ok (.iaload, 1) := by decide +kernel
theorem dX3_block_89 : decode cX3_block 89 = .ok (.iastore, 1) := by decide +kernel
theorem dX3_block_90 : decode cX3_block 90 = .ok (.iinc 2 1, 3) := by decide +kernel
theorem dX3_block_93 : decode cX3_block 93 = .ok (.goto (-23), 3) := by decide +kernel
theorem dX3_block_96 : decode cX3_block 96 = .ok (.iconst 0, 1) := by decide +kernel
theorem dX3_block_97 : decode cX3_block 97 = .ok (.istore_n 2, 1) := by decide +kernel
theorem dX3_block_98 : decode cX3_block 98 = .ok (.iload_n 2, 1) := by decide +kernel
theorem dX3_block_99 : decode cX3_block 99 = .ok (.bipush 16, 2) := by decide +kernel
theorem dX3_block_101 : decode cX3_block 101 = .ok (.if_icmp .ge 21, 3) := by decide +kernel
theorem dX3_block_104 : decode cX3_block 104 = .ok (.aload_n 0, 1) := by decide +kernel
theorem dX3_block_105 : decode cX3_block 105 = .ok (.getfield 31, 3) := by decide +kernel
theorem dX3_block_108 : decode cX3_block 108 = .ok (.iload_n 2, 1) := by decide +kernel
theorem dX3_block_109 : decode cX3_block 109 = .ok (.aload_n 0, 1) := by decide +kernel
theorem dX3_block_110 : decode cX3_block 110 = .ok (.getfield 28, 3) := by decide +kernel
theorem dX3_block_113 : decode cX3_block 113 = .ok (.iload_n 2, 1) := by decide +kernel
theorem dX3_block_114 : decode cX3_block 114 = .ok (.iaload, 1) := by decide +kernel
theorem dX3_block_115 : decode cX3_block 115 = .ok (.iastore, 1) := by decide +kernel
theorem dX3_block_116 : decode cX3_block 116 = .ok (.iinc 2 1, 3) := by decide +kernel
theorem dX3_block_119 : decode cX3_block 119 = .ok (.goto (-21), 3) := by decide +kernel
theorem dX3_block_122 : decode cX3_block 122 = .ok (.iconst 0, 1) := by decide +kernel
theorem dX3_block_123 : decode cX3_block 123 = .ok (.istore_n 2, 1) := by decide +kernel
theorem dX3_block_124 : decode cX3_block 124 = .ok (.iload_n 2, 1) := by decide +kernel
theorem dX3_block_125 : decode cX3_block 125 = .ok (.bipush 10, 2) := by decide +kernel
theorem dX3_block_127 : decode cX3_block 127 = .ok (.if_icmp .ge 79, 3) := by decide +kernel
theorem dX3_block_130 : decode cX3_block 130 = .ok (.iconst 0, 1) := by decide +kernel
theorem dX3_block_131 : decode cX3_block 131 = .ok (.istore_n 3, 1) := by decide +kernel
theorem dX3_block_132 : decode cX3_block 132 = .ok (.iload_n 3, 1) := by decide +kernel
theorem dX3_block_133 : decode cX3_block 133 = .ok (.iconst 4, 1) := by decide +kernel
theorem dX3_block_134 : decode cX3_block 134 = .ok (.if_icmp .ge 25, 3) := by decide +kernel
theorem dX3_block_137 : decode cX3_block 137 = .ok (.aload_n 0, 1) := by decide +kernel
theorem dX3_block_138 : decode cX3_block 138 = .ok (.iload_n 3, 1) := by decide +kernel
theorem dX3_block_139 : decode cX3_block 139 = .ok (.iconst 4, 1) := by decide +kernel
theorem dX3_block_140 : decode cX3_block 140 = .ok (.iload_n 3, 1) := by decide +kernel
theorem dX3_block_141 : decode cX3_block 141 = .ok (.iadd, 1) := by decide +kernel
theorem dX3_block_142 : decode cX3_block 142 = .ok (.bipush 8, 2) := by decide +kernel
theorem dX3_block_144 : decode cX3_block 144 = .ok (.iload_n 3, 1) := by decide +kernel
theorem dX3_block_145 : decode cX3_block 145 = .ok (.iadd, 1) := by decide +kernel
theorem dX3_block_146 : decode cX3_block 146 = .ok (.bipush 12, 2) := by decide +kernel
theorem dX3_block_148 : decode cX3_block 148 = .ok (.iload_n 3, 1) := by decide +kernel
theorem dX3_block_149 : decode cX3_block 149 = .ok (.iadd, 1) := by decide +kernel
theorem dX3_block_150 : decode cX3_block 150 = .ok (.invokevirtual 67, 3) := by decide +kernel
theorem dX3_block_153 : decode cX3_block 153 = .ok (.iinc 3 1, 3) := by decide +kernel
theorem dX3_block_156 : decode cX3_block 156 = .ok (.goto (-24), 3) := by decide +kernel
theorem dX3_block_159 : decode cX3_block 159 = .ok (.iconst 0, 1) := by decide +kernel
theorem dX3_block_160 : decode cX3_block 160 = .ok (.istore_n 3, 1) := by decide +kernel
theorem dX3_block_161 : decode cX3_block 161 = .ok (.iload_n 3, 1) := by decide +kernel
theorem dX3_block_162 : decode cX3_block 162 = .ok (.iconst 4, 1) := by decide +kernel
theorem dX3_block_163 : decode cX3_block 163 = .ok (.if_icmp .ge 37, 3) := by decide +kernel
theorem dX3_block_166 : decode cX3_block 166 = .ok (.aload_n 0, 1) := by decide +kernel
theorem dX3_block_167 : decode cX3_block 167 = .ok (.iload_n 3, 1) := by decide +kernel
theorem dX3_block_168 : decode cX3_block 168 = .ok (.iconst 4, 1) := by decide +kernel
theorem dX3_block_169 : decode cX3_block 169 = .ok (.iload_n 3, 1) := by decide +kernel
theorem dX3_block_170 : decode cX3_block 170 = .ok (.iconst 1, 1) := by decide +kernel
theorem dX3_block_171 : decode cX3_block 171 = .ok (.iadd, 1) := by decide +kernel
theorem dX3_block_172 : decode cX3_block 172 = .ok (.iconst 4, 1) := by decide +kernel
theorem dX3_block_173 : decode cX3_block 173 = .ok (.irem, 1) := by decide +kernel
theorem dX3_block_174 : decode cX3_block 174 = .ok (.iadd, 1) := by decide +kernel
theorem dX3_block_175 : decode cX3_block 175 = .ok (.bipush 8, 2) := by decide +kernel
theorem dX3_block_177 : decode cX3_block 177 = .ok (.iload_n 3, 1) := by decide +kernel
theorem dX3_block_178 : decode cX3_block 178 = .ok (.iconst 2, 1) := by decide +kernel
theorem dX3_block_179 : decode cX3_block 179 = .ok (.iadd, 1) := by decide +kernel
theorem dX3_block_180 : decode cX3_block 180 = .ok (.iconst 4, 1) := by decide +kernel
theorem dX3_block_181 : decode cX3_block 181 = .ok (.irem, 1) := by decide +kernel
theorem dX3_block_182 : decode cX3_block 182 = .ok (.iadd, 1) := by decide +kernel
theorem dX3_block_183 : decode cX3_block 183 = .ok (.bipush 12, 2) := by decide +kernel
theorem dX3_block_185 : decode cX3_block 185 = .ok (.iload_n 3, 1) := by decide +kernel
theorem dX3_block_186 : decode cX3_block 186 = .ok (.iconst 3, 1) := by decide +kernel
theorem dX3_block_187 : decode cX3_block 187 = .ok (.iadd, 1) := by decide +kernel
theorem dX3_block_188 : decode cX3_block 188 = .ok (.iconst 4, 1) := by decide +kernel
theorem dX3_block_189 : decode cX3_block 189 = .ok (.irem, 1) := by decide +kernel
theorem dX3_block_190 : decode cX3_block 190 = .ok (.iadd, 1) := by decide +kernel
theorem dX3_block_191 : decode cX3_block 191 = .ok (.invokevirtual 67, 3) := by decide +kernel
theorem dX3_block_194 : decode cX3_block 194 = .ok (.iinc 3 1, 3) := by decide +kernel
theorem dX3_block_197 : decode cX3_block 197 = .ok (.goto (-36), 3) := by decide +kernel
theorem dX3_block_200 : decode cX3_block 200 = .ok (.iinc 2 1, 3) := by decide +kernel
theorem dX3_block_203 : decode cX3_block 203 = .ok (.goto (-79), 3) := by decide +kernel
theorem dX3_block_206 : decode cX3_block 206 = .ok (.iconst 0, 1) := by decide +kernel
theorem dX3_block_207 : decode cX3_block 207 = .ok (.istore_n 2, 1) := by decide +kernel
theorem dX3_block_208 : decode cX3_block 208 = .ok (.iload_n 2, 1) := by decide +kernel
theorem dX3_block_209 : decode cX3_block 209 = .ok (.bipush 16, 2) := by decide +kernel
theorem dX3_block_211 : decode cX3_block 211 = .ok (.if_icmp .ge 24, 3) := by decide +kernel
theorem dX3_block_214 : decode cX3_block 214 = .ok (.aload_n 0, 1) := by decide +kernel
theorem dX3_block_215 : decode cX3_block 215 = .ok (.getfield 31, 3) := by decide +kernel
theorem dX3_block_218 : decode cX3_block 218 = .ok (.iload_n 2, 1) := by decide +kernel
theorem dX3_block_219 : decode cX3_block 219 = .ok (.dup2, 1) := by decide +kernel
theorem dX3_block_220 : decode cX3_block 220 = .ok (.iaload, 1) := by decide +kernel
theorem dX3_block_221 : decode cX3_block 221 = .ok (.aload_n 0, 1) := by decide +kernel
theorem dX3_block_222 : decode cX3_block 222 = .ok (.getfield 28, 3) := by decide +kernel
theorem dX3_block_225 : decode cX3_block 225 = .ok (.iload_n 2, 1) := by decide +kernel
theorem dX3_block_226 : decode cX3_block 226 = .ok (.iaload, 1) := by decide +kernel
theorem dX3_block_227 : decode cX3_block 227 = .ok (.iadd, 1) := by decide +kernel
theorem dX3_block_228 : decode cX3_block 228 = .ok (.iastore, 1) := by decide +kernel
theorem dX3_block_229 : decode cX3_block 229 = .ok (.iinc 2 1, 3) := by decide +kernel
theorem dX3_block_232 : decode cX3_block 232 = .ok (.goto (-24), 3) := by decide +kernel
theorem dX3_block_235 : decode cX3_block 235 = .ok (.return_, 1) := by decide +kernel
theorem dX3_byteOf_0 : decode cX3_byteOf 0 = .ok (.aload_n 0, 1) := by decide +kernel
theorem dX3_byteOf_1 : decode cX3_byteOf 1 = .ok (.getfield 31, 3) := by decide +kernel
theorem dX3_byteOf_4 : decode cX3_byteOf 4 = .ok (.iload_n 1, 1) := by decide +kernel
theorem dX3_byteOf_5 : decode cX3_byteOf 5 = .ok (.iconst 4, 1) := by decide +kernel
theorem dX3_byteOf_6 : decode cX3_byteOf 6 = .ok (.idiv, 1) := by decide +kernel
theorem dX3_byteOf_7 : decode cX3_byteOf 7 = .ok (.iaload, 1) := by decide +kernel
theorem dX3_byteOf_8 : decode cX3_byteOf 8 = .ok (.bipush 8, 2) := by decide +kernel
theorem dX3_byteOf_10 : decode cX3_byteOf 10 = .ok (.iload_n 1, 1) := by decide +kernel
theorem dX3_byteOf_11 : decode cX3_byteOf 11 = .ok (.iconst 4, 1) := by decide +kernel
theorem dX3_byteOf_12 : decode cX3_byteOf 12 = .ok (.irem, 1) := by decide +kernel
theorem dX3_byteOf_13 : decode cX3_byteOf 13 = .ok (.imul, 1) := by decide +kernel
theorem dX3_byteOf_14 : decode cX3_byteOf 14 = .ok (.iushr, 1) := by decide +kernel
theorem dX3_byteOf_15 : decode cX3_byteOf 15 = .ok (.sipush 255, 3) := by decide +kernel
theorem dX3_byteOf_18 : decode cX3_byteOf 18 = .ok (.iand, 1) := by decide +kernel
theorem dX3_byteOf_19 : decode cX3_byteOf 19 = .ok (.ireturn, 1) := by decide +kernel
theorem dX3_carry_0 : decode cX3_carry 0 = .ok (.iconst 0, 1) := by decide +kernel
theorem dX3_carry_1 : decode cX3_carry 1 = .ok (.istore_n 1, 1) := by decide +kernel
theorem dX3_carry_2 : decode cX3_carry 2 = .ok (.iconst 0, 1) := by decide +kernel
theorem dX3_carry_3 : decode cX3_carry 3 = .ok (.istore_n 2, 1) := by decide +kernel
theorem dX3_carry_4 : decode cX3_carry 4 = .ok (.iload_n 2, 1) := by decide +kernel
theorem dX3_carry_5 : decode cX3_carry 5 = .ok (.bipush 40, 2) := by decide +kernel
theorem dX3_carry_7 : decode cX3_carry 7 = .ok (.if_icmp .ge 34, 3) := by decide +kernel
theorem dX3_carry_10 : decode cX3_carry 10 = .ok (.iload_n 1, 1) := by decide +kernel
theorem dX3_carry_11 : decode cX3_carry 11 = .ok (.aload_n 0, 1) := by decide +kernel
theorem dX3_carry_12 : decode cX3_carry 12 = .ok (.getfield 34, 3) := by decide +kernel
theorem dX3_carry_15 : decode cX3_carry 15 = .ok (.iload_n 2, 1) := by decide +kernel
theorem dX3_carry_16 : decode cX3_carry 16 = .ok (.iaload, 1) := by decide +kernel
theorem dX3_carry_17 : decode cX3_carry 17 = .ok (.iadd, 1) := by decide +kernel
theorem dX3_carry_18 : decode cX3_carry 18 = .ok (.istore_n 1, 1) := by decide +kernel
theorem dX3_carry_19 : decode cX3_carry 19 = .ok (.aload_n 0, 1) := by decide +kernel
theorem dX3_carry_20 : decode cX3_carry 20 = .ok (.getfield 34, 3) := by decide +kernel
theorem dX3_carry_23 : decode cX3_carry 23 = .ok (.iload_n 2, 1) := by decide +kernel
theorem dX3_carry_24 : decode cX3_carry 24 = .ok (.iload_n 1, 1) := by decide +kernel
theorem dX3_carry_25 : decode cX3_carry 25 = .ok (.sipush 255, 3) := by decide +kernel
theorem dX3_carry_28 : decode cX3_carry 28 = .ok (.iand, 1) := by decide +kernel
theorem dX3_carry_29 : decode cX3_carry 29 = .ok (.iastore, 1) := by decide +kernel
theorem dX3_carry_30 : decode cX3_carry 30 = .ok (.iload_n 1, 1) := by decide +kernel
theorem dX3_carry_31 : decode cX3_carry 31 = .ok (.bipush 8, 2) := by decide +kernel
theorem dX3_carry_33 : decode cX3_carry 33 = .ok (.ishr, 1) := by decide +kernel
theorem dX3_carry_34 : decode cX3_carry 34 = .ok (.istore_n 1, 1) := by decide +kernel
theorem dX3_carry_35 : decode cX3_carry 35 = .ok (.iinc 2 1, 3) := by decide +kernel
theorem dX3_carry_38 : decode cX3_carry 38 = .ok (.goto (-34), 3) := by decide +kernel
theorem dX3_carry_41 : decode cX3_carry 41 = .ok (.return_, 1) := by decide +kernel
theorem dX3_isAbove_0 : decode cX3_isAbove 0 = .ok (.aload_n 0, 1) := by decide +kernel
theorem dX3_isAbove_1 : decode cX3_isAbove 1 = .ok (.getfield 34, 3) := by decide +kernel
theorem dX3_isAbove_4 : decode cX3_isAbove 4 = .ok (.bipush 16, 2) := by decide +kernel
theorem dX3_isAbove_6 : decode cX3_isAbove 6 = .ok (.iaload, 1) := by decide +kernel
theorem dX3_isAbove_7 : decode cX3_isAbove 7 = .ok (.iconst 3, 1) := by decide +kernel
theorem dX3_isAbove_8 : decode cX3_isAbove 8 = .ok (.if_icmp .le 7, 3) := by decide +kernel
theorem dX3_isAbove_11 : decode cX3_isAbove 11 = .ok (.iconst 1, 1) := by decide +kernel
theorem dX3_isAbove_12 : decode cX3_isAbove 12 = .ok (.goto 4, 3) := by decide +kernel
theorem dX3_isAbove_15 : decode cX3_isAbove 15 = .ok (.iconst 0, 1) := by decide +kernel
theorem dX3_isAbove_16 : decode cX3_isAbove 16 = .ok (.istore_n 1, 1) := by decide +kernel
theorem dX3_isAbove_17 : decode cX3_isAbove 17 = .ok (.bipush 17, 2) := by decide +kernel
theorem dX3_isAbove_19 : decode cX3_isAbove 19 = .ok (.istore_n 2, 1) := by decide +kernel
theorem dX3_isAbove_20 : decode cX3_isAbove 20 = .ok (.iload_n 2, 1) := by decide +kernel
theorem dX3_isAbove_21 : decode cX3_isAbove 21 = .ok (.bipush 40, 2) := by decide +kernel
theorem dX3_isAbove_23 : decode cX3_isAbove 23 = .ok (.if_icmp .ge 28, 3) := by decide +kernel
theorem dX3_isAbove_26 : decode cX3_isAbove 26 = .ok (.iload_n 1, 1) := by decide +kernel
theorem dX3_isAbove_27 : decode cX3_isAbove 27 = .ok (.ifCond .ne 12, 3) := by decide +kernel
theorem dX3_isAbove_30 : decode cX3_isAbove 30 = .ok (.aload_n 0, 1) := by decide +kernel
theorem dX3_isAbove_31 : decode cX3_isAbove 31 = .ok (.getfield 34, 3) := by decide +kernel
theorem dX3_isAbove_34 : decode cX3_isAbove 34 = .ok (.iload_n 2, 1) := by decide +kernel
theorem dX3_isAbove_35 : decode cX3_isAbove 35 = .ok (.iaload, 1) := by decide +kernel
theorem dX3_isAbove_36 : decode cX3_isAbove 36 = .ok (.ifCond .le 7, 3) := by decide +kernel
theorem dX3_isAbove_39 : decode cX3_isAbove 39 = .ok (.iconst 1, 1) := by decide +kernel
theorem dX3_isAbove_40 : decode cX3_isAbove 40 = .ok (.goto 4, 3) := by decide +kernel
theorem dX3_isAbove_43 : decode cX3_isAbove 43 = .ok (.iconst 0, 1) := by decide +kernel
theorem dX3_isAbove_44 : decode cX3_isAbove 44 = .ok (.istore_n 1, 1) := by decide +kernel
theorem dX3_isAbove_45 : decode cX3_isAbove 45 = .ok (.iinc 2 1, 3) := by decide +kernel
theorem dX3_isAbove_48 : decode cX3_isAbove 48 = .ok (.goto (-28), 3) := by decide +kernel
theorem dX3_isAbove_51 : decode cX3_isAbove 51 = .ok (.iload_n 1, 1) := by decide +kernel
theorem dX3_isAbove_52 : decode cX3_isAbove 52 = .ok (.ireturn, 1) := by decide +kernel
set_option maxRecDepth 20000 in
theorem ggX3_rest_X3_carry : GoodIn wsX3_rest wsX3_carry := goodIn_r _ [7, 1, 12, 13, 14, 15, 16, 17, 18, 19, 20, 21, 22, 23, 24, 25, 26, 27, 28, 29, 30, 31] (by decide +kernel) (by decide +kernel)
set_option maxRecDepth 20000 in
theorem gX3_rest_X3_carry : GoodIn wsX3_rest (wsV RX3 71 RX3 yX3_carry wsX3_carry) := goodIn_app (goodIn_of _ (by decide +kernel)) ggX3_rest_X3_carry
set_option maxRecDepth 20000 in
theorem ggX3_rest_X3_isAbove : GoodIn wsX3_rest wsX3_isAbove := goodIn_r _ [11, 1, 12, 13, 14, 15, 16, 17, 18, 19, 20, 21, 22, 23, 24, 25, 26, 27, 28, 29, 30, 31] (by decide +kernel) (by decide +kernel)
set_option maxRecDepth 20000 in
theorem gX3_rest_X3_isAbove : GoodIn wsX3_rest (wsV RX3 74 RX3 yX3_isAbove wsX3_isAbove) := goodIn_app (goodIn_of _ (by decide +kernel)) ggX3_rest_X3_isAbove
