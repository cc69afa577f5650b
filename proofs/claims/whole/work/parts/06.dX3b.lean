theorem dX3_rest_0 : decode cX3_rest 0 = .ok (.aload_n 0, 1) := by decide +kernel
theorem dX3_rest_1 : decode cX3_rest 1 = .ok (.invokevirtual 71, 3) := by decide +kernel
theorem dX3_rest_4 : decode cX3_rest 4 = .ok (.aload_n 0, 1) := by decide +kernel
theorem dX3_rest_5 : decode cX3_rest 5 = .ok (.invokevirtual 74, 3) := by decide +kernel
theorem dX3_rest_8 : decode cX3_rest 8 = .ok (.ifCond .eq 150, 3) := by decide +kernel
theorem dX3_rest_11 : decode cX3_rest 11 = .ok (.iconst 0, 1) := by decide +kernel
theorem dX3_rest_12 : decode cX3_rest 12 = .ok (.istore_n 1, 1) := by decide +kernel
theorem dX3_rest_13 : decode cX3_rest 13 = .ok (.iload_n 1, 1) := by decide +kernel
theorem dX3_rest_14 : decode cX3_rest 14 = .ok (.bipush 40, 2) := by decide +kernel
theorem dX3_rest_16 : decode cX3_rest 16 = .ok (.if_icmp .ge 71, 3) := by decide +kernel
theorem dX3_rest_19 : decode cX3_rest 19 = .ok (.iload_n 1, 1) := by decide +kernel
theorem dX3_rest_20 : decode cX3_rest 20 = .ok (.bipush 16, 2) := by decide +kernel
theorem dX3_rest_22 : decode cX3_rest 22 = .ok (.iadd, 1) := by decide +kernel
theorem dX3_rest_23 : decode cX3_rest 23 = .ok (.bipush 40, 2) := by decide +kernel
theorem dX3_rest_25 : decode cX3_rest 25 = .ok (.if_icmp .ge 17, 3) := by decide +kernel
theorem dX3_rest_28 : decode cX3_rest 28 = .ok (.aload_n 0, 1) := by decide +kernel
theorem dX3_rest_29 : decode cX3_rest 29 = .ok (.getfield 34, 3) := by decide +kernel
theorem dX3_rest_32 : decode cX3_rest 32 = .ok (.iload_n 1, 1) := by decide +kernel
theorem dX3_rest_33 : decode cX3_rest 33 = .ok (.bipush 16, 2) := by decide +kernel
theorem dX3_rest_35 : decode cX3_rest 35 = .ok (.iadd, 1) := by decide +kernel
theorem dX3_rest_36 : decode cX3_rest 36 = .ok (.iaload, 1) := by decide +kernel
theorem dX3_rest_37 : decode cX3_rest 37 = .ok (.iconst 2, 1) := by decide +kernel
theorem dX3_rest_38 : decode cX3_rest 38 = .ok (.ishr, 1) := by decide +kernel
theorem dX3_rest_39 : decode cX3_rest 39 = .ok (.goto 4, 3) := by decide +kernel
theorem dX3_rest_42 : decode cX3_rest 42 = .ok (.iconst 0, 1) := by decide +kernel
theorem dX3_rest_43 : decode cX3_rest 43 = .ok (.istore_n 2, 1) := by decide +kernel
theorem dX3_rest_44 : decode cX3_rest 44 = .ok (.iload_n 1, 1) := by decide +kernel
theorem dX3_rest_45 : decode cX3_rest 45 = .ok (.bipush 17, 2) := by decide +kernel
theorem dX3_rest_47 : decode cX3_rest 47 = .ok (.iadd, 1) := by decide +kernel
theorem dX3_rest_48 : decode cX3_rest 48 = .ok (.bipush 40, 2) := by decide +kernel
theorem dX3_rest_50 : decode cX3_rest 50 = .ok (.if_icmp .ge 20, 3) := by decide +kernel
theorem dX3_rest_53 : decode cX3_rest 53 = .ok (.aload_n 0, 1) := by decide +kernel
theorem dX3_rest_54 : decode cX3_rest 54 = .ok (.getfield 34, 3) := by decide +kernel
theorem dX3_rest_57 : decode cX3_rest 57 = .ok (.iload_n 1, 1) := by decide +kernel
theorem dX3_rest_58 : decode cX3_rest 58 = .ok (.bipush 17, 2) := by decide +kernel
theorem dX3_rest_60 : decode cX3_rest 60 = .ok (.iadd, 1) := by decide +kernel
theorem dX3_rest_61 : decode cX3_rest 61 = .ok (.iaload, 1) := by decide +kernel
theorem dX3_rest_62 : decode cX3_rest 62 = .ok (.iconst 3, 1) := by decide +kernel
theorem dX3_rest_63 : decode cX3_rest 63 = .ok (.iand, 1) := by decide +kernel
theorem dX3_rest_64 : decode cX3_rest 64 = .ok (.bipush 6, 2) := by decide +kernel
theorem dX3_rest_66 : decode cX3_rest 66 = .ok (.ishl, 1) := by decide +kernel
theorem dX3_rest_67 : decode cX3_rest 67 = .ok (.goto 4, 3) := by decide +kernel
theorem dX3_rest_70 : decode cX3_rest 70 = .ok (.iconst 0, 1) := by decide +kernel
theorem dX3_rest_71 : decode cX3_rest 71 = .ok (.istore_n 3, 1) := by decide +kernel
theorem dX3_rest_72 : decode cX3_rest 72 = .ok (.aload_n 0, 1) := by decide +kernel
theorem dX3_rest_73 : decode cX3_rest 73 = .ok (.getfield 43, 3) := by decide +kernel
theorem dX3_rest_76 : decode cX3_rest 76 = .ok (.iload_n 1, 1) := by decide +kernel
theorem dX3_rest_77 : decode cX3_rest 77 = .ok (.iload_n 2, 1) := by decide +kernel
theorem dX3_rest_78 : decode cX3_rest 78 = .ok (.iload_n 3, 1) := by decide +kernel
theorem dX3_rest_79 : decode cX3_rest 79 = .ok (.ior, 1) := by decide +kernel
theorem dX3_rest_80 : decode cX3_rest 80 = .ok (.iastore, 1) := by decide +kernel
theorem dX3_rest_81 : decode cX3_rest 81 = .ok (.iinc 1 1, 3) := by decide +kernel
theorem dX3_rest_84 : decode cX3_rest 84 = .ok (.goto (-71), 3) := by decide +kernel
theorem dX3_rest_87 : decode cX3_rest 87 = .ok (.bipush 17, 2) := by decide +kernel
theorem dX3_rest_89 : decode cX3_rest 89 = .ok (.istore_n 1, 1) := by decide +kernel
theorem dX3_rest_90 : decode cX3_rest 90 = .ok (.iload_n 1, 1) := by decide +kernel
theorem dX3_rest_91 : decode cX3_rest 91 = .ok (.bipush 40, 2) := by decide +kernel
theorem dX3_rest_93 : decode cX3_rest 93 = .ok (.if_icmp .ge 16, 3) := by decide +kernel
theorem dX3_rest_96 : decode cX3_rest 96 = .ok (.aload_n 0, 1) := by decide +kernel
theorem dX3_rest_97 : decode cX3_rest 97 = .ok (.getfield 34, 3) := by decide +kernel
theorem dX3_rest_100 : decode cX3_rest 100 = .ok (.iload_n 1, 1) := by decide +kernel
theorem dX3_rest_101 : decode cX3_rest 101 = .ok (.iconst 0, 1) := by decide +kernel
theorem dX3_rest_102 : decode cX3_rest 102 = .ok (.iastore, 1) := by decide +kernel
theorem dX3_rest_103 : decode cX3_rest 103 = .ok (.iinc 1 1, 3) := by decide +kernel
theorem dX3_rest_106 : decode cX3_rest 106 = .ok (.goto (-16), 3) := by decide +kernel
theorem dX3_rest_109 : decode cX3_rest 109 = .ok (.aload_n 0, 1) := by decide +kernel
theorem dX3_rest_110 : decode cX3_rest 110 = .ok (.getfield 34, 3) := by decide +kernel
theorem dX3_rest_113 : decode cX3_rest 113 = .ok (.bipush 16, 2) := by decide +kernel
theorem dX3_rest_115 : decode cX3_rest 115 = .ok (.dup2, 1) := by decide +kernel
theorem dX3_rest_116 : decode cX3_rest 116 = .ok (.iaload, 1) := by decide +kernel
theorem dX3_rest_117 : decode cX3_rest 117 = .ok (.iconst 3, 1) := by decide +kernel
theorem dX3_rest_118 : decode cX3_rest 118 = .ok (.iand, 1) := by decide +kernel
theorem dX3_rest_119 : decode cX3_rest 119 = .ok (.iastore, 1) := by decide +kernel
theorem dX3_rest_120 : decode cX3_rest 120 = .ok (.iconst 0, 1) := by decide +kernel
theorem dX3_rest_121 : decode cX3_rest 121 = .ok (.istore_n 1, 1) := by decide +kernel
theorem dX3_rest_122 : decode cX3_rest 122 = .ok (.iload_n 1, 1) := by decide +kernel
theorem dX3_rest_123 : decode cX3_rest 123 = .ok (.bipush 40, 2) := by decide +kernel
theorem dX3_rest_125 : decode cX3_rest 125 = .ok (.if_icmp .ge 26, 3) := by decide +kernel
theorem dX3_rest_128 : decode cX3_rest 128 = .ok (.aload_n 0, 1) := by decide +kernel
theorem dX3_rest_129 : decode cX3_rest 129 = .ok (.getfield 34, 3) := by decide +kernel
theorem dX3_rest_132 : decode cX3_rest 132 = .ok (.iload_n 1, 1) := by decide +kernel
theorem dX3_rest_133 : decode cX3_rest 133 = .ok (.dup2, 1) := by decide +kernel
theorem dX3_rest_134 : decode cX3_rest 134 = .ok (.iaload, 1) := by decide +kernel
theorem dX3_rest_135 : decode cX3_rest 135 = .ok (.iconst 5, 1) := by decide +kernel
theorem dX3_rest_136 : decode cX3_rest 136 = .ok (.aload_n 0, 1) := by decide +kernel
theorem dX3_rest_137 : decode cX3_rest 137 = .ok (.getfield 43, 3) := by decide +kernel
theorem dX3_rest_140 : decode cX3_rest 140 = .ok (.iload_n 1, 1) := by decide +kernel
theorem dX3_rest_141 : decode cX3_rest 141 = .ok (.iaload, 1) := by decide +kernel
theorem dX3_rest_142 : decode cX3_rest 142 = .ok (.imul, 1) := by decide +kernel
theorem dX3_rest_143 : decode cX3_rest 143 = .ok (.iadd, 1) := by decide +kernel
theorem dX3_rest_144 : decode cX3_rest 144 = .ok (.iastore, 1) := by decide +kernel
theorem dX3_rest_145 : decode cX3_rest 145 = .ok (.iinc 1 1, 3) := by decide +kernel
theorem dX3_rest_148 : decode cX3_rest 148 = .ok (.goto (-26), 3) := by decide +kernel
theorem dX3_rest_151 : decode cX3_rest 151 = .ok (.aload_n 0, 1) := by decide +kernel
theorem dX3_rest_152 : decode cX3_rest 152 = .ok (.invokevirtual 71, 3) := by decide +kernel
theorem dX3_rest_155 : decode cX3_rest 155 = .ok (.goto (-151), 3) := by decide +kernel
theorem dX3_rest_158 : decode cX3_rest 158 = .ok (.aload_n 0, 1) := by decide +kernel
theorem dX3_rest_159 : decode cX3_rest 159 = .ok (.getfield 34, 3) := by decide +kernel
theorem dX3_rest_162 : decode cX3_rest 162 = .ok (.iconst 0, 1) := by decide +kernel
theorem dX3_rest_163 : decode cX3_rest 163 = .ok (.dup2, 1) := by decide +kernel
theorem dX3_rest_164 : decode cX3_rest 164 = .ok (.iaload, 1) := by decide +kernel
theorem dX3_rest_165 : decode cX3_rest 165 = .ok (.iconst 5, 1) := by decide +kernel
theorem dX3_rest_166 : decode cX3_rest 166 = .ok (.iadd, 1) := by decide +kernel
theorem dX3_rest_167 : decode cX3_rest 167 = .ok (.iastore, 1) := by decide +kernel
theorem dX3_rest_168 : decode cX3_rest 168 = .ok (.aload_n 0, 1) := by decide +kernel
theorem dX3_rest_169 : decode cX3_rest 169 = .ok (.invokevirtual 71, 3) := by decide +kernel
theorem dX3_rest_172 : decode cX3_rest 172 = .ok (.aload_n 0, 1) := by decide +kernel
theorem dX3_rest_173 : decode cX3_rest 173 = .ok (.invokevirtual 74, 3) := by decide +kernel
theorem dX3_rest_176 : decode cX3_rest 176 = .ok (.istore_n 1, 1) := by decide +kernel
theorem dX3_rest_177 : decode cX3_rest 177 = .ok (.iload_n 1, 1) := by decide +kernel
theorem dX3_rest_178 : decode cX3_rest 178 = .ok (.ifCond .eq 17, 3) := by decide +kernel
theorem dX3_rest_181 : decode cX3_rest 181 = .ok (.aload_n 0, 1) := by decide +kernel
theorem dX3_rest_182 : decode cX3_rest 182 = .ok (.getfield 34, 3) := by decide +kernel
theorem dX3_rest_185 : decode cX3_rest 185 = .ok (.bipush 16, 2) := by decide +kernel
theorem dX3_rest_187 : decode cX3_rest 187 = .ok (.dup2, 1) := by decide +kernel
theorem dX3_rest_188 : decode cX3_rest 188 = .ok (.iaload, 1) := by decide +kernel
theorem dX3_rest_189 : decode cX3_rest 189 = .ok (.iconst 3, 1) := by decide +kernel
theorem dX3_rest_190 : decode cX3_rest 190 = .ok (.iand, 1) := by decide +kernel
theorem dX3_rest_191 : decode cX3_rest 191 = .ok (.iastore, 1) := by decide +kernel
theorem dX3_rest_192 : decode cX3_rest 192 = .ok (.goto 17, 3) := by decide +kernel
theorem dX3_rest_195 : decode cX3_rest 195 = .ok (.aload_n 0, 1) := by decide +kernel
theorem dX3_rest_196 : decode cX3_rest 196 = .ok (.getfield 34, 3) := by decide +kernel
theorem dX3_rest_199 : decode cX3_rest 199 = .ok (.iconst 0, 1) := by decide +kernel
theorem dX3_rest_200 : decode cX3_rest 200 = .ok (.dup2, 1) := by decide +kernel
theorem dX3_rest_201 : decode cX3_rest 201 = .ok (.iaload, 1) := by decide +kernel
theorem dX3_rest_202 : decode cX3_rest 202 = .ok (.iconst 5, 1) := by decide +kernel
theorem dX3_rest_203 : decode cX3_rest 203 = .ok (.isub, 1) := by decide +kernel
theorem dX3_rest_204 : decode cX3_rest 204 = .ok (.iastore, 1) := by decide +kernel
theorem dX3_rest_205 : decode cX3_rest 205 = .ok (.aload_n 0, 1) := by decide +kernel
theorem dX3_rest_206 : decode cX3_rest 206 = .ok (.invokevirtual 71, 3) := by decide +kernel
theorem dX3_rest_209 : decode cX3_rest 209 = .ok (.return_, 1) := by decide +kernel
set_option maxRecDepth 20000 in
theorem ggX3_take_X3_carry : GoodIn wsX3_take wsX3_carry := goodIn_r _ [9, 1, 19, 20, 21, 22, 23, 24, 25, 26, 27, 28, 29, 30, 31, 32, 33, 34, 35, 36, 37, 38] (by decide +kernel) (by decide +kernel)
set_option maxRecDepth 20000 in
theorem gX3_take_X3_carry : GoodIn wsX3_take (wsV RX3 71 RX3 yX3_carry wsX3_carry) := goodIn_app (goodIn_of _ (by decide +kernel)) ggX3_take_X3_carry
set_option maxRecDepth 20000 in
theorem ggX3_take_X3_rest : GoodIn wsX3_take wsX3_rest := goodIn_r _ [13, 1, 14, 5, 6, 7, 8, 9, 15, 16, 17, 18, 19, 20, 21, 22, 23, 24, 25, 26, 27, 28, 29, 30, 31, 32, 33, 34, 35, 36, 37, 38] (by decide +kernel) (by decide +kernel)
set_option maxRecDepth 20000 in
theorem gX3_take_X3_rest : GoodIn wsX3_take (wsV RX3 78 RX3 yX3_rest wsX3_rest) := goodIn_app (goodIn_of _ (by decide +kernel)) ggX3_take_X3_rest
theorem dX3_take_0 : decode cX3_take 0 = .ok (.iconst 0, 1) := by decide +kernel
theorem dX3_take_1 : decode cX3_take 1 = .ok (.istore_n 1, 1) := by decide +kernel
theorem dX3_take_2 : decode cX3_take 2 = .ok (.iload_n 1, 1) := by decide +kernel
theorem dX3_take_3 : decode cX3_take 3 = .ok (.bipush 16, 2) := by decide +kernel
theorem dX3_take_5 : decode cX3_take 5 = .ok (.if_icmp .ge 24, 3) := by decide +kernel
theorem dX3_take_8 : decode cX3_take 8 = .ok (.aload_n 0, 1) := by decide +kernel
theorem dX3_take_9 : decode cX3_take 9 = .ok (.getfield 34, 3) := by decide +kernel
theorem dX3_take_12 : decode cX3_take 12 = .ok (.iload_n 1, 1) := by decide +kernel
theorem dX3_take_13 : decode cX3_take 13 = .ok (.dup2, 1) := by decide +kernel
theorem dX3_take_14 : decode cX3_take 14 = .ok (.iaload, 1) := by decide +kernel
theorem dX3_take_15 : decode cX3_take 15 = .ok (.aload_n 0, 1) := by decide +kernel
theorem dX3_take_16 : decode cX3_take 16 = .ok (.getfield 49, 3) := by decide +kernel
theorem dX3_take_19 : decode cX3_take 19 = .ok (.iload_n 1, 1) := by decide +kernel
theorem dX3_take_20 : decode cX3_take 20 = .ok (.iaload, 1) := by decide +kernel
theorem dX3_take_21 : decode cX3_take 21 = .ok (.iadd, 1) := by decide +kernel
theorem dX3_take_22 : decode cX3_take 22 = .ok (.iastore, 1) := by decide +kernel
theorem dX3_take_23 : decode cX3_take 23 = .ok (.iinc 1 1, 3) := by decide +kernel
theorem dX3_take_26 : decode cX3_take 26 = .ok (.goto (-24), 3) := by decide +kernel
theorem dX3_take_29 : decode cX3_take 29 = .ok (.aload_n 0, 1) := by decide +kernel
theorem dX3_take_30 : decode cX3_take 30 = .ok (.getfield 34, 3) := by decide +kernel
theorem dX3_take_33 : decode cX3_take 33 = .ok (.bipush 16, 2) := by decide +kernel
theorem dX3_take_35 : decode cX3_take 35 = .ok (.dup2, 1) := by decide +kernel
theorem dX3_take_36 : decode cX3_take 36 = .ok (.iaload, 1) := by decide +kernel
theorem dX3_take_37 : decode cX3_take 37 = .ok (.iconst 1, 1) := by decide +kernel
theorem dX3_take_38 : decode cX3_take 38 = .ok (.iadd, 1) := by decide +kernel
theorem dX3_take_39 : decode cX3_take 39 = .ok (.iastore, 1) := by decide +kernel
theorem dX3_take_40 : decode cX3_take 40 = .ok (.aload_n 0, 1) := by decide +kernel
theorem dX3_take_41 : decode cX3_take 41 = .ok (.invokevirtual 71, 3) := by decide +kernel
theorem dX3_take_44 : decode cX3_take 44 = .ok (.iconst 0, 1) := by decide +kernel
theorem dX3_take_45 : decode cX3_take 45 = .ok (.istore_n 1, 1) := by decide +kernel
theorem dX3_take_46 : decode cX3_take 46 = .ok (.iload_n 1, 1) := by decide +kernel
theorem dX3_take_47 : decode cX3_take 47 = .ok (.bipush 40, 2) := by decide +kernel
theorem dX3_take_49 : decode cX3_take 49 = .ok (.if_icmp .ge 16, 3) := by decide +kernel
theorem dX3_take_52 : decode cX3_take 52 = .ok (.aload_n 0, 1) := by decide +kernel
theorem dX3_take_53 : decode cX3_take 53 = .ok (.getfield 40, 3) := by decide +kernel
theorem dX3_take_56 : decode cX3_take 56 = .ok (.iload_n 1, 1) := by decide +kernel
theorem dX3_take_57 : decode cX3_take 57 = .ok (.iconst 0, 1) := by decide +kernel
theorem dX3_take_58 : decode cX3_take 58 = .ok (.iastore, 1) := by decide +kernel
theorem dX3_take_59 : decode cX3_take 59 = .ok (.iinc 1 1, 3) := by decide +kernel
theorem dX3_take_62 : decode cX3_take 62 = .ok (.goto (-16), 3) := by decide +kernel
theorem dX3_take_65 : decode cX3_take 65 = .ok (.iconst 0, 1) := by decide +kernel
theorem dX3_take_66 : decode cX3_take 66 = .ok (.istore_n 1, 1) := by decide +kernel
theorem dX3_take_67 : decode cX3_take 67 = .ok (.iload_n 1, 1) := by decide +kernel
theorem dX3_take_68 : decode cX3_take 68 = .ok (.bipush 18, 2) := by decide +kernel
theorem dX3_take_70 : decode cX3_take 70 = .ok (.if_icmp .ge 47, 3) := by decide +kernel
theorem dX3_take_73 : decode cX3_take 73 = .ok (.iconst 0, 1) := by decide +kernel
theorem dX3_take_74 : decode cX3_take 74 = .ok (.istore_n 2, 1) := by decide +kernel
theorem dX3_take_75 : decode cX3_take 75 = .ok (.iload_n 2, 1) := by decide +kernel
theorem dX3_take_76 : decode cX3_take 76 = .ok (.bipush 16, 2) := by decide +kernel
theorem dX3_take_78 : decode cX3_take 78 = .ok (.if_icmp .ge 33, 3) := by decide +kernel
theorem dX3_take_81 : decode cX3_take 81 = .ok (.aload_n 0, 1) := by decide +kernel
theorem dX3_take_82 : decode cX3_take 82 = .ok (.getfield 40, 3) := by decide +kernel
theorem dX3_take_85 : decode cX3_take 85 = .ok (.iload_n 1, 1) := by decide +kernel
theorem dX3_take_86 : decode cX3_take 86 = .ok (.iload_n 2, 1) := by decide +kernel
theorem dX3_take_87 : decode cX3_take 87 = .ok (.iadd, 1) := by decide +kernel
theorem dX3_take_88 : decode cX3_take 88 = .ok (.dup2, 1) := by decide +kernel
theorem dX3_take_89 : decode cX3_take 89 = .ok (.iaload, 1) := by decide +kernel
theorem dX3_take_90 : decode cX3_take 90 = .ok (.aload_n 0, 1) := by decide +kernel
theorem dX3_take_91 : decode cX3_take 91 = .ok (.getfield 34, 3) := by decide +kernel
theorem dX3_take_94 : decode cX3_take 94 = .ok (.iload_n 1, 1) := by decide +kernel
theorem dX3_take_95 : decode cX3_take 95 = .ok (.iaload, 1) := by decide +kernel
theorem dX3_take_96 : decode cX3_take 96 = .ok (.aload_n 0, 1) := by decide +kernel
theorem dX3_take_97 : decode cX3_take 97 = .ok (.getfield 37, 3) := by decide +kernel
theorem dX3_take_100 : decode cX3_take 100 = .ok (.iload_n 2, 1) := by decide +kernel
theorem dX3_take_101 : decode cX3_take 101 = .ok (.iaload, 1) := by decide +kernel
theorem dX3_take_102 : decode cX3_take 102 = .ok (.imul, 1) := by decide +kernel
theorem dX3_take_103 : decode cX3_take 103 = .ok (.iadd, 1) := by decide +kernel
theorem dX3_take_104 : decode cX3_take 104 = .ok (.iastore, 1) := by decide +kernel
theorem dX3_take_105 : decode cX3_take 105 = .ok (.iinc 2 1, 3) := by decide +kernel
theorem dX3_take_108 : decode cX3_take 108 = .ok (.goto (-33), 3) := by decide +kernel
theorem dX3_take_111 : decode cX3_take 111 = .ok (.iinc 1 1, 3) := by decide +kernel
theorem dX3_take_114 : decode cX3_take 114 = .ok (.goto (-47), 3) := by decide +kernel
theorem dX3_take_117 : decode cX3_take 117 = .ok (.iconst 0, 1) := by decide +kernel
theorem dX3_take_118 : decode cX3_take 118 = .ok (.istore_n 1, 1) := by decide +kernel
theorem dX3_take_119 : decode cX3_take 119 = .ok (.iload_n 1, 1) := by decide +kernel
theorem dX3_take_120 : decode cX3_take 120 = .ok (.bipush 40, 2) := by decide +kernel
theorem dX3_take_122 : decode cX3_take 122 = .ok (.if_icmp .ge 21, 3) := by decide +kernel
theorem dX3_take_125 : decode cX3_take 125 = .ok (.aload_n 0, 1) := by decide +kernel
theorem dX3_take_126 : decode cX3_take 126 = .ok (.getfield 34, 3) := by decide +kernel
theorem dX3_take_129 : decode cX3_take 129 = .ok (.iload_n 1, 1) := by decide +kernel
theorem dX3_take_130 : decode cX3_take 130 = .ok (.aload_n 0, 1) := by decide +kernel
theorem dX3_take_131 : decode cX3_take 131 = .ok (.getfield 40, 3) := by decide +kernel
theorem dX3_take_134 : decode cX3_take 134 = .ok (.iload_n 1, 1) := by decide +kernel
theorem dX3_take_135 : decode cX3_take 135 = .ok (.iaload, 1) := by decide +kernel
theorem dX3_take_136 : decode cX3_take 136 = .ok (.iastore, 1) := by decide +kernel
theorem dX3_take_137 : decode cX3_take 137 = .ok (.iinc 1 1, 3) := by decide +kernel
theorem dX3_take_140 : decode cX3_take 140 = .ok (.goto (-21), 3) := by decide +kernel
theorem dX3_take_143 : decode cX3_take 143 = .ok (.aload_n 0, 1) := by decide +kernel
theorem dX3_take_144 : decode cX3_take 144 = .ok (.invokevirtual 78, 3) := by decide +kernel
theorem dX3_take_147 : decode cX3_take 147 = .ok (.return_, 1) := by decide +kernel
set_option maxRecDepth 20000 in
theorem ggX3_tag0_X3_block : GoodIn wsX3_tag0 wsX3_block := goodIn_r _ [15, 16, 17, 18, 19, 20, 21, 22, 23, 24, 25, 26, 14, 27, 28, 29, 30, 53, 54, 55, 56, 57, 58, 59, 60, 61, 62, 63, 64, 65, 66, 67, 68, 69, 70, 71, 72] (by decide +kernel) (by decide +kernel)
set_option maxRecDepth 20000 in
theorem gX3_tag0_X3_block : GoodIn wsX3_tag0 (wsV RX3 81 RX3 yX3_block wsX3_block) := goodIn_app (goodIn_of _ (by decide +kernel)) ggX3_tag0_X3_block
set_option maxRecDepth 20000 in
theorem ggX3_tag0_X3_byteOf : GoodIn wsX3_tag0 wsX3_byteOf := goodIn_r _ [34, 23, 53, 54, 55, 56, 57, 58, 59, 60, 61, 62, 63, 64, 65, 66, 67, 68, 69, 70, 71, 72] (by decide +kernel) (by decide +kernel)
set_option maxRecDepth 20000 in
theorem gX3_tag0_X3_byteOf : GoodIn wsX3_tag0 (wsV RX3 85 RX3 yX3_byteOf wsX3_byteOf) := goodIn_app (goodIn_of _ (by decide +kernel)) ggX3_tag0_X3_byteOf
set_option maxRecDepth 20000 in
theorem ggX3_tag0_X3_take : GoodIn wsX3_tag0 wsX3_take := goodIn_r _ [38, 3, 5, 39, 1, 40, 41, 42, 14, 43, 44, 45, 46, 47, 48, 49, 50, 51, 52, 53, 54, 55, 56, 57, 58, 59, 60, 61, 62, 63, 64, 65, 66, 67, 68, 69, 70, 71, 72] (by decide +kernel) (by decide +kernel)
set_option maxRecDepth 20000 in
theorem gX3_tag0_X3_take : GoodIn wsX3_tag0 (wsV RX3 92 RX3 yX3_take wsX3_take) := goodIn_app (goodIn_of _ (by decide +kernel)) ggX3_tag0_X3_take
theorem dX3_tag0_0 : decode cX3_tag0 0 = .ok (.aload_n 0, 1) := by decide +kernel
theorem dX3_tag0_1 : decode cX3_tag0 1 = .ok (.iconst 0, 1) := by decide +kernel
theorem dX3_tag0_2 : decode cX3_tag0 2 = .ok (.invokevirtual 81, 3) := by decide +kernel
theorem dX3_tag0_5 : decode cX3_tag0 5 = .ok (.iconst 0, 1) := by decide +kernel
theorem dX3_tag0_6 : decode cX3_tag0 6 = .ok (.istore_n 1, 1) := by decide +kernel
theorem dX3_tag0_7 : decode cX3_tag0 7 = .ok (.iload_n 1, 1) := by decide +kernel
theorem dX3_tag0_8 : decode cX3_tag0 8 = .ok (.bipush 16, 2) := by decide +kernel
theorem dX3_tag0_10 : decode cX3_tag0 10 = .ok (.if_icmp .ge 68, 3) := by decide +kernel
theorem dX3_tag0_13 : decode cX3_tag0 13 = .ok (.aload_n 0, 1) := by decide +kernel
theorem dX3_tag0_14 : decode cX3_tag0 14 = .ok (.iload_n 1, 1) := by decide +kernel
theorem dX3_tag0_15 : decode cX3_tag0 15 = .ok (.invokevirtual 85, 3) := by decide +kernel
theorem dX3_tag0_18 : decode cX3_tag0 18 = .ok (.istore_n 2, 1) := by decide +kernel
theorem dX3_tag0_19 : decode cX3_tag0 19 = .ok (.aload_n 0, 1) := by decide +kernel
theorem dX3_tag0_20 : decode cX3_tag0 20 = .ok (.getfield 37, 3) := by decide +kernel
theorem dX3_tag0_23 : decode cX3_tag0 23 = .ok (.iload_n 1, 1) := by decide +kernel
theorem dX3_tag0_24 : decode cX3_tag0 24 = .ok (.iload_n 1, 1) := by decide +kernel
theorem dX3_tag0_25 : decode cX3_tag0 25 = .ok (.iconst 4, 1) := by decide +kernel
theorem dX3_tag0_26 : decode cX3_tag0 26 = .ok (.irem, 1) := by decide +kernel
theorem dX3_tag0_27 : decode cX3_tag0 27 = .ok (.iconst 3, 1) := by decide +kernel
theorem dX3_tag0_28 : decode cX3_tag0 28 = .ok (.if_icmp .ne 10, 3) := by decide +kernel
theorem dX3_tag0_31 : decode cX3_tag0 31 = .ok (.iload_n 2, 1) := by decide +kernel
theorem dX3_tag0_32 : decode cX3_tag0 32 = .ok (.bipush 15, 2) := by decide +kernel
theorem dX3_tag0_34 : decode cX3_tag0 34 = .ok (.iand, 1) := by decide +kernel
theorem dX3_tag0_35 : decode cX3_tag0 35 = .ok (.goto 22, 3) := by decide +kernel
theorem dX3_tag0_38 : decode cX3_tag0 38 = .ok (.iload_n 1, 1) := by decide +kernel
theorem dX3_tag0_39 : decode cX3_tag0 39 = .ok (.iconst 4, 1) := by decide +kernel
theorem dX3_tag0_40 : decode cX3_tag0 40 = .ok (.irem, 1) := by decide +kernel
theorem dX3_tag0_41 : decode cX3_tag0 41 = .ok (.ifCond .ne 15, 3) := by decide +kernel
theorem dX3_tag0_44 : decode cX3_tag0 44 = .ok (.iload_n 1, 1) := by decide +kernel
theorem dX3_tag0_45 : decode cX3_tag0 45 = .ok (.ifCond .le 11, 3) := by decide +kernel
theorem dX3_tag0_48 : decode cX3_tag0 48 = .ok (.iload_n 2, 1) := by decide +kernel
theorem dX3_tag0_49 : decode cX3_tag0 49 = .ok (.sipush 252, 3) := by decide +kernel
theorem dX3_tag0_52 : decode cX3_tag0 52 = .ok (.iand, 1) := by decide +kernel
theorem dX3_tag0_53 : decode cX3_tag0 53 = .ok (.goto 4, 3) := by decide +kernel
theorem dX3_tag0_56 : decode cX3_tag0 56 = .ok (.iload_n 2, 1) := by decide +kernel
theorem dX3_tag0_57 : decode cX3_tag0 57 = .ok (.iastore, 1) := by decide +kernel
theorem dX3_tag0_58 : decode cX3_tag0 58 = .ok (.aload_n 0, 1) := by decide +kernel
theorem dX3_tag0_59 : decode cX3_tag0 59 = .ok (.getfield 46, 3) := by decide +kernel
theorem dX3_tag0_62 : decode cX3_tag0 62 = .ok (.iload_n 1, 1) := by decide +kernel
theorem dX3_tag0_63 : decode cX3_tag0 63 = .ok (.aload_n 0, 1) := by decide +kernel
theorem dX3_tag0_64 : decode cX3_tag0 64 = .ok (.bipush 16, 2) := by decide +kernel
theorem dX3_tag0_66 : decode cX3_tag0 66 = .ok (.iload_n 1, 1) := by decide +kernel
theorem dX3_tag0_67 : decode cX3_tag0 67 = .ok (.iadd, 1) := by decide +kernel
theorem dX3_tag0_68 : decode cX3_tag0 68 = .ok (.invokevirtual 85, 3) := by decide +kernel
theorem dX3_tag0_71 : decode cX3_tag0 71 = .ok (.iastore, 1) := by decide +kernel
theorem dX3_tag0_72 : decode cX3_tag0 72 = .ok (.iinc 1 1, 3) := by decide +kernel
theorem dX3_tag0_75 : decode cX3_tag0 75 = .ok (.goto (-68), 3) := by decide +kernel
theorem dX3_tag0_78 : decode cX3_tag0 78 = .ok (.iconst 0, 1) := by decide +kernel
theorem dX3_tag0_79 : decode cX3_tag0 79 = .ok (.istore_n 1, 1) := by decide +kernel
theorem dX3_tag0_80 : decode cX3_tag0 80 = .ok (.iload_n 1, 1) := by decide +kernel
theorem dX3_tag0_81 : decode cX3_tag0 81 = .ok (.bipush 40, 2) := by decide +kernel
theorem dX3_tag0_83 : decode cX3_tag0 83 = .ok (.if_icmp .ge 16, 3) := by decide +kernel
theorem dX3_tag0_86 : decode cX3_tag0 86 = .ok (.aload_n 0, 1) := by decide +kernel
theorem dX3_tag0_87 : decode cX3_tag0 87 = .ok (.getfield 34, 3) := by decide +kernel
theorem dX3_tag0_90 : decode cX3_tag0 90 = .ok (.iload_n 1, 1) := by decide +kernel
theorem dX3_tag0_91 : decode cX3_tag0 91 = .ok (.iconst 0, 1) := by decide +kernel
theorem dX3_tag0_92 : decode cX3_tag0 92 = .ok (.iastore, 1) := by decide +kernel
theorem dX3_tag0_93 : decode cX3_tag0 93 = .ok (.iinc 1 1, 3) := by decide +kernel
theorem dX3_tag0_96 : decode cX3_tag0 96 = .ok (.goto (-16), 3) := by decide +kernel
theorem dX3_tag0_99 : decode cX3_tag0 99 = .ok (.iconst 0, 1) := by decide +kernel
theorem dX3_tag0_100 : decode cX3_tag0 100 = .ok (.istore_n 1, 1) := by decide +kernel
theorem dX3_tag0_101 : decode cX3_tag0 101 = .ok (.iload_n 1, 1) := by decide +kernel
theorem dX3_tag0_102 : decode cX3_tag0 102 = .ok (.aload_n 0, 1) := by decide +kernel
theorem dX3_tag0_103 : decode cX3_tag0 103 = .ok (.getfield 89, 3) := by decide +kernel
theorem dX3_tag0_106 : decode cX3_tag0 106 = .ok (.if_icmp .ge 55, 3) := by decide +kernel
theorem dX3_tag0_109 : decode cX3_tag0 109 = .ok (.iconst 0, 1) := by decide +kernel
theorem dX3_tag0_110 : decode cX3_tag0 110 = .ok (.istore_n 2, 1) := by decide +kernel
theorem dX3_tag0_111 : decode cX3_tag0 111 = .ok (.iload_n 2, 1) := by decide +kernel
theorem dX3_tag0_112 : decode cX3_tag0 112 = .ok (.bipush 16, 2) := by decide +kernel
theorem dX3_tag0_114 : decode cX3_tag0 114 = .ok (.if_icmp .ge 37, 3) := by decide +kernel
theorem dX3_tag0_117 : decode cX3_tag0 117 = .ok (.aload_n 0, 1) := by decide +kernel
theorem dX3_tag0_118 : decode cX3_tag0 118 = .ok (.getfield 49, 3) := by decide +kernel
theorem dX3_tag0_121 : decode cX3_tag0 121 = .ok (.iload_n 2, 1) := by decide +kernel
theorem dX3_tag0_122 : decode cX3_tag0 122 = .ok (.iload_n 1, 1) := by decide +kernel
theorem dX3_tag0_123 : decode cX3_tag0 123 = .ok (.iload_n 2, 1) := by decide +kernel
theorem dX3_tag0_124 : decode cX3_tag0 124 = .ok (.iadd, 1) := by decide +kernel
theorem dX3_tag0_125 : decode cX3_tag0 125 = .ok (.aload_n 0, 1) := by decide +kernel
theorem dX3_tag0_126 : decode cX3_tag0 126 = .ok (.getfield 89, 3) := by decide +kernel
theorem dX3_tag0_129 : decode cX3_tag0 129 = .ok (.if_icmp .ge 14, 3) := by decide +kernel
theorem dX3_tag0_132 : decode cX3_tag0 132 = .ok (.aload_n 0, 1) := by decide +kernel
theorem dX3_tag0_133 : decode cX3_tag0 133 = .ok (.getfield 16, 3) := by decide +kernel
theorem dX3_tag0_136 : decode cX3_tag0 136 = .ok (.iload_n 1, 1) := by decide +kernel
theorem dX3_tag0_137 : decode cX3_tag0 137 = .ok (.iload_n 2, 1) := by decide +kernel
theorem dX3_tag0_138 : decode cX3_tag0 138 = .ok (.iadd, 1) := by decide +kernel
theorem dX3_tag0_139 : decode cX3_tag0 139 = .ok (.iaload, 1) := by decide +kernel
theorem dX3_tag0_140 : decode cX3_tag0 140 = .ok (.goto 4, 3) := by decide +kernel
theorem dX3_tag0_143 : decode cX3_tag0 143 = .ok (.iconst 0, 1) := by decide +kernel
theorem dX3_tag0_144 : decode cX3_tag0 144 = .ok (.iastore, 1) := by decide +kernel
theorem dX3_tag0_145 : decode cX3_tag0 145 = .ok (.iinc 2 1, 3) := by decide +kernel
theorem dX3_tag0_148 : decode cX3_tag0 148 = .ok (.goto (-37), 3) := by decide +kernel
theorem dX3_tag0_151 : decode cX3_tag0 151 = .ok (.aload_n 0, 1) := by decide +kernel
theorem dX3_tag0_152 : decode cX3_tag0 152 = .ok (.invokevirtual 92, 3) := by decide +kernel
theorem dX3_tag0_155 : decode cX3_tag0 155 = .ok (.iinc 1 16, 3) := by decide +kernel
theorem dX3_tag0_158 : decode cX3_tag0 158 = .ok (.goto (-57), 3) := by decide +kernel
theorem dX3_tag0_161 : decode cX3_tag0 161 = .ok (.iconst 0, 1) := by decide +kernel
theorem dX3_tag0_162 : decode cX3_tag0 162 = .ok (.istore_n 1, 1) := by decide +kernel
theorem dX3_tag0_163 : decode cX3_tag0 163 = .ok (.iload_n 1, 1) := by decide +kernel
theorem dX3_tag0_164 : decode cX3_tag0 164 = .ok (.aload_n 0, 1) := by decide +kernel
theorem dX3_tag0_165 : decode cX3_tag0 165 = .ok (.getfield 95, 3) := by decide +kernel
theorem dX3_tag0_168 : decode cX3_tag0 168 = .ok (.if_icmp .ge 73, 3) := by decide +kernel
theorem dX3_tag0_171 : decode cX3_tag0 171 = .ok (.iconst 0, 1) := by decide +kernel
theorem dX3_tag0_172 : decode cX3_tag0 172 = .ok (.istore_n 2, 1) := by decide +kernel
theorem dX3_tag0_173 : decode cX3_tag0 173 = .ok (.iload_n 2, 1) := by decide +kernel
theorem dX3_tag0_174 : decode cX3_tag0 174 = .ok (.bipush 16, 2) := by decide +kernel
theorem dX3_tag0_176 : decode cX3_tag0 176 = .ok (.if_icmp .ge 55, 3) := by decide +kernel
theorem dX3_tag0_179 : decode cX3_tag0 179 = .ok (.aload_n 0, 1) := by decide +kernel
theorem dX3_tag0_180 : decode cX3_tag0 180 = .ok (.getfield 49, 3) := by decide +kernel
theorem dX3_tag0_183 : decode cX3_tag0 183 = .ok (.iload_n 2, 1) := by decide +kernel
theorem dX3_tag0_184 : decode cX3_tag0 184 = .ok (.iload_n 1, 1) := by decide +kernel
theorem dX3_tag0_185 : decode cX3_tag0 185 = .ok (.iload_n 2, 1) := by decide +kernel
theorem dX3_tag0_186 : decode cX3_tag0 186 = .ok (.iadd, 1) := by decide +kernel
theorem dX3_tag0_187 : decode cX3_tag0 187 = .ok (.aload_n 0, 1) := by decide +kernel
theorem dX3_tag0_188 : decode cX3_tag0 188 = .ok (.getfield 95, 3) := by decide +kernel
theorem dX3_tag0_191 : decode cX3_tag0 191 = .ok (.if_icmp .ge 32, 3) := by decide +kernel
theorem dX3_tag0_194 : decode cX3_tag0 194 = .ok (.aload_n 0, 1) := by decide +kernel
theorem dX3_tag0_195 : decode cX3_tag0 195 = .ok (.getfield 98, 3) := by decide +kernel
theorem dX3_tag0_198 : decode cX3_tag0 198 = .ok (.ifCond .eq 14, 3) := by decide +kernel
theorem dX3_tag0_201 : decode cX3_tag0 201 = .ok (.aload_n 0, 1) := by decide +kernel
theorem dX3_tag0_202 : decode cX3_tag0 202 = .ok (.getfield 19, 3) := by decide +kernel
theorem dX3_tag0_205 : decode cX3_tag0 205 = .ok (.iload_n 1, 1) := by decide +kernel
theorem dX3_tag0_206 : decode cX3_tag0 206 = .ok (.iload_n 2, 1) := by decide +kernel
theorem dX3_tag0_207 : decode cX3_tag0 207 = .ok (.iadd, 1) := by decide +kernel
theorem dX3_tag0_208 : decode cX3_tag0 208 = .ok (.iaload, 1) := by decide +kernel
theorem dX3_tag0_209 : decode cX3_tag0 209 = .ok (.goto 15, 3) := by decide +kernel
theorem dX3_tag0_212 : decode cX3_tag0 212 = .ok (.aload_n 0, 1) := by decide +kernel
theorem dX3_tag0_213 : decode cX3_tag0 213 = .ok (.getfield 22, 3) := by decide +kernel
theorem dX3_tag0_216 : decode cX3_tag0 216 = .ok (.iload_n 1, 1) := by decide +kernel
theorem dX3_tag0_217 : decode cX3_tag0 217 = .ok (.iload_n 2, 1) := by decide +kernel
theorem dX3_tag0_218 : decode cX3_tag0 218 = .ok (.iadd, 1) := by decide +kernel
theorem dX3_tag0_219 : decode cX3_tag0 219 = .ok (.iaload, 1) := by decide +kernel
theorem dX3_tag0_220 : decode cX3_tag0 220 = .ok (.goto 4, 3) := by decide +kernel
theorem dX3_tag0_223 : decode cX3_tag0 223 = .ok (.iconst 0, 1) := by decide +kernel
theorem dX3_tag0_224 : decode cX3_tag0 224 = .ok (.iastore, 1) := by decide +kernel
theorem dX3_tag0_225 : decode cX3_tag0 225 = .ok (.iinc 2 1, 3) := by decide +kernel
theorem dX3_tag0_228 : decode cX3_tag0 228 = .ok (.goto (-55), 3) := by decide +kernel
theorem dX3_tag0_231 : decode cX3_tag0 231 = .ok (.aload_n 0, 1) := by decide +kernel
theorem dX3_tag0_232 : decode cX3_tag0 232 = .ok (.invokevirtual 92, 3) := by decide +kernel
theorem dX3_tag0_235 : decode cX3_tag0 235 = .ok (.iinc 1 16, 3) := by decide +kernel
theorem dX3_tag0_238 : decode cX3_tag0 238 = .ok (.goto (-75), 3) := by decide +kernel
theorem dX3_tag0_241 : decode cX3_tag0 241 = .ok (.iconst 0, 1) := by decide +kernel
theorem dX3_tag0_242 : decode cX3_tag0 242 = .ok (.istore_n 1, 1) := by decide +kernel
theorem dX3_tag0_243 : decode cX3_tag0 243 = .ok (.iload_n 1, 1) := by decide +kernel
theorem dX3_tag0_244 : decode cX3_tag0 244 = .ok (.bipush 16, 2) := by decide +kernel
theorem dX3_tag0_246 : decode cX3_tag0 246 = .ok (.if_icmp .ge 58, 3) := by decide +kernel
theorem dX3_tag0_249 : decode cX3_tag0 249 = .ok (.iload_n 1, 1) := by decide +kernel
theorem dX3_tag0_250 : decode cX3_tag0 250 = .ok (.bipush 8, 2) := by decide +kernel
theorem dX3_tag0_252 : decode cX3_tag0 252 = .ok (.if_icmp .ge 10, 3) := by decide +kernel
theorem dX3_tag0_255 : decode cX3_tag0 255 = .ok (.aload_n 0, 1) := by decide +kernel
theorem dX3_tag0_256 : decode cX3_tag0 256 = .ok (.getfield 89, 3) := by decide +kernel
theorem dX3_tag0_259 : decode cX3_tag0 259 = .ok (.goto 7, 3) := by decide +kernel
theorem dX3_tag0_262 : decode cX3_tag0 262 = .ok (.aload_n 0, 1) := by decide +kernel
theorem dX3_tag0_263 : decode cX3_tag0 263 = .ok (.getfield 95, 3) := by decide +kernel
theorem dX3_tag0_266 : decode cX3_tag0 266 = .ok (.istore_n 2, 1) := by decide +kernel
theorem dX3_tag0_267 : decode cX3_tag0 267 = .ok (.aload_n 0, 1) := by decide +kernel
theorem dX3_tag0_268 : decode cX3_tag0 268 = .ok (.getfield 49, 3) := by decide +kernel
theorem dX3_tag0_271 : decode cX3_tag0 271 = .ok (.iload_n 1, 1) := by decide +kernel
theorem dX3_tag0_272 : decode cX3_tag0 272 = .ok (.iload_n 1, 1) := by decide +kernel
theorem dX3_tag0_273 : decode cX3_tag0 273 = .ok (.bipush 8, 2) := by decide +kernel
theorem dX3_tag0_275 : decode cX3_tag0 275 = .ok (.irem, 1) := by decide +kernel
theorem dX3_tag0_276 : decode cX3_tag0 276 = .ok (.iconst 4, 1) := by decide +kernel
theorem dX3_tag0_277 : decode cX3_tag0 277 = .ok (.if_icmp .ge 19, 3) := by decide +kernel
theorem dX3_tag0_280 : decode cX3_tag0 280 = .ok (.iload_n 2, 1) := by decide +kernel
theorem dX3_tag0_281 : decode cX3_tag0 281 = .ok (.bipush 8, 2) := by decide +kernel
theorem dX3_tag0_283 : decode cX3_tag0 283 = .ok (.iload_n 1, 1) := by decide +kernel
theorem dX3_tag0_284 : decode cX3_tag0 284 = .ok (.bipush 8, 2) := by decide +kernel
theorem dX3_tag0_286 : decode cX3_tag0 286 = .ok (.irem, 1) := by decide +kernel
theorem dX3_tag0_287 : decode cX3_tag0 287 = .ok (.imul, 1) := by decide +kernel
theorem dX3_tag0_288 : decode cX3_tag0 288 = .ok (.ishr, 1) := by decide +kernel
theorem dX3_tag0_289 : decode cX3_tag0 289 = .ok (.sipush 255, 3) := by decide +kernel
theorem dX3_tag0_292 : decode cX3_tag0 292 = .ok (.iand, 1) := by decide +kernel
theorem dX3_tag0_293 : decode cX3_tag0 293 = .ok (.goto 4, 3) := by decide +kernel
theorem dX3_tag0_296 : decode cX3_tag0 296 = .ok (.iconst 0, 1) := by decide +kernel
theorem dX3_tag0_297 : decode cX3_tag0 297 = .ok (.iastore, 1) := by decide +kernel
theorem dX3_tag0_298 : decode cX3_tag0 298 = .ok (.iinc 1 1, 3) := by decide +kernel
theorem dX3_tag0_301 : decode cX3_tag0 301 = .ok (.goto (-58), 3) := by decide +kernel
theorem dX3_tag0_304 : decode cX3_tag0 304 = .ok (.aload_n 0, 1) := by decide +kernel
theorem dX3_tag0_305 : decode cX3_tag0 305 = .ok (.invokevirtual 92, 3) := by decide +kernel
theorem dX3_tag0_308 : decode cX3_tag0 308 = .ok (.iconst 0, 1) := by decide +kernel
theorem dX3_tag0_309 : decode cX3_tag0 309 = .ok (.istore_n 1, 1) := by decide +kernel
theorem dX3_tag0_310 : decode cX3_tag0 310 = .ok (.iconst 0, 1) := by decide +kernel
theorem dX3_tag0_311 : decode cX3_tag0 311 = .ok (.istore_n 2, 1) := by decide +kernel
theorem dX3_tag0_312 : decode cX3_tag0 312 = .ok (.iload_n 2, 1) := by decide +kernel
theorem dX3_tag0_313 : decode cX3_tag0 313 = .ok (.bipush 16, 2) := by decide +kernel
theorem dX3_tag0_315 : decode cX3_tag0 315 = .ok (.if_icmp .ge 41, 3) := by decide +kernel
theorem dX3_tag0_318 : decode cX3_tag0 318 = .ok (.iload_n 1, 1) := by decide +kernel
theorem dX3_tag0_319 : decode cX3_tag0 319 = .ok (.aload_n 0, 1) := by decide +kernel
theorem dX3_tag0_320 : decode cX3_tag0 320 = .ok (.getfield 34, 3) := by decide +kernel
theorem dX3_tag0_323 : decode cX3_tag0 323 = .ok (.iload_n 2, 1) := by decide +kernel
theorem dX3_tag0_324 : decode cX3_tag0 324 = .ok (.iaload, 1) := by decide +kernel
theorem dX3_tag0_325 : decode cX3_tag0 325 = .ok (.aload_n 0, 1) := by decide +kernel
theorem dX3_tag0_326 : decode cX3_tag0 326 = .ok (.getfield 46, 3) := by decide +kernel
theorem dX3_tag0_329 : decode cX3_tag0 329 = .ok (.iload_n 2, 1) := by decide +kernel
theorem dX3_tag0_330 : decode cX3_tag0 330 = .ok (.iaload, 1) := by decide +kernel
theorem dX3_tag0_331 : decode cX3_tag0 331 = .ok (.iadd, 1) := by decide +kernel
theorem dX3_tag0_332 : decode cX3_tag0 332 = .ok (.iadd, 1) := by decide +kernel
theorem dX3_tag0_333 : decode cX3_tag0 333 = .ok (.istore_n 1, 1) := by decide +kernel
theorem dX3_tag0_334 : decode cX3_tag0 334 = .ok (.aload_n 0, 1) := by decide +kernel
theorem dX3_tag0_335 : decode cX3_tag0 335 = .ok (.getfield 46, 3) := by decide +kernel
theorem dX3_tag0_338 : decode cX3_tag0 338 = .ok (.iload_n 2, 1) := by decide +kernel
theorem dX3_tag0_339 : decode cX3_tag0 339 = .ok (.iload_n 1, 1) := by decide +kernel
theorem dX3_tag0_340 : decode cX3_tag0 340 = .ok (.sipush 255, 3) := by decide +kernel
theorem dX3_tag0_343 : decode cX3_tag0 343 = .ok (.iand, 1) := by decide +kernel
theorem dX3_tag0_344 : decode cX3_tag0 344 = .ok (.iastore, 1) := by decide +kernel
theorem dX3_tag0_345 : decode cX3_tag0 345 = .ok (.iload_n 1, 1) := by decide +kernel
theorem dX3_tag0_346 : decode cX3_tag0 346 = .ok (.bipush 8, 2) := by decide +kernel
theorem dX3_tag0_348 : decode cX3_tag0 348 = .ok (.ishr, 1) := by decide +kernel
theorem dX3_tag0_349 : decode cX3_tag0 349 = .ok (.istore_n 1, 1) := by decide +kernel
theorem dX3_tag0_350 : decode cX3_tag0 350 = .ok (.iinc 2 1, 3) := by decide +kernel
theorem dX3_tag0_353 : decode cX3_tag0 353 = .ok (.goto (-41), 3) := by decide +kernel
theorem dX3_tag0_356 : decode cX3_tag0 356 = .ok (.return_, 1) := by decide +kernel
