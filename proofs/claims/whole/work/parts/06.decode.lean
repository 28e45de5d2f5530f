theorem dX8_step_88 : decode cX8_step 88 = .ok (.iadd, 1) := by decide +kernel
theorem dX8_step_89 : decode cX8_step 89 = .ok (.bipush 7, 2) := by decide +kernel
theorem dX8_step_91 : decode cX8_step 91 = .ok (.iand, 1) := by decide +kernel
theorem dX8_step_92 : decode cX8_step 92 = .ok (.iaload, 1) := by decide +kernel
theorem dX8_step_93 : decode cX8_step 93 = .ok (.iload_n 3, 1) := by decide +kernel
theorem dX8_step_94 : decode cX8_step 94 = .ok (.bipush 6, 2) := by decide +kernel
theorem dX8_step_96 : decode cX8_step 96 = .ok (.invokestatic 211, 3) := by decide +kernel
theorem dX8_step_99 : decode cX8_step 99 = .ok (.iload_n 3, 1) := by decide +kernel
theorem dX8_step_100 : decode cX8_step 100 = .ok (.bipush 11, 2) := by decide +kernel
theorem dX8_step_102 : decode cX8_step 102 = .ok (.invokestatic 211, 3) := by decide +kernel
theorem dX8_step_105 : decode cX8_step 105 = .ok (.ixor, 1) := by decide +kernel
theorem dX8_step_106 : decode cX8_step 106 = .ok (.iload_n 3, 1) := by decide +kernel
theorem dX8_step_107 : decode cX8_step 107 = .ok (.bipush 25, 2) := by decide +kernel
theorem dX8_step_109 : decode cX8_step 109 = .ok (.invokestatic 211, 3) := by decide +kernel
theorem dX8_step_112 : decode cX8_step 112 = .ok (.ixor, 1) := by decide +kernel
theorem dX8_step_113 : decode cX8_step 113 = .ok (.iadd, 1) := by decide +kernel
theorem dX8_step_114 : decode cX8_step 114 = .ok (.iload 5, 2) := by decide +kernel
theorem dX8_step_116 : decode cX8_step 116 = .ok (.iload_n 3, 1) := by decide +kernel
theorem dX8_step_117 : decode cX8_step 117 = .ok (.iload 4, 2) := by decide +kernel
theorem dX8_step_119 : decode cX8_step 119 = .ok (.iload 5, 2) := by decide +kernel
theorem dX8_step_121 : decode cX8_step 121 = .ok (.ixor, 1) := by decide +kernel
theorem dX8_step_122 : decode cX8_step 122 = .ok (.iand, 1) := by decide +kernel
theorem dX8_step_123 : decode cX8_step 123 = .ok (.ixor, 1) := by decide +kernel
theorem dX8_step_124 : decode cX8_step 124 = .ok (.iadd, 1) := by decide +kernel
theorem dX8_step_125 : decode cX8_step 125 = .ok (.aload_n 0, 1) := by decide +kernel
theorem dX8_step_126 : decode cX8_step 126 = .ok (.getfield 171, 3) := by decide +kernel
theorem dX8_step_129 : decode cX8_step 129 = .ok (.iload_n 1, 1) := by decide +kernel
theorem dX8_step_130 : decode cX8_step 130 = .ok (.iaload, 1) := by decide +kernel
theorem dX8_step_131 : decode cX8_step 131 = .ok (.iadd, 1) := by decide +kernel
theorem dX8_step_132 : decode cX8_step 132 = .ok (.aload_n 0, 1) := by decide +kernel
theorem dX8_step_133 : decode cX8_step 133 = .ok (.getfield 174, 3) := by decide +kernel
theorem dX8_step_136 : decode cX8_step 136 = .ok (.iload_n 1, 1) := by decide +kernel
theorem dX8_step_137 : decode cX8_step 137 = .ok (.bipush 15, 2) := by decide +kernel
theorem dX8_step_139 : decode cX8_step 139 = .ok (.iand, 1) := by decide +kernel
theorem dX8_step_140 : decode cX8_step 140 = .ok (.iaload, 1) := by decide +kernel
theorem dX8_step_141 : decode cX8_step 141 = .ok (.iadd, 1) := by decide +kernel
theorem dX8_step_142 : decode cX8_step 142 = .ok (.istore 9, 2) := by decide +kernel
theorem dX8_step_144 : decode cX8_step 144 = .ok (.iload 6, 2) := by decide +kernel
theorem dX8_step_146 : decode cX8_step 146 = .ok (.iconst 2, 1) := by decide +kernel
theorem dX8_step_147 : decode cX8_step 147 = .ok (.invokestatic 211, 3) := by decide +kernel
theorem dX8_step_150 : decode cX8_step 150 = .ok (.iload 6, 2) := by decide +kernel
theorem dX8_step_152 : decode cX8_step 152 = .ok (.bipush 13, 2) := by decide +kernel
theorem dX8_step_154 : decode cX8_step 154 = .ok (.invokestatic 211, 3) := by decide +kernel
theorem dX8_step_157 : decode cX8_step 157 = .ok (.ixor, 1) := by decide +kernel
theorem dX8_step_158 : decode cX8_step 158 = .ok (.iload 6, 2) := by decide +kernel
theorem dX8_step_160 : decode cX8_step 160 = .ok (.bipush 22, 2) := by decide +kernel
theorem dX8_step_162 : decode cX8_step 162 = .ok (.invokestatic 211, 3) := by decide +kernel
theorem dX8_step_165 : decode cX8_step 165 = .ok (.ixor, 1) := by decide +kernel
theorem dX8_step_166 : decode cX8_step 166 = .ok (.iload 6, 2) := by decide +kernel
theorem dX8_step_168 : decode cX8_step 168 = .ok (.iload 7, 2) := by decide +kernel
theorem dX8_step_170 : decode cX8_step 170 = .ok (.iload 8, 2) := by decide +kernel
theorem dX8_step_172 : decode cX8_step 172 = .ok (.ior, 1) := by decide +kernel
theorem dX8_step_173 : decode cX8_step 173 = .ok (.iand, 1) := by decide +kernel
theorem dX8_step_174 : decode cX8_step 174 = .ok (.iload 7, 2) := by decide +kernel
theorem dX8_step_176 : decode cX8_step 176 = .ok (.iload 8, 2) := by decide +kernel
theorem dX8_step_178 : decode cX8_step 178 = .ok (.iand, 1) := by decide +kernel
theorem dX8_step_179 : decode cX8_step 179 = .ok (.ior, 1) := by decide +kernel
theorem dX8_step_180 : decode cX8_step 180 = .ok (.iadd, 1) := by decide +kernel
theorem dX8_step_181 : decode cX8_step 181 = .ok (.istore 10, 2) := by decide +kernel
theorem dX8_step_183 : decode cX8_step 183 = .ok (.aload_n 0, 1) := by decide +kernel
theorem dX8_step_184 : decode cX8_step 184 = .ok (.getfield 177, 3) := by decide +kernel
theorem dX8_step_187 : decode cX8_step 187 = .ok (.iload_n 2, 1) := by decide +kernel
theorem dX8_step_188 : decode cX8_step 188 = .ok (.iconst 3, 1) := by decide +kernel
theorem dX8_step_189 : decode cX8_step 189 = .ok (.iadd, 1) := by decide +kernel
theorem dX8_step_190 : decode cX8_step 190 = .ok (.bipush 7, 2) := by decide +kernel
theorem dX8_step_192 : decode cX8_step 192 = .ok (.iand, 1) := by decide +kernel
theorem dX8_step_193 : decode cX8_step 193 = .ok (.dup2, 1) := by decide +kernel
theorem dX8_step_194 : decode cX8_step 194 = .ok (.iaload, 1) := by decide +kernel
theorem dX8_step_195 : decode cX8_step 195 = .ok (.iload 9, 2) := by decide +kernel
theorem dX8_step_197 : decode cX8_step 197 = .ok (.iadd, 1) := by decide +kernel
theorem dX8_step_198 : decode cX8_step 198 = .ok (.iastore, 1) := by decide +kernel
theorem dX8_step_199 : decode cX8_step 199 = .ok (.aload_n 0, 1) := by decide +kernel
theorem dX8_step_200 : decode cX8_step 200 = .ok (.getfield 177, 3) := by decide +kernel
theorem dX8_step_203 : decode cX8_step 203 = .ok (.iload_n 2, 1) := by decide +kernel
theorem dX8_step_204 : decode cX8_step 204 = .ok (.bipush 7, 2) := by decide +kernel
theorem dX8_step_206 : decode cX8_step 206 = .ok (.iadd, 1) := by decide +kernel
theorem dX8_step_207 : decode cX8_step 207 = .ok (.bipush 7, 2) := by decide +kernel
theorem dX8_step_209 : decode cX8_step 209 = .ok (.iand, 1) := by decide +kernel
theorem dX8_step_210 : decode cX8_step 210 = .ok (.iload 9, 2) := by decide +kernel
theorem dX8_step_212 : decode cX8_step 212 = .ok (.iload 10, 2) := by decide +kernel
theorem dX8_step_214 : decode cX8_step 214 = .ok (.iadd, 1) := by decide +kernel
theorem dX8_step_215 : decode cX8_step 215 = .ok (.iastore, 1) := by decide +kernel
theorem dX8_step_216 : decode cX8_step 216 = .ok (.aload_n 0, 1) := by decide +kernel
theorem dX8_step_217 : decode cX8_step 217 = .ok (.getfield 174, 3) := by decide +kernel
theorem dX8_step_220 : decode cX8_step 220 = .ok (.iload_n 1, 1) := by decide +kernel
theorem dX8_step_221 : decode cX8_step 221 = .ok (.bipush 15, 2) := by decide +kernel
theorem dX8_step_223 : decode cX8_step 223 = .ok (.iand, 1) := by decide +kernel
theorem dX8_step_224 : decode cX8_step 224 = .ok (.aload_n 0, 1) := by decide +kernel
theorem dX8_step_225 : decode cX8_step 225 = .ok (.iload_n 1, 1) := by decide +kernel
theorem dX8_step_226 : decode cX8_step 226 = .ok (.invokevirtual 215, 3) := by decide +kernel
theorem dX8_step_229 : decode cX8_step 229 = .ok (.iastore, 1) := by decide +kernel
theorem dX8_step_230 : decode cX8_step 230 = .ok (.return_, 1) := by decide +kernel
set_option maxRecDepth 20000 in
theorem ggX8_block_X8_step : GoodIn wsX8_block wsX8_step := goodIn_r _ [9, 3, 10, 1, 11, 12, 8, 13, 14, 15, 16, 17, 18, 19, 20, 21, 22, 23, 24, 25, 26, 27, 28, 29, 30, 31, 32, 33, 34, 35, 36, 37, 38, 39, 40, 41, 42, 43, 44, 45, 46, 47, 48, 49, 50, 51, 52, 53, 54, 55, 56, 57, 58] (by decide +kernel) (by decide +kernel)
set_option maxRecDepth 20000 in
theorem gX8_block_X8_step : GoodIn wsX8_block (wsV RX8 219 RX8 yX8_step wsX8_step) := goodIn_app (goodIn_of _ (by decide +kernel)) ggX8_block_X8_step
theorem dX8_block_0 : decode cX8_block 0 = .ok (.iconst 0, 1) := by decide +kernel
theorem dX8_block_1 : decode cX8_block 1 = .ok (.istore_n 2, 1) := by decide +kernel
theorem dX8_block_2 : decode cX8_block 2 = .ok (.iload_n 2, 1) := by decide +kernel
theorem dX8_block_3 : decode cX8_block 3 = .ok (.bipush 16, 2) := by decide +kernel
theorem dX8_block_5 : decode cX8_block 5 = .ok (.if_icmp .ge 73, 3) := by decide +kernel
theorem dX8_block_8 : decode cX8_block 8 = .ok (.aload_n 0, 1) := by decide +kernel
theorem dX8_block_9 : decode cX8_block 9 = .ok (.getfield 174, 3) := by decide +kernel
theorem dX8_block_12 : decode cX8_block 12 = .ok (.iload_n 2, 1) := by decide +kernel
theorem dX8_block_13 : decode cX8_block 13 = .ok (.aload_n 0, 1) := by decide +kernel
theorem dX8_block_14 : decode cX8_block 14 = .ok (.getfield 87, 3) := by decide +kernel
theorem dX8_block_17 : decode cX8_block 17 = .ok (.iload_n 1, 1) := by decide +kernel
theorem dX8_block_18 : decode cX8_block 18 = .ok (.iconst 4, 1) := by decide +kernel
theorem dX8_block_19 : decode cX8_block 19 = .ok (.iload_n 2, 1) := by decide +kernel
theorem dX8_block_20 : decode cX8_block 20 = .ok (.imul, 1) := by decide +kernel
theorem dX8_block_21 : decode cX8_block 21 = .ok (.iadd, 1) := by decide +kernel
theorem dX8_block_22 : decode cX8_block 22 = .ok (.iaload, 1) := by decide +kernel
theorem dX8_block_23 : decode cX8_block 23 = .ok (.bipush 24, 2) := by decide +kernel
theorem dX8_block_25 : decode cX8_block 25 = .ok (.ishl, 1) := by decide +kernel
theorem dX8_block_26 : decode cX8_block 26 = .ok (.aload_n 0, 1) := by decide +kernel
theorem dX8_block_27 : decode cX8_block 27 = .ok (.getfield 87, 3) := by decide +kernel
theorem dX8_block_30 : decode cX8_block 30 = .ok (.iload_n 1, 1) := by decide +kernel
theorem dX8_block_31 : decode cX8_block 31 = .ok (.iconst 4, 1) := by decide +kernel
theorem dX8_block_32 : decode cX8_block 32 = .ok (.iload_n 2, 1) := by decide +kernel
theorem dX8_block_33 : decode cX8_block 33 = .ok (.imul, 1) := by decide +kernel
theorem dX8_block_34 : decode cX8_block 34 = .ok (.iadd, 1) := by decide +kernel
theorem dX8_block_35 : decode cX8_block 35 = .ok (.iconst 1, 1) := by decide +kernel
theorem dX8_block_36 : decode cX8_block 36 = .ok (.iadd, 1) := by decide +kernel
theorem dX8_block_37 : decode cX8_block 37 = .ok (.iaload, 1) := by decide +kernel
theorem dX8_block_38 : decode cX8_block 38 = .ok (.bipush 16, 2) := by decide +kernel
theorem dX8_block_40 : decode cX8_block 40 = .ok (.ishl, 1) := by decide +kernel
theorem dX8_block_41 : decode cX8_block 41 = .ok (.ior, 1) := by decide +kernel
theorem dX8_block_42 : decode cX8_block 42 = .ok (.aload_n 0, 1) := by decide +kernel
theorem dX8_block_43 : decode cX8_block 43 = .ok (.getfield 87, 3) := by decide +kernel
theorem dX8_block_46 : decode cX8_block 46 = .ok (.iload_n 1, 1) := by decide +kernel
theorem dX8_block_47 : decode cX8_block 47 = .ok (.iconst 4, 1) := by decide +kernel
theorem dX8_block_48 : decode cX8_block 48 = .ok (.iload_n 2, 1) := by decide +kernel
theorem dX8_block_49 : decode cX8_block 49 = .ok (.imul, 1) := by decide +kernel
theorem dX8_block_50 : decode cX8_block 50 = .ok (.iadd, 1) := by decide +kernel
theorem dX8_block_51 : decode cX8_block 51 = .ok (.iconst 2, 1) := by decide +kernel
theorem dX8_block_52 : decode cX8_block 52 = .ok (.iadd, 1) := by decide +kernel
theorem dX8_block_53 : decode cX8_block 53 = .ok (.iaload, 1) := by decide +kernel
theorem dX8_block_54 : decode cX8_block 54 = .ok (.bipush 8, 2) := by decide +kernel
theorem dX8_block_56 : decode cX8_block 56 = .ok (.ishl, 1) := by decide +kernel
theorem dX8_block_57 : decode cX8_block 57 = .ok (.ior, 1) := by decide +kernel
theorem dX8_block_58 : decode cX8_block 58 = .ok (.aload_n 0, 1) := by decide +kernel
theorem dX8_block_59 : decode cX8_block 59 = .ok (.getfield 87, 3) := by decide +kernel
theorem dX8_block_62 : decode cX8_block 62 = .ok (.iload_n 1, 1) := by decide +kernel
theorem dX8_block_63 : decode cX8_block 63 = .ok (.iconst 4, 1) := by decide +kernel
theorem dX8_block_64 : decode cX8_block 64 = .ok (.iload_n 2, 1) := by decide +kernel
theorem dX8_block_65 : decode cX8_block 65 = .ok (.imul, 1) := by decide +kernel
theorem dX8_block_66 : decode cX8_block 66 = .ok (.iadd, 1) := by decide +kernel
theorem dX8_block_67 : decode cX8_block 67 = .ok (.iconst 3, 1) := by decide +kernel
theorem dX8_block_68 : decode cX8_block 68 = .ok (.iadd, 1) := by decide +kernel
theorem dX8_block_69 : decode cX8_block 69 = .ok (.iaload, 1) := by decide +kernel
theorem dX8_block_70 : decode cX8_block 70 = .ok (.ior, 1) := by decide +kernel
theorem dX8_block_71 : decode cX8_block 71 = .ok (.iastore, 1) := by decide +kernel
theorem dX8_block_72 : decode cX8_block 72 = .ok (.iinc 2 1, 3) := by decide +kernel
theorem dX8_block_75 : decode cX8_block 75 = .ok (.goto (-73), 3) := by decide +kernel
theorem dX8_block_78 : decode cX8_block 78 = .ok (.iconst 0, 1) := by decide +kernel
theorem dX8_block_79 : decode cX8_block 79 = .ok (.istore_n 2, 1) := by decide +kernel
theorem dX8_block_80 : decode cX8_block 80 = .ok (.iload_n 2, 1) := by decide +kernel
theorem dX8_block_81 : decode cX8_block 81 = .ok (.bipush 8, 2) := by decide +kernel
theorem dX8_block_83 : decode cX8_block 83 = .ok (.if_icmp .ge 21, 3) := by decide +kernel
theorem dX8_block_86 : decode cX8_block 86 = .ok (.aload_n 0, 1) := by decide +kernel
theorem dX8_block_87 : decode cX8_block 87 = .ok (.getfield 177, 3) := by decide +kernel
theorem dX8_block_90 : decode cX8_block 90 = .ok (.iload_n 2, 1) := by decide +kernel
theorem dX8_block_91 : decode cX8_block 91 = .ok (.aload_n 0, 1) := by decide +kernel
theorem dX8_block_92 : decode cX8_block 92 = .ok (.getfield 180, 3) := by decide +kernel
theorem dX8_block_95 : decode cX8_block 95 = .ok (.iload_n 2, 1) := by decide +kernel
theorem dX8_block_96 : decode cX8_block 96 = .ok (.iaload, 1) := by decide +kernel
theorem dX8_block_97 : decode cX8_block 97 = .ok (.iastore, 1) := by decide +kernel
theorem dX8_block_98 : decode cX8_block 98 = .ok (.iinc 2 1, 3) := by decide +kernel
theorem dX8_block_101 : decode cX8_block 101 = .ok (.goto (-21), 3) := by decide +kernel
theorem dX8_block_104 : decode cX8_block 104 = .ok (.iconst 0, 1) := by decide +kernel
theorem dX8_block_105 : decode cX8_block 105 = .ok (.istore_n 2, 1) := by decide +kernel
theorem dX8_block_106 : decode cX8_block 106 = .ok (.iload_n 2, 1) := by decide +kernel
theorem dX8_block_107 : decode cX8_block 107 = .ok (.bipush 64, 2) := by decide +kernel
theorem dX8_block_109 : decode cX8_block 109 = .ok (.if_icmp .ge 14, 3) := by decide +kernel
theorem dX8_block_112 : decode cX8_block 112 = .ok (.aload_n 0, 1) := by decide +kernel
theorem dX8_block_113 : decode cX8_block 113 = .ok (.iload_n 2, 1) := by decide +kernel
theorem dX8_block_114 : decode cX8_block 114 = .ok (.invokevirtual 219, 3) := by decide +kernel
theorem dX8_block_117 : decode cX8_block 117 = .ok (.iinc 2 1, 3) := by decide +kernel
theorem dX8_block_120 : decode cX8_block 120 = .ok (.goto (-14), 3) := by decide +kernel
theorem dX8_block_123 : decode cX8_block 123 = .ok (.iconst 0, 1) := by decide +kernel
theorem dX8_block_124 : decode cX8_block 124 = .ok (.istore_n 2, 1) := by decide +kernel
theorem dX8_block_125 : decode cX8_block 125 = .ok (.iload_n 2, 1) := by decide +kernel
theorem dX8_block_126 : decode cX8_block 126 = .ok (.bipush 8, 2) := by decide +kernel
theorem dX8_block_128 : decode cX8_block 128 = .ok (.if_icmp .ge 24, 3) := by decide +kernel
theorem dX8_block_131 : decode cX8_block 131 = .ok (.aload_n 0, 1) := by decide +kernel
theorem dX8_block_132 : decode cX8_block 132 = .ok (.getfield 180, 3) := by decide +kernel
theorem dX8_block_135 : decode cX8_block 135 = .ok (.iload_n 2, 1) := by decide +kernel
theorem dX8_block_136 : decode cX8_block 136 = .ok (.dup2, 1) := by decide +kernel
theorem dX8_block_137 : decode cX8_block 137 = .ok (.iaload, 1) := by decide +kernel
theorem dX8_block_138 : decode cX8_block 138 = .ok (.aload_n 0, 1) := by decide +kernel
theorem dX8_block_139 : decode cX8_block 139 = .ok (.getfield 177, 3) := by decide +kernel
theorem dX8_block_142 : decode cX8_block 142 = .ok (.iload_n 2, 1) := by decide +kernel
theorem dX8_block_143 : decode cX8_block 143 = .ok (.iaload, 1) := by decide +kernel
theorem dX8_block_144 : decode cX8_block 144 = .ok (.iadd, 1) := by decide +kernel
theorem dX8_block_145 : decode cX8_block 145 = .ok (.iastore, 1) := by decide +kernel
theorem dX8_block_146 : decode cX8_block 146 = .ok (.iinc 2 1, 3) := by decide +kernel
theorem dX8_block_149 : decode cX8_block 149 = .ok (.goto (-24), 3) := by decide +kernel
theorem dX8_block_152 : decode cX8_block 152 = .ok (.return_, 1) := by decide +kernel
set_option maxRecDepth 20000 in
theorem ggX8_digestAll_X8_put : GoodIn wsX8_digestAll wsX8_put := goodIn_r _ [11, 12, 1, 13, 32, 33, 34, 35, 36, 37, 38, 39, 40, 41, 42, 43, 44, 45, 46, 47, 48, 49, 50, 51, 52, 53, 54, 55, 56, 57, 58, 59, 60, 61, 62, 63, 64, 65, 66, 67, 68, 69, 70, 71, 72] (by decide +kernel) (by decide +kernel)
set_option maxRecDepth 20000 in
theorem gX8_digestAll_X8_put : GoodIn wsX8_digestAll (wsV RX8 225 RX8 yX8_put wsX8_put) := goodIn_app (goodIn_of _ (by decide +kernel)) ggX8_digestAll_X8_put
set_option maxRecDepth 20000 in
theorem ggX8_digestAll_X8_block : GoodIn wsX8_digestAll wsX8_block := goodIn_r _ [17, 18, 12, 19, 4, 20, 21, 22, 10, 23, 24, 25, 26, 27, 28, 29, 30, 31, 32, 33, 34, 35, 36, 37, 38, 39, 40, 41, 42, 43, 44, 45, 46, 47, 48, 49, 50, 51, 52, 53, 54, 55, 56, 57, 58, 59, 60, 61, 62, 63, 64, 65, 66, 67, 68, 69, 70, 71, 72] (by decide +kernel) (by decide +kernel)
set_option maxRecDepth 20000 in
theorem gX8_digestAll_X8_block : GoodIn wsX8_digestAll (wsV RX8 231 RX8 yX8_block wsX8_block) := goodIn_app (goodIn_of _ (by decide +kernel)) ggX8_digestAll_X8_block
theorem dX8_digestAll_0 : decode cX8_digestAll 0 = .ok (.aload_n 0, 1) := by decide +kernel
theorem dX8_digestAll_1 : decode cX8_digestAll 1 = .ok (.getfield 206, 3) := by decide +kernel
theorem dX8_digestAll_4 : decode cX8_digestAll 4 = .ok (.istore_n 1, 1) := by decide +kernel
theorem dX8_digestAll_5 : decode cX8_digestAll 5 = .ok (.aload_n 0, 1) := by decide +kernel
theorem dX8_digestAll_6 : decode cX8_digestAll 6 = .ok (.ldc2_w 223, 3) := by decide +kernel
theorem dX8_digestAll_9 : decode cX8_digestAll 9 = .ok (.iconst 1, 1) := by decide +kernel
theorem dX8_digestAll_10 : decode cX8_digestAll 10 = .ok (.invokevirtual 225, 3) := by decide +kernel
theorem dX8_digestAll_13 : decode cX8_digestAll 13 = .ok (.aload_n 0, 1) := by decide +kernel
theorem dX8_digestAll_14 : decode cX8_digestAll 14 = .ok (.getfield 206, 3) := by decide +kernel
theorem dX8_digestAll_17 : decode cX8_digestAll 17 = .ok (.bipush 64, 2) := by decide +kernel
theorem dX8_digestAll_19 : decode cX8_digestAll 19 = .ok (.irem, 1) := by decide +kernel
theorem dX8_digestAll_20 : decode cX8_digestAll 20 = .ok (.bipush 56, 2) := by decide +kernel
theorem dX8_digestAll_22 : decode cX8_digestAll 22 = .ok (.if_icmp .eq 12, 3) := by decide +kernel
theorem dX8_digestAll_25 : decode cX8_digestAll 25 = .ok (.aload_n 0, 1) := by decide +kernel
theorem dX8_digestAll_26 : decode cX8_digestAll 26 = .ok (.lconst 0, 1) := by decide +kernel
theorem dX8_digestAll_27 : decode cX8_digestAll 27 = .ok (.iconst 1, 1) := by decide +kernel
theorem dX8_digestAll_28 : decode cX8_digestAll 28 = .ok (.invokevirtual 225, 3) := by decide +kernel
theorem dX8_digestAll_31 : decode cX8_digestAll 31 = .ok (.goto (-18), 3) := by decide +kernel
theorem dX8_digestAll_34 : decode cX8_digestAll 34 = .ok (.aload_n 0, 1) := by decide +kernel
theorem dX8_digestAll_35 : decode cX8_digestAll 35 = .ok (.ldc2_w 229, 3) := by decide +kernel
theorem dX8_digestAll_38 : decode cX8_digestAll 38 = .ok (.iload_n 1, 1) := by decide +kernel
theorem dX8_digestAll_39 : decode cX8_digestAll 39 = .ok (.i2l, 1) := by decide +kernel
theorem dX8_digestAll_40 : decode cX8_digestAll 40 = .ok (.lmul, 1) := by decide +kernel
theorem dX8_digestAll_41 : decode cX8_digestAll 41 = .ok (.bipush 8, 2) := by decide +kernel
theorem dX8_digestAll_43 : decode cX8_digestAll 43 = .ok (.invokevirtual 225, 3) := by decide +kernel
theorem dX8_digestAll_46 : decode cX8_digestAll 46 = .ok (.iconst 0, 1) := by decide +kernel
theorem dX8_digestAll_47 : decode cX8_digestAll 47 = .ok (.istore_n 2, 1) := by decide +kernel
theorem dX8_digestAll_48 : decode cX8_digestAll 48 = .ok (.iload_n 2, 1) := by decide +kernel
theorem dX8_digestAll_49 : decode cX8_digestAll 49 = .ok (.bipush 8, 2) := by decide +kernel
theorem dX8_digestAll_51 : decode cX8_digestAll 51 = .ok (.if_icmp .ge 21, 3) := by decide +kernel
theorem dX8_digestAll_54 : decode cX8_digestAll 54 = .ok (.aload_n 0, 1) := by decide +kernel
theorem dX8_digestAll_55 : decode cX8_digestAll 55 = .ok (.getfield 180, 3) := by decide +kernel
theorem dX8_digestAll_58 : decode cX8_digestAll 58 = .ok (.iload_n 2, 1) := by decide +kernel
theorem dX8_digestAll_59 : decode cX8_digestAll 59 = .ok (.aload_n 0, 1) := by decide +kernel
theorem dX8_digestAll_60 : decode cX8_digestAll 60 = .ok (.getfield 104, 3) := by decide +kernel
theorem dX8_digestAll_63 : decode cX8_digestAll 63 = .ok (.iload_n 2, 1) := by decide +kernel
theorem dX8_digestAll_64 : decode cX8_digestAll 64 = .ok (.iaload, 1) := by decide +kernel
theorem dX8_digestAll_65 : decode cX8_digestAll 65 = .ok (.iastore, 1) := by decide +kernel
theorem dX8_digestAll_66 : decode cX8_digestAll 66 = .ok (.iinc 2 1, 3) := by decide +kernel
theorem dX8_digestAll_69 : decode cX8_digestAll 69 = .ok (.goto (-21), 3) := by decide +kernel
theorem dX8_digestAll_72 : decode cX8_digestAll 72 = .ok (.iconst 0, 1) := by decide +kernel
theorem dX8_digestAll_73 : decode cX8_digestAll 73 = .ok (.istore_n 2, 1) := by decide +kernel
theorem dX8_digestAll_74 : decode cX8_digestAll 74 = .ok (.iload_n 2, 1) := by decide +kernel
theorem dX8_digestAll_75 : decode cX8_digestAll 75 = .ok (.aload_n 0, 1) := by decide +kernel
theorem dX8_digestAll_76 : decode cX8_digestAll 76 = .ok (.getfield 206, 3) := by decide +kernel
theorem dX8_digestAll_79 : decode cX8_digestAll 79 = .ok (.if_icmp .ge 14, 3) := by decide +kernel
theorem dX8_digestAll_82 : decode cX8_digestAll 82 = .ok (.aload_n 0, 1) := by decide +kernel
theorem dX8_digestAll_83 : decode cX8_digestAll 83 = .ok (.iload_n 2, 1) := by decide +kernel
theorem dX8_digestAll_84 : decode cX8_digestAll 84 = .ok (.invokevirtual 231, 3) := by decide +kernel
theorem dX8_digestAll_87 : decode cX8_digestAll 87 = .ok (.iinc 2 64, 3) := by decide +kernel
theorem dX8_digestAll_90 : decode cX8_digestAll 90 = .ok (.goto (-16), 3) := by decide +kernel
theorem dX8_digestAll_93 : decode cX8_digestAll 93 = .ok (.iconst 0, 1) := by decide +kernel
theorem dX8_digestAll_94 : decode cX8_digestAll 94 = .ok (.istore_n 2, 1) := by decide +kernel
theorem dX8_digestAll_95 : decode cX8_digestAll 95 = .ok (.iload_n 2, 1) := by decide +kernel
theorem dX8_digestAll_96 : decode cX8_digestAll 96 = .ok (.bipush 32, 2) := by decide +kernel
theorem dX8_digestAll_98 : decode cX8_digestAll 98 = .ok (.if_icmp .ge 37, 3) := by decide +kernel
theorem dX8_digestAll_101 : decode cX8_digestAll 101 = .ok (.aload_n 0, 1) := by decide +kernel
theorem dX8_digestAll_102 : decode cX8_digestAll 102 = .ok (.getfield 90, 3) := by decide +kernel
theorem dX8_digestAll_105 : decode cX8_digestAll 105 = .ok (.iload_n 2, 1) := by decide +kernel
theorem dX8_digestAll_106 : decode cX8_digestAll 106 = .ok (.aload_n 0, 1) := by decide +kernel
theorem dX8_digestAll_107 : decode cX8_digestAll 107 = .ok (.getfield 180, 3) := by decide +kernel
theorem dX8_digestAll_110 : decode cX8_digestAll 110 = .ok (.iload_n 2, 1) := by decide +kernel
theorem dX8_digestAll_111 : decode cX8_digestAll 111 = .ok (.iconst 4, 1) := by decide +kernel
theorem dX8_digestAll_112 : decode cX8_digestAll 112 = .ok (.idiv, 1) := by decide +kernel
theorem dX8_digestAll_113 : decode cX8_digestAll 113 = .ok (.iaload, 1) := by decide +kernel
theorem dX8_digestAll_114 : decode cX8_digestAll 114 = .ok (.bipush 24, 2) := by decide +kernel
theorem dX8_digestAll_116 : decode cX8_digestAll 116 = .ok (.bipush 8, 2) := by decide +kernel
theorem dX8_digestAll_118 : decode cX8_digestAll 118 = .ok (.iload_n 2, 1) := by decide +kernel
theorem dX8_digestAll_119 : decode cX8_digestAll 119 = .ok (.iconst 4, 1) := by decide +kernel
theorem dX8_digestAll_120 : decode cX8_digestAll 120 = .ok (.irem, 1) := by decide +kernel
theorem dX8_digestAll_121 : decode cX8_digestAll 121 = .ok (.imul, 1) := by decide +kernel
theorem dX8_digestAll_122 : decode cX8_digestAll 122 = .ok (.isub, 1) := by decide +kernel
theorem dX8_digestAll_123 : decode cX8_digestAll 123 = .ok (.iushr, 1) := by decide +kernel
theorem dX8_digestAll_124 : decode cX8_digestAll 124 = .ok (.sipush 255, 3) := by decide +kernel
theorem dX8_digestAll_127 : decode cX8_digestAll 127 = .ok (.iand, 1) := by decide +kernel
theorem dX8_digestAll_128 : decode cX8_digestAll 128 = .ok (.iastore, 1) := by decide +kernel
theorem dX8_digestAll_129 : decode cX8_digestAll 129 = .ok (.iinc 2 1, 3) := by decide +kernel
theorem dX8_digestAll_132 : decode cX8_digestAll 132 = .ok (.goto (-37), 3) := by decide +kernel
theorem dX8_digestAll_135 : decode cX8_digestAll 135 = .ok (.return_, 1) := by decide +kernel
set_option maxRecDepth 20000 in
theorem ggX8_putRow_X8_put : GoodIn wsX8_putRow wsX8_put := goodIn_r _ [21, 22, 23, 24, 25, 26, 27, 28, 29, 30, 31, 32, 33, 34, 35, 36, 37, 38, 39, 40, 41, 42, 43, 44, 45, 46, 47, 48, 49, 50, 51, 52, 53, 54, 55, 56, 57, 58, 59, 60, 61, 62, 63, 64, 65] (by decide +kernel) (by decide +kernel)
set_option maxRecDepth 20000 in
theorem gX8_putRow_X8_put : GoodIn wsX8_putRow (wsV RX8 225 RX8 yX8_put wsX8_put) := goodIn_app (goodIn_of _ (by decide +kernel)) ggX8_putRow_X8_put
theorem dX8_putRow_0 : decode cX8_putRow 0 = .ok (.aload_n 0, 1) := by decide +kernel
theorem dX8_putRow_1 : decode cX8_putRow 1 = .ok (.aload_n 0, 1) := by decide +kernel
theorem dX8_putRow_2 : decode cX8_putRow 2 = .ok (.getfield 33, 3) := by decide +kernel
theorem dX8_putRow_5 : decode cX8_putRow 5 = .ok (.iload_n 1, 1) := by decide +kernel
theorem dX8_putRow_6 : decode cX8_putRow 6 = .ok (.iaload, 1) := by decide +kernel
theorem dX8_putRow_7 : decode cX8_putRow 7 = .ok (.i2l, 1) := by decide +kernel
theorem dX8_putRow_8 : decode cX8_putRow 8 = .ok (.iconst 1, 1) := by decide +kernel
theorem dX8_putRow_9 : decode cX8_putRow 9 = .ok (.invokevirtual 225, 3) := by decide +kernel
theorem dX8_putRow_12 : decode cX8_putRow 12 = .ok (.aload_n 0, 1) := by decide +kernel
theorem dX8_putRow_13 : decode cX8_putRow 13 = .ok (.aload_n 0, 1) := by decide +kernel
theorem dX8_putRow_14 : decode cX8_putRow 14 = .ok (.getfield 36, 3) := by decide +kernel
theorem dX8_putRow_17 : decode cX8_putRow 17 = .ok (.iload_n 1, 1) := by decide +kernel
theorem dX8_putRow_18 : decode cX8_putRow 18 = .ok (.iaload, 1) := by decide +kernel
theorem dX8_putRow_19 : decode cX8_putRow 19 = .ok (.i2l, 1) := by decide +kernel
theorem dX8_putRow_20 : decode cX8_putRow 20 = .ok (.iconst 4, 1) := by decide +kernel
theorem dX8_putRow_21 : decode cX8_putRow 21 = .ok (.invokevirtual 225, 3) := by decide +kernel
theorem dX8_putRow_24 : decode cX8_putRow 24 = .ok (.aload_n 0, 1) := by decide +kernel
theorem dX8_putRow_25 : decode cX8_putRow 25 = .ok (.aload_n 0, 1) := by decide +kernel
theorem dX8_putRow_26 : decode cX8_putRow 26 = .ok (.getfield 45, 3) := by decide +kernel
theorem dX8_putRow_29 : decode cX8_putRow 29 = .ok (.iload_n 1, 1) := by decide +kernel
theorem dX8_putRow_30 : decode cX8_putRow 30 = .ok (.laload, 1) := by decide +kernel
theorem dX8_putRow_31 : decode cX8_putRow 31 = .ok (.bipush 8, 2) := by decide +kernel
theorem dX8_putRow_33 : decode cX8_putRow 33 = .ok (.invokevirtual 225, 3) := by decide +kernel
theorem dX8_putRow_36 : decode cX8_putRow 36 = .ok (.aload_n 0, 1) := by decide +kernel
theorem dX8_putRow_37 : decode cX8_putRow 37 = .ok (.aload_n 0, 1) := by decide +kernel
theorem dX8_putRow_38 : decode cX8_putRow 38 = .ok (.getfield 39, 3) := by decide +kernel
theorem dX8_putRow_41 : decode cX8_putRow 41 = .ok (.iload_n 1, 1) := by decide +kernel
theorem dX8_putRow_42 : decode cX8_putRow 42 = .ok (.iaload, 1) := by decide +kernel
theorem dX8_putRow_43 : decode cX8_putRow 43 = .ok (.i2l, 1) := by decide +kernel
theorem dX8_putRow_44 : decode cX8_putRow 44 = .ok (.iconst 1, 1) := by decide +kernel
theorem dX8_putRow_45 : decode cX8_putRow 45 = .ok (.invokevirtual 225, 3) := by decide +kernel
theorem dX8_putRow_48 : decode cX8_putRow 48 = .ok (.iconst 0, 1) := by decide +kernel
theorem dX8_putRow_49 : decode cX8_putRow 49 = .ok (.istore_n 2, 1) := by decide +kernel
theorem dX8_putRow_50 : decode cX8_putRow 50 = .ok (.iload_n 2, 1) := by decide +kernel
theorem dX8_putRow_51 : decode cX8_putRow 51 = .ok (.aload_n 0, 1) := by decide +kernel
theorem dX8_putRow_52 : decode cX8_putRow 52 = .ok (.getfield 39, 3) := by decide +kernel
theorem dX8_putRow_55 : decode cX8_putRow 55 = .ok (.iload_n 1, 1) := by decide +kernel
theorem dX8_putRow_56 : decode cX8_putRow 56 = .ok (.iaload, 1) := by decide +kernel
theorem dX8_putRow_57 : decode cX8_putRow 57 = .ok (.if_icmp .ge 26, 3) := by decide +kernel
theorem dX8_putRow_60 : decode cX8_putRow 60 = .ok (.aload_n 0, 1) := by decide +kernel
theorem dX8_putRow_61 : decode cX8_putRow 61 = .ok (.aload_n 0, 1) := by decide +kernel
theorem dX8_putRow_62 : decode cX8_putRow 62 = .ok (.getfield 42, 3) := by decide +kernel
theorem dX8_putRow_65 : decode cX8_putRow 65 = .ok (.bipush 16, 2) := by decide +kernel
theorem dX8_putRow_67 : decode cX8_putRow 67 = .ok (.iload_n 1, 1) := by decide +kernel
theorem dX8_putRow_68 : decode cX8_putRow 68 = .ok (.imul, 1) := by decide +kernel
theorem dX8_putRow_69 : decode cX8_putRow 69 = .ok (.iload_n 2, 1) := by decide +kernel
theorem dX8_putRow_70 : decode cX8_putRow 70 = .ok (.iadd, 1) := by decide +kernel
theorem dX8_putRow_71 : decode cX8_putRow 71 = .ok (.iaload, 1) := by decide +kernel
theorem dX8_putRow_72 : decode cX8_putRow 72 = .ok (.i2l, 1) := by decide +kernel
theorem dX8_putRow_73 : decode cX8_putRow 73 = .ok (.iconst 1, 1) := by decide +kernel
theorem dX8_putRow_74 : decode cX8_putRow 74 = .ok (.invokevirtual 225, 3) := by decide +kernel
theorem dX8_putRow_77 : decode cX8_putRow 77 = .ok (.iinc 2 1, 3) := by decide +kernel
theorem dX8_putRow_80 : decode cX8_putRow 80 = .ok (.goto (-30), 3) := by decide +kernel
theorem dX8_putRow_83 : decode cX8_putRow 83 = .ok (.aload_n 0, 1) := by decide +kernel
theorem dX8_putRow_84 : decode cX8_putRow 84 = .ok (.getfield 33, 3) := by decide +kernel
theorem dX8_putRow_87 : decode cX8_putRow 87 = .ok (.iload_n 1, 1) := by decide +kernel
theorem dX8_putRow_88 : decode cX8_putRow 88 = .ok (.iaload, 1) := by decide +kernel
theorem dX8_putRow_89 : decode cX8_putRow 89 = .ok (.ifCond .ne 54, 3) := by decide +kernel
theorem dX8_putRow_92 : decode cX8_putRow 92 = .ok (.iconst 0, 1) := by decide +kernel
theorem dX8_putRow_93 : decode cX8_putRow 93 = .ok (.istore_n 2, 1) := by decide +kernel
theorem dX8_putRow_94 : decode cX8_putRow 94 = .ok (.iload_n 2, 1) := by decide +kernel
theorem dX8_putRow_95 : decode cX8_putRow 95 = .ok (.bipush 10, 2) := by decide +kernel
theorem dX8_putRow_97 : decode cX8_putRow 97 = .ok (.if_icmp .ge 43, 3) := by decide +kernel
theorem dX8_putRow_100 : decode cX8_putRow 100 = .ok (.aload_n 0, 1) := by decide +kernel
theorem dX8_putRow_101 : decode cX8_putRow 101 = .ok (.aload_n 0, 1) := by decide +kernel
theorem dX8_putRow_102 : decode cX8_putRow 102 = .ok (.getfield 27, 3) := by decide +kernel
theorem dX8_putRow_105 : decode cX8_putRow 105 = .ok (.bipush 10, 2) := by decide +kernel
theorem dX8_putRow_107 : decode cX8_putRow 107 = .ok (.iload_n 1, 1) := by decide +kernel
theorem dX8_putRow_108 : decode cX8_putRow 108 = .ok (.imul, 1) := by decide +kernel
theorem dX8_putRow_109 : decode cX8_putRow 109 = .ok (.iload_n 2, 1) := by decide +kernel
theorem dX8_putRow_110 : decode cX8_putRow 110 = .ok (.iadd, 1) := by decide +kernel
theorem dX8_putRow_111 : decode cX8_putRow 111 = .ok (.iaload, 1) := by decide +kernel
theorem dX8_putRow_112 : decode cX8_putRow 112 = .ok (.i2l, 1) := by decide +kernel
theorem dX8_putRow_113 : decode cX8_putRow 113 = .ok (.iconst 1, 1) := by decide +kernel
theorem dX8_putRow_114 : decode cX8_putRow 114 = .ok (.invokevirtual 225, 3) := by decide +kernel
theorem dX8_putRow_117 : decode cX8_putRow 117 = .ok (.aload_n 0, 1) := by decide +kernel
theorem dX8_putRow_118 : decode cX8_putRow 118 = .ok (.aload_n 0, 1) := by decide +kernel
theorem dX8_putRow_119 : decode cX8_putRow 119 = .ok (.getfield 30, 3) := by decide +kernel
theorem dX8_putRow_122 : decode cX8_putRow 122 = .ok (.bipush 10, 2) := by decide +kernel
theorem dX8_putRow_124 : decode cX8_putRow 124 = .ok (.iload_n 1, 1) := by decide +kernel
theorem dX8_putRow_125 : decode cX8_putRow 125 = .ok (.imul, 1) := by decide +kernel
theorem dX8_putRow_126 : decode cX8_putRow 126 = .ok (.iload_n 2, 1) := by decide +kernel
theorem dX8_putRow_127 : decode cX8_putRow 127 = .ok (.iadd, 1) := by decide +kernel
theorem dX8_putRow_128 : decode cX8_putRow 128 = .ok (.iaload, 1) := by decide +kernel
theorem dX8_putRow_129 : decode cX8_putRow 129 = .ok (.i2l, 1) := by decide +kernel
theorem dX8_putRow_130 : decode cX8_putRow 130 = .ok (.iconst 4, 1) := by decide +kernel
theorem dX8_putRow_131 : decode cX8_putRow 131 = .ok (.invokevirtual 225, 3) := by decide +kernel
theorem dX8_putRow_134 : decode cX8_putRow 134 = .ok (.iinc 2 1, 3) := by decide +kernel
theorem dX8_putRow_137 : decode cX8_putRow 137 = .ok (.goto (-43), 3) := by decide +kernel
theorem dX8_putRow_140 : decode cX8_putRow 140 = .ok (.goto 209, 3) := by decide +kernel
theorem dX8_putRow_143 : decode cX8_putRow 143 = .ok (.aload_n 0, 1) := by decide +kernel
theorem dX8_putRow_144 : decode cX8_putRow 144 = .ok (.getfield 33, 3) := by decide +kernel
theorem dX8_putRow_147 : decode cX8_putRow 147 = .ok (.iload_n 1, 1) := by decide +kernel
theorem dX8_putRow_148 : decode cX8_putRow 148 = .ok (.iaload, 1) := by decide +kernel
theorem dX8_putRow_149 : decode cX8_putRow 149 = .ok (.iconst 3, 1) := by decide +kernel
theorem dX8_putRow_150 : decode cX8_putRow 150 = .ok (.if_icmp .ge 68, 3) := by decide +kernel
theorem dX8_putRow_153 : decode cX8_putRow 153 = .ok (.aload_n 0, 1) := by decide +kernel
theorem dX8_putRow_154 : decode cX8_putRow 154 = .ok (.aload_n 0, 1) := by decide +kernel
theorem dX8_putRow_155 : decode cX8_putRow 155 = .ok (.getfield 48, 3) := by decide +kernel
theorem dX8_putRow_158 : decode cX8_putRow 158 = .ok (.iload_n 1, 1) := by decide +kernel
theorem dX8_putRow_159 : decode cX8_putRow 159 = .ok (.iaload, 1) := by decide +kernel
theorem dX8_putRow_160 : decode cX8_putRow 160 = .ok (.i2l, 1) := by decide +kernel
theorem dX8_putRow_161 : decode cX8_putRow 161 = .ok (.iconst 1, 1) := by decide +kernel
theorem dX8_putRow_162 : decode cX8_putRow 162 = .ok (.invokevirtual 225, 3) := by decide +kernel
theorem dX8_putRow_165 : decode cX8_putRow 165 = .ok (.bipush 7, 2) := by decide +kernel
theorem dX8_putRow_167 : decode cX8_putRow 167 = .ok (.iload_n 1, 1) := by decide +kernel
theorem dX8_putRow_168 : decode cX8_putRow 168 = .ok (.imul, 1) := by decide +kernel
theorem dX8_putRow_169 : decode cX8_putRow 169 = .ok (.istore_n 2, 1) := by decide +kernel
theorem dX8_putRow_170 : decode cX8_putRow 170 = .ok (.iload_n 2, 1) := by decide +kernel
theorem dX8_putRow_171 : decode cX8_putRow 171 = .ok (.bipush 7, 2) := by decide +kernel
theorem dX8_putRow_173 : decode cX8_putRow 173 = .ok (.iload_n 1, 1) := by decide +kernel
theorem dX8_putRow_174 : decode cX8_putRow 174 = .ok (.imul, 1) := by decide +kernel
theorem dX8_putRow_175 : decode cX8_putRow 175 = .ok (.aload_n 0, 1) := by decide +kernel
theorem dX8_putRow_176 : decode cX8_putRow 176 = .ok (.getfield 48, 3) := by decide +kernel
theorem dX8_putRow_179 : decode cX8_putRow 179 = .ok (.iload_n 1, 1) := by decide +kernel
theorem dX8_putRow_180 : decode cX8_putRow 180 = .ok (.iaload, 1) := by decide +kernel
theorem dX8_putRow_181 : decode cX8_putRow 181 = .ok (.iadd, 1) := by decide +kernel
theorem dX8_putRow_182 : decode cX8_putRow 182 = .ok (.if_icmp .ge 33, 3) := by decide +kernel
theorem dX8_putRow_185 : decode cX8_putRow 185 = .ok (.aload_n 0, 1) := by decide +kernel
theorem dX8_putRow_186 : decode cX8_putRow 186 = .ok (.aload_n 0, 1) := by decide +kernel
theorem dX8_putRow_187 : decode cX8_putRow 187 = .ok (.getfield 51, 3) := by decide +kernel
theorem dX8_putRow_190 : decode cX8_putRow 190 = .ok (.iload_n 2, 1) := by decide +kernel
theorem dX8_putRow_191 : decode cX8_putRow 191 = .ok (.iaload, 1) := by decide +kernel
theorem dX8_putRow_192 : decode cX8_putRow 192 = .ok (.i2l, 1) := by decide +kernel
theorem dX8_putRow_193 : decode cX8_putRow 193 = .ok (.iconst 1, 1) := by decide +kernel
theorem dX8_putRow_194 : decode cX8_putRow 194 = .ok (.invokevirtual 225, 3) := by decide +kernel
theorem dX8_putRow_197 : decode cX8_putRow 197 = .ok (.aload_n 0, 1) := by decide +kernel
theorem dX8_putRow_198 : decode cX8_putRow 198 = .ok (.aload_n 0, 1) := by decide +kernel
theorem dX8_putRow_199 : decode cX8_putRow 199 = .ok (.getfield 54, 3) := by decide +kernel
theorem dX8_putRow_202 : decode cX8_putRow 202 = .ok (.iload_n 2, 1) := by decide +kernel
theorem dX8_putRow_203 : decode cX8_putRow 203 = .ok (.iaload, 1) := by decide +kernel
theorem dX8_putRow_204 : decode cX8_putRow 204 = .ok (.i2l, 1) := by decide +kernel
theorem dX8_putRow_205 : decode cX8_putRow 205 = .ok (.iconst 4, 1) := by decide +kernel
theorem dX8_putRow_206 : decode cX8_putRow 206 = .ok (.invokevirtual 225, 3) := by decide +kernel
theorem dX8_putRow_209 : decode cX8_putRow 209 = .ok (.iinc 2 1, 3) := by decide +kernel
theorem dX8_putRow_212 : decode cX8_putRow 212 = .ok (.goto (-42), 3) := by decide +kernel
theorem dX8_putRow_215 : decode cX8_putRow 215 = .ok (.goto 134, 3) := by decide +kernel
theorem dX8_putRow_218 : decode cX8_putRow 218 = .ok (.aload_n 0, 1) := by decide +kernel
theorem dX8_putRow_219 : decode cX8_putRow 219 = .ok (.aload_n 0, 1) := by decide +kernel
theorem dX8_putRow_220 : decode cX8_putRow 220 = .ok (.getfield 57, 3) := by decide +kernel
theorem dX8_putRow_223 : decode cX8_putRow 223 = .ok (.iload_n 1, 1) := by decide +kernel
theorem dX8_putRow_224 : decode cX8_putRow 224 = .ok (.iaload, 1) := by decide +kernel
theorem dX8_putRow_225 : decode cX8_putRow 225 = .ok (.i2l, 1) := by decide +kernel
theorem dX8_putRow_226 : decode cX8_putRow 226 = .ok (.iconst 1, 1) := by decide +kernel
theorem dX8_putRow_227 : decode cX8_putRow 227 = .ok (.invokevirtual 225, 3) := by decide +kernel
theorem dX8_putRow_230 : decode cX8_putRow 230 = .ok (.bipush 6, 2) := by decide +kernel
theorem dX8_putRow_232 : decode cX8_putRow 232 = .ok (.iload_n 1, 1) := by decide +kernel
theorem dX8_putRow_233 : decode cX8_putRow 233 = .ok (.imul, 1) := by decide +kernel
theorem dX8_putRow_234 : decode cX8_putRow 234 = .ok (.istore_n 2, 1) := by decide +kernel
theorem dX8_putRow_235 : decode cX8_putRow 235 = .ok (.iload_n 2, 1) := by decide +kernel
theorem dX8_putRow_236 : decode cX8_putRow 236 = .ok (.bipush 6, 2) := by decide +kernel
theorem dX8_putRow_238 : decode cX8_putRow 238 = .ok (.iload_n 1, 1) := by decide +kernel
theorem dX8_putRow_239 : decode cX8_putRow 239 = .ok (.imul, 1) := by decide +kernel
theorem dX8_putRow_240 : decode cX8_putRow 240 = .ok (.aload_n 0, 1) := by decide +kernel
theorem dX8_putRow_241 : decode cX8_putRow 241 = .ok (.getfield 57, 3) := by decide +kernel
theorem dX8_putRow_244 : decode cX8_putRow 244 = .ok (.iload_n 1, 1) := by decide +kernel
theorem dX8_putRow_245 : decode cX8_putRow 245 = .ok (.iaload, 1) := by decide +kernel
theorem dX8_putRow_246 : decode cX8_putRow 246 = .ok (.iadd, 1) := by decide +kernel
theorem dX8_putRow_247 : decode cX8_putRow 247 = .ok (.if_icmp .ge 52, 3) := by decide +kernel
theorem dX8_putRow_250 : decode cX8_putRow 250 = .ok (.aload_n 0, 1) := by decide +kernel
theorem dX8_putRow_251 : decode cX8_putRow 251 = .ok (.aload_n 0, 1) := by decide +kernel
theorem dX8_putRow_252 : decode cX8_putRow 252 = .ok (.getfield 60, 3) := by decide +kernel
theorem dX8_putRow_255 : decode cX8_putRow 255 = .ok (.iload_n 2, 1) := by decide +kernel
theorem dX8_putRow_256 : decode cX8_putRow 256 = .ok (.iaload, 1) := by decide +kernel
theorem dX8_putRow_257 : decode cX8_putRow 257 = .ok (.i2l, 1) := by decide +kernel
theorem dX8_putRow_258 : decode cX8_putRow 258 = .ok (.iconst 4, 1) := by decide +kernel
theorem dX8_putRow_259 : decode cX8_putRow 259 = .ok (.invokevirtual 225, 3) := by decide +kernel
theorem dX8_putRow_262 : decode cX8_putRow 262 = .ok (.aload_n 0, 1) := by decide +kernel
theorem dX8_putRow_263 : decode cX8_putRow 263 = .ok (.aload_n 0, 1) := by decide +kernel
theorem dX8_putRow_264 : decode cX8_putRow 264 = .ok (.getfield 63, 3) := by decide +kernel
theorem dX8_putRow_267 : decode cX8_putRow 267 = .ok (.iload_n 2, 1) := by decide +kernel
theorem dX8_putRow_268 : decode cX8_putRow 268 = .ok (.iaload, 1) := by decide +kernel
theorem dX8_putRow_269 : decode cX8_putRow 269 = .ok (.i2l, 1) := by decide +kernel
theorem dX8_putRow_270 : decode cX8_putRow 270 = .ok (.iconst 1, 1) := by decide +kernel
theorem dX8_putRow_271 : decode cX8_putRow 271 = .ok (.invokevirtual 225, 3) := by decide +kernel
theorem dX8_putRow_274 : decode cX8_putRow 274 = .ok (.aload_n 0, 1) := by decide +kernel
theorem dX8_putRow_275 : decode cX8_putRow 275 = .ok (.aload_n 0, 1) := by decide +kernel
theorem dX8_putRow_276 : decode cX8_putRow 276 = .ok (.getfield 66, 3) := by decide +kernel
theorem dX8_putRow_279 : decode cX8_putRow 279 = .ok (.iload_n 2, 1) := by decide +kernel
theorem dX8_putRow_280 : decode cX8_putRow 280 = .ok (.baload, 1) := by decide +kernel
theorem dX8_putRow_281 : decode cX8_putRow 281 = .ok (.ifCond .eq 7, 3) := by decide +kernel
theorem dX8_putRow_284 : decode cX8_putRow 284 = .ok (.lconst 1, 1) := by decide +kernel
theorem dX8_putRow_285 : decode cX8_putRow 285 = .ok (.goto 4, 3) := by decide +kernel
theorem dX8_putRow_288 : decode cX8_putRow 288 = .ok (.lconst 0, 1) := by decide +kernel
theorem dX8_putRow_289 : decode cX8_putRow 289 = .ok (.iconst 1, 1) := by decide +kernel
theorem dX8_putRow_290 : decode cX8_putRow 290 = .ok (.invokevirtual 225, 3) := by decide +kernel
theorem dX8_putRow_293 : decode cX8_putRow 293 = .ok (.iinc 2 1, 3) := by decide +kernel
theorem dX8_putRow_296 : decode cX8_putRow 296 = .ok (.goto (-61), 3) := by decide +kernel
theorem dX8_putRow_299 : decode cX8_putRow 299 = .ok (.aload_n 0, 1) := by decide +kernel
theorem dX8_putRow_300 : decode cX8_putRow 300 = .ok (.aload_n 0, 1) := by decide +kernel
theorem dX8_putRow_301 : decode cX8_putRow 301 = .ok (.getfield 69, 3) := by decide +kernel
theorem dX8_putRow_304 : decode cX8_putRow 304 = .ok (.iload_n 1, 1) := by decide +kernel
theorem dX8_putRow_305 : decode cX8_putRow 305 = .ok (.iaload, 1) := by decide +kernel
theorem dX8_putRow_306 : decode cX8_putRow 306 = .ok (.i2l, 1) := by decide +kernel
theorem dX8_putRow_307 : decode cX8_putRow 307 = .ok (.iconst 1, 1) := by decide +kernel
theorem dX8_putRow_308 : decode cX8_putRow 308 = .ok (.invokevirtual 225, 3) := by decide +kernel
theorem dX8_putRow_311 : decode cX8_putRow 311 = .ok (.bipush 6, 2) := by decide +kernel
theorem dX8_putRow_313 : decode cX8_putRow 313 = .ok (.iload_n 1, 1) := by decide +kernel
theorem dX8_putRow_314 : decode cX8_putRow 314 = .ok (.imul, 1) := by decide +kernel
theorem dX8_putRow_315 : decode cX8_putRow 315 = .ok (.istore_n 2, 1) := by decide +kernel
theorem dX8_putRow_316 : decode cX8_putRow 316 = .ok (.iload_n 2, 1) := by decide +kernel
theorem dX8_putRow_317 : decode cX8_putRow 317 = .ok (.bipush 6, 2) := by decide +kernel
theorem dX8_putRow_319 : decode cX8_putRow 319 = .ok (.iload_n 1, 1) := by decide +kernel
theorem dX8_putRow_320 : decode cX8_putRow 320 = .ok (.imul, 1) := by decide +kernel
theorem dX8_putRow_321 : decode cX8_putRow 321 = .ok (.aload_n 0, 1) := by decide +kernel
theorem dX8_putRow_322 : decode cX8_putRow 322 = .ok (.getfield 69, 3) := by decide +kernel
theorem dX8_putRow_325 : decode cX8_putRow 325 = .ok (.iload_n 1, 1) := by decide +kernel
theorem dX8_putRow_326 : decode cX8_putRow 326 = .ok (.iaload, 1) := by decide +kernel
theorem dX8_putRow_327 : decode cX8_putRow 327 = .ok (.iadd, 1) := by decide +kernel
theorem dX8_putRow_328 : decode cX8_putRow 328 = .ok (.if_icmp .ge 21, 3) := by decide +kernel
theorem dX8_putRow_331 : decode cX8_putRow 331 = .ok (.aload_n 0, 1) := by decide +kernel
theorem dX8_putRow_332 : decode cX8_putRow 332 = .ok (.aload_n 0, 1) := by decide +kernel
theorem dX8_putRow_333 : decode cX8_putRow 333 = .ok (.getfield 72, 3) := by decide +kernel
theorem dX8_putRow_336 : decode cX8_putRow 336 = .ok (.iload_n 2, 1) := by decide +kernel
theorem dX8_putRow_337 : decode cX8_putRow 337 = .ok (.iaload, 1) := by decide +kernel
theorem dX8_putRow_338 : decode cX8_putRow 338 = .ok (.i2l, 1) := by decide +kernel
theorem dX8_putRow_339 : decode cX8_putRow 339 = .ok (.iconst 4, 1) := by decide +kernel
theorem dX8_putRow_340 : decode cX8_putRow 340 = .ok (.invokevirtual 225, 3) := by decide +kernel
theorem dX8_putRow_343 : decode cX8_putRow 343 = .ok (.iinc 2 1, 3) := by decide +kernel
theorem dX8_putRow_346 : decode cX8_putRow 346 = .ok (.goto (-30), 3) := by decide +kernel
theorem dX8_putRow_349 : decode cX8_putRow 349 = .ok (.return_, 1) := by decide +kernel
set_option maxRecDepth 20000 in
theorem ggX8_rightOne_X8_put : GoodIn wsX8_rightOne wsX8_put := goodIn_r _ [8, 9, 1, 10, 57, 58, 59, 60, 61, 62, 63, 64, 65, 66, 67, 68, 69, 70, 71, 72, 73, 74, 75, 76, 77, 78, 79, 80, 81, 82, 83, 84, 85, 86, 87, 88, 89, 90, 91, 92, 93, 94, 95, 96, 97] (by decide +kernel) (by decide +kernel)
set_option maxRecDepth 20000 in
theorem gX8_rightOne_X8_put : GoodIn wsX8_rightOne (wsV RX8 225 RX8 yX8_put wsX8_put) := goodIn_app (goodIn_of _ (by decide +kernel)) ggX8_rightOne_X8_put
set_option maxRecDepth 20000 in
theorem ggX8_rightOne_X8_putRow : GoodIn wsX8_rightOne wsX8_putRow := goodIn_r _ [14, 15, 16, 17, 18, 19, 20, 21, 22, 23, 24, 25, 26, 27, 28, 29, 30, 4, 5, 6, 7, 8, 9, 1, 10, 57, 58, 59, 60, 61, 62, 63, 64, 65, 66, 67, 68, 69, 70, 71, 72, 73, 74, 75, 76, 77, 78, 79, 80, 81, 82, 83, 84, 85, 86, 87, 88, 89, 90, 91, 92, 93, 94, 95, 96, 97] (by decide +kernel) (by decide +kernel)
set_option maxRecDepth 20000 in
theorem gX8_rightOne_X8_putRow : GoodIn wsX8_rightOne (wsV RX8 234 RX8 yX8_putRow wsX8_putRow) := goodIn_app (goodIn_of _ (by decide +kernel)) ggX8_rightOne_X8_putRow
set_option maxRecDepth 20000 in
theorem ggX8_rightOne_X8_digestAll : GoodIn wsX8_rightOne wsX8_digestAll := goodIn_r _ [34, 1, 35, 36, 37, 38, 3, 4, 5, 6, 7, 8, 9, 10, 39, 40, 41, 42, 43, 44, 45, 46, 47, 48, 49, 50, 51, 52, 53, 54, 55, 56, 57, 58, 59, 60, 61, 62, 63, 64, 65, 66, 67, 68, 69, 70, 71, 72, 73, 74, 75, 76, 77, 78, 79, 80, 81, 82, 83, 84, 85, 86, 87, 88, 89, 90, 91, 92, 93, 94, 95, 96, 97] (by decide +kernel) (by decide +kernel)
set_option maxRecDepth 20000 in
theorem gX8_rightOne_X8_digestAll : GoodIn wsX8_rightOne (wsV RX8 237 RX8 yX8_digestAll wsX8_digestAll) := goodIn_app (goodIn_of _ (by decide +kernel)) ggX8_rightOne_X8_digestAll
theorem dX8_rightOne_0 : decode cX8_rightOne 0 = .ok (.aload_n 0, 1) := by decide +kernel
theorem dX8_rightOne_1 : decode cX8_rightOne 1 = .ok (.iconst 0, 1) := by decide +kernel
theorem dX8_rightOne_2 : decode cX8_rightOne 2 = .ok (.putfield 206, 3) := by decide +kernel
theorem dX8_rightOne_5 : decode cX8_rightOne 5 = .ok (.aload_n 0, 1) := by decide +kernel
theorem dX8_rightOne_6 : decode cX8_rightOne 6 = .ok (.aload_n 0, 1) := by decide +kernel
theorem dX8_rightOne_7 : decode cX8_rightOne 7 = .ok (.getfield 7, 3) := by decide +kernel
theorem dX8_rightOne_10 : decode cX8_rightOne 10 = .ok (.iload_n 2, 1) := by decide +kernel
theorem dX8_rightOne_11 : decode cX8_rightOne 11 = .ok (.laload, 1) := by decide +kernel
theorem dX8_rightOne_12 : decode cX8_rightOne 12 = .ok (.bipush 8, 2) := by decide +kernel
theorem dX8_rightOne_14 : decode cX8_rightOne 14 = .ok (.invokevirtual 225, 3) := by decide +kernel
theorem dX8_rightOne_17 : decode cX8_rightOne 17 = .ok (.aload_n 0, 1) := by decide +kernel
theorem dX8_rightOne_18 : decode cX8_rightOne 18 = .ok (.iload_n 1, 1) := by decide +kernel
theorem dX8_rightOne_19 : decode cX8_rightOne 19 = .ok (.invokevirtual 234, 3) := by decide +kernel
theorem dX8_rightOne_22 : decode cX8_rightOne 22 = .ok (.aload_n 0, 1) := by decide +kernel
theorem dX8_rightOne_23 : decode cX8_rightOne 23 = .ok (.invokevirtual 237, 3) := by decide +kernel
theorem dX8_rightOne_26 : decode cX8_rightOne 26 = .ok (.lconst 0, 1) := by decide +kernel
theorem dX8_rightOne_27 : decode cX8_rightOne 27 = .ok (.lstore_n 3, 1) := by decide +kernel
theorem dX8_rightOne_28 : decode cX8_rightOne 28 = .ok (.iconst 0, 1) := by decide +kernel
theorem dX8_rightOne_29 : decode cX8_rightOne 29 = .ok (.istore 5, 2) := by decide +kernel
theorem dX8_rightOne_31 : decode cX8_rightOne 31 = .ok (.iload 5, 2) := by decide +kernel
theorem dX8_rightOne_33 : decode cX8_rightOne 33 = .ok (.bipush 8, 2) := by decide +kernel
theorem dX8_rightOne_35 : decode cX8_rightOne 35 = .ok (.if_icmp .ge 23, 3) := by decide +kernel
theorem dX8_rightOne_38 : decode cX8_rightOne 38 = .ok (.lload_n 3, 1) := by decide +kernel
theorem dX8_rightOne_39 : decode cX8_rightOne 39 = .ok (.bipush 8, 2) := by decide +kernel
theorem dX8_rightOne_41 : decode cX8_rightOne 41 = .ok (.lshl, 1) := by decide +kernel
theorem dX8_rightOne_42 : decode cX8_rightOne 42 = .ok (.aload_n 0, 1) := by decide +kernel
theorem dX8_rightOne_43 : decode cX8_rightOne 43 = .ok (.getfield 90, 3) := by decide +kernel
theorem dX8_rightOne_46 : decode cX8_rightOne 46 = .ok (.iload 5, 2) := by decide +kernel
theorem dX8_rightOne_48 : decode cX8_rightOne 48 = .ok (.iaload, 1) := by decide +kernel
theorem dX8_rightOne_49 : decode cX8_rightOne 49 = .ok (.i2l, 1) := by decide +kernel
theorem dX8_rightOne_50 : decode cX8_rightOne 50 = .ok (.lor, 1) := by decide +kernel
theorem dX8_rightOne_51 : decode cX8_rightOne 51 = .ok (.lstore_n 3, 1) := by decide +kernel
theorem dX8_rightOne_52 : decode cX8_rightOne 52 = .ok (.iinc 5 1, 3) := by decide +kernel
theorem dX8_rightOne_55 : decode cX8_rightOne 55 = .ok (.goto (-24), 3) := by decide +kernel
theorem dX8_rightOne_58 : decode cX8_rightOne 58 = .ok (.lload_n 3, 1) := by decide +kernel
theorem dX8_rightOne_59 : decode cX8_rightOne 59 = .ok (.lreturn, 1) := by decide +kernel
set_option maxRecDepth 20000 in
theorem ggX8_rightKeys_X8_rightOne : GoodIn wsX8_rightKeys wsX8_rightOne := goodIn_r _ [9, 10, 11, 12, 13, 14, 15, 8, 16, 17, 18, 19, 20, 21, 22, 23, 24, 25, 26, 27, 28, 29, 30, 31, 32, 33, 34, 35, 36, 37, 38, 39, 40, 41, 42, 43, 44, 45, 46, 47, 48, 49, 50, 51, 52, 53, 54, 55, 56, 57, 58, 59, 60, 61, 62, 63, 64, 65, 66, 67, 68, 69, 70, 71, 72, 73, 74, 75, 76, 77, 78, 79, 80, 81, 82, 83, 84, 85, 86, 87, 88, 89, 90, 91, 92, 93, 94, 95, 96, 97, 98, 99, 100, 101, 102, 103, 104, 105] (by decide +kernel) (by decide +kernel)
set_option maxRecDepth 20000 in
theorem gX8_rightKeys_X8_rightOne : GoodIn wsX8_rightKeys (wsV RX8 240 RX8 yX8_rightOne wsX8_rightOne) := goodIn_app (goodIn_of _ (by decide +kernel)) ggX8_rightKeys_X8_rightOne
theorem dX8_rightKeys_0 : decode cX8_rightKeys 0 = .ok (.iconst 0, 1) := by decide +kernel
theorem dX8_rightKeys_1 : decode cX8_rightKeys 1 = .ok (.istore_n 2, 1) := by decide +kernel
theorem dX8_rightKeys_2 : decode cX8_rightKeys 2 = .ok (.iconst 0, 1) := by decide +kernel
theorem dX8_rightKeys_3 : decode cX8_rightKeys 3 = .ok (.istore_n 3, 1) := by decide +kernel
theorem dX8_rightKeys_4 : decode cX8_rightKeys 4 = .ok (.iload_n 3, 1) := by decide +kernel
theorem dX8_rightKeys_5 : decode cX8_rightKeys 5 = .ok (.aload_n 0, 1) := by decide +kernel
theorem dX8_rightKeys_6 : decode cX8_rightKeys 6 = .ok (.getfield 196, 3) := by decide +kernel
theorem dX8_rightKeys_9 : decode cX8_rightKeys 9 = .ok (.if_icmp .ge 95, 3) := by decide +kernel
theorem dX8_rightKeys_12 : decode cX8_rightKeys 12 = .ok (.iconst 0, 1) := by decide +kernel
theorem dX8_rightKeys_13 : decode cX8_rightKeys 13 = .ok (.istore 4, 2) := by decide +kernel
theorem dX8_rightKeys_15 : decode cX8_rightKeys 15 = .ok (.bipush 12, 2) := by decide +kernel
theorem dX8_rightKeys_17 : decode cX8_rightKeys 17 = .ok (.iload_n 1, 1) := by decide +kernel
theorem dX8_rightKeys_18 : decode cX8_rightKeys 18 = .ok (.imul, 1) := by decide +kernel
theorem dX8_rightKeys_19 : decode cX8_rightKeys 19 = .ok (.istore 5, 2) := by decide +kernel
theorem dX8_rightKeys_21 : decode cX8_rightKeys 21 = .ok (.iload 5, 2) := by decide +kernel
theorem dX8_rightKeys_23 : decode cX8_rightKeys 23 = .ok (.bipush 12, 2) := by decide +kernel
theorem dX8_rightKeys_25 : decode cX8_rightKeys 25 = .ok (.iload_n 1, 1) := by decide +kernel
theorem dX8_rightKeys_26 : decode cX8_rightKeys 26 = .ok (.imul, 1) := by decide +kernel
theorem dX8_rightKeys_27 : decode cX8_rightKeys 27 = .ok (.aload_n 0, 1) := by decide +kernel
theorem dX8_rightKeys_28 : decode cX8_rightKeys 28 = .ok (.getfield 75, 3) := by decide +kernel
theorem dX8_rightKeys_31 : decode cX8_rightKeys 31 = .ok (.iload_n 1, 1) := by decide +kernel
theorem dX8_rightKeys_32 : decode cX8_rightKeys 32 = .ok (.iaload, 1) := by decide +kernel
theorem dX8_rightKeys_33 : decode cX8_rightKeys 33 = .ok (.iadd, 1) := by decide +kernel
theorem dX8_rightKeys_34 : decode cX8_rightKeys 34 = .ok (.if_icmp .ge 49, 3) := by decide +kernel
theorem dX8_rightKeys_37 : decode cX8_rightKeys 37 = .ok (.iload 4, 2) := by decide +kernel
theorem dX8_rightKeys_39 : decode cX8_rightKeys 39 = .ok (.ifCond .ne 31, 3) := by decide +kernel
theorem dX8_rightKeys_42 : decode cX8_rightKeys 42 = .ok (.aload_n 0, 1) := by decide +kernel
theorem dX8_rightKeys_43 : decode cX8_rightKeys 43 = .ok (.getfield 78, 3) := by decide +kernel
theorem dX8_rightKeys_46 : decode cX8_rightKeys 46 = .ok (.iload 5, 2) := by decide +kernel
theorem dX8_rightKeys_48 : decode cX8_rightKeys 48 = .ok (.iaload, 1) := by decide +kernel
theorem dX8_rightKeys_49 : decode cX8_rightKeys 49 = .ok (.iload_n 3, 1) := by decide +kernel
theorem dX8_rightKeys_50 : decode cX8_rightKeys 50 = .ok (.if_icmp .ne 24, 3) := by decide +kernel
theorem dX8_rightKeys_53 : decode cX8_rightKeys 53 = .ok (.aload_n 0, 1) := by decide +kernel
theorem dX8_rightKeys_54 : decode cX8_rightKeys 54 = .ok (.getfield 81, 3) := by decide +kernel
theorem dX8_rightKeys_57 : decode cX8_rightKeys 57 = .ok (.iload 5, 2) := by decide +kernel
theorem dX8_rightKeys_59 : decode cX8_rightKeys 59 = .ok (.laload, 1) := by decide +kernel
theorem dX8_rightKeys_60 : decode cX8_rightKeys 60 = .ok (.aload_n 0, 1) := by decide +kernel
theorem dX8_rightKeys_61 : decode cX8_rightKeys 61 = .ok (.iload_n 1, 1) := by decide +kernel
theorem dX8_rightKeys_62 : decode cX8_rightKeys 62 = .ok (.iload_n 3, 1) := by decide +kernel
theorem dX8_rightKeys_63 : decode cX8_rightKeys 63 = .ok (.invokevirtual 240, 3) := by decide +kernel
theorem dX8_rightKeys_66 : decode cX8_rightKeys 66 = .ok (.lcmp, 1) := by decide +kernel
theorem dX8_rightKeys_67 : decode cX8_rightKeys 67 = .ok (.ifCond .ne 7, 3) := by decide +kernel
theorem dX8_rightKeys_70 : decode cX8_rightKeys 70 = .ok (.iconst 1, 1) := by decide +kernel
theorem dX8_rightKeys_71 : decode cX8_rightKeys 71 = .ok (.goto 4, 3) := by decide +kernel
theorem dX8_rightKeys_74 : decode cX8_rightKeys 74 = .ok (.iconst 0, 1) := by decide +kernel
theorem dX8_rightKeys_75 : decode cX8_rightKeys 75 = .ok (.istore 4, 2) := by decide +kernel
theorem dX8_rightKeys_77 : decode cX8_rightKeys 77 = .ok (.iinc 5 1, 3) := by decide +kernel
theorem dX8_rightKeys_80 : decode cX8_rightKeys 80 = .ok (.goto (-59), 3) := by decide +kernel
theorem dX8_rightKeys_83 : decode cX8_rightKeys 83 = .ok (.iload_n 2, 1) := by decide +kernel
theorem dX8_rightKeys_84 : decode cX8_rightKeys 84 = .ok (.iload 4, 2) := by decide +kernel
theorem dX8_rightKeys_86 : decode cX8_rightKeys 86 = .ok (.ifCond .eq 9, 3) := by decide +kernel
theorem dX8_rightKeys_89 : decode cX8_rightKeys 89 = .ok (.iconst 1, 1) := by decide +kernel
theorem dX8_rightKeys_90 : decode cX8_rightKeys 90 = .ok (.iload_n 3, 1) := by decide +kernel
theorem dX8_rightKeys_91 : decode cX8_rightKeys 91 = .ok (.ishl, 1) := by decide +kernel
theorem dX8_rightKeys_92 : decode cX8_rightKeys 92 = .ok (.goto 4, 3) := by decide +kernel
theorem dX8_rightKeys_95 : decode cX8_rightKeys 95 = .ok (.iconst 0, 1) := by decide +kernel
theorem dX8_rightKeys_96 : decode cX8_rightKeys 96 = .ok (.ior, 1) := by decide +kernel
theorem dX8_rightKeys_97 : decode cX8_rightKeys 97 = .ok (.istore_n 2, 1) := by decide +kernel
theorem dX8_rightKeys_98 : decode cX8_rightKeys 98 = .ok (.iinc 3 1, 3) := by decide +kernel
theorem dX8_rightKeys_101 : decode cX8_rightKeys 101 = .ok (.goto (-97), 3) := by decide +kernel
theorem dX8_rightKeys_104 : decode cX8_rightKeys 104 = .ok (.iload_n 2, 1) := by decide +kernel
theorem dX8_rightKeys_105 : decode cX8_rightKeys 105 = .ok (.ireturn, 1) := by decide +kernel
theorem dX8_bits_0 : decode cX8_bits 0 = .ok (.iconst 0, 1) := by decide +kernel
theorem dX8_bits_1 : decode cX8_bits 1 = .ok (.istore_n 1, 1) := by decide +kernel
theorem dX8_bits_2 : decode cX8_bits 2 = .ok (.iconst 0, 1) := by decide +kernel
theorem dX8_bits_3 : decode cX8_bits 3 = .ok (.istore_n 2, 1) := by decide +kernel
theorem dX8_bits_4 : decode cX8_bits 4 = .ok (.iload_n 2, 1) := by decide +kernel
theorem dX8_bits_5 : decode cX8_bits 5 = .ok (.bipush 20, 2) := by decide +kernel
theorem dX8_bits_7 : decode cX8_bits 7 = .ok (.if_icmp .ge 17, 3) := by decide +kernel
theorem dX8_bits_10 : decode cX8_bits 10 = .ok (.iload_n 1, 1) := by decide +kernel
theorem dX8_bits_11 : decode cX8_bits 11 = .ok (.iload_n 0, 1) := by decide +kernel
theorem dX8_bits_12 : decode cX8_bits 12 = .ok (.iload_n 2, 1) := by decide +kernel
theorem dX8_bits_13 : decode cX8_bits 13 = .ok (.ishr, 1) := by decide +kernel
theorem dX8_bits_14 : decode cX8_bits 14 = .ok (.iconst 1, 1) := by decide +kernel
theorem dX8_bits_15 : decode cX8_bits 15 = .ok (.iand, 1) := by decide +kernel
theorem dX8_bits_16 : decode cX8_bits 16 = .ok (.iadd, 1) := by decide +kernel
theorem dX8_bits_17 : decode cX8_bits 17 = .ok (.istore_n 1, 1) := by decide +kernel
theorem dX8_bits_18 : decode cX8_bits 18 = .ok (.iinc 2 1, 3) := by decide +kernel
theorem dX8_bits_21 : decode cX8_bits 21 = .ok (.goto (-17), 3) := by decide +kernel
theorem dX8_bits_24 : decode cX8_bits 24 = .ok (.iload_n 1, 1) := by decide +kernel
theorem dX8_bits_25 : decode cX8_bits 25 = .ok (.ireturn, 1) := by decide +kernel
theorem dX8_key_0 : decode cX8_key 0 = .ok (.aload_n 0, 1) := by decide +kernel
theorem dX8_key_1 : decode cX8_key 1 = .ok (.iconst 0, 1) := by decide +kernel
theorem dX8_key_2 : decode cX8_key 2 = .ok (.putfield 192, 3) := by decide +kernel
theorem dX8_key_5 : decode cX8_key 5 = .ok (.aload_n 0, 1) := by decide +kernel
theorem dX8_key_6 : decode cX8_key 6 = .ok (.getfield 196, 3) := by decide +kernel
theorem dX8_key_9 : decode cX8_key 9 = .ok (.bipush 20, 2) := by decide +kernel
theorem dX8_key_11 : decode cX8_key 11 = .ok (.if_icmp .ne 5, 3) := by decide +kernel
theorem dX8_key_14 : decode cX8_key 14 = .ok (.iconst (-1), 1) := by decide +kernel
theorem dX8_key_15 : decode cX8_key 15 = .ok (.ireturn, 1) := by decide +kernel
theorem dX8_key_16 : decode cX8_key 16 = .ok (.aload_n 0, 1) := by decide +kernel
theorem dX8_key_17 : decode cX8_key 17 = .ok (.getfield 7, 3) := by decide +kernel
theorem dX8_key_20 : decode cX8_key 20 = .ok (.aload_n 0, 1) := by decide +kernel
theorem dX8_key_21 : decode cX8_key 21 = .ok (.getfield 196, 3) := by decide +kernel
theorem dX8_key_24 : decode cX8_key 24 = .ok (.lload_n 1, 1) := by decide +kernel
theorem dX8_key_25 : decode cX8_key 25 = .ok (.lastore, 1) := by decide +kernel
theorem dX8_key_26 : decode cX8_key 26 = .ok (.aload_n 0, 1) := by decide +kernel
theorem dX8_key_27 : decode cX8_key 27 = .ok (.getfield 13, 3) := by decide +kernel
theorem dX8_key_30 : decode cX8_key 30 = .ok (.aload_n 0, 1) := by decide +kernel
theorem dX8_key_31 : decode cX8_key 31 = .ok (.getfield 196, 3) := by decide +kernel
theorem dX8_key_34 : decode cX8_key 34 = .ok (.lload_n 3, 1) := by decide +kernel
theorem dX8_key_35 : decode cX8_key 35 = .ok (.lastore, 1) := by decide +kernel
theorem dX8_key_36 : decode cX8_key 36 = .ok (.aload_n 0, 1) := by decide +kernel
theorem dX8_key_37 : decode cX8_key 37 = .ok (.dup, 1) := by decide +kernel
theorem dX8_key_38 : decode cX8_key 38 = .ok (.getfield 196, 3) := by decide +kernel
theorem dX8_key_41 : decode cX8_key 41 = .ok (.iconst 1, 1) := by decide +kernel
theorem dX8_key_42 : decode cX8_key 42 = .ok (.iadd, 1) := by decide +kernel
theorem dX8_key_43 : decode cX8_key 43 = .ok (.putfield 196, 3) := by decide +kernel
theorem dX8_key_46 : decode cX8_key 46 = .ok (.aload_n 0, 1) := by decide +kernel
theorem dX8_key_47 : decode cX8_key 47 = .ok (.getfield 196, 3) := by decide +kernel
theorem dX8_key_50 : decode cX8_key 50 = .ok (.iconst 1, 1) := by decide +kernel
theorem dX8_key_51 : decode cX8_key 51 = .ok (.isub, 1) := by decide +kernel
theorem dX8_key_52 : decode cX8_key 52 = .ok (.ireturn, 1) := by decide +kernel
set_option maxRecDepth 20000 in
theorem ggX8_quorum_X8_isRole : GoodIn wsX8_quorum wsX8_isRole := goodIn_r _ [6] (by decide +kernel) (by decide +kernel)
set_option maxRecDepth 20000 in
theorem gX8_quorum_X8_isRole : GoodIn wsX8_quorum (va_wsS RX8 244 yX8_isRole wsX8_isRole) := goodIn_app (goodIn_of _ (by decide +kernel)) ggX8_quorum_X8_isRole
theorem dX8_quorum_0 : decode cX8_quorum 0 = .ok (.aload_n 0, 1) := by decide +kernel
theorem dX8_quorum_1 : decode cX8_quorum 1 = .ok (.iconst 0, 1) := by decide +kernel
theorem dX8_quorum_2 : decode cX8_quorum 2 = .ok (.putfield 192, 3) := by decide +kernel
theorem dX8_quorum_5 : decode cX8_quorum 5 = .ok (.iload_n 1, 1) := by decide +kernel
theorem dX8_quorum_6 : decode cX8_quorum 6 = .ok (.invokestatic 244, 3) := by decide +kernel
theorem dX8_quorum_9 : decode cX8_quorum 9 = .ok (.ifCond .eq 14, 3) := by decide +kernel
theorem dX8_quorum_12 : decode cX8_quorum 12 = .ok (.iload_n 2, 1) := by decide +kernel
theorem dX8_quorum_13 : decode cX8_quorum 13 = .ok (.iconst 1, 1) := by decide +kernel
theorem dX8_quorum_14 : decode cX8_quorum 14 = .ok (.if_icmp .lt 9, 3) := by decide +kernel
theorem dX8_quorum_17 : decode cX8_quorum 17 = .ok (.iload_n 2, 1) := by decide +kernel
theorem dX8_quorum_18 : decode cX8_quorum 18 = .ok (.bipush 9, 2) := by decide +kernel
theorem dX8_quorum_20 : decode cX8_quorum 20 = .ok (.if_icmp .le 5, 3) := by decide +kernel
theorem dX8_quorum_23 : decode cX8_quorum 23 = .ok (.iconst 0, 1) := by decide +kernel
theorem dX8_quorum_24 : decode cX8_quorum 24 = .ok (.ireturn, 1) := by decide +kernel
theorem dX8_quorum_25 : decode cX8_quorum 25 = .ok (.aload_n 0, 1) := by decide +kernel
theorem dX8_quorum_26 : decode cX8_quorum 26 = .ok (.getfield 20, 3) := by decide +kernel
theorem dX8_quorum_29 : decode cX8_quorum 29 = .ok (.iload_n 1, 1) := by decide +kernel
theorem dX8_quorum_30 : decode cX8_quorum 30 = .ok (.iload_n 2, 1) := by decide +kernel
theorem dX8_quorum_31 : decode cX8_quorum 31 = .ok (.iastore, 1) := by decide +kernel
theorem dX8_quorum_32 : decode cX8_quorum 32 = .ok (.iconst 1, 1) := by decide +kernel
theorem dX8_quorum_33 : decode cX8_quorum 33 = .ok (.ireturn, 1) := by decide +kernel
set_option maxRecDepth 20000 in
theorem ggX8_holds_X8_isRole : GoodIn wsX8_holds wsX8_isRole := goodIn_r _ [6] (by decide +kernel) (by decide +kernel)
set_option maxRecDepth 20000 in
theorem gX8_holds_X8_isRole : GoodIn wsX8_holds (va_wsS RX8 244 yX8_isRole wsX8_isRole) := goodIn_app (goodIn_of _ (by decide +kernel)) ggX8_holds_X8_isRole
set_option maxRecDepth 20000 in
theorem ggX8_holds_X8_isKey : GoodIn wsX8_holds wsX8_isKey := goodIn_r _ [10, 11, 12, 13, 14, 15, 16, 17, 18, 19, 20, 21, 22, 23, 24, 25, 26, 27, 28, 29, 30, 31, 32, 33, 34, 35, 36, 37, 38, 39, 40, 41, 42, 43, 44, 45, 46, 47, 48, 49, 50, 51, 52] (by decide +kernel) (by decide +kernel)
set_option maxRecDepth 20000 in
theorem gX8_holds_X8_isKey : GoodIn wsX8_holds (wsV RX8 247 RX8 yX8_isKey wsX8_isKey) := goodIn_app (goodIn_of _ (by decide +kernel)) ggX8_holds_X8_isKey
theorem dX8_holds_0 : decode cX8_holds 0 = .ok (.aload_n 0, 1) := by decide +kernel
theorem dX8_holds_1 : decode cX8_holds 1 = .ok (.iconst 0, 1) := by decide +kernel
theorem dX8_holds_2 : decode cX8_holds 2 = .ok (.putfield 192, 3) := by decide +kernel
theorem dX8_holds_5 : decode cX8_holds 5 = .ok (.iload_n 1, 1) := by decide +kernel
theorem dX8_holds_6 : decode cX8_holds 6 = .ok (.invokestatic 244, 3) := by decide +kernel
theorem dX8_holds_9 : decode cX8_holds 9 = .ok (.ifCond .eq 11, 3) := by decide +kernel
theorem dX8_holds_12 : decode cX8_holds 12 = .ok (.aload_n 0, 1) := by decide +kernel
theorem dX8_holds_13 : decode cX8_holds 13 = .ok (.iload_n 2, 1) := by decide +kernel
theorem dX8_holds_14 : decode cX8_holds 14 = .ok (.invokevirtual 247, 3) := by decide +kernel
theorem dX8_holds_17 : decode cX8_holds 17 = .ok (.ifCond .ne 5, 3) := by decide +kernel
theorem dX8_holds_20 : decode cX8_holds 20 = .ok (.iconst 0, 1) := by decide +kernel
theorem dX8_holds_21 : decode cX8_holds 21 = .ok (.ireturn, 1) := by decide +kernel
theorem dX8_holds_22 : decode cX8_holds 22 = .ok (.aload_n 0, 1) := by decide +kernel
theorem dX8_holds_23 : decode cX8_holds 23 = .ok (.getfield 24, 3) := by decide +kernel
theorem dX8_holds_26 : decode cX8_holds 26 = .ok (.iload_n 1, 1) := by decide +kernel
theorem dX8_holds_27 : decode cX8_holds 27 = .ok (.iload_n 3, 1) := by decide +kernel
theorem dX8_holds_28 : decode cX8_holds 28 = .ok (.ifCond .eq 16, 3) := by decide +kernel
theorem dX8_holds_31 : decode cX8_holds 31 = .ok (.aload_n 0, 1) := by decide +kernel
theorem dX8_holds_32 : decode cX8_holds 32 = .ok (.getfield 24, 3) := by decide +kernel
theorem dX8_holds_35 : decode cX8_holds 35 = .ok (.iload_n 1, 1) := by decide +kernel
theorem dX8_holds_36 : decode cX8_holds 36 = .ok (.iaload, 1) := by decide +kernel
theorem dX8_holds_37 : decode cX8_holds 37 = .ok (.iconst 1, 1) := by decide +kernel
theorem dX8_holds_38 : decode cX8_holds 38 = .ok (.iload_n 2, 1) := by decide +kernel
theorem dX8_holds_39 : decode cX8_holds 39 = .ok (.ishl, 1) := by decide +kernel
theorem dX8_holds_40 : decode cX8_holds 40 = .ok (.ior, 1) := by decide +kernel
theorem dX8_holds_41 : decode cX8_holds 41 = .ok (.goto 15, 3) := by decide +kernel
theorem dX8_holds_44 : decode cX8_holds 44 = .ok (.aload_n 0, 1) := by decide +kernel
theorem dX8_holds_45 : decode cX8_holds 45 = .ok (.getfield 24, 3) := by decide +kernel
theorem dX8_holds_48 : decode cX8_holds 48 = .ok (.iload_n 1, 1) := by decide +kernel
theorem dX8_holds_49 : decode cX8_holds 49 = .ok (.iaload, 1) := by decide +kernel
theorem dX8_holds_50 : decode cX8_holds 50 = .ok (.iconst 1, 1) := by decide +kernel
theorem dX8_holds_51 : decode cX8_holds 51 = .ok (.iload_n 2, 1) := by decide +kernel
theorem dX8_holds_52 : decode cX8_holds 52 = .ok (.ishl, 1) := by decide +kernel
theorem dX8_holds_53 : decode cX8_holds 53 = .ok (.iconst (-1), 1) := by decide +kernel
theorem dX8_holds_54 : decode cX8_holds 54 = .ok (.ixor, 1) := by decide +kernel
theorem dX8_holds_55 : decode cX8_holds 55 = .ok (.iand, 1) := by decide +kernel
theorem dX8_holds_56 : decode cX8_holds 56 = .ok (.iastore, 1) := by decide +kernel
theorem dX8_holds_57 : decode cX8_holds 57 = .ok (.iconst 1, 1) := by decide +kernel
theorem dX8_holds_58 : decode cX8_holds 58 = .ok (.ireturn, 1) := by decide +kernel
set_option maxRecDepth 20000 in
theorem ggX8_row_X8_isRole : GoodIn wsX8_row wsX8_isRole := goodIn_r _ [14] (by decide +kernel) (by decide +kernel)
set_option maxRecDepth 20000 in
theorem gX8_row_X8_isRole : GoodIn wsX8_row (va_wsS RX8 244 yX8_isRole wsX8_isRole) := goodIn_app (goodIn_of _ (by decide +kernel)) ggX8_row_X8_isRole
theorem dX8_row_0 : decode cX8_row 0 = .ok (.aload_n 0, 1) := by decide +kernel
theorem dX8_row_1 : decode cX8_row 1 = .ok (.iconst 0, 1) := by decide +kernel
theorem dX8_row_2 : decode cX8_row 2 = .ok (.putfield 192, 3) := by decide +kernel
theorem dX8_row_5 : decode cX8_row 5 = .ok (.iload_n 1, 1) := by decide +kernel
theorem dX8_row_6 : decode cX8_row 6 = .ok (.invokestatic 244, 3) := by decide +kernel
theorem dX8_row_9 : decode cX8_row 9 = .ok (.ifCond .eq 23, 3) := by decide +kernel
theorem dX8_row_12 : decode cX8_row 12 = .ok (.iload_n 2, 1) := by decide +kernel
theorem dX8_row_13 : decode cX8_row 13 = .ok (.iconst 1, 1) := by decide +kernel
theorem dX8_row_14 : decode cX8_row 14 = .ok (.if_icmp .lt 18, 3) := by decide +kernel
theorem dX8_row_17 : decode cX8_row 17 = .ok (.iload_n 2, 1) := by decide +kernel
theorem dX8_row_18 : decode cX8_row 18 = .ok (.ldc 250, 2) := by decide +kernel
theorem dX8_row_20 : decode cX8_row 20 = .ok (.if_icmp .gt 12, 3) := by decide +kernel
theorem dX8_row_23 : decode cX8_row 23 = .ok (.aload_n 0, 1) := by decide +kernel
theorem dX8_row_24 : decode cX8_row 24 = .ok (.getfield 199, 3) := by decide +kernel
theorem dX8_row_27 : decode cX8_row 27 = .ok (.bipush 24, 2) := by decide +kernel
theorem dX8_row_29 : decode cX8_row 29 = .ok (.if_icmp .ne 5, 3) := by decide +kernel
theorem dX8_row_32 : decode cX8_row 32 = .ok (.iconst (-1), 1) := by decide +kernel
theorem dX8_row_33 : decode cX8_row 33 = .ok (.ireturn, 1) := by decide +kernel
theorem dX8_row_34 : decode cX8_row 34 = .ok (.aload_n 0, 1) := by decide +kernel
theorem dX8_row_35 : decode cX8_row 35 = .ok (.getfield 33, 3) := by decide +kernel
theorem dX8_row_38 : decode cX8_row 38 = .ok (.aload_n 0, 1) := by decide +kernel
theorem dX8_row_39 : decode cX8_row 39 = .ok (.getfield 199, 3) := by decide +kernel
theorem dX8_row_42 : decode cX8_row 42 = .ok (.iload_n 1, 1) := by decide +kernel
theorem dX8_row_43 : decode cX8_row 43 = .ok (.iastore, 1) := by decide +kernel
theorem dX8_row_44 : decode cX8_row 44 = .ok (.aload_n 0, 1) := by decide +kernel
theorem dX8_row_45 : decode cX8_row 45 = .ok (.getfield 36, 3) := by decide +kernel
theorem dX8_row_48 : decode cX8_row 48 = .ok (.aload_n 0, 1) := by decide +kernel
theorem dX8_row_49 : decode cX8_row 49 = .ok (.getfield 199, 3) := by decide +kernel
theorem dX8_row_52 : decode cX8_row 52 = .ok (.iload_n 2, 1) := by decide +kernel
theorem dX8_row_53 : decode cX8_row 53 = .ok (.iastore, 1) := by decide +kernel
theorem dX8_row_54 : decode cX8_row 54 = .ok (.aload_n 0, 1) := by decide +kernel
theorem dX8_row_55 : decode cX8_row 55 = .ok (.getfield 45, 3) := by decide +kernel
theorem dX8_row_58 : decode cX8_row 58 = .ok (.aload_n 0, 1) := by decide +kernel
theorem dX8_row_59 : decode cX8_row 59 = .ok (.getfield 199, 3) := by decide +kernel
theorem dX8_row_62 : decode cX8_row 62 = .ok (.lload_n 3, 1) := by decide +kernel
theorem dX8_row_63 : decode cX8_row 63 = .ok (.lastore, 1) := by decide +kernel
theorem dX8_row_64 : decode cX8_row 64 = .ok (.iconst 0, 1) := by decide +kernel
theorem dX8_row_65 : decode cX8_row 65 = .ok (.istore 5, 2) := by decide +kernel
theorem dX8_row_67 : decode cX8_row 67 = .ok (.iload 5, 2) := by decide +kernel
theorem dX8_row_69 : decode cX8_row 69 = .ok (.bipush 10, 2) := by decide +kernel
theorem dX8_row_71 : decode cX8_row 71 = .ok (.if_icmp .ge 53, 3) := by decide +kernel
theorem dX8_row_74 : decode cX8_row 74 = .ok (.aload_n 0, 1) := by decide +kernel
theorem dX8_row_75 : decode cX8_row 75 = .ok (.getfield 27, 3) := by decide +kernel
theorem dX8_row_78 : decode cX8_row 78 = .ok (.bipush 10, 2) := by decide +kernel
theorem dX8_row_80 : decode cX8_row 80 = .ok (.aload_n 0, 1) := by decide +kernel
theorem dX8_row_81 : decode cX8_row 81 = .ok (.getfield 199, 3) := by decide +kernel
theorem dX8_row_84 : decode cX8_row 84 = .ok (.imul, 1) := by decide +kernel
theorem dX8_row_85 : decode cX8_row 85 = .ok (.iload 5, 2) := by decide +kernel
theorem dX8_row_87 : decode cX8_row 87 = .ok (.iadd, 1) := by decide +kernel
theorem dX8_row_88 : decode cX8_row 88 = .ok (.aload_n 0, 1) := by decide +kernel
theorem dX8_row_89 : decode cX8_row 89 = .ok (.getfield 20, 3) := by decide +kernel
theorem dX8_row_92 : decode cX8_row 92 = .ok (.iload 5, 2) := by decide +kernel
theorem dX8_row_94 : decode cX8_row 94 = .ok (.iaload, 1) := by decide +kernel
theorem dX8_row_95 : decode cX8_row 95 = .ok (.iastore, 1) := by decide +kernel
theorem dX8_row_96 : decode cX8_row 96 = .ok (.aload_n 0, 1) := by decide +kernel
theorem dX8_row_97 : decode cX8_row 97 = .ok (.getfield 30, 3) := by decide +kernel
theorem dX8_row_100 : decode cX8_row 100 = .ok (.bipush 10, 2) := by decide +kernel
theorem dX8_row_102 : decode cX8_row 102 = .ok (.aload_n 0, 1) := by decide +kernel
theorem dX8_row_103 : decode cX8_row 103 = .ok (.getfield 199, 3) := by decide +kernel
theorem dX8_row_106 : decode cX8_row 106 = .ok (.imul, 1) := by decide +kernel
theorem dX8_row_107 : decode cX8_row 107 = .ok (.iload 5, 2) := by decide +kernel
theorem dX8_row_109 : decode cX8_row 109 = .ok (.iadd, 1) := by decide +kernel
theorem dX8_row_110 : decode cX8_row 110 = .ok (.aload_n 0, 1) := by decide +kernel
theorem dX8_row_111 : decode cX8_row 111 = .ok (.getfield 24, 3) := by decide +kernel
theorem dX8_row_114 : decode cX8_row 114 = .ok (.iload 5, 2) := by decide +kernel
theorem dX8_row_116 : decode cX8_row 116 = .ok (.iaload, 1) := by decide +kernel
theorem dX8_row_117 : decode cX8_row 117 = .ok (.iastore, 1) := by decide +kernel
theorem dX8_row_118 : decode cX8_row 118 = .ok (.iinc 5 1, 3) := by decide +kernel
theorem dX8_row_121 : decode cX8_row 121 = .ok (.goto (-54), 3) := by decide +kernel
theorem dX8_row_124 : decode cX8_row 124 = .ok (.aload_n 0, 1) := by decide +kernel
theorem dX8_row_125 : decode cX8_row 125 = .ok (.dup, 1) := by decide +kernel
theorem dX8_row_126 : decode cX8_row 126 = .ok (.getfield 199, 3) := by decide +kernel
theorem dX8_row_129 : decode cX8_row 129 = .ok (.iconst 1, 1) := by decide +kernel
theorem dX8_row_130 : decode cX8_row 130 = .ok (.iadd, 1) := by decide +kernel
theorem dX8_row_131 : decode cX8_row 131 = .ok (.putfield 199, 3) := by decide +kernel
theorem dX8_row_134 : decode cX8_row 134 = .ok (.aload_n 0, 1) := by decide +kernel
theorem dX8_row_135 : decode cX8_row 135 = .ok (.getfield 199, 3) := by decide +kernel
theorem dX8_row_138 : decode cX8_row 138 = .ok (.iconst 1, 1) := by decide +kernel
theorem dX8_row_139 : decode cX8_row 139 = .ok (.isub, 1) := by decide +kernel
theorem dX8_row_140 : decode cX8_row 140 = .ok (.ireturn, 1) := by decide +kernel
set_option maxRecDepth 20000 in
theorem ggX8_octet_X8_isOpen : GoodIn wsX8_octet wsX8_isOpen := goodIn_r _ [8, 9, 10, 11, 12, 7, 13, 14, 15, 16, 17, 18, 19, 20, 21, 22, 23, 24, 25, 26, 27, 28, 29, 30, 31, 32, 33, 34, 35, 36, 37, 38, 39, 40, 41, 42, 43, 44, 45, 46, 47, 48, 49, 50, 51, 52, 53, 54, 55] (by decide +kernel) (by decide +kernel)
set_option maxRecDepth 20000 in
theorem gX8_octet_X8_isOpen : GoodIn wsX8_octet (wsV RX8 251 RX8 yX8_isOpen wsX8_isOpen) := goodIn_app (goodIn_of _ (by decide +kernel)) ggX8_octet_X8_isOpen
theorem dX8_octet_0 : decode cX8_octet 0 = .ok (.aload_n 0, 1) := by decide +kernel
theorem dX8_octet_1 : decode cX8_octet 1 = .ok (.iconst 0, 1) := by decide +kernel
theorem dX8_octet_2 : decode cX8_octet 2 = .ok (.putfield 192, 3) := by decide +kernel
theorem dX8_octet_5 : decode cX8_octet 5 = .ok (.aload_n 0, 1) := by decide +kernel
theorem dX8_octet_6 : decode cX8_octet 6 = .ok (.iload_n 1, 1) := by decide +kernel
theorem dX8_octet_7 : decode cX8_octet 7 = .ok (.invokevirtual 251, 3) := by decide +kernel
theorem dX8_octet_10 : decode cX8_octet 10 = .ok (.ifCond .eq 14, 3) := by decide +kernel
theorem dX8_octet_13 : decode cX8_octet 13 = .ok (.aload_n 0, 1) := by decide +kernel
theorem dX8_octet_14 : decode cX8_octet 14 = .ok (.getfield 39, 3) := by decide +kernel
theorem dX8_octet_17 : decode cX8_octet 17 = .ok (.iload_n 1, 1) := by decide +kernel
theorem dX8_octet_18 : decode cX8_octet 18 = .ok (.iaload, 1) := by decide +kernel
theorem dX8_octet_19 : decode cX8_octet 19 = .ok (.bipush 16, 2) := by decide +kernel
theorem dX8_octet_21 : decode cX8_octet 21 = .ok (.if_icmp .ne 5, 3) := by decide +kernel
theorem dX8_octet_24 : decode cX8_octet 24 = .ok (.iconst (-1), 1) := by decide +kernel
theorem dX8_octet_25 : decode cX8_octet 25 = .ok (.ireturn, 1) := by decide +kernel
theorem dX8_octet_26 : decode cX8_octet 26 = .ok (.aload_n 0, 1) := by decide +kernel
theorem dX8_octet_27 : decode cX8_octet 27 = .ok (.getfield 42, 3) := by decide +kernel
theorem dX8_octet_30 : decode cX8_octet 30 = .ok (.bipush 16, 2) := by decide +kernel
theorem dX8_octet_32 : decode cX8_octet 32 = .ok (.iload_n 1, 1) := by decide +kernel
theorem dX8_octet_33 : decode cX8_octet 33 = .ok (.imul, 1) := by decide +kernel
theorem dX8_octet_34 : decode cX8_octet 34 = .ok (.aload_n 0, 1) := by decide +kernel
theorem dX8_octet_35 : decode cX8_octet 35 = .ok (.getfield 39, 3) := by decide +kernel
theorem dX8_octet_38 : decode cX8_octet 38 = .ok (.iload_n 1, 1) := by decide +kernel
theorem dX8_octet_39 : decode cX8_octet 39 = .ok (.iaload, 1) := by decide +kernel
theorem dX8_octet_40 : decode cX8_octet 40 = .ok (.iadd, 1) := by decide +kernel
theorem dX8_octet_41 : decode cX8_octet 41 = .ok (.iload_n 2, 1) := by decide +kernel
theorem dX8_octet_42 : decode cX8_octet 42 = .ok (.sipush 255, 3) := by decide +kernel
theorem dX8_octet_45 : decode cX8_octet 45 = .ok (.iand, 1) := by decide +kernel
theorem dX8_octet_46 : decode cX8_octet 46 = .ok (.iastore, 1) := by decide +kernel
theorem dX8_octet_47 : decode cX8_octet 47 = .ok (.aload_n 0, 1) := by decide +kernel
theorem dX8_octet_48 : decode cX8_octet 48 = .ok (.getfield 39, 3) := by decide +kernel
theorem dX8_octet_51 : decode cX8_octet 51 = .ok (.iload_n 1, 1) := by decide +kernel
theorem dX8_octet_52 : decode cX8_octet 52 = .ok (.dup2, 1) := by decide +kernel
theorem dX8_octet_53 : decode cX8_octet 53 = .ok (.iaload, 1) := by decide +kernel
theorem dX8_octet_54 : decode cX8_octet 54 = .ok (.iconst 1, 1) := by decide +kernel
theorem dX8_octet_55 : decode cX8_octet 55 = .ok (.iadd, 1) := by decide +kernel
theorem dX8_octet_56 : decode cX8_octet 56 = .ok (.iastore, 1) := by decide +kernel
theorem dX8_octet_57 : decode cX8_octet 57 = .ok (.aload_n 0, 1) := by decide +kernel
theorem dX8_octet_58 : decode cX8_octet 58 = .ok (.getfield 39, 3) := by decide +kernel
theorem dX8_octet_61 : decode cX8_octet 61 = .ok (.iload_n 1, 1) := by decide +kernel
theorem dX8_octet_62 : decode cX8_octet 62 = .ok (.iaload, 1) := by decide +kernel
theorem dX8_octet_63 : decode cX8_octet 63 = .ok (.ireturn, 1) := by decide +kernel
theorem dX8_toldAt_0 : decode cX8_toldAt 0 = .ok (.iconst (-1), 1) := by decide +kernel
theorem dX8_toldAt_1 : decode cX8_toldAt 1 = .ok (.istore_n 3, 1) := by decide +kernel
theorem dX8_toldAt_2 : decode cX8_toldAt 2 = .ok (.bipush 7, 2) := by decide +kernel
theorem dX8_toldAt_4 : decode cX8_toldAt 4 = .ok (.iload_n 1, 1) := by decide +kernel
theorem dX8_toldAt_5 : decode cX8_toldAt 5 = .ok (.imul, 1) := by decide +kernel
theorem dX8_toldAt_6 : decode cX8_toldAt 6 = .ok (.istore 4, 2) := by decide +kernel
theorem dX8_toldAt_8 : decode cX8_toldAt 8 = .ok (.iload 4, 2) := by decide +kernel
theorem dX8_toldAt_10 : decode cX8_toldAt 10 = .ok (.bipush 7, 2) := by decide +kernel
theorem dX8_toldAt_12 : decode cX8_toldAt 12 = .ok (.iload_n 1, 1) := by decide +kernel
theorem dX8_toldAt_13 : decode cX8_toldAt 13 = .ok (.imul, 1) := by decide +kernel
theorem dX8_toldAt_14 : decode cX8_toldAt 14 = .ok (.aload_n 0, 1) := by decide +kernel
theorem dX8_toldAt_15 : decode cX8_toldAt 15 = .ok (.getfield 48, 3) := by decide +kernel
theorem dX8_toldAt_18 : decode cX8_toldAt 18 = .ok (.iload_n 1, 1) := by decide +kernel
theorem dX8_toldAt_19 : decode cX8_toldAt 19 = .ok (.iaload, 1) := by decide +kernel
theorem dX8_toldAt_20 : decode cX8_toldAt 20 = .ok (.iadd, 1) := by decide +kernel
theorem dX8_toldAt_21 : decode cX8_toldAt 21 = .ok (.if_icmp .ge 27, 3) := by decide +kernel
theorem dX8_toldAt_24 : decode cX8_toldAt 24 = .ok (.aload_n 0, 1) := by decide +kernel
theorem dX8_toldAt_25 : decode cX8_toldAt 25 = .ok (.getfield 51, 3) := by decide +kernel
theorem dX8_toldAt_28 : decode cX8_toldAt 28 = .ok (.iload 4, 2) := by decide +kernel
theorem dX8_toldAt_30 : decode cX8_toldAt 30 = .ok (.iaload, 1) := by decide +kernel
theorem dX8_toldAt_31 : decode cX8_toldAt 31 = .ok (.iload_n 2, 1) := by decide +kernel
theorem dX8_toldAt_32 : decode cX8_toldAt 32 = .ok (.if_icmp .ne 8, 3) := by decide +kernel
theorem dX8_toldAt_35 : decode cX8_toldAt 35 = .ok (.iload 4, 2) := by decide +kernel
theorem dX8_toldAt_37 : decode cX8_toldAt 37 = .ok (.goto 4, 3) := by decide +kernel
theorem dX8_toldAt_40 : decode cX8_toldAt 40 = .ok (.iload_n 3, 1) := by decide +kernel
theorem dX8_toldAt_41 : decode cX8_toldAt 41 = .ok (.istore_n 3, 1) := by decide +kernel
theorem dX8_toldAt_42 : decode cX8_toldAt 42 = .ok (.iinc 4 1, 3) := by decide +kernel
theorem dX8_toldAt_45 : decode cX8_toldAt 45 = .ok (.goto (-37), 3) := by decide +kernel
theorem dX8_toldAt_48 : decode cX8_toldAt 48 = .ok (.iload_n 3, 1) := by decide +kernel
theorem dX8_toldAt_49 : decode cX8_toldAt 49 = .ok (.ireturn, 1) := by decide +kernel
set_option maxRecDepth 20000 in
theorem ggX8_tells_X8_isOpen : GoodIn wsX8_tells wsX8_isOpen := goodIn_r _ [11, 12, 13, 14, 15, 10, 16, 17, 22, 23, 24, 25, 26, 27, 28, 29, 30, 31, 32, 33, 34, 35, 36, 37, 38, 39, 40, 41, 42, 43, 44, 45, 46, 47, 48, 49, 50, 51, 52, 53, 54, 55, 56, 57, 58, 59, 60, 61, 62] (by decide +kernel) (by decide +kernel)
set_option maxRecDepth 20000 in
theorem gX8_tells_X8_isOpen : GoodIn wsX8_tells (wsV RX8 251 RX8 yX8_isOpen wsX8_isOpen) := goodIn_app (goodIn_of _ (by decide +kernel)) ggX8_tells_X8_isOpen
set_option maxRecDepth 20000 in
theorem ggX8_tells_X8_toldAt : GoodIn wsX8_tells wsX8_toldAt := goodIn_r _ [21, 4, 5, 22, 23, 24, 25, 26, 27, 28, 29, 30, 31, 32, 33, 34, 35, 36, 37, 38, 39, 40, 41, 42, 43, 44, 45, 46, 47, 48, 49, 50, 51, 52, 53, 54, 55, 56, 57, 58, 59, 60, 61, 62] (by decide +kernel) (by decide +kernel)
set_option maxRecDepth 20000 in
theorem gX8_tells_X8_toldAt : GoodIn wsX8_tells (wsV RX8 254 RX8 yX8_toldAt wsX8_toldAt) := goodIn_app (goodIn_of _ (by decide +kernel)) ggX8_tells_X8_toldAt
theorem dX8_tells_0 : decode cX8_tells 0 = .ok (.aload_n 0, 1) := by decide +kernel
theorem dX8_tells_1 : decode cX8_tells 1 = .ok (.iconst 0, 1) := by decide +kernel
theorem dX8_tells_2 : decode cX8_tells 2 = .ok (.putfield 192, 3) := by decide +kernel
theorem dX8_tells_5 : decode cX8_tells 5 = .ok (.aload_n 0, 1) := by decide +kernel
theorem dX8_tells_6 : decode cX8_tells 6 = .ok (.iload_n 1, 1) := by decide +kernel
theorem dX8_tells_7 : decode cX8_tells 7 = .ok (.invokevirtual 251, 3) := by decide +kernel
theorem dX8_tells_10 : decode cX8_tells 10 = .ok (.ifCond .eq 14, 3) := by decide +kernel
theorem dX8_tells_13 : decode cX8_tells 13 = .ok (.iload_n 3, 1) := by decide +kernel
theorem dX8_tells_14 : decode cX8_tells 14 = .ok (.iconst 1, 1) := by decide +kernel
theorem dX8_tells_15 : decode cX8_tells 15 = .ok (.if_icmp .lt 9, 3) := by decide +kernel
theorem dX8_tells_18 : decode cX8_tells 18 = .ok (.iload_n 3, 1) := by decide +kernel
theorem dX8_tells_19 : decode cX8_tells 19 = .ok (.ldc 250, 2) := by decide +kernel
theorem dX8_tells_21 : decode cX8_tells 21 = .ok (.if_icmp .le 5, 3) := by decide +kernel
theorem dX8_tells_24 : decode cX8_tells 24 = .ok (.iconst 0, 1) := by decide +kernel
theorem dX8_tells_25 : decode cX8_tells 25 = .ok (.ireturn, 1) := by decide +kernel
theorem dX8_tells_26 : decode cX8_tells 26 = .ok (.aload_n 0, 1) := by decide +kernel
theorem dX8_tells_27 : decode cX8_tells 27 = .ok (.getfield 33, 3) := by decide +kernel
theorem dX8_tells_30 : decode cX8_tells 30 = .ok (.iload_n 1, 1) := by decide +kernel
theorem dX8_tells_31 : decode cX8_tells 31 = .ok (.iaload, 1) := by decide +kernel
theorem dX8_tells_32 : decode cX8_tells 32 = .ok (.iconst 1, 1) := by decide +kernel
theorem dX8_tells_33 : decode cX8_tells 33 = .ok (.if_icmp .ne 16, 3) := by decide +kernel
theorem dX8_tells_36 : decode cX8_tells 36 = .ok (.iload_n 2, 1) := by decide +kernel
theorem dX8_tells_37 : decode cX8_tells 37 = .ok (.iconst 2, 1) := by decide +kernel
theorem dX8_tells_38 : decode cX8_tells 38 = .ok (.if_icmp .ne 7, 3) := by decide +kernel
theorem dX8_tells_41 : decode cX8_tells 41 = .ok (.iconst 1, 1) := by decide +kernel
theorem dX8_tells_42 : decode cX8_tells 42 = .ok (.goto 33, 3) := by decide +kernel
theorem dX8_tells_45 : decode cX8_tells 45 = .ok (.iconst 0, 1) := by decide +kernel
theorem dX8_tells_46 : decode cX8_tells 46 = .ok (.goto 29, 3) := by decide +kernel
theorem dX8_tells_49 : decode cX8_tells 49 = .ok (.aload_n 0, 1) := by decide +kernel
theorem dX8_tells_50 : decode cX8_tells 50 = .ok (.getfield 33, 3) := by decide +kernel
theorem dX8_tells_53 : decode cX8_tells 53 = .ok (.iload_n 1, 1) := by decide +kernel
theorem dX8_tells_54 : decode cX8_tells 54 = .ok (.iaload, 1) := by decide +kernel
theorem dX8_tells_55 : decode cX8_tells 55 = .ok (.iconst 2, 1) := by decide +kernel
theorem dX8_tells_56 : decode cX8_tells 56 = .ok (.if_icmp .ne 18, 3) := by decide +kernel
theorem dX8_tells_59 : decode cX8_tells 59 = .ok (.iload_n 2, 1) := by decide +kernel
theorem dX8_tells_60 : decode cX8_tells 60 = .ok (.iconst 3, 1) := by decide +kernel
theorem dX8_tells_61 : decode cX8_tells 61 = .ok (.if_icmp .lt 13, 3) := by decide +kernel
theorem dX8_tells_64 : decode cX8_tells 64 = .ok (.iload_n 2, 1) := by decide +kernel
theorem dX8_tells_65 : decode cX8_tells 65 = .ok (.bipush 10, 2) := by decide +kernel
theorem dX8_tells_67 : decode cX8_tells 67 = .ok (.if_icmp .ge 7, 3) := by decide +kernel
theorem dX8_tells_70 : decode cX8_tells 70 = .ok (.iconst 1, 1) := by decide +kernel
theorem dX8_tells_71 : decode cX8_tells 71 = .ok (.goto 4, 3) := by decide +kernel
theorem dX8_tells_74 : decode cX8_tells 74 = .ok (.iconst 0, 1) := by decide +kernel
theorem dX8_tells_75 : decode cX8_tells 75 = .ok (.istore 4, 2) := by decide +kernel
theorem dX8_tells_77 : decode cX8_tells 77 = .ok (.iload 4, 2) := by decide +kernel
theorem dX8_tells_79 : decode cX8_tells 79 = .ok (.ifCond .ne 5, 3) := by decide +kernel
theorem dX8_tells_82 : decode cX8_tells 82 = .ok (.iconst 0, 1) := by decide +kernel
theorem dX8_tells_83 : decode cX8_tells 83 = .ok (.ireturn, 1) := by decide +kernel
theorem dX8_tells_84 : decode cX8_tells 84 = .ok (.aload_n 0, 1) := by decide +kernel
theorem dX8_tells_85 : decode cX8_tells 85 = .ok (.iload_n 1, 1) := by decide +kernel
theorem dX8_tells_86 : decode cX8_tells 86 = .ok (.iload_n 2, 1) := by decide +kernel
theorem dX8_tells_87 : decode cX8_tells 87 = .ok (.invokevirtual 254, 3) := by decide +kernel
theorem dX8_tells_90 : decode cX8_tells 90 = .ok (.istore 5, 2) := by decide +kernel
theorem dX8_tells_92 : decode cX8_tells 92 = .ok (.iload 5, 2) := by decide +kernel
theorem dX8_tells_94 : decode cX8_tells 94 = .ok (.iconst (-1), 1) := by decide +kernel
theorem dX8_tells_95 : decode cX8_tells 95 = .ok (.if_icmp .ne 34, 3) := by decide +kernel
theorem dX8_tells_98 : decode cX8_tells 98 = .ok (.bipush 7, 2) := by decide +kernel
theorem dX8_tells_100 : decode cX8_tells 100 = .ok (.iload_n 1, 1) := by decide +kernel
theorem dX8_tells_101 : decode cX8_tells 101 = .ok (.imul, 1) := by decide +kernel
theorem dX8_tells_102 : decode cX8_tells 102 = .ok (.aload_n 0, 1) := by decide +kernel
theorem dX8_tells_103 : decode cX8_tells 103 = .ok (.getfield 48, 3) := by decide +kernel
theorem dX8_tells_106 : decode cX8_tells 106 = .ok (.iload_n 1, 1) := by decide +kernel
theorem dX8_tells_107 : decode cX8_tells 107 = .ok (.iaload, 1) := by decide +kernel
theorem dX8_tells_108 : decode cX8_tells 108 = .ok (.iadd, 1) := by decide +kernel
theorem dX8_tells_109 : decode cX8_tells 109 = .ok (.istore 5, 2) := by decide +kernel
theorem dX8_tells_111 : decode cX8_tells 111 = .ok (.aload_n 0, 1) := by decide +kernel
theorem dX8_tells_112 : decode cX8_tells 112 = .ok (.getfield 48, 3) := by decide +kernel
theorem dX8_tells_115 : decode cX8_tells 115 = .ok (.iload_n 1, 1) := by decide +kernel
theorem dX8_tells_116 : decode cX8_tells 116 = .ok (.dup2, 1) := by decide +kernel
theorem dX8_tells_117 : decode cX8_tells 117 = .ok (.iaload, 1) := by decide +kernel
theorem dX8_tells_118 : decode cX8_tells 118 = .ok (.iconst 1, 1) := by decide +kernel
theorem dX8_tells_119 : decode cX8_tells 119 = .ok (.iadd, 1) := by decide +kernel
theorem dX8_tells_120 : decode cX8_tells 120 = .ok (.iastore, 1) := by decide +kernel
theorem dX8_tells_121 : decode cX8_tells 121 = .ok (.aload_n 0, 1) := by decide +kernel
theorem dX8_tells_122 : decode cX8_tells 122 = .ok (.getfield 51, 3) := by decide +kernel
theorem dX8_tells_125 : decode cX8_tells 125 = .ok (.iload 5, 2) := by decide +kernel
theorem dX8_tells_127 : decode cX8_tells 127 = .ok (.iload_n 2, 1) := by decide +kernel
theorem dX8_tells_128 : decode cX8_tells 128 = .ok (.iastore, 1) := by decide +kernel
theorem dX8_tells_129 : decode cX8_tells 129 = .ok (.aload_n 0, 1) := by decide +kernel
theorem dX8_tells_130 : decode cX8_tells 130 = .ok (.getfield 54, 3) := by decide +kernel
theorem dX8_tells_133 : decode cX8_tells 133 = .ok (.iload 5, 2) := by decide +kernel
theorem dX8_tells_135 : decode cX8_tells 135 = .ok (.iload_n 3, 1) := by decide +kernel
theorem dX8_tells_136 : decode cX8_tells 136 = .ok (.iastore, 1) := by decide +kernel
theorem dX8_tells_137 : decode cX8_tells 137 = .ok (.iconst 1, 1) := by decide +kernel
theorem dX8_tells_138 : decode cX8_tells 138 = .ok (.ireturn, 1) := by decide +kernel
theorem dX8_partsOf_0 : decode cX8_partsOf 0 = .ok (.iload_n 0, 1) := by decide +kernel
theorem dX8_partsOf_1 : decode cX8_partsOf 1 = .ok (.ifCond .le 10, 3) := by decide +kernel
theorem dX8_partsOf_4 : decode cX8_partsOf 4 = .ok (.iload_n 0, 1) := by decide +kernel
theorem dX8_partsOf_5 : decode cX8_partsOf 5 = .ok (.ldc_w 257, 3) := by decide +kernel
theorem dX8_partsOf_8 : decode cX8_partsOf 8 = .ok (.if_icmp .lt 5, 3) := by decide +kernel
theorem dX8_partsOf_11 : decode cX8_partsOf 11 = .ok (.iconst 0, 1) := by decide +kernel
theorem dX8_partsOf_12 : decode cX8_partsOf 12 = .ok (.ireturn, 1) := by decide +kernel
theorem dX8_partsOf_13 : decode cX8_partsOf 13 = .ok (.iconst 0, 1) := by decide +kernel
theorem dX8_partsOf_14 : decode cX8_partsOf 14 = .ok (.istore_n 2, 1) := by decide +kernel
theorem dX8_partsOf_15 : decode cX8_partsOf 15 = .ok (.iload_n 0, 1) := by decide +kernel
theorem dX8_partsOf_16 : decode cX8_partsOf 16 = .ok (.istore_n 3, 1) := by decide +kernel
theorem dX8_partsOf_17 : decode cX8_partsOf 17 = .ok (.iload_n 3, 1) := by decide +kernel
theorem dX8_partsOf_18 : decode cX8_partsOf 18 = .ok (.ifCond .le 30, 3) := by decide +kernel
theorem dX8_partsOf_21 : decode cX8_partsOf 21 = .ok (.iload_n 3, 1) := by decide +kernel
theorem dX8_partsOf_22 : decode cX8_partsOf 22 = .ok (.bipush 15, 2) := by decide +kernel
theorem dX8_partsOf_24 : decode cX8_partsOf 24 = .ok (.iand, 1) := by decide +kernel
theorem dX8_partsOf_25 : decode cX8_partsOf 25 = .ok (.ifCond .eq 11, 3) := by decide +kernel
theorem dX8_partsOf_28 : decode cX8_partsOf 28 = .ok (.iload_n 3, 1) := by decide +kernel
theorem dX8_partsOf_29 : decode cX8_partsOf 29 = .ok (.bipush 15, 2) := by decide +kernel
theorem dX8_partsOf_31 : decode cX8_partsOf 31 = .ok (.iand, 1) := by decide +kernel
theorem dX8_partsOf_32 : decode cX8_partsOf 32 = .ok (.iload_n 1, 1) := by decide +kernel
theorem dX8_partsOf_33 : decode cX8_partsOf 33 = .ok (.if_icmp .le 5, 3) := by decide +kernel
theorem dX8_partsOf_36 : decode cX8_partsOf 36 = .ok (.iconst 0, 1) := by decide +kernel
theorem dX8_partsOf_37 : decode cX8_partsOf 37 = .ok (.ireturn, 1) := by decide +kernel
theorem dX8_partsOf_38 : decode cX8_partsOf 38 = .ok (.iinc 2 1, 3) := by decide +kernel
theorem dX8_partsOf_41 : decode cX8_partsOf 41 = .ok (.iload_n 3, 1) := by decide +kernel
theorem dX8_partsOf_42 : decode cX8_partsOf 42 = .ok (.iconst 4, 1) := by decide +kernel
theorem dX8_partsOf_43 : decode cX8_partsOf 43 = .ok (.ishr, 1) := by decide +kernel
theorem dX8_partsOf_44 : decode cX8_partsOf 44 = .ok (.istore_n 3, 1) := by decide +kernel
theorem dX8_partsOf_45 : decode cX8_partsOf 45 = .ok (.goto (-28), 3) := by decide +kernel
theorem dX8_partsOf_48 : decode cX8_partsOf 48 = .ok (.iload_n 2, 1) := by decide +kernel
theorem dX8_partsOf_49 : decode cX8_partsOf 49 = .ok (.ireturn, 1) := by decide +kernel
set_option maxRecDepth 20000 in
theorem ggX8_delegate_X8_isOpen : GoodIn wsX8_delegate wsX8_isOpen := goodIn_r _ [11, 12, 13, 14, 15, 10, 16, 17, 22, 23, 24, 25, 26, 27, 28, 29, 30, 31, 32, 33, 34, 35, 36, 37, 38, 39, 40, 41, 42, 43, 44, 45, 46, 47, 48, 49, 50, 51, 52, 53, 54, 55, 56, 57, 58, 59, 60, 61, 62] (by decide +kernel) (by decide +kernel)
set_option maxRecDepth 20000 in
theorem gX8_delegate_X8_isOpen : GoodIn wsX8_delegate (wsV RX8 251 RX8 yX8_isOpen wsX8_isOpen) := goodIn_app (goodIn_of _ (by decide +kernel)) ggX8_delegate_X8_isOpen
set_option maxRecDepth 20000 in
theorem ggX8_delegate_X8_partsOf : GoodIn wsX8_delegate wsX8_partsOf := goodIn_r _ [20, 21] (by decide +kernel) (by decide +kernel)
set_option maxRecDepth 20000 in
theorem gX8_delegate_X8_partsOf : GoodIn wsX8_delegate (va_wsS RX8 258 yX8_partsOf wsX8_partsOf) := goodIn_app (goodIn_of _ (by decide +kernel)) ggX8_delegate_X8_partsOf
theorem dX8_delegate_0 : decode cX8_delegate 0 = .ok (.aload_n 0, 1) := by decide +kernel
theorem dX8_delegate_1 : decode cX8_delegate 1 = .ok (.iconst 0, 1) := by decide +kernel
theorem dX8_delegate_2 : decode cX8_delegate 2 = .ok (.putfield 192, 3) := by decide +kernel
theorem dX8_delegate_5 : decode cX8_delegate 5 = .ok (.aload_n 0, 1) := by decide +kernel
theorem dX8_delegate_6 : decode cX8_delegate 6 = .ok (.iload_n 1, 1) := by decide +kernel
theorem dX8_delegate_7 : decode cX8_delegate 7 = .ok (.invokevirtual 251, 3) := by decide +kernel
theorem dX8_delegate_10 : decode cX8_delegate 10 = .ok (.ifCond .eq 44, 3) := by decide +kernel
theorem dX8_delegate_13 : decode cX8_delegate 13 = .ok (.aload_n 0, 1) := by decide +kernel
theorem dX8_delegate_14 : decode cX8_delegate 14 = .ok (.getfield 33, 3) := by decide +kernel
theorem dX8_delegate_17 : decode cX8_delegate 17 = .ok (.iload_n 1, 1) := by decide +kernel
theorem dX8_delegate_18 : decode cX8_delegate 18 = .ok (.iaload, 1) := by decide +kernel
theorem dX8_delegate_19 : decode cX8_delegate 19 = .ok (.iconst 3, 1) := by decide +kernel
theorem dX8_delegate_20 : decode cX8_delegate 20 = .ok (.if_icmp .lt 34, 3) := by decide +kernel
theorem dX8_delegate_23 : decode cX8_delegate 23 = .ok (.iload_n 2, 1) := by decide +kernel
theorem dX8_delegate_24 : decode cX8_delegate 24 = .ok (.bipush 15, 2) := by decide +kernel
theorem dX8_delegate_26 : decode cX8_delegate 26 = .ok (.invokestatic 258, 3) := by decide +kernel
theorem dX8_delegate_29 : decode cX8_delegate 29 = .ok (.ifCond .eq 25, 3) := by decide +kernel
theorem dX8_delegate_32 : decode cX8_delegate 32 = .ok (.iload_n 3, 1) := by decide +kernel
theorem dX8_delegate_33 : decode cX8_delegate 33 = .ok (.iconst 4, 1) := by decide +kernel
theorem dX8_delegate_34 : decode cX8_delegate 34 = .ok (.if_icmp .lt 20, 3) := by decide +kernel
theorem dX8_delegate_37 : decode cX8_delegate 37 = .ok (.iload_n 3, 1) := by decide +kernel
theorem dX8_delegate_38 : decode cX8_delegate 38 = .ok (.bipush 10, 2) := by decide +kernel
theorem dX8_delegate_40 : decode cX8_delegate 40 = .ok (.if_icmp .ge 14, 3) := by decide +kernel
theorem dX8_delegate_43 : decode cX8_delegate 43 = .ok (.aload_n 0, 1) := by decide +kernel
theorem dX8_delegate_44 : decode cX8_delegate 44 = .ok (.getfield 57, 3) := by decide +kernel
theorem dX8_delegate_47 : decode cX8_delegate 47 = .ok (.iload_n 1, 1) := by decide +kernel
theorem dX8_delegate_48 : decode cX8_delegate 48 = .ok (.iaload, 1) := by decide +kernel
theorem dX8_delegate_49 : decode cX8_delegate 49 = .ok (.bipush 6, 2) := by decide +kernel
theorem dX8_delegate_51 : decode cX8_delegate 51 = .ok (.if_icmp .ne 5, 3) := by decide +kernel
theorem dX8_delegate_54 : decode cX8_delegate 54 = .ok (.iconst (-1), 1) := by decide +kernel
theorem dX8_delegate_55 : decode cX8_delegate 55 = .ok (.ireturn, 1) := by decide +kernel
theorem dX8_delegate_56 : decode cX8_delegate 56 = .ok (.bipush 6, 2) := by decide +kernel
theorem dX8_delegate_58 : decode cX8_delegate 58 = .ok (.iload_n 1, 1) := by decide +kernel
theorem dX8_delegate_59 : decode cX8_delegate 59 = .ok (.imul, 1) := by decide +kernel
theorem dX8_delegate_60 : decode cX8_delegate 60 = .ok (.aload_n 0, 1) := by decide +kernel
theorem dX8_delegate_61 : decode cX8_delegate 61 = .ok (.getfield 57, 3) := by decide +kernel
theorem dX8_delegate_64 : decode cX8_delegate 64 = .ok (.iload_n 1, 1) := by decide +kernel
theorem dX8_delegate_65 : decode cX8_delegate 65 = .ok (.iaload, 1) := by decide +kernel
theorem dX8_delegate_66 : decode cX8_delegate 66 = .ok (.iadd, 1) := by decide +kernel
theorem dX8_delegate_67 : decode cX8_delegate 67 = .ok (.istore 5, 2) := by decide +kernel
theorem dX8_delegate_69 : decode cX8_delegate 69 = .ok (.aload_n 0, 1) := by decide +kernel
theorem dX8_delegate_70 : decode cX8_delegate 70 = .ok (.getfield 60, 3) := by decide +kernel
theorem dX8_delegate_73 : decode cX8_delegate 73 = .ok (.iload 5, 2) := by decide +kernel
theorem dX8_delegate_75 : decode cX8_delegate 75 = .ok (.iload_n 2, 1) := by decide +kernel
theorem dX8_delegate_76 : decode cX8_delegate 76 = .ok (.iastore, 1) := by decide +kernel
theorem dX8_delegate_77 : decode cX8_delegate 77 = .ok (.aload_n 0, 1) := by decide +kernel
theorem dX8_delegate_78 : decode cX8_delegate 78 = .ok (.getfield 63, 3) := by decide +kernel
theorem dX8_delegate_81 : decode cX8_delegate 81 = .ok (.iload 5, 2) := by decide +kernel
theorem dX8_delegate_83 : decode cX8_delegate 83 = .ok (.iload_n 3, 1) := by decide +kernel
theorem dX8_delegate_84 : decode cX8_delegate 84 = .ok (.iastore, 1) := by decide +kernel
theorem dX8_delegate_85 : decode cX8_delegate 85 = .ok (.aload_n 0, 1) := by decide +kernel
theorem dX8_delegate_86 : decode cX8_delegate 86 = .ok (.getfield 66, 3) := by decide +kernel
theorem dX8_delegate_89 : decode cX8_delegate 89 = .ok (.iload 5, 2) := by decide +kernel
theorem dX8_delegate_91 : decode cX8_delegate 91 = .ok (.iload 4, 2) := by decide +kernel
theorem dX8_delegate_93 : decode cX8_delegate 93 = .ok (.bastore, 1) := by decide +kernel
theorem dX8_delegate_94 : decode cX8_delegate 94 = .ok (.aload_n 0, 1) := by decide +kernel
theorem dX8_delegate_95 : decode cX8_delegate 95 = .ok (.getfield 57, 3) := by decide +kernel
theorem dX8_delegate_98 : decode cX8_delegate 98 = .ok (.iload_n 1, 1) := by decide +kernel
theorem dX8_delegate_99 : decode cX8_delegate 99 = .ok (.dup2, 1) := by decide +kernel
theorem dX8_delegate_100 : decode cX8_delegate 100 = .ok (.iaload, 1) := by decide +kernel
