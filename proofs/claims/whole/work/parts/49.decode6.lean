theorem dX8_find_139 : decode cX8_find 139 = .ok (.getfield 60, 3) := by decide +kernel
theorem dX8_find_142 : decode cX8_find 142 = .ok (.bipush 6, 2) := by decide +kernel
theorem dX8_find_144 : decode cX8_find 144 = .ok (.iload_n 3, 1) := by decide +kernel
theorem dX8_find_145 : decode cX8_find 145 = .ok (.imul, 1) := by decide +kernel
theorem dX8_find_146 : decode cX8_find 146 = .ok (.aload_n 0, 1) := by decide +kernel
theorem dX8_find_147 : decode cX8_find 147 = .ok (.getfield 189, 3) := by decide +kernel
theorem dX8_find_150 : decode cX8_find 150 = .ok (.iload_n 2, 1) := by decide +kernel
theorem dX8_find_151 : decode cX8_find 151 = .ok (.iaload, 1) := by decide +kernel
theorem dX8_find_152 : decode cX8_find 152 = .ok (.iadd, 1) := by decide +kernel
theorem dX8_find_153 : decode cX8_find 153 = .ok (.iconst 1, 1) := by decide +kernel
theorem dX8_find_154 : decode cX8_find 154 = .ok (.isub, 1) := by decide +kernel
theorem dX8_find_155 : decode cX8_find 155 = .ok (.iaload, 1) := by decide +kernel
theorem dX8_find_156 : decode cX8_find 156 = .ok (.iload_n 1, 1) := by decide +kernel
theorem dX8_find_157 : decode cX8_find 157 = .ok (.invokestatic 300, 3) := by decide +kernel
theorem dX8_find_160 : decode cX8_find 160 = .ok (.ifCond .eq 5, 3) := by decide +kernel
theorem dX8_find_163 : decode cX8_find 163 = .ok (.iconst (-1), 1) := by decide +kernel
theorem dX8_find_164 : decode cX8_find 164 = .ok (.ireturn, 1) := by decide +kernel
theorem dX8_find_165 : decode cX8_find 165 = .ok (.aload_n 0, 1) := by decide +kernel
theorem dX8_find_166 : decode cX8_find 166 = .ok (.getfield 189, 3) := by decide +kernel
theorem dX8_find_169 : decode cX8_find 169 = .ok (.iload_n 2, 1) := by decide +kernel
theorem dX8_find_170 : decode cX8_find 170 = .ok (.iaload, 1) := by decide +kernel
theorem dX8_find_171 : decode cX8_find 171 = .ok (.aload_n 0, 1) := by decide +kernel
theorem dX8_find_172 : decode cX8_find 172 = .ok (.getfield 57, 3) := by decide +kernel
theorem dX8_find_175 : decode cX8_find 175 = .ok (.iload_n 3, 1) := by decide +kernel
theorem dX8_find_176 : decode cX8_find 176 = .ok (.iaload, 1) := by decide +kernel
theorem dX8_find_177 : decode cX8_find 177 = .ok (.if_icmp .ne 16, 3) := by decide +kernel
theorem dX8_find_180 : decode cX8_find 180 = .ok (.aload_n 0, 1) := by decide +kernel
theorem dX8_find_181 : decode cX8_find 181 = .ok (.dup, 1) := by decide +kernel
theorem dX8_find_182 : decode cX8_find 182 = .ok (.getfield 291, 3) := by decide +kernel
theorem dX8_find_185 : decode cX8_find 185 = .ok (.iconst 1, 1) := by decide +kernel
theorem dX8_find_186 : decode cX8_find 186 = .ok (.isub, 1) := by decide +kernel
theorem dX8_find_187 : decode cX8_find 187 = .ok (.putfield 291, 3) := by decide +kernel
theorem dX8_find_190 : decode cX8_find 190 = .ok (.goto (-133), 3) := by decide +kernel
theorem dX8_find_193 : decode cX8_find 193 = .ok (.bipush 6, 2) := by decide +kernel
theorem dX8_find_195 : decode cX8_find 195 = .ok (.iload_n 3, 1) := by decide +kernel
theorem dX8_find_196 : decode cX8_find 196 = .ok (.imul, 1) := by decide +kernel
theorem dX8_find_197 : decode cX8_find 197 = .ok (.aload_n 0, 1) := by decide +kernel
theorem dX8_find_198 : decode cX8_find 198 = .ok (.getfield 189, 3) := by decide +kernel
theorem dX8_find_201 : decode cX8_find 201 = .ok (.iload_n 2, 1) := by decide +kernel
theorem dX8_find_202 : decode cX8_find 202 = .ok (.iaload, 1) := by decide +kernel
theorem dX8_find_203 : decode cX8_find 203 = .ok (.iadd, 1) := by decide +kernel
theorem dX8_find_204 : decode cX8_find 204 = .ok (.istore 4, 2) := by decide +kernel
theorem dX8_find_206 : decode cX8_find 206 = .ok (.aload_n 0, 1) := by decide +kernel
theorem dX8_find_207 : decode cX8_find 207 = .ok (.getfield 189, 3) := by decide +kernel
theorem dX8_find_210 : decode cX8_find 210 = .ok (.iload_n 2, 1) := by decide +kernel
theorem dX8_find_211 : decode cX8_find 211 = .ok (.dup2, 1) := by decide +kernel
theorem dX8_find_212 : decode cX8_find 212 = .ok (.iaload, 1) := by decide +kernel
theorem dX8_find_213 : decode cX8_find 213 = .ok (.iconst 1, 1) := by decide +kernel
theorem dX8_find_214 : decode cX8_find 214 = .ok (.iadd, 1) := by decide +kernel
theorem dX8_find_215 : decode cX8_find 215 = .ok (.iastore, 1) := by decide +kernel
theorem dX8_find_216 : decode cX8_find 216 = .ok (.aload_n 0, 1) := by decide +kernel
theorem dX8_find_217 : decode cX8_find 217 = .ok (.getfield 60, 3) := by decide +kernel
theorem dX8_find_220 : decode cX8_find 220 = .ok (.iload 4, 2) := by decide +kernel
theorem dX8_find_222 : decode cX8_find 222 = .ok (.iaload, 1) := by decide +kernel
theorem dX8_find_223 : decode cX8_find 223 = .ok (.iload_n 1, 1) := by decide +kernel
theorem dX8_find_224 : decode cX8_find 224 = .ok (.invokestatic 300, 3) := by decide +kernel
theorem dX8_find_227 : decode cX8_find 227 = .ok (.ifCond .eq 45, 3) := by decide +kernel
theorem dX8_find_230 : decode cX8_find 230 = .ok (.aload_n 0, 1) := by decide +kernel
theorem dX8_find_231 : decode cX8_find 231 = .ok (.getfield 183, 3) := by decide +kernel
theorem dX8_find_234 : decode cX8_find 234 = .ok (.aload_n 0, 1) := by decide +kernel
theorem dX8_find_235 : decode cX8_find 235 = .ok (.getfield 63, 3) := by decide +kernel
theorem dX8_find_238 : decode cX8_find 238 = .ok (.iload 4, 2) := by decide +kernel
theorem dX8_find_240 : decode cX8_find 240 = .ok (.iaload, 1) := by decide +kernel
theorem dX8_find_241 : decode cX8_find 241 = .ok (.baload, 1) := by decide +kernel
theorem dX8_find_242 : decode cX8_find 242 = .ok (.ifCond .ne 30, 3) := by decide +kernel
theorem dX8_find_245 : decode cX8_find 245 = .ok (.aload_n 0, 1) := by decide +kernel
theorem dX8_find_246 : decode cX8_find 246 = .ok (.getfield 84, 3) := by decide +kernel
theorem dX8_find_249 : decode cX8_find 249 = .ok (.aload_n 0, 1) := by decide +kernel
theorem dX8_find_250 : decode cX8_find 250 = .ok (.getfield 63, 3) := by decide +kernel
theorem dX8_find_253 : decode cX8_find 253 = .ok (.iload 4, 2) := by decide +kernel
theorem dX8_find_255 : decode cX8_find 255 = .ok (.iaload, 1) := by decide +kernel
theorem dX8_find_256 : decode cX8_find 256 = .ok (.iaload, 1) := by decide +kernel
theorem dX8_find_257 : decode cX8_find 257 = .ok (.iconst (-1), 1) := by decide +kernel
theorem dX8_find_258 : decode cX8_find 258 = .ok (.if_icmp .eq 14, 3) := by decide +kernel
theorem dX8_find_261 : decode cX8_find 261 = .ok (.aload_n 0, 1) := by decide +kernel
theorem dX8_find_262 : decode cX8_find 262 = .ok (.aload_n 0, 1) := by decide +kernel
theorem dX8_find_263 : decode cX8_find 263 = .ok (.getfield 63, 3) := by decide +kernel
theorem dX8_find_266 : decode cX8_find 266 = .ok (.iload 4, 2) := by decide +kernel
theorem dX8_find_268 : decode cX8_find 268 = .ok (.iaload, 1) := by decide +kernel
theorem dX8_find_269 : decode cX8_find 269 = .ok (.invokevirtual 294, 3) := by decide +kernel
theorem dX8_find_272 : decode cX8_find 272 = .ok (.goto (-215), 3) := by decide +kernel
theorem dX8_find_275 : decode cX8_find 275 = .ok (.iconst (-1), 1) := by decide +kernel
theorem dX8_find_276 : decode cX8_find 276 = .ok (.ireturn, 1) := by decide +kernel
set_option maxRecDepth 20000 in
theorem ggX8_version_X8_isRole : GoodIn wsX8_version wsX8_isRole := goodIn_r _ [7] (by decide +kernel) (by decide +kernel)
set_option maxRecDepth 20000 in
theorem gX8_version_X8_isRole : GoodIn wsX8_version (va_wsS RX8 244 yX8_isRole wsX8_isRole) := goodIn_app (goodIn_of _ (by decide +kernel)) ggX8_version_X8_isRole
theorem dX8_version_0 : decode cX8_version 0 = .ok (.aload_n 0, 1) := by decide +kernel
theorem dX8_version_1 : decode cX8_version 1 = .ok (.iconst 0, 1) := by decide +kernel
theorem dX8_version_2 : decode cX8_version 2 = .ok (.putfield 192, 3) := by decide +kernel
theorem dX8_version_5 : decode cX8_version 5 = .ok (.iload_n 1, 1) := by decide +kernel
theorem dX8_version_6 : decode cX8_version 6 = .ok (.invokestatic 244, 3) := by decide +kernel
theorem dX8_version_9 : decode cX8_version 9 = .ok (.ifCond .ne 7, 3) := by decide +kernel
theorem dX8_version_12 : decode cX8_version 12 = .ok (.iconst (-1), 1) := by decide +kernel
theorem dX8_version_13 : decode cX8_version 13 = .ok (.goto 28, 3) := by decide +kernel
theorem dX8_version_16 : decode cX8_version 16 = .ok (.aload_n 0, 1) := by decide +kernel
theorem dX8_version_17 : decode cX8_version 17 = .ok (.getfield 84, 3) := by decide +kernel
theorem dX8_version_20 : decode cX8_version 20 = .ok (.iload_n 1, 1) := by decide +kernel
theorem dX8_version_21 : decode cX8_version 21 = .ok (.iaload, 1) := by decide +kernel
theorem dX8_version_22 : decode cX8_version 22 = .ok (.iconst (-1), 1) := by decide +kernel
theorem dX8_version_23 : decode cX8_version 23 = .ok (.if_icmp .ne 7, 3) := by decide +kernel
theorem dX8_version_26 : decode cX8_version 26 = .ok (.iconst 0, 1) := by decide +kernel
theorem dX8_version_27 : decode cX8_version 27 = .ok (.goto 14, 3) := by decide +kernel
theorem dX8_version_30 : decode cX8_version 30 = .ok (.aload_n 0, 1) := by decide +kernel
theorem dX8_version_31 : decode cX8_version 31 = .ok (.getfield 36, 3) := by decide +kernel
theorem dX8_version_34 : decode cX8_version 34 = .ok (.aload_n 0, 1) := by decide +kernel
theorem dX8_version_35 : decode cX8_version 35 = .ok (.getfield 84, 3) := by decide +kernel
theorem dX8_version_38 : decode cX8_version 38 = .ok (.iload_n 1, 1) := by decide +kernel
theorem dX8_version_39 : decode cX8_version 39 = .ok (.iaload, 1) := by decide +kernel
theorem dX8_version_40 : decode cX8_version 40 = .ok (.iaload, 1) := by decide +kernel
theorem dX8_version_41 : decode cX8_version 41 = .ok (.ireturn, 1) := by decide +kernel
set_option maxRecDepth 20000 in
theorem ggX8_current_X8_isRole : GoodIn wsX8_current wsX8_isRole := goodIn_r _ [6] (by decide +kernel) (by decide +kernel)
set_option maxRecDepth 20000 in
theorem gX8_current_X8_isRole : GoodIn wsX8_current (va_wsS RX8 244 yX8_isRole wsX8_isRole) := goodIn_app (goodIn_of _ (by decide +kernel)) ggX8_current_X8_isRole
theorem dX8_current_0 : decode cX8_current 0 = .ok (.aload_n 0, 1) := by decide +kernel
theorem dX8_current_1 : decode cX8_current 1 = .ok (.iconst 0, 1) := by decide +kernel
theorem dX8_current_2 : decode cX8_current 2 = .ok (.putfield 192, 3) := by decide +kernel
theorem dX8_current_5 : decode cX8_current 5 = .ok (.iload_n 1, 1) := by decide +kernel
theorem dX8_current_6 : decode cX8_current 6 = .ok (.invokestatic 244, 3) := by decide +kernel
theorem dX8_current_9 : decode cX8_current 9 = .ok (.ifCond .eq 12, 3) := by decide +kernel
theorem dX8_current_12 : decode cX8_current 12 = .ok (.aload_n 0, 1) := by decide +kernel
theorem dX8_current_13 : decode cX8_current 13 = .ok (.getfield 84, 3) := by decide +kernel
theorem dX8_current_16 : decode cX8_current 16 = .ok (.iload_n 1, 1) := by decide +kernel
theorem dX8_current_17 : decode cX8_current 17 = .ok (.iaload, 1) := by decide +kernel
theorem dX8_current_18 : decode cX8_current 18 = .ok (.goto 4, 3) := by decide +kernel
theorem dX8_current_21 : decode cX8_current 21 = .ok (.iconst (-1), 1) := by decide +kernel
theorem dX8_current_22 : decode cX8_current 22 = .ok (.ireturn, 1) := by decide +kernel
set_option maxRecDepth 20000 in
theorem ggX8_hash_X8_isRow : GoodIn wsX8_hash wsX8_isRow := goodIn_r _ [9, 10, 63, 64, 65, 66, 67, 68, 69, 70, 71, 72, 73, 74, 75, 76, 77, 78, 79, 80, 81, 82, 83, 84, 85, 86, 87, 88, 89, 90, 91, 92, 93, 94, 95, 96, 97, 98, 99, 100, 101, 102, 103] (by decide +kernel) (by decide +kernel)
set_option maxRecDepth 20000 in
theorem gX8_hash_X8_isRow : GoodIn wsX8_hash (wsV RX8 202 RX8 yX8_isRow wsX8_isRow) := goodIn_app (goodIn_of _ (by decide +kernel)) ggX8_hash_X8_isRow
set_option maxRecDepth 20000 in
theorem ggX8_hash_X8_putRow : GoodIn wsX8_hash wsX8_putRow := goodIn_r _ [14, 15, 16, 17, 18, 19, 20, 21, 22, 23, 24, 25, 26, 27, 28, 29, 30, 31, 32, 33, 8, 34, 35, 2, 36, 63, 64, 65, 66, 67, 68, 69, 70, 71, 72, 73, 74, 75, 76, 77, 78, 79, 80, 81, 82, 83, 84, 85, 86, 87, 88, 89, 90, 91, 92, 93, 94, 95, 96, 97, 98, 99, 100, 101, 102, 103] (by decide +kernel) (by decide +kernel)
set_option maxRecDepth 20000 in
theorem gX8_hash_X8_putRow : GoodIn wsX8_hash (wsV RX8 234 RX8 yX8_putRow wsX8_putRow) := goodIn_app (goodIn_of _ (by decide +kernel)) ggX8_hash_X8_putRow
set_option maxRecDepth 20000 in
theorem ggX8_hash_X8_digestAll : GoodIn wsX8_hash wsX8_digestAll := goodIn_r _ [40, 2, 41, 42, 43, 44, 4, 31, 32, 33, 8, 34, 35, 36, 45, 46, 47, 48, 49, 50, 51, 52, 53, 54, 55, 56, 57, 58, 59, 60, 61, 62, 63, 64, 65, 66, 67, 68, 69, 70, 71, 72, 73, 74, 75, 76, 77, 78, 79, 80, 81, 82, 83, 84, 85, 86, 87, 88, 89, 90, 91, 92, 93, 94, 95, 96, 97, 98, 99, 100, 101, 102, 103] (by decide +kernel) (by decide +kernel)
set_option maxRecDepth 20000 in
theorem gX8_hash_X8_digestAll : GoodIn wsX8_hash (wsV RX8 237 RX8 yX8_digestAll wsX8_digestAll) := goodIn_app (goodIn_of _ (by decide +kernel)) ggX8_hash_X8_digestAll
theorem dX8_hash_0 : decode cX8_hash 0 = .ok (.aload_n 0, 1) := by decide +kernel
theorem dX8_hash_1 : decode cX8_hash 1 = .ok (.iconst 0, 1) := by decide +kernel
theorem dX8_hash_2 : decode cX8_hash 2 = .ok (.putfield 192, 3) := by decide +kernel
theorem dX8_hash_5 : decode cX8_hash 5 = .ok (.aload_n 0, 1) := by decide +kernel
theorem dX8_hash_6 : decode cX8_hash 6 = .ok (.iload_n 1, 1) := by decide +kernel
theorem dX8_hash_7 : decode cX8_hash 7 = .ok (.invokevirtual 202, 3) := by decide +kernel
theorem dX8_hash_10 : decode cX8_hash 10 = .ok (.ifCond .ne 5, 3) := by decide +kernel
theorem dX8_hash_13 : decode cX8_hash 13 = .ok (.iconst (-1), 1) := by decide +kernel
theorem dX8_hash_14 : decode cX8_hash 14 = .ok (.ireturn, 1) := by decide +kernel
theorem dX8_hash_15 : decode cX8_hash 15 = .ok (.aload_n 0, 1) := by decide +kernel
theorem dX8_hash_16 : decode cX8_hash 16 = .ok (.iconst 0, 1) := by decide +kernel
theorem dX8_hash_17 : decode cX8_hash 17 = .ok (.putfield 206, 3) := by decide +kernel
theorem dX8_hash_20 : decode cX8_hash 20 = .ok (.aload_n 0, 1) := by decide +kernel
theorem dX8_hash_21 : decode cX8_hash 21 = .ok (.iload_n 1, 1) := by decide +kernel
theorem dX8_hash_22 : decode cX8_hash 22 = .ok (.invokevirtual 234, 3) := by decide +kernel
theorem dX8_hash_25 : decode cX8_hash 25 = .ok (.aload_n 0, 1) := by decide +kernel
theorem dX8_hash_26 : decode cX8_hash 26 = .ok (.getfield 206, 3) := by decide +kernel
theorem dX8_hash_29 : decode cX8_hash 29 = .ok (.istore_n 2, 1) := by decide +kernel
theorem dX8_hash_30 : decode cX8_hash 30 = .ok (.aload_n 0, 1) := by decide +kernel
theorem dX8_hash_31 : decode cX8_hash 31 = .ok (.invokevirtual 237, 3) := by decide +kernel
