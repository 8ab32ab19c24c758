set_option maxRecDepth 20000 in
theorem ggX9_count_X8_onHeads : GoodIn wsX9_count wsX8_onHeads := goodIn_r _ [9, 10, 11, 59, 60, 61, 62, 63] rfl (by decide +kernel)
set_option maxRecDepth 20000 in
theorem gX9_count_X8_onHeads : GoodIn wsX9_count (wsV RX9 339 RX8 yX8_onHeads wsX8_onHeads) := goodIn_app (goodIn_of _ (by decide +kernel)) ggX9_count_X8_onHeads
set_option maxRecDepth 20000 in
theorem ggX9_count_X6_term : GoodIn wsX9_count wsX6_term := goodIn_r _ [16, 17, 18, 19, 20, 49, 50, 51, 52, 53, 54, 55, 56, 57, 58, 59, 60, 61, 62, 63] rfl (by decide +kernel)
set_option maxRecDepth 20000 in
theorem gX9_count_X6_term : GoodIn wsX9_count (wsV RX9 170 RX6 yX6_term wsX6_term) := goodIn_app (goodIn_of _ (by decide +kernel)) ggX9_count_X6_term
set_option maxRecDepth 20000 in
theorem ggX9_count_X8_rises : GoodIn wsX9_count wsX8_rises := goodIn_r _ [24, 10, 25, 11, 59, 60, 61, 62, 63] rfl (by decide +kernel)
set_option maxRecDepth 20000 in
theorem gX9_count_X8_rises : GoodIn wsX9_count (wsV RX9 270 RX8 yX8_rises wsX8_rises) := goodIn_app (goodIn_of _ (by decide +kernel)) ggX9_count_X8_rises
set_option maxRecDepth 20000 in
theorem ggX9_count_X9_bit : GoodIn wsX9_count wsX9_bit := goodIn_r _ [29] rfl (by decide +kernel)
set_option maxRecDepth 20000 in
theorem gX9_count_X9_bit : GoodIn wsX9_count (va_wsS RX9 152 yX9_bit wsX9_bit) := goodIn_app (goodIn_of _ (by decide +kernel)) ggX9_count_X9_bit
theorem da9_dX9_count_0 : (decode cX9_count 0 = .ok (.iload_n 1, 1)) ∧ (decode cX9_count 1 = .ok (.tableswitch 240 0 17 #[87, 98, 109, 120, 128, 136, 144, 149, 156, 163, 170, 177, 185, 193, 193, 193, 193, 205], 87)) ∧ (decode cX9_count 88 = .ok (.aload_n 0, 1)) ∧ (decode cX9_count 89 = .ok (.getfield 10, 3)) ∧ (decode cX9_count 92 = .ok (.getfield 122, 3)) ∧ (decode cX9_count 95 = .ok (.getfield 135, 3)) ∧ (decode cX9_count 98 = .ok (.ireturn, 1)) ∧ (decode cX9_count 99 = .ok (.aload_n 0, 1)) ∧ (decode cX9_count 100 = .ok (.getfield 10, 3)) ∧ (decode cX9_count 103 = .ok (.getfield 122, 3)) ∧ (decode cX9_count 106 = .ok (.invokevirtual 339, 3)) ∧ (decode cX9_count 109 = .ok (.ireturn, 1)) ∧ (decode cX9_count 110 = .ok (.aload_n 0, 1)) ∧ (decode cX9_count 111 = .ok (.getfield 10, 3)) ∧ (decode cX9_count 114 = .ok (.getfield 122, 3)) ∧ (decode cX9_count 117 = .ok (.getfield 329, 3)) := by decide +kernel
theorem dX9_count_0 : decode cX9_count 0 = .ok (.iload_n 1, 1) := da9_dX9_count_0.1
theorem dX9_count_1 : decode cX9_count 1 = .ok (.tableswitch 240 0 17 #[87, 98, 109, 120, 128, 136, 144, 149, 156, 163, 170, 177, 185, 193, 193, 193, 193, 205], 87) := da9_dX9_count_0.2.1
theorem dX9_count_88 : decode cX9_count 88 = .ok (.aload_n 0, 1) := da9_dX9_count_0.2.2.1
theorem dX9_count_89 : decode cX9_count 89 = .ok (.getfield 10, 3) := da9_dX9_count_0.2.2.2.1
theorem dX9_count_92 : decode cX9_count 92 = .ok (.getfield 122, 3) := da9_dX9_count_0.2.2.2.2.1
theorem dX9_count_95 : decode cX9_count 95 = .ok (.getfield 135, 3) := da9_dX9_count_0.2.2.2.2.2.1
theorem dX9_count_98 : decode cX9_count 98 = .ok (.ireturn, 1) := da9_dX9_count_0.2.2.2.2.2.2.1
theorem dX9_count_99 : decode cX9_count 99 = .ok (.aload_n 0, 1) := da9_dX9_count_0.2.2.2.2.2.2.2.1
theorem dX9_count_100 : decode cX9_count 100 = .ok (.getfield 10, 3) := da9_dX9_count_0.2.2.2.2.2.2.2.2.1
theorem dX9_count_103 : decode cX9_count 103 = .ok (.getfield 122, 3) := da9_dX9_count_0.2.2.2.2.2.2.2.2.2.1
theorem dX9_count_106 : decode cX9_count 106 = .ok (.invokevirtual 339, 3) := da9_dX9_count_0.2.2.2.2.2.2.2.2.2.2.1
theorem dX9_count_109 : decode cX9_count 109 = .ok (.ireturn, 1) := da9_dX9_count_0.2.2.2.2.2.2.2.2.2.2.2.1
theorem dX9_count_110 : decode cX9_count 110 = .ok (.aload_n 0, 1) := da9_dX9_count_0.2.2.2.2.2.2.2.2.2.2.2.2.1
theorem dX9_count_111 : decode cX9_count 111 = .ok (.getfield 10, 3) := da9_dX9_count_0.2.2.2.2.2.2.2.2.2.2.2.2.2.1
theorem dX9_count_114 : decode cX9_count 114 = .ok (.getfield 122, 3) := da9_dX9_count_0.2.2.2.2.2.2.2.2.2.2.2.2.2.2.1
theorem dX9_count_117 : decode cX9_count 117 = .ok (.getfield 329, 3) := da9_dX9_count_0.2.2.2.2.2.2.2.2.2.2.2.2.2.2.2
theorem da9_dX9_count_120 : (decode cX9_count 120 = .ok (.ireturn, 1)) ∧ (decode cX9_count 121 = .ok (.aload_n 0, 1)) ∧ (decode cX9_count 122 = .ok (.getfield 10, 3)) ∧ (decode cX9_count 125 = .ok (.getfield 273, 3)) ∧ (decode cX9_count 128 = .ok (.ireturn, 1)) ∧ (decode cX9_count 129 = .ok (.aload_n 0, 1)) ∧ (decode cX9_count 130 = .ok (.getfield 10, 3)) ∧ (decode cX9_count 133 = .ok (.getfield 183, 3)) ∧ (decode cX9_count 136 = .ok (.ireturn, 1)) ∧ (decode cX9_count 137 = .ok (.aload_n 0, 1)) ∧ (decode cX9_count 138 = .ok (.getfield 27, 3)) ∧ (decode cX9_count 141 = .ok (.getfield 214, 3)) ∧ (decode cX9_count 144 = .ok (.ireturn, 1)) ∧ (decode cX9_count 145 = .ok (.aload_n 0, 1)) ∧ (decode cX9_count 146 = .ok (.getfield 88, 3)) ∧ (decode cX9_count 149 = .ok (.ireturn, 1)) := by decide +kernel
theorem dX9_count_120 : decode cX9_count 120 = .ok (.ireturn, 1) := da9_dX9_count_120.1
theorem dX9_count_121 : decode cX9_count 121 = .ok (.aload_n 0, 1) := da9_dX9_count_120.2.1
theorem dX9_count_122 : decode cX9_count 122 = .ok (.getfield 10, 3) := da9_dX9_count_120.2.2.1
theorem dX9_count_125 : decode cX9_count 125 = .ok (.getfield 273, 3) := da9_dX9_count_120.2.2.2.1
theorem dX9_count_128 : decode cX9_count 128 = .ok (.ireturn, 1) := da9_dX9_count_120.2.2.2.2.1
theorem dX9_count_129 : decode cX9_count 129 = .ok (.aload_n 0, 1) := da9_dX9_count_120.2.2.2.2.2.1
theorem dX9_count_130 : decode cX9_count 130 = .ok (.getfield 10, 3) := da9_dX9_count_120.2.2.2.2.2.2.1
theorem dX9_count_133 : decode cX9_count 133 = .ok (.getfield 183, 3) := da9_dX9_count_120.2.2.2.2.2.2.2.1
theorem dX9_count_136 : decode cX9_count 136 = .ok (.ireturn, 1) := da9_dX9_count_120.2.2.2.2.2.2.2.2.1
theorem dX9_count_137 : decode cX9_count 137 = .ok (.aload_n 0, 1) := da9_dX9_count_120.2.2.2.2.2.2.2.2.2.1
theorem dX9_count_138 : decode cX9_count 138 = .ok (.getfield 27, 3) := da9_dX9_count_120.2.2.2.2.2.2.2.2.2.2.1
theorem dX9_count_141 : decode cX9_count 141 = .ok (.getfield 214, 3) := da9_dX9_count_120.2.2.2.2.2.2.2.2.2.2.2.1
theorem dX9_count_144 : decode cX9_count 144 = .ok (.ireturn, 1) := da9_dX9_count_120.2.2.2.2.2.2.2.2.2.2.2.2.1
theorem dX9_count_145 : decode cX9_count 145 = .ok (.aload_n 0, 1) := da9_dX9_count_120.2.2.2.2.2.2.2.2.2.2.2.2.2.1
theorem dX9_count_146 : decode cX9_count 146 = .ok (.getfield 88, 3) := da9_dX9_count_120.2.2.2.2.2.2.2.2.2.2.2.2.2.2.1
theorem dX9_count_149 : decode cX9_count 149 = .ok (.ireturn, 1) := da9_dX9_count_120.2.2.2.2.2.2.2.2.2.2.2.2.2.2.2
theorem da9_dX9_count_150 : (decode cX9_count 150 = .ok (.aload_n 0, 1)) ∧ (decode cX9_count 151 = .ok (.getfield 105, 3)) ∧ (decode cX9_count 154 = .ok (.iconst 1, 1)) ∧ (decode cX9_count 155 = .ok (.iaload, 1)) ∧ (decode cX9_count 156 = .ok (.ireturn, 1)) ∧ (decode cX9_count 157 = .ok (.aload_n 0, 1)) ∧ (decode cX9_count 158 = .ok (.getfield 105, 3)) ∧ (decode cX9_count 161 = .ok (.iconst 2, 1)) ∧ (decode cX9_count 162 = .ok (.iaload, 1)) ∧ (decode cX9_count 163 = .ok (.ireturn, 1)) ∧ (decode cX9_count 164 = .ok (.aload_n 0, 1)) ∧ (decode cX9_count 165 = .ok (.getfield 105, 3)) ∧ (decode cX9_count 168 = .ok (.iconst 3, 1)) ∧ (decode cX9_count 169 = .ok (.iaload, 1)) ∧ (decode cX9_count 170 = .ok (.ireturn, 1)) ∧ (decode cX9_count 171 = .ok (.aload_n 0, 1)) := by decide +kernel
theorem dX9_count_150 : decode cX9_count 150 = .ok (.aload_n 0, 1) := da9_dX9_count_150.1
theorem dX9_count_151 : decode cX9_count 151 = .ok (.getfield 105, 3) := da9_dX9_count_150.2.1
theorem dX9_count_154 : decode cX9_count 154 = .ok (.iconst 1, 1) := da9_dX9_count_150.2.2.1
theorem dX9_count_155 : decode cX9_count 155 = .ok (.iaload, 1) := da9_dX9_count_150.2.2.2.1
theorem dX9_count_156 : decode cX9_count 156 = .ok (.ireturn, 1) := da9_dX9_count_150.2.2.2.2.1
theorem dX9_count_157 : decode cX9_count 157 = .ok (.aload_n 0, 1) := da9_dX9_count_150.2.2.2.2.2.1
theorem dX9_count_158 : decode cX9_count 158 = .ok (.getfield 105, 3) := da9_dX9_count_150.2.2.2.2.2.2.1
theorem dX9_count_161 : decode cX9_count 161 = .ok (.iconst 2, 1) := da9_dX9_count_150.2.2.2.2.2.2.2.1
theorem dX9_count_162 : decode cX9_count 162 = .ok (.iaload, 1) := da9_dX9_count_150.2.2.2.2.2.2.2.2.1
theorem dX9_count_163 : decode cX9_count 163 = .ok (.ireturn, 1) := da9_dX9_count_150.2.2.2.2.2.2.2.2.2.1
theorem dX9_count_164 : decode cX9_count 164 = .ok (.aload_n 0, 1) := da9_dX9_count_150.2.2.2.2.2.2.2.2.2.2.1
theorem dX9_count_165 : decode cX9_count 165 = .ok (.getfield 105, 3) := da9_dX9_count_150.2.2.2.2.2.2.2.2.2.2.2.1
theorem dX9_count_168 : decode cX9_count 168 = .ok (.iconst 3, 1) := da9_dX9_count_150.2.2.2.2.2.2.2.2.2.2.2.2.1
theorem dX9_count_169 : decode cX9_count 169 = .ok (.iaload, 1) := da9_dX9_count_150.2.2.2.2.2.2.2.2.2.2.2.2.2.1
theorem dX9_count_170 : decode cX9_count 170 = .ok (.ireturn, 1) := da9_dX9_count_150.2.2.2.2.2.2.2.2.2.2.2.2.2.2.1
theorem dX9_count_171 : decode cX9_count 171 = .ok (.aload_n 0, 1) := da9_dX9_count_150.2.2.2.2.2.2.2.2.2.2.2.2.2.2.2
theorem da9_dX9_count_172 : (decode cX9_count 172 = .ok (.getfield 105, 3)) ∧ (decode cX9_count 175 = .ok (.iconst 5, 1)) ∧ (decode cX9_count 176 = .ok (.iaload, 1)) ∧ (decode cX9_count 177 = .ok (.ireturn, 1)) ∧ (decode cX9_count 178 = .ok (.aload_n 0, 1)) ∧ (decode cX9_count 179 = .ok (.getfield 105, 3)) ∧ (decode cX9_count 182 = .ok (.bipush 6, 2)) ∧ (decode cX9_count 184 = .ok (.iaload, 1)) ∧ (decode cX9_count 185 = .ok (.ireturn, 1)) ∧ (decode cX9_count 186 = .ok (.aload_n 0, 1)) ∧ (decode cX9_count 187 = .ok (.getfield 10, 3)) ∧ (decode cX9_count 190 = .ok (.getfield 208, 3)) ∧ (decode cX9_count 193 = .ok (.ireturn, 1)) ∧ (decode cX9_count 194 = .ok (.aload_n 0, 1)) ∧ (decode cX9_count 195 = .ok (.getfield 10, 3)) ∧ (decode cX9_count 198 = .ok (.iload_n 1, 1)) := by decide +kernel
theorem dX9_count_172 : decode cX9_count 172 = .ok (.getfield 105, 3) := da9_dX9_count_172.1
theorem dX9_count_175 : decode cX9_count 175 = .ok (.iconst 5, 1) := da9_dX9_count_172.2.1
theorem dX9_count_176 : decode cX9_count 176 = .ok (.iaload, 1) := da9_dX9_count_172.2.2.1
theorem dX9_count_177 : decode cX9_count 177 = .ok (.ireturn, 1) := da9_dX9_count_172.2.2.2.1
theorem dX9_count_178 : decode cX9_count 178 = .ok (.aload_n 0, 1) := da9_dX9_count_172.2.2.2.2.1
theorem dX9_count_179 : decode cX9_count 179 = .ok (.getfield 105, 3) := da9_dX9_count_172.2.2.2.2.2.1
theorem dX9_count_182 : decode cX9_count 182 = .ok (.bipush 6, 2) := da9_dX9_count_172.2.2.2.2.2.2.1
theorem dX9_count_184 : decode cX9_count 184 = .ok (.iaload, 1) := da9_dX9_count_172.2.2.2.2.2.2.2.1
theorem dX9_count_185 : decode cX9_count 185 = .ok (.ireturn, 1) := da9_dX9_count_172.2.2.2.2.2.2.2.2.1
theorem dX9_count_186 : decode cX9_count 186 = .ok (.aload_n 0, 1) := da9_dX9_count_172.2.2.2.2.2.2.2.2.2.1
theorem dX9_count_187 : decode cX9_count 187 = .ok (.getfield 10, 3) := da9_dX9_count_172.2.2.2.2.2.2.2.2.2.2.1
theorem dX9_count_190 : decode cX9_count 190 = .ok (.getfield 208, 3) := da9_dX9_count_172.2.2.2.2.2.2.2.2.2.2.2.1
theorem dX9_count_193 : decode cX9_count 193 = .ok (.ireturn, 1) := da9_dX9_count_172.2.2.2.2.2.2.2.2.2.2.2.2.1
theorem dX9_count_194 : decode cX9_count 194 = .ok (.aload_n 0, 1) := da9_dX9_count_172.2.2.2.2.2.2.2.2.2.2.2.2.2.1
theorem dX9_count_195 : decode cX9_count 195 = .ok (.getfield 10, 3) := da9_dX9_count_172.2.2.2.2.2.2.2.2.2.2.2.2.2.2.1
theorem dX9_count_198 : decode cX9_count 198 = .ok (.iload_n 1, 1) := da9_dX9_count_172.2.2.2.2.2.2.2.2.2.2.2.2.2.2.2
theorem da9_dX9_count_199 : (decode cX9_count 199 = .ok (.bipush 13, 2)) ∧ (decode cX9_count 201 = .ok (.isub, 1)) ∧ (decode cX9_count 202 = .ok (.invokevirtual 170, 3)) ∧ (decode cX9_count 205 = .ok (.ireturn, 1)) ∧ (decode cX9_count 206 = .ok (.aload_n 0, 1)) ∧ (decode cX9_count 207 = .ok (.getfield 10, 3)) ∧ (decode cX9_count 210 = .ok (.getfield 122, 3)) ∧ (decode cX9_count 213 = .ok (.iconst 1, 1)) ∧ (decode cX9_count 214 = .ok (.aload_n 0, 1)) ∧ (decode cX9_count 215 = .ok (.getfield 10, 3)) ∧ (decode cX9_count 218 = .ok (.getfield 122, 3)) ∧ (decode cX9_count 221 = .ok (.getfield 135, 3)) ∧ (decode cX9_count 224 = .ok (.ishl, 1)) ∧ (decode cX9_count 225 = .ok (.iconst 1, 1)) ∧ (decode cX9_count 226 = .ok (.isub, 1)) ∧ (decode cX9_count 227 = .ok (.aload_n 0, 1)) := by decide +kernel
theorem dX9_count_199 : decode cX9_count 199 = .ok (.bipush 13, 2) := da9_dX9_count_199.1
theorem dX9_count_201 : decode cX9_count 201 = .ok (.isub, 1) := da9_dX9_count_199.2.1
theorem dX9_count_202 : decode cX9_count 202 = .ok (.invokevirtual 170, 3) := da9_dX9_count_199.2.2.1
theorem dX9_count_205 : decode cX9_count 205 = .ok (.ireturn, 1) := da9_dX9_count_199.2.2.2.1
theorem dX9_count_206 : decode cX9_count 206 = .ok (.aload_n 0, 1) := da9_dX9_count_199.2.2.2.2.1
theorem dX9_count_207 : decode cX9_count 207 = .ok (.getfield 10, 3) := da9_dX9_count_199.2.2.2.2.2.1
theorem dX9_count_210 : decode cX9_count 210 = .ok (.getfield 122, 3) := da9_dX9_count_199.2.2.2.2.2.2.1
theorem dX9_count_213 : decode cX9_count 213 = .ok (.iconst 1, 1) := da9_dX9_count_199.2.2.2.2.2.2.2.1
theorem dX9_count_214 : decode cX9_count 214 = .ok (.aload_n 0, 1) := da9_dX9_count_199.2.2.2.2.2.2.2.2.1
theorem dX9_count_215 : decode cX9_count 215 = .ok (.getfield 10, 3) := da9_dX9_count_199.2.2.2.2.2.2.2.2.2.1
theorem dX9_count_218 : decode cX9_count 218 = .ok (.getfield 122, 3) := da9_dX9_count_199.2.2.2.2.2.2.2.2.2.2.1
theorem dX9_count_221 : decode cX9_count 221 = .ok (.getfield 135, 3) := da9_dX9_count_199.2.2.2.2.2.2.2.2.2.2.2.1
theorem dX9_count_224 : decode cX9_count 224 = .ok (.ishl, 1) := da9_dX9_count_199.2.2.2.2.2.2.2.2.2.2.2.2.1
theorem dX9_count_225 : decode cX9_count 225 = .ok (.iconst 1, 1) := da9_dX9_count_199.2.2.2.2.2.2.2.2.2.2.2.2.2.1
theorem dX9_count_226 : decode cX9_count 226 = .ok (.isub, 1) := da9_dX9_count_199.2.2.2.2.2.2.2.2.2.2.2.2.2.2.1
theorem dX9_count_227 : decode cX9_count 227 = .ok (.aload_n 0, 1) := da9_dX9_count_199.2.2.2.2.2.2.2.2.2.2.2.2.2.2.2
theorem da9_dX9_count_228 : (decode cX9_count 228 = .ok (.getfield 10, 3)) ∧ (decode cX9_count 231 = .ok (.getfield 267, 3)) ∧ (decode cX9_count 234 = .ok (.invokevirtual 270, 3)) ∧ (decode cX9_count 237 = .ok (.invokestatic 152, 3)) ∧ (decode cX9_count 240 = .ok (.ireturn, 1)) ∧ (decode cX9_count 241 = .ok (.iconst (-1), 1)) ∧ (decode cX9_count 242 = .ok (.ireturn, 1)) := by decide +kernel
theorem dX9_count_228 : decode cX9_count 228 = .ok (.getfield 10, 3) := da9_dX9_count_228.1
theorem dX9_count_231 : decode cX9_count 231 = .ok (.getfield 267, 3) := da9_dX9_count_228.2.1
theorem dX9_count_234 : decode cX9_count 234 = .ok (.invokevirtual 270, 3) := da9_dX9_count_228.2.2.1
theorem dX9_count_237 : decode cX9_count 237 = .ok (.invokestatic 152, 3) := da9_dX9_count_228.2.2.2.1
theorem dX9_count_240 : decode cX9_count 240 = .ok (.ireturn, 1) := da9_dX9_count_228.2.2.2.2.1
theorem dX9_count_241 : decode cX9_count 241 = .ok (.iconst (-1), 1) := da9_dX9_count_228.2.2.2.2.2.1
theorem dX9_count_242 : decode cX9_count 242 = .ok (.ireturn, 1) := da9_dX9_count_228.2.2.2.2.2.2
theorem da9_dX9_status_0 : (decode cX9_status 0 = .ok (.aload_n 0, 1)) ∧ (decode cX9_status 1 = .ok (.getfield 108, 3)) ∧ (decode cX9_status 4 = .ok (.ireturn, 1)) := by decide +kernel
theorem dX9_status_0 : decode cX9_status 0 = .ok (.aload_n 0, 1) := da9_dX9_status_0.1
theorem dX9_status_1 : decode cX9_status 1 = .ok (.getfield 108, 3) := da9_dX9_status_0.2.1
theorem dX9_status_4 : decode cX9_status 4 = .ok (.ireturn, 1) := da9_dX9_status_0.2.2
