theorem dX2_clearChanges_17 : decode cX2_clearChanges 17 = .ok (.goto (-15), 3) := by decide +kernel
theorem dX2_clearChanges_20 : decode cX2_clearChanges 20 = .ok (.return_, 1) := by decide +kernel
set_option maxRecDepth 20000 in
theorem ggX2_perform_X2_flip : GoodIn wsX2_perform wsX2_flip := goodIn_r _ [7, 1, 2, 8, 9, 10, 11, 12, 13, 14, 15, 16, 17, 18, 19, 20, 21, 22, 23, 24, 6, 25, 26, 27, 28, 29, 30, 31, 32, 33, 34, 35, 36, 37, 38, 39, 40, 41, 42, 174, 175, 176, 177, 178, 179, 180, 181, 182, 183, 184, 185, 186, 187, 188] (by decide +kernel) (by decide +kernel)
set_option maxRecDepth 20000 in
theorem gX2_perform_X2_flip : GoodIn wsX2_perform (wsV RX2 145 RX2 yX2_flip wsX2_flip) := goodIn_app (goodIn_of _ (by decide +kernel)) ggX2_perform_X2_flip
set_option maxRecDepth 20000 in
theorem ggX2_perform_X2_stretch : GoodIn wsX2_perform wsX2_stretch := goodIn_r _ [46, 1, 2, 8, 47, 48, 11, 49, 13, 50, 51, 52, 53, 54, 19, 55, 56, 57, 58, 21, 22, 23, 24, 6, 25, 26, 59, 60, 61, 62, 63, 64, 30, 31, 32, 33, 34, 35, 36, 37, 38, 39, 40, 41, 42, 174, 175, 176, 177, 178, 179, 180, 181, 182, 183, 184, 185, 186, 187, 188] (by decide +kernel) (by decide +kernel)
set_option maxRecDepth 20000 in
theorem gX2_perform_X2_stretch : GoodIn wsX2_perform (wsV RX2 148 RX2 yX2_stretch wsX2_stretch) := goodIn_app (goodIn_of _ (by decide +kernel)) ggX2_perform_X2_stretch
set_option maxRecDepth 20000 in
theorem ggX2_perform_X2_ease : GoodIn wsX2_perform wsX2_ease := goodIn_r _ [68, 1, 2, 8, 69, 70, 11, 71, 13, 72, 73, 74, 75, 76, 19, 77, 56, 57, 58, 21, 22, 23, 24, 6, 25, 26, 78, 79, 80, 62, 63, 64, 30, 31, 32, 33, 34, 35, 36, 37, 38, 39, 40, 41, 42, 174, 175, 176, 177, 178, 179, 180, 181, 182, 183, 184, 185, 186, 187, 188] (by decide +kernel) (by decide +kernel)
set_option maxRecDepth 20000 in
theorem gX2_perform_X2_ease : GoodIn wsX2_perform (wsV RX2 152 RX2 yX2_ease wsX2_ease) := goodIn_app (goodIn_of _ (by decide +kernel)) ggX2_perform_X2_ease
set_option maxRecDepth 20000 in
theorem ggX2_perform_X2_letToWhole : GoodIn wsX2_perform wsX2_letToWhole := goodIn_r _ [84, 1, 2, 17, 18, 19, 20, 21, 27, 28, 29, 30, 85, 86, 87, 88, 89, 90, 91, 92, 93, 94, 95, 96, 97, 98, 99, 100, 6, 101, 102, 103, 104, 105, 22, 23, 24, 25, 26, 106, 107, 108, 109, 31, 32, 33, 34, 174, 175, 176, 177, 178, 179, 180, 181, 182, 183, 184, 185, 186, 187, 188] (by decide +kernel) (by decide +kernel)
set_option maxRecDepth 20000 in
theorem gX2_perform_X2_letToWhole : GoodIn wsX2_perform (wsV RX2 155 RX2 yX2_letToWhole wsX2_letToWhole) := goodIn_app (goodIn_of _ (by decide +kernel)) ggX2_perform_X2_letToWhole
set_option maxRecDepth 20000 in
theorem ggX2_perform_X2_letNear : GoodIn wsX2_perform wsX2_letNear := goodIn_r _ [113, 1, 2, 17, 18, 19, 20, 21, 114, 115, 116, 88, 89, 90, 91, 92, 93, 94, 95, 96, 27, 28, 29, 30, 98, 99, 100, 6, 101, 102, 103, 104, 105, 22, 23, 24, 25, 26, 106, 107, 108, 109, 31, 32, 33, 34, 174, 175, 176, 177, 178, 179, 180, 181, 182, 183, 184, 185, 186, 187, 188] (by decide +kernel) (by decide +kernel)
set_option maxRecDepth 20000 in
theorem gX2_perform_X2_letNear : GoodIn wsX2_perform (wsV RX2 159 RX2 yX2_letNear wsX2_letNear) := goodIn_app (goodIn_of _ (by decide +kernel)) ggX2_perform_X2_letNear
set_option maxRecDepth 20000 in
theorem ggX2_perform_X2_lean : GoodIn wsX2_perform wsX2_lean := goodIn_r _ [120, 1, 121, 122, 2, 123, 124, 17, 18, 19, 20, 21, 102, 103, 104, 105, 27, 28, 29, 30, 106, 107, 108, 109, 174, 175, 176, 177, 178, 179, 180, 181, 182, 183, 184, 185, 186, 187, 188] (by decide +kernel) (by decide +kernel)
set_option maxRecDepth 20000 in
theorem gX2_perform_X2_lean : GoodIn wsX2_perform (wsV RX2 162 RX2 yX2_lean wsX2_lean) := goodIn_app (goodIn_of _ (by decide +kernel)) ggX2_perform_X2_lean
set_option maxRecDepth 20000 in
theorem ggX2_perform_X2_mirror : GoodIn wsX2_perform wsX2_mirror := goodIn_r _ [128, 1, 2, 17, 18, 19, 20, 21, 102, 103, 104, 105, 22, 23, 24, 6, 25, 26, 27, 28, 29, 30, 106, 107, 108, 109, 31, 32, 33, 34, 174, 175, 176, 177, 178, 179, 180, 181, 182, 183, 184, 185, 186, 187, 188] (by decide +kernel) (by decide +kernel)
set_option maxRecDepth 20000 in
theorem gX2_perform_X2_mirror : GoodIn wsX2_perform (wsV RX2 165 RX2 yX2_mirror wsX2_mirror) := goodIn_app (goodIn_of _ (by decide +kernel)) ggX2_perform_X2_mirror
set_option maxRecDepth 20000 in
theorem ggX2_perform_X2_hold : GoodIn wsX2_perform wsX2_hold := goodIn_r _ [132, 1, 133, 134, 53, 54, 19, 55, 56, 57, 58, 21, 75, 76, 77, 22, 23, 24, 6, 25, 26, 174, 175, 176, 177, 178, 179, 180, 181, 182, 183, 184, 185, 186, 187, 188] (by decide +kernel) (by decide +kernel)
set_option maxRecDepth 20000 in
theorem gX2_perform_X2_hold : GoodIn wsX2_perform (wsV RX2 168 RX2 yX2_hold wsX2_hold) := goodIn_app (goodIn_of _ (by decide +kernel)) ggX2_perform_X2_hold
set_option maxRecDepth 20000 in
theorem ggX2_perform_X2_placeStops : GoodIn wsX2_perform wsX2_placeStops := goodIn_r _ [138, 133, 1, 134, 75, 76, 19, 77, 56, 57, 58, 21, 53, 54, 55, 174, 175, 176, 177, 178, 179, 180, 181, 182, 183, 184, 185, 186, 187, 188] (by decide +kernel) (by decide +kernel)
set_option maxRecDepth 20000 in
theorem gX2_perform_X2_placeStops : GoodIn wsX2_perform (wsV RX2 171 RX2 yX2_placeStops wsX2_placeStops) := goodIn_app (goodIn_of _ (by decide +kernel)) ggX2_perform_X2_placeStops
set_option maxRecDepth 20000 in
theorem ggX2_perform_X2_gather : GoodIn wsX2_perform wsX2_gather := goodIn_r _ [142, 121, 1, 123, 2, 143, 8, 9, 10, 11, 12, 47, 48, 49, 144, 13, 14, 15, 16, 72, 73, 74, 17, 18, 19, 20, 21, 53, 54, 55, 56, 57, 58, 27, 28, 29, 30, 78, 79, 80, 62, 63, 64, 174, 175, 176, 177, 178, 179, 180, 181, 182, 183, 184, 185, 186, 187, 188] (by decide +kernel) (by decide +kernel)
set_option maxRecDepth 20000 in
theorem gX2_perform_X2_gather : GoodIn wsX2_perform (wsV RX2 174 RX2 yX2_gather wsX2_gather) := goodIn_app (goodIn_of _ (by decide +kernel)) ggX2_perform_X2_gather
set_option maxRecDepth 20000 in
theorem ggX2_perform_X2_trade : GoodIn wsX2_perform wsX2_trade := goodIn_r _ [148, 1, 2, 8, 13, 133, 134, 22, 23, 24, 6, 25, 26, 31, 32, 33, 34, 35, 36, 37, 38, 39, 40, 41, 42, 174, 175, 176, 177, 178, 179, 180, 181, 182, 183, 184, 185, 186, 187, 188] (by decide +kernel) (by decide +kernel)
set_option maxRecDepth 20000 in
theorem gX2_perform_X2_trade : GoodIn wsX2_perform (wsV RX2 177 RX2 yX2_trade wsX2_trade) := goodIn_app (goodIn_of _ (by decide +kernel)) ggX2_perform_X2_trade
set_option maxRecDepth 20000 in
theorem ggX2_perform_X2_climb : GoodIn wsX2_perform wsX2_climb := goodIn_r _ [152, 1, 8, 2, 13, 17, 18, 19, 20, 21, 35, 36, 37, 6, 38, 26, 27, 28, 29, 30, 39, 40, 41, 42, 174, 175, 176, 177, 178, 179, 180, 181, 182, 183, 184, 185, 186, 187, 188] (by decide +kernel) (by decide +kernel)
set_option maxRecDepth 20000 in
theorem gX2_perform_X2_climb : GoodIn wsX2_perform (wsV RX2 180 RX2 yX2_climb wsX2_climb) := goodIn_app (goodIn_of _ (by decide +kernel)) ggX2_perform_X2_climb
set_option maxRecDepth 20000 in
theorem ggX2_perform_X2_halve : GoodIn wsX2_perform wsX2_halve := goodIn_r _ [156, 1, 157, 2, 158, 17, 18, 19, 20, 21, 159, 160, 161, 162, 27, 28, 29, 30, 98, 99, 100, 6, 101, 102, 103, 104, 105, 22, 23, 24, 25, 26, 106, 107, 108, 109, 31, 32, 33, 34, 174, 175, 176, 177, 178, 179, 180, 181, 182, 183, 184, 185, 186, 187, 188] (by decide +kernel) (by decide +kernel)
set_option maxRecDepth 20000 in
theorem gX2_perform_X2_halve : GoodIn wsX2_perform (wsV RX2 183 RX2 yX2_halve wsX2_halve) := goodIn_app (goodIn_of _ (by decide +kernel)) ggX2_perform_X2_halve
set_option maxRecDepth 20000 in
theorem ggX2_perform_X2_makeTwice : GoodIn wsX2_perform wsX2_makeTwice := goodIn_r _ [166, 1, 157, 2, 158, 17, 18, 19, 20, 21, 167, 168, 169, 27, 28, 29, 30, 98, 99, 100, 6, 101, 102, 103, 104, 105, 22, 23, 24, 25, 26, 106, 107, 108, 109, 31, 32, 33, 34, 174, 175, 176, 177, 178, 179, 180, 181, 182, 183, 184, 185, 186, 187, 188] (by decide +kernel) (by decide +kernel)
set_option maxRecDepth 20000 in
theorem gX2_perform_X2_makeTwice : GoodIn wsX2_perform (wsV RX2 186 RX2 yX2_makeTwice wsX2_makeTwice) := goodIn_app (goodIn_of _ (by decide +kernel)) ggX2_perform_X2_makeTwice
set_option maxRecDepth 20000 in
theorem ggX2_perform_X2_give : GoodIn wsX2_perform wsX2_give := goodIn_r _ [173, 121, 123, 143, 144, 22, 23, 24, 6, 25, 1, 26, 31, 32, 33, 34, 2, 35, 36, 37, 38, 8, 39, 40, 41, 42, 13, 174, 175, 176, 177, 178, 179, 180, 181, 182, 183, 184, 185, 186, 187, 188] (by decide +kernel) (by decide +kernel)
set_option maxRecDepth 20000 in
theorem gX2_perform_X2_give : GoodIn wsX2_perform (wsV RX2 189 RX2 yX2_give wsX2_give) := goodIn_app (goodIn_of _ (by decide +kernel)) ggX2_perform_X2_give
theorem dX2_perform_0 : decode cX2_perform 0 = .ok (.iload_n 1, 1) := by decide +kernel
theorem dX2_perform_1 : decode cX2_perform 1 = .ok (.tableswitch 272 0 15 #[79, 87, 96, 105, 143, 181, 189, 197, 206, 214, 223, 231, 240, 248, 256, 264], 79) := by decide +kernel
theorem dX2_perform_80 : decode cX2_perform 80 = .ok (.aload_n 0, 1) := by decide +kernel
theorem dX2_perform_81 : decode cX2_perform 81 = .ok (.iload_n 2, 1) := by decide +kernel
theorem dX2_perform_82 : decode cX2_perform 82 = .ok (.invokevirtual 145, 3) := by decide +kernel
theorem dX2_perform_85 : decode cX2_perform 85 = .ok (.goto 188, 3) := by decide +kernel
theorem dX2_perform_88 : decode cX2_perform 88 = .ok (.aload_n 0, 1) := by decide +kernel
theorem dX2_perform_89 : decode cX2_perform 89 = .ok (.iload_n 2, 1) := by decide +kernel
theorem dX2_perform_90 : decode cX2_perform 90 = .ok (.iload_n 3, 1) := by decide +kernel
theorem dX2_perform_91 : decode cX2_perform 91 = .ok (.invokevirtual 148, 3) := by decide +kernel
theorem dX2_perform_94 : decode cX2_perform 94 = .ok (.goto 179, 3) := by decide +kernel
theorem dX2_perform_97 : decode cX2_perform 97 = .ok (.aload_n 0, 1) := by decide +kernel
theorem dX2_perform_98 : decode cX2_perform 98 = .ok (.iload_n 2, 1) := by decide +kernel
theorem dX2_perform_99 : decode cX2_perform 99 = .ok (.iload_n 3, 1) := by decide +kernel
theorem dX2_perform_100 : decode cX2_perform 100 = .ok (.invokevirtual 152, 3) := by decide +kernel
theorem dX2_perform_103 : decode cX2_perform 103 = .ok (.goto 170, 3) := by decide +kernel
theorem dX2_perform_106 : decode cX2_perform 106 = .ok (.aload_n 0, 1) := by decide +kernel
theorem dX2_perform_107 : decode cX2_perform 107 = .ok (.iload_n 2, 1) := by decide +kernel
theorem dX2_perform_108 : decode cX2_perform 108 = .ok (.aload_n 0, 1) := by decide +kernel
theorem dX2_perform_109 : decode cX2_perform 109 = .ok (.getfield 9, 3) := by decide +kernel
theorem dX2_perform_112 : decode cX2_perform 112 = .ok (.iload_n 2, 1) := by decide +kernel
theorem dX2_perform_113 : decode cX2_perform 113 = .ok (.laload, 1) := by decide +kernel
theorem dX2_perform_114 : decode cX2_perform 114 = .ok (.lconst 0, 1) := by decide +kernel
theorem dX2_perform_115 : decode cX2_perform 115 = .ok (.lcmp, 1) := by decide +kernel
theorem dX2_perform_116 : decode cX2_perform 116 = .ok (.ifCond .ge 7, 3) := by decide +kernel
theorem dX2_perform_119 : decode cX2_perform 119 = .ok (.iconst 1, 1) := by decide +kernel
theorem dX2_perform_120 : decode cX2_perform 120 = .ok (.goto 4, 3) := by decide +kernel
theorem dX2_perform_123 : decode cX2_perform 123 = .ok (.iconst 0, 1) := by decide +kernel
theorem dX2_perform_124 : decode cX2_perform 124 = .ok (.aload_n 0, 1) := by decide +kernel
theorem dX2_perform_125 : decode cX2_perform 125 = .ok (.getfield 13, 3) := by decide +kernel
theorem dX2_perform_128 : decode cX2_perform 128 = .ok (.iload_n 2, 1) := by decide +kernel
theorem dX2_perform_129 : decode cX2_perform 129 = .ok (.iaload, 1) := by decide +kernel
theorem dX2_perform_130 : decode cX2_perform 130 = .ok (.ifCond .ge 7, 3) := by decide +kernel
theorem dX2_perform_133 : decode cX2_perform 133 = .ok (.iconst 1, 1) := by decide +kernel
theorem dX2_perform_134 : decode cX2_perform 134 = .ok (.goto 4, 3) := by decide +kernel
theorem dX2_perform_137 : decode cX2_perform 137 = .ok (.iconst 0, 1) := by decide +kernel
theorem dX2_perform_138 : decode cX2_perform 138 = .ok (.invokevirtual 155, 3) := by decide +kernel
theorem dX2_perform_141 : decode cX2_perform 141 = .ok (.goto 132, 3) := by decide +kernel
theorem dX2_perform_144 : decode cX2_perform 144 = .ok (.aload_n 0, 1) := by decide +kernel
theorem dX2_perform_145 : decode cX2_perform 145 = .ok (.iload_n 2, 1) := by decide +kernel
theorem dX2_perform_146 : decode cX2_perform 146 = .ok (.aload_n 0, 1) := by decide +kernel
theorem dX2_perform_147 : decode cX2_perform 147 = .ok (.getfield 9, 3) := by decide +kernel
theorem dX2_perform_150 : decode cX2_perform 150 = .ok (.iload_n 2, 1) := by decide +kernel
theorem dX2_perform_151 : decode cX2_perform 151 = .ok (.laload, 1) := by decide +kernel
theorem dX2_perform_152 : decode cX2_perform 152 = .ok (.lconst 0, 1) := by decide +kernel
theorem dX2_perform_153 : decode cX2_perform 153 = .ok (.lcmp, 1) := by decide +kernel
theorem dX2_perform_154 : decode cX2_perform 154 = .ok (.ifCond .lt 7, 3) := by decide +kernel
theorem dX2_perform_157 : decode cX2_perform 157 = .ok (.iconst 1, 1) := by decide +kernel
theorem dX2_perform_158 : decode cX2_perform 158 = .ok (.goto 4, 3) := by decide +kernel
theorem dX2_perform_161 : decode cX2_perform 161 = .ok (.iconst 0, 1) := by decide +kernel
theorem dX2_perform_162 : decode cX2_perform 162 = .ok (.aload_n 0, 1) := by decide +kernel
theorem dX2_perform_163 : decode cX2_perform 163 = .ok (.getfield 13, 3) := by decide +kernel
theorem dX2_perform_166 : decode cX2_perform 166 = .ok (.iload_n 2, 1) := by decide +kernel
theorem dX2_perform_167 : decode cX2_perform 167 = .ok (.iaload, 1) := by decide +kernel
theorem dX2_perform_168 : decode cX2_perform 168 = .ok (.ifCond .lt 7, 3) := by decide +kernel
theorem dX2_perform_171 : decode cX2_perform 171 = .ok (.iconst 1, 1) := by decide +kernel
theorem dX2_perform_172 : decode cX2_perform 172 = .ok (.goto 4, 3) := by decide +kernel
theorem dX2_perform_175 : decode cX2_perform 175 = .ok (.iconst 0, 1) := by decide +kernel
theorem dX2_perform_176 : decode cX2_perform 176 = .ok (.invokevirtual 155, 3) := by decide +kernel
theorem dX2_perform_179 : decode cX2_perform 179 = .ok (.goto 94, 3) := by decide +kernel
theorem dX2_perform_182 : decode cX2_perform 182 = .ok (.aload_n 0, 1) := by decide +kernel
theorem dX2_perform_183 : decode cX2_perform 183 = .ok (.iload_n 2, 1) := by decide +kernel
theorem dX2_perform_184 : decode cX2_perform 184 = .ok (.invokevirtual 159, 3) := by decide +kernel
theorem dX2_perform_187 : decode cX2_perform 187 = .ok (.goto 86, 3) := by decide +kernel
theorem dX2_perform_190 : decode cX2_perform 190 = .ok (.aload_n 0, 1) := by decide +kernel
theorem dX2_perform_191 : decode cX2_perform 191 = .ok (.iload_n 2, 1) := by decide +kernel
theorem dX2_perform_192 : decode cX2_perform 192 = .ok (.invokevirtual 162, 3) := by decide +kernel
theorem dX2_perform_195 : decode cX2_perform 195 = .ok (.goto 78, 3) := by decide +kernel
theorem dX2_perform_198 : decode cX2_perform 198 = .ok (.aload_n 0, 1) := by decide +kernel
theorem dX2_perform_199 : decode cX2_perform 199 = .ok (.iload_n 2, 1) := by decide +kernel
theorem dX2_perform_200 : decode cX2_perform 200 = .ok (.iload_n 3, 1) := by decide +kernel
theorem dX2_perform_201 : decode cX2_perform 201 = .ok (.invokevirtual 165, 3) := by decide +kernel
theorem dX2_perform_204 : decode cX2_perform 204 = .ok (.goto 69, 3) := by decide +kernel
theorem dX2_perform_207 : decode cX2_perform 207 = .ok (.aload_n 0, 1) := by decide +kernel
theorem dX2_perform_208 : decode cX2_perform 208 = .ok (.iload_n 2, 1) := by decide +kernel
theorem dX2_perform_209 : decode cX2_perform 209 = .ok (.invokevirtual 168, 3) := by decide +kernel
theorem dX2_perform_212 : decode cX2_perform 212 = .ok (.goto 61, 3) := by decide +kernel
theorem dX2_perform_215 : decode cX2_perform 215 = .ok (.aload_n 0, 1) := by decide +kernel
theorem dX2_perform_216 : decode cX2_perform 216 = .ok (.iload_n 2, 1) := by decide +kernel
theorem dX2_perform_217 : decode cX2_perform 217 = .ok (.iload_n 3, 1) := by decide +kernel
theorem dX2_perform_218 : decode cX2_perform 218 = .ok (.invokevirtual 171, 3) := by decide +kernel
theorem dX2_perform_221 : decode cX2_perform 221 = .ok (.goto 52, 3) := by decide +kernel
theorem dX2_perform_224 : decode cX2_perform 224 = .ok (.aload_n 0, 1) := by decide +kernel
theorem dX2_perform_225 : decode cX2_perform 225 = .ok (.iload_n 2, 1) := by decide +kernel
theorem dX2_perform_226 : decode cX2_perform 226 = .ok (.invokevirtual 174, 3) := by decide +kernel
theorem dX2_perform_229 : decode cX2_perform 229 = .ok (.goto 44, 3) := by decide +kernel
theorem dX2_perform_232 : decode cX2_perform 232 = .ok (.aload_n 0, 1) := by decide +kernel
theorem dX2_perform_233 : decode cX2_perform 233 = .ok (.iload_n 2, 1) := by decide +kernel
theorem dX2_perform_234 : decode cX2_perform 234 = .ok (.iload_n 3, 1) := by decide +kernel
theorem dX2_perform_235 : decode cX2_perform 235 = .ok (.invokevirtual 177, 3) := by decide +kernel
theorem dX2_perform_238 : decode cX2_perform 238 = .ok (.goto 35, 3) := by decide +kernel
theorem dX2_perform_241 : decode cX2_perform 241 = .ok (.aload_n 0, 1) := by decide +kernel
theorem dX2_perform_242 : decode cX2_perform 242 = .ok (.iload_n 2, 1) := by decide +kernel
theorem dX2_perform_243 : decode cX2_perform 243 = .ok (.invokevirtual 180, 3) := by decide +kernel
theorem dX2_perform_246 : decode cX2_perform 246 = .ok (.goto 27, 3) := by decide +kernel
theorem dX2_perform_249 : decode cX2_perform 249 = .ok (.aload_n 0, 1) := by decide +kernel
theorem dX2_perform_250 : decode cX2_perform 250 = .ok (.iload_n 2, 1) := by decide +kernel
theorem dX2_perform_251 : decode cX2_perform 251 = .ok (.invokevirtual 183, 3) := by decide +kernel
theorem dX2_perform_254 : decode cX2_perform 254 = .ok (.goto 19, 3) := by decide +kernel
theorem dX2_perform_257 : decode cX2_perform 257 = .ok (.aload_n 0, 1) := by decide +kernel
theorem dX2_perform_258 : decode cX2_perform 258 = .ok (.iload_n 2, 1) := by decide +kernel
theorem dX2_perform_259 : decode cX2_perform 259 = .ok (.invokevirtual 186, 3) := by decide +kernel
theorem dX2_perform_262 : decode cX2_perform 262 = .ok (.goto 11, 3) := by decide +kernel
theorem dX2_perform_265 : decode cX2_perform 265 = .ok (.aload_n 0, 1) := by decide +kernel
theorem dX2_perform_266 : decode cX2_perform 266 = .ok (.iload_n 2, 1) := by decide +kernel
theorem dX2_perform_267 : decode cX2_perform 267 = .ok (.invokevirtual 189, 3) := by decide +kernel
theorem dX2_perform_270 : decode cX2_perform 270 = .ok (.goto 3, 3) := by decide +kernel
theorem dX2_perform_273 : decode cX2_perform 273 = .ok (.return_, 1) := by decide +kernel
set_option maxRecDepth 20000 in
theorem ggX2_flip_X1_amount : GoodIn wsX2_flip wsX1_amount := goodIn_r _ [15, 16] (by decide +kernel) (by decide +kernel)
set_option maxRecDepth 20000 in
theorem gX2_flip_X1_amount : GoodIn wsX2_flip (va_wsS RX2 127 yX1_amount wsX1_amount) := goodIn_app (goodIn_of _ (by decide +kernel)) ggX2_flip_X1_amount
set_option maxRecDepth 20000 in
theorem ggX2_flip_X2_changeLength : GoodIn wsX2_flip wsX2_changeLength := goodIn_r _ [21, 1, 22, 39, 40, 41, 42, 43, 44, 45, 46, 47, 48, 49, 50, 51, 52, 53] (by decide +kernel) (by decide +kernel)
set_option maxRecDepth 20000 in
theorem gX2_flip_X2_changeLength : GoodIn wsX2_flip (wsV RX2 192 RX2 yX2_changeLength wsX2_changeLength) := goodIn_app (goodIn_of _ (by decide +kernel)) ggX2_flip_X2_changeLength
set_option maxRecDepth 20000 in
theorem ggX2_flip_X1_shortAmount : GoodIn wsX2_flip wsX1_shortAmount := goodIn_r _ [25, 26] (by decide +kernel) (by decide +kernel)
set_option maxRecDepth 20000 in
theorem gX2_flip_X1_shortAmount : GoodIn wsX2_flip (va_wsS RX2 135 yX1_shortAmount wsX1_shortAmount) := goodIn_app (goodIn_of _ (by decide +kernel)) ggX2_flip_X1_shortAmount
set_option maxRecDepth 20000 in
theorem ggX2_flip_X2_changePull : GoodIn wsX2_flip wsX2_changePull := goodIn_r _ [30, 2, 22, 39, 40, 41, 42, 43, 44, 45, 46, 47, 48, 49, 50, 51, 52, 53] (by decide +kernel) (by decide +kernel)
set_option maxRecDepth 20000 in
theorem gX2_flip_X2_changePull : GoodIn wsX2_flip (wsV RX2 196 RX2 yX2_changePull wsX2_changePull) := goodIn_app (goodIn_of _ (by decide +kernel)) ggX2_flip_X2_changePull
set_option maxRecDepth 20000 in
theorem ggX2_flip_X2_changeKnots : GoodIn wsX2_flip wsX2_changeKnots := goodIn_r _ [34, 3, 22, 39, 40, 41, 42, 43, 44, 45, 46, 47, 48, 49, 50, 51, 52, 53] (by decide +kernel) (by decide +kernel)
set_option maxRecDepth 20000 in
theorem gX2_flip_X2_changeKnots : GoodIn wsX2_flip (wsV RX2 204 RX2 yX2_changeKnots wsX2_changeKnots) := goodIn_app (goodIn_of _ (by decide +kernel)) ggX2_flip_X2_changeKnots
set_option maxRecDepth 20000 in
theorem ggX2_flip_X2_changeTwist : GoodIn wsX2_flip wsX2_changeTwist := goodIn_r _ [38, 8, 22, 39, 40, 41, 42, 43, 44, 45, 46, 47, 48, 49, 50, 51, 52, 53] (by decide +kernel) (by decide +kernel)
set_option maxRecDepth 20000 in
theorem gX2_flip_X2_changeTwist : GoodIn wsX2_flip (wsV RX2 209 RX2 yX2_changeTwist wsX2_changeTwist) := goodIn_app (goodIn_of _ (by decide +kernel)) ggX2_flip_X2_changeTwist
theorem dX2_flip_0 : decode cX2_flip 0 = .ok (.aload_n 0, 1) := by decide +kernel
theorem dX2_flip_1 : decode cX2_flip 1 = .ok (.iload_n 1, 1) := by decide +kernel
theorem dX2_flip_2 : decode cX2_flip 2 = .ok (.aload_n 0, 1) := by decide +kernel
theorem dX2_flip_3 : decode cX2_flip 3 = .ok (.getfield 9, 3) := by decide +kernel
theorem dX2_flip_6 : decode cX2_flip 6 = .ok (.iload_n 1, 1) := by decide +kernel
theorem dX2_flip_7 : decode cX2_flip 7 = .ok (.laload, 1) := by decide +kernel
theorem dX2_flip_8 : decode cX2_flip 8 = .ok (.invokestatic 127, 3) := by decide +kernel
theorem dX2_flip_11 : decode cX2_flip 11 = .ok (.invokevirtual 192, 3) := by decide +kernel
theorem dX2_flip_14 : decode cX2_flip 14 = .ok (.aload_n 0, 1) := by decide +kernel
theorem dX2_flip_15 : decode cX2_flip 15 = .ok (.iload_n 1, 1) := by decide +kernel
theorem dX2_flip_16 : decode cX2_flip 16 = .ok (.aload_n 0, 1) := by decide +kernel
theorem dX2_flip_17 : decode cX2_flip 17 = .ok (.getfield 13, 3) := by decide +kernel
theorem dX2_flip_20 : decode cX2_flip 20 = .ok (.iload_n 1, 1) := by decide +kernel
theorem dX2_flip_21 : decode cX2_flip 21 = .ok (.iaload, 1) := by decide +kernel
theorem dX2_flip_22 : decode cX2_flip 22 = .ok (.invokestatic 135, 3) := by decide +kernel
theorem dX2_flip_25 : decode cX2_flip 25 = .ok (.invokevirtual 196, 3) := by decide +kernel
theorem dX2_flip_28 : decode cX2_flip 28 = .ok (.aload_n 0, 1) := by decide +kernel
theorem dX2_flip_29 : decode cX2_flip 29 = .ok (.iload_n 1, 1) := by decide +kernel
theorem dX2_flip_30 : decode cX2_flip 30 = .ok (.aload_n 0, 1) := by decide +kernel
theorem dX2_flip_31 : decode cX2_flip 31 = .ok (.getfield 17, 3) := by decide +kernel
theorem dX2_flip_34 : decode cX2_flip 34 = .ok (.iload_n 1, 1) := by decide +kernel
theorem dX2_flip_35 : decode cX2_flip 35 = .ok (.iaload, 1) := by decide +kernel
theorem dX2_flip_36 : decode cX2_flip 36 = .ok (.invokestatic 199, 3) := by decide +kernel
theorem dX2_flip_39 : decode cX2_flip 39 = .ok (.invokevirtual 204, 3) := by decide +kernel
theorem dX2_flip_42 : decode cX2_flip 42 = .ok (.aload_n 0, 1) := by decide +kernel
theorem dX2_flip_43 : decode cX2_flip 43 = .ok (.iload_n 1, 1) := by decide +kernel
theorem dX2_flip_44 : decode cX2_flip 44 = .ok (.aload_n 0, 1) := by decide +kernel
theorem dX2_flip_45 : decode cX2_flip 45 = .ok (.getfield 20, 3) := by decide +kernel
theorem dX2_flip_48 : decode cX2_flip 48 = .ok (.iload_n 1, 1) := by decide +kernel
theorem dX2_flip_49 : decode cX2_flip 49 = .ok (.laload, 1) := by decide +kernel
theorem dX2_flip_50 : decode cX2_flip 50 = .ok (.invokestatic 207, 3) := by decide +kernel
theorem dX2_flip_53 : decode cX2_flip 53 = .ok (.invokevirtual 209, 3) := by decide +kernel
theorem dX2_flip_56 : decode cX2_flip 56 = .ok (.return_, 1) := by decide +kernel
set_option maxRecDepth 20000 in
theorem ggX2_stretch_X1_greater : GoodIn wsX2_stretch wsX1_greater := goodIn_r _ [15, 16, 17, 14, 18, 19] (by decide +kernel) (by decide +kernel)
set_option maxRecDepth 20000 in
theorem gX2_stretch_X1_greater : GoodIn wsX2_stretch (va_wsS RX2 212 yX1_greater wsX1_greater) := goodIn_app (goodIn_of _ (by decide +kernel)) ggX2_stretch_X1_greater
set_option maxRecDepth 20000 in
theorem ggX2_stretch_X2_changeLength : GoodIn wsX2_stretch wsX2_changeLength := goodIn_r _ [24, 1, 25, 45, 46, 47, 48, 49, 50, 51, 52, 53, 54, 55, 56, 57, 58, 59] (by decide +kernel) (by decide +kernel)
set_option maxRecDepth 20000 in
theorem gX2_stretch_X2_changeLength : GoodIn wsX2_stretch (wsV RX2 192 RX2 yX2_changeLength wsX2_changeLength) := goodIn_app (goodIn_of _ (by decide +kernel)) ggX2_stretch_X2_changeLength
set_option maxRecDepth 20000 in
theorem ggX2_stretch_X1_shortGreater : GoodIn wsX2_stretch wsX1_shortGreater := goodIn_r _ [28, 29, 30, 14, 31, 32] (by decide +kernel) (by decide +kernel)
set_option maxRecDepth 20000 in
theorem gX2_stretch_X1_shortGreater : GoodIn wsX2_stretch (va_wsS RX2 216 yX1_shortGreater wsX1_shortGreater) := goodIn_app (goodIn_of _ (by decide +kernel)) ggX2_stretch_X1_shortGreater
set_option maxRecDepth 20000 in
theorem ggX2_stretch_X2_changePull : GoodIn wsX2_stretch wsX2_changePull := goodIn_r _ [36, 2, 25, 45, 46, 47, 48, 49, 50, 51, 52, 53, 54, 55, 56, 57, 58, 59] (by decide +kernel) (by decide +kernel)
set_option maxRecDepth 20000 in
theorem gX2_stretch_X2_changePull : GoodIn wsX2_stretch (wsV RX2 196 RX2 yX2_changePull wsX2_changePull) := goodIn_app (goodIn_of _ (by decide +kernel)) ggX2_stretch_X2_changePull
set_option maxRecDepth 20000 in
theorem ggX2_stretch_X2_changeKnots : GoodIn wsX2_stretch wsX2_changeKnots := goodIn_r _ [40, 3, 25, 45, 46, 47, 48, 49, 50, 51, 52, 53, 54, 55, 56, 57, 58, 59] (by decide +kernel) (by decide +kernel)
set_option maxRecDepth 20000 in
theorem gX2_stretch_X2_changeKnots : GoodIn wsX2_stretch (wsV RX2 204 RX2 yX2_changeKnots wsX2_changeKnots) := goodIn_app (goodIn_of _ (by decide +kernel)) ggX2_stretch_X2_changeKnots
set_option maxRecDepth 20000 in
theorem ggX2_stretch_X2_changeTwist : GoodIn wsX2_stretch wsX2_changeTwist := goodIn_r _ [44, 8, 25, 45, 46, 47, 48, 49, 50, 51, 52, 53, 54, 55, 56, 57, 58, 59] (by decide +kernel) (by decide +kernel)
set_option maxRecDepth 20000 in
theorem gX2_stretch_X2_changeTwist : GoodIn wsX2_stretch (wsV RX2 209 RX2 yX2_changeTwist wsX2_changeTwist) := goodIn_app (goodIn_of _ (by decide +kernel)) ggX2_stretch_X2_changeTwist
theorem dX2_stretch_0 : decode cX2_stretch 0 = .ok (.aload_n 0, 1) := by decide +kernel
theorem dX2_stretch_1 : decode cX2_stretch 1 = .ok (.iload_n 1, 1) := by decide +kernel
theorem dX2_stretch_2 : decode cX2_stretch 2 = .ok (.aload_n 0, 1) := by decide +kernel
theorem dX2_stretch_3 : decode cX2_stretch 3 = .ok (.getfield 9, 3) := by decide +kernel
theorem dX2_stretch_6 : decode cX2_stretch 6 = .ok (.iload_n 1, 1) := by decide +kernel
theorem dX2_stretch_7 : decode cX2_stretch 7 = .ok (.laload, 1) := by decide +kernel
theorem dX2_stretch_8 : decode cX2_stretch 8 = .ok (.aload_n 0, 1) := by decide +kernel
theorem dX2_stretch_9 : decode cX2_stretch 9 = .ok (.getfield 9, 3) := by decide +kernel
theorem dX2_stretch_12 : decode cX2_stretch 12 = .ok (.iload_n 2, 1) := by decide +kernel
theorem dX2_stretch_13 : decode cX2_stretch 13 = .ok (.laload, 1) := by decide +kernel
theorem dX2_stretch_14 : decode cX2_stretch 14 = .ok (.invokestatic 212, 3) := by decide +kernel
theorem dX2_stretch_17 : decode cX2_stretch 17 = .ok (.invokevirtual 192, 3) := by decide +kernel
theorem dX2_stretch_20 : decode cX2_stretch 20 = .ok (.aload_n 0, 1) := by decide +kernel
theorem dX2_stretch_21 : decode cX2_stretch 21 = .ok (.iload_n 1, 1) := by decide +kernel
theorem dX2_stretch_22 : decode cX2_stretch 22 = .ok (.aload_n 0, 1) := by decide +kernel
theorem dX2_stretch_23 : decode cX2_stretch 23 = .ok (.getfield 13, 3) := by decide +kernel
theorem dX2_stretch_26 : decode cX2_stretch 26 = .ok (.iload_n 1, 1) := by decide +kernel
theorem dX2_stretch_27 : decode cX2_stretch 27 = .ok (.iaload, 1) := by decide +kernel
theorem dX2_stretch_28 : decode cX2_stretch 28 = .ok (.aload_n 0, 1) := by decide +kernel
theorem dX2_stretch_29 : decode cX2_stretch 29 = .ok (.getfield 13, 3) := by decide +kernel
theorem dX2_stretch_32 : decode cX2_stretch 32 = .ok (.iload_n 2, 1) := by decide +kernel
theorem dX2_stretch_33 : decode cX2_stretch 33 = .ok (.iaload, 1) := by decide +kernel
theorem dX2_stretch_34 : decode cX2_stretch 34 = .ok (.invokestatic 216, 3) := by decide +kernel
theorem dX2_stretch_37 : decode cX2_stretch 37 = .ok (.invokevirtual 196, 3) := by decide +kernel
theorem dX2_stretch_40 : decode cX2_stretch 40 = .ok (.aload_n 0, 1) := by decide +kernel
theorem dX2_stretch_41 : decode cX2_stretch 41 = .ok (.iload_n 1, 1) := by decide +kernel
theorem dX2_stretch_42 : decode cX2_stretch 42 = .ok (.aload_n 0, 1) := by decide +kernel
theorem dX2_stretch_43 : decode cX2_stretch 43 = .ok (.getfield 17, 3) := by decide +kernel
theorem dX2_stretch_46 : decode cX2_stretch 46 = .ok (.iload_n 1, 1) := by decide +kernel
theorem dX2_stretch_47 : decode cX2_stretch 47 = .ok (.iaload, 1) := by decide +kernel
theorem dX2_stretch_48 : decode cX2_stretch 48 = .ok (.aload_n 0, 1) := by decide +kernel
theorem dX2_stretch_49 : decode cX2_stretch 49 = .ok (.getfield 17, 3) := by decide +kernel
theorem dX2_stretch_52 : decode cX2_stretch 52 = .ok (.iload_n 2, 1) := by decide +kernel
theorem dX2_stretch_53 : decode cX2_stretch 53 = .ok (.iaload, 1) := by decide +kernel
theorem dX2_stretch_54 : decode cX2_stretch 54 = .ok (.invokestatic 219, 3) := by decide +kernel
theorem dX2_stretch_57 : decode cX2_stretch 57 = .ok (.invokevirtual 204, 3) := by decide +kernel
theorem dX2_stretch_60 : decode cX2_stretch 60 = .ok (.aload_n 0, 1) := by decide +kernel
theorem dX2_stretch_61 : decode cX2_stretch 61 = .ok (.iload_n 1, 1) := by decide +kernel
theorem dX2_stretch_62 : decode cX2_stretch 62 = .ok (.aload_n 0, 1) := by decide +kernel
theorem dX2_stretch_63 : decode cX2_stretch 63 = .ok (.getfield 20, 3) := by decide +kernel
theorem dX2_stretch_66 : decode cX2_stretch 66 = .ok (.iload_n 1, 1) := by decide +kernel
theorem dX2_stretch_67 : decode cX2_stretch 67 = .ok (.laload, 1) := by decide +kernel
theorem dX2_stretch_68 : decode cX2_stretch 68 = .ok (.aload_n 0, 1) := by decide +kernel
theorem dX2_stretch_69 : decode cX2_stretch 69 = .ok (.getfield 20, 3) := by decide +kernel
theorem dX2_stretch_72 : decode cX2_stretch 72 = .ok (.iload_n 2, 1) := by decide +kernel
theorem dX2_stretch_73 : decode cX2_stretch 73 = .ok (.laload, 1) := by decide +kernel
theorem dX2_stretch_74 : decode cX2_stretch 74 = .ok (.invokestatic 222, 3) := by decide +kernel
theorem dX2_stretch_77 : decode cX2_stretch 77 = .ok (.invokevirtual 209, 3) := by decide +kernel
theorem dX2_stretch_80 : decode cX2_stretch 80 = .ok (.return_, 1) := by decide +kernel
set_option maxRecDepth 20000 in
theorem ggX2_ease_X1_lesser : GoodIn wsX2_ease wsX1_lesser := goodIn_r _ [15, 16, 17, 14, 18, 19] (by decide +kernel) (by decide +kernel)
set_option maxRecDepth 20000 in
theorem gX2_ease_X1_lesser : GoodIn wsX2_ease (va_wsS RX2 224 yX1_lesser wsX1_lesser) := goodIn_app (goodIn_of _ (by decide +kernel)) ggX2_ease_X1_lesser
set_option maxRecDepth 20000 in
theorem ggX2_ease_X2_changeLength : GoodIn wsX2_ease wsX2_changeLength := goodIn_r _ [24, 1, 25, 45, 46, 47, 48, 49, 50, 51, 52, 53, 54, 55, 56, 57, 58, 59] (by decide +kernel) (by decide +kernel)
set_option maxRecDepth 20000 in
theorem gX2_ease_X2_changeLength : GoodIn wsX2_ease (wsV RX2 192 RX2 yX2_changeLength wsX2_changeLength) := goodIn_app (goodIn_of _ (by decide +kernel)) ggX2_ease_X2_changeLength
set_option maxRecDepth 20000 in
theorem ggX2_ease_X1_shortLesser : GoodIn wsX2_ease wsX1_shortLesser := goodIn_r _ [28, 29, 30, 14, 31, 32] (by decide +kernel) (by decide +kernel)
set_option maxRecDepth 20000 in
theorem gX2_ease_X1_shortLesser : GoodIn wsX2_ease (va_wsS RX2 227 yX1_shortLesser wsX1_shortLesser) := goodIn_app (goodIn_of _ (by decide +kernel)) ggX2_ease_X1_shortLesser
set_option maxRecDepth 20000 in
theorem ggX2_ease_X2_changePull : GoodIn wsX2_ease wsX2_changePull := goodIn_r _ [36, 2, 25, 45, 46, 47, 48, 49, 50, 51, 52, 53, 54, 55, 56, 57, 58, 59] (by decide +kernel) (by decide +kernel)
set_option maxRecDepth 20000 in
theorem gX2_ease_X2_changePull : GoodIn wsX2_ease (wsV RX2 196 RX2 yX2_changePull wsX2_changePull) := goodIn_app (goodIn_of _ (by decide +kernel)) ggX2_ease_X2_changePull
set_option maxRecDepth 20000 in
theorem ggX2_ease_X2_changeKnots : GoodIn wsX2_ease wsX2_changeKnots := goodIn_r _ [40, 3, 25, 45, 46, 47, 48, 49, 50, 51, 52, 53, 54, 55, 56, 57, 58, 59] (by decide +kernel) (by decide +kernel)
set_option maxRecDepth 20000 in
theorem gX2_ease_X2_changeKnots : GoodIn wsX2_ease (wsV RX2 204 RX2 yX2_changeKnots wsX2_changeKnots) := goodIn_app (goodIn_of _ (by decide +kernel)) ggX2_ease_X2_changeKnots
set_option maxRecDepth 20000 in
theorem ggX2_ease_X2_changeTwist : GoodIn wsX2_ease wsX2_changeTwist := goodIn_r _ [44, 8, 25, 45, 46, 47, 48, 49, 50, 51, 52, 53, 54, 55, 56, 57, 58, 59] (by decide +kernel) (by decide +kernel)
set_option maxRecDepth 20000 in
theorem gX2_ease_X2_changeTwist : GoodIn wsX2_ease (wsV RX2 209 RX2 yX2_changeTwist wsX2_changeTwist) := goodIn_app (goodIn_of _ (by decide +kernel)) ggX2_ease_X2_changeTwist
theorem dX2_ease_0 : decode cX2_ease 0 = .ok (.aload_n 0, 1) := by decide +kernel
theorem dX2_ease_1 : decode cX2_ease 1 = .ok (.iload_n 1, 1) := by decide +kernel
theorem dX2_ease_2 : decode cX2_ease 2 = .ok (.aload_n 0, 1) := by decide +kernel
theorem dX2_ease_3 : decode cX2_ease 3 = .ok (.getfield 9, 3) := by decide +kernel
theorem dX2_ease_6 : decode cX2_ease 6 = .ok (.iload_n 1, 1) := by decide +kernel
theorem dX2_ease_7 : decode cX2_ease 7 = .ok (.laload, 1) := by decide +kernel
theorem dX2_ease_8 : decode cX2_ease 8 = .ok (.aload_n 0, 1) := by decide +kernel
theorem dX2_ease_9 : decode cX2_ease 9 = .ok (.getfield 9, 3) := by decide +kernel
theorem dX2_ease_12 : decode cX2_ease 12 = .ok (.iload_n 2, 1) := by decide +kernel
theorem dX2_ease_13 : decode cX2_ease 13 = .ok (.laload, 1) := by decide +kernel
theorem dX2_ease_14 : decode cX2_ease 14 = .ok (.invokestatic 224, 3) := by decide +kernel
theorem dX2_ease_17 : decode cX2_ease 17 = .ok (.invokevirtual 192, 3) := by decide +kernel
theorem dX2_ease_20 : decode cX2_ease 20 = .ok (.aload_n 0, 1) := by decide +kernel
theorem dX2_ease_21 : decode cX2_ease 21 = .ok (.iload_n 1, 1) := by decide +kernel
theorem dX2_ease_22 : decode cX2_ease 22 = .ok (.aload_n 0, 1) := by decide +kernel
theorem dX2_ease_23 : decode cX2_ease 23 = .ok (.getfield 13, 3) := by decide +kernel
theorem dX2_ease_26 : decode cX2_ease 26 = .ok (.iload_n 1, 1) := by decide +kernel
theorem dX2_ease_27 : decode cX2_ease 27 = .ok (.iaload, 1) := by decide +kernel
theorem dX2_ease_28 : decode cX2_ease 28 = .ok (.aload_n 0, 1) := by decide +kernel
theorem dX2_ease_29 : decode cX2_ease 29 = .ok (.getfield 13, 3) := by decide +kernel
theorem dX2_ease_32 : decode cX2_ease 32 = .ok (.iload_n 2, 1) := by decide +kernel
theorem dX2_ease_33 : decode cX2_ease 33 = .ok (.iaload, 1) := by decide +kernel
theorem dX2_ease_34 : decode cX2_ease 34 = .ok (.invokestatic 227, 3) := by decide +kernel
theorem dX2_ease_37 : decode cX2_ease 37 = .ok (.invokevirtual 196, 3) := by decide +kernel
theorem dX2_ease_40 : decode cX2_ease 40 = .ok (.aload_n 0, 1) := by decide +kernel
theorem dX2_ease_41 : decode cX2_ease 41 = .ok (.iload_n 1, 1) := by decide +kernel
theorem dX2_ease_42 : decode cX2_ease 42 = .ok (.aload_n 0, 1) := by decide +kernel
theorem dX2_ease_43 : decode cX2_ease 43 = .ok (.getfield 17, 3) := by decide +kernel
theorem dX2_ease_46 : decode cX2_ease 46 = .ok (.iload_n 1, 1) := by decide +kernel
theorem dX2_ease_47 : decode cX2_ease 47 = .ok (.iaload, 1) := by decide +kernel
theorem dX2_ease_48 : decode cX2_ease 48 = .ok (.aload_n 0, 1) := by decide +kernel
theorem dX2_ease_49 : decode cX2_ease 49 = .ok (.getfield 17, 3) := by decide +kernel
theorem dX2_ease_52 : decode cX2_ease 52 = .ok (.iload_n 2, 1) := by decide +kernel
theorem dX2_ease_53 : decode cX2_ease 53 = .ok (.iaload, 1) := by decide +kernel
theorem dX2_ease_54 : decode cX2_ease 54 = .ok (.invokestatic 230, 3) := by decide +kernel
theorem dX2_ease_57 : decode cX2_ease 57 = .ok (.invokevirtual 204, 3) := by decide +kernel
theorem dX2_ease_60 : decode cX2_ease 60 = .ok (.aload_n 0, 1) := by decide +kernel
theorem dX2_ease_61 : decode cX2_ease 61 = .ok (.iload_n 1, 1) := by decide +kernel
theorem dX2_ease_62 : decode cX2_ease 62 = .ok (.aload_n 0, 1) := by decide +kernel
theorem dX2_ease_63 : decode cX2_ease 63 = .ok (.getfield 20, 3) := by decide +kernel
theorem dX2_ease_66 : decode cX2_ease 66 = .ok (.iload_n 1, 1) := by decide +kernel
theorem dX2_ease_67 : decode cX2_ease 67 = .ok (.laload, 1) := by decide +kernel
theorem dX2_ease_68 : decode cX2_ease 68 = .ok (.aload_n 0, 1) := by decide +kernel
theorem dX2_ease_69 : decode cX2_ease 69 = .ok (.getfield 20, 3) := by decide +kernel
theorem dX2_ease_72 : decode cX2_ease 72 = .ok (.iload_n 2, 1) := by decide +kernel
theorem dX2_ease_73 : decode cX2_ease 73 = .ok (.laload, 1) := by decide +kernel
theorem dX2_ease_74 : decode cX2_ease 74 = .ok (.invokestatic 233, 3) := by decide +kernel
theorem dX2_ease_77 : decode cX2_ease 77 = .ok (.invokevirtual 209, 3) := by decide +kernel
theorem dX2_ease_80 : decode cX2_ease 80 = .ok (.return_, 1) := by decide +kernel
set_option maxRecDepth 20000 in
theorem ggX2_letToWhole_X1_amount : GoodIn wsX2_letToWhole wsX1_amount := goodIn_r _ [6, 7] (by decide +kernel) (by decide +kernel)
set_option maxRecDepth 20000 in
theorem gX2_letToWhole_X1_amount : GoodIn wsX2_letToWhole (va_wsS RX2 127 yX1_amount wsX1_amount) := goodIn_app (goodIn_of _ (by decide +kernel)) ggX2_letToWhole_X1_amount
set_option maxRecDepth 20000 in
theorem ggX2_letToWhole_X1_shortAmount : GoodIn wsX2_letToWhole wsX1_shortAmount := goodIn_r _ [10, 11] (by decide +kernel) (by decide +kernel)
set_option maxRecDepth 20000 in
theorem gX2_letToWhole_X1_shortAmount : GoodIn wsX2_letToWhole (va_wsS RX2 135 yX1_shortAmount wsX1_shortAmount) := goodIn_app (goodIn_of _ (by decide +kernel)) ggX2_letToWhole_X1_shortAmount
set_option maxRecDepth 20000 in
theorem ggX2_letToWhole_X1_wholeAbove : GoodIn wsX2_letToWhole wsX1_wholeAbove := goodIn_r _ [14, 15, 16, 5, 17, 18, 19, 20, 21, 22, 23] (by decide +kernel) (by decide +kernel)
set_option maxRecDepth 20000 in
theorem gX2_letToWhole_X1_wholeAbove : GoodIn wsX2_letToWhole (va_wsS RX2 235 yX1_wholeAbove wsX1_wholeAbove) := goodIn_app (goodIn_of _ (by decide +kernel)) ggX2_letToWhole_X1_wholeAbove
set_option maxRecDepth 20000 in
theorem ggX2_letToWhole_X1_wholeBelow : GoodIn wsX2_letToWhole wsX1_wholeBelow := goodIn_r _ [17, 18, 19, 5, 20] (by decide +kernel) (by decide +kernel)
set_option maxRecDepth 20000 in
theorem gX2_letToWhole_X1_wholeBelow : GoodIn wsX2_letToWhole (va_wsS RX2 239 yX1_wholeBelow wsX1_wholeBelow) := goodIn_app (goodIn_of _ (by decide +kernel)) ggX2_letToWhole_X1_wholeBelow
set_option maxRecDepth 20000 in
theorem ggX2_letToWhole_X2_changeAmounts : GoodIn wsX2_letToWhole wsX2_changeAmounts := goodIn_r _ [29, 1, 2, 30, 31, 5, 32, 33, 34, 35, 36, 28, 37, 38, 39, 40, 41, 42, 43, 44, 45, 46, 47, 48, 49, 50, 51, 52, 53, 54, 55, 56, 57, 58, 59, 60, 61] (by decide +kernel) (by decide +kernel)
set_option maxRecDepth 20000 in
theorem gX2_letToWhole_X2_changeAmounts : GoodIn wsX2_letToWhole (wsV RX2 242 RX2 yX2_changeAmounts wsX2_changeAmounts) := goodIn_app (goodIn_of _ (by decide +kernel)) ggX2_letToWhole_X2_changeAmounts
theorem dX2_letToWhole_0 : decode cX2_letToWhole 0 = .ok (.aload_n 0, 1) := by decide +kernel
theorem dX2_letToWhole_1 : decode cX2_letToWhole 1 = .ok (.getfield 9, 3) := by decide +kernel
theorem dX2_letToWhole_4 : decode cX2_letToWhole 4 = .ok (.iload_n 1, 1) := by decide +kernel
theorem dX2_letToWhole_5 : decode cX2_letToWhole 5 = .ok (.laload, 1) := by decide +kernel
theorem dX2_letToWhole_6 : decode cX2_letToWhole 6 = .ok (.invokestatic 127, 3) := by decide +kernel
theorem dX2_letToWhole_9 : decode cX2_letToWhole 9 = .ok (.lstore 4, 2) := by decide +kernel
theorem dX2_letToWhole_11 : decode cX2_letToWhole 11 = .ok (.aload_n 0, 1) := by decide +kernel
theorem dX2_letToWhole_12 : decode cX2_letToWhole 12 = .ok (.getfield 13, 3) := by decide +kernel
theorem dX2_letToWhole_15 : decode cX2_letToWhole 15 = .ok (.iload_n 1, 1) := by decide +kernel
theorem dX2_letToWhole_16 : decode cX2_letToWhole 16 = .ok (.iaload, 1) := by decide +kernel
theorem dX2_letToWhole_17 : decode cX2_letToWhole 17 = .ok (.invokestatic 135, 3) := by decide +kernel
theorem dX2_letToWhole_20 : decode cX2_letToWhole 20 = .ok (.i2l, 1) := by decide +kernel
theorem dX2_letToWhole_21 : decode cX2_letToWhole 21 = .ok (.lstore 6, 2) := by decide +kernel
theorem dX2_letToWhole_23 : decode cX2_letToWhole 23 = .ok (.aload_n 0, 1) := by decide +kernel
theorem dX2_letToWhole_24 : decode cX2_letToWhole 24 = .ok (.iload_n 1, 1) := by decide +kernel
theorem dX2_letToWhole_25 : decode cX2_letToWhole 25 = .ok (.iload_n 2, 1) := by decide +kernel
theorem dX2_letToWhole_26 : decode cX2_letToWhole 26 = .ok (.ifCond .eq 16, 3) := by decide +kernel
theorem dX2_letToWhole_29 : decode cX2_letToWhole 29 = .ok (.lload 4, 2) := by decide +kernel
theorem dX2_letToWhole_31 : decode cX2_letToWhole 31 = .ok (.bipush 52, 2) := by decide +kernel
theorem dX2_letToWhole_33 : decode cX2_letToWhole 33 = .ok (.sipush 1023, 3) := by decide +kernel
theorem dX2_letToWhole_36 : decode cX2_letToWhole 36 = .ok (.invokestatic 235, 3) := by decide +kernel
theorem dX2_letToWhole_39 : decode cX2_letToWhole 39 = .ok (.goto 13, 3) := by decide +kernel
theorem dX2_letToWhole_42 : decode cX2_letToWhole 42 = .ok (.lload 4, 2) := by decide +kernel
theorem dX2_letToWhole_44 : decode cX2_letToWhole 44 = .ok (.bipush 52, 2) := by decide +kernel
theorem dX2_letToWhole_46 : decode cX2_letToWhole 46 = .ok (.sipush 1023, 3) := by decide +kernel
theorem dX2_letToWhole_49 : decode cX2_letToWhole 49 = .ok (.invokestatic 239, 3) := by decide +kernel
theorem dX2_letToWhole_52 : decode cX2_letToWhole 52 = .ok (.iload_n 3, 1) := by decide +kernel
theorem dX2_letToWhole_53 : decode cX2_letToWhole 53 = .ok (.ifCond .eq 15, 3) := by decide +kernel
theorem dX2_letToWhole_56 : decode cX2_letToWhole 56 = .ok (.lload 6, 2) := by decide +kernel
theorem dX2_letToWhole_58 : decode cX2_letToWhole 58 = .ok (.bipush 23, 2) := by decide +kernel
theorem dX2_letToWhole_60 : decode cX2_letToWhole 60 = .ok (.bipush 127, 2) := by decide +kernel
theorem dX2_letToWhole_62 : decode cX2_letToWhole 62 = .ok (.invokestatic 235, 3) := by decide +kernel
theorem dX2_letToWhole_65 : decode cX2_letToWhole 65 = .ok (.goto 12, 3) := by decide +kernel
theorem dX2_letToWhole_68 : decode cX2_letToWhole 68 = .ok (.lload 6, 2) := by decide +kernel
theorem dX2_letToWhole_70 : decode cX2_letToWhole 70 = .ok (.bipush 23, 2) := by decide +kernel
theorem dX2_letToWhole_72 : decode cX2_letToWhole 72 = .ok (.bipush 127, 2) := by decide +kernel
theorem dX2_letToWhole_74 : decode cX2_letToWhole 74 = .ok (.invokestatic 239, 3) := by decide +kernel
theorem dX2_letToWhole_77 : decode cX2_letToWhole 77 = .ok (.invokevirtual 242, 3) := by decide +kernel
theorem dX2_letToWhole_80 : decode cX2_letToWhole 80 = .ok (.return_, 1) := by decide +kernel
set_option maxRecDepth 20000 in
theorem ggX2_letNear_X1_amount : GoodIn wsX2_letNear wsX1_amount := goodIn_r _ [6, 7] (by decide +kernel) (by decide +kernel)
set_option maxRecDepth 20000 in
theorem gX2_letNear_X1_amount : GoodIn wsX2_letNear (va_wsS RX2 127 yX1_amount wsX1_amount) := goodIn_app (goodIn_of _ (by decide +kernel)) ggX2_letNear_X1_amount
set_option maxRecDepth 20000 in
theorem ggX2_letNear_X1_wholeNear : GoodIn wsX2_letNear wsX1_wholeNear := goodIn_r _ [10, 11, 12, 5, 13, 14, 15, 16, 17, 18, 19] (by decide +kernel) (by decide +kernel)
set_option maxRecDepth 20000 in
theorem gX2_letNear_X1_wholeNear : GoodIn wsX2_letNear (va_wsS RX2 246 yX1_wholeNear wsX1_wholeNear) := goodIn_app (goodIn_of _ (by decide +kernel)) ggX2_letNear_X1_wholeNear
set_option maxRecDepth 20000 in
theorem ggX2_letNear_X1_shortAmount : GoodIn wsX2_letNear wsX1_shortAmount := goodIn_r _ [22, 23] (by decide +kernel) (by decide +kernel)
set_option maxRecDepth 20000 in
theorem gX2_letNear_X1_shortAmount : GoodIn wsX2_letNear (va_wsS RX2 135 yX1_shortAmount wsX1_shortAmount) := goodIn_app (goodIn_of _ (by decide +kernel)) ggX2_letNear_X1_shortAmount
set_option maxRecDepth 20000 in
theorem ggX2_letNear_X2_changeAmounts : GoodIn wsX2_letNear wsX2_changeAmounts := goodIn_r _ [28, 1, 2, 29, 30, 5, 31, 32, 33, 34, 35, 27, 36, 37, 38, 39, 40, 41, 42, 43, 44, 45, 46, 47, 48, 49, 50, 51, 52, 53, 54, 55, 56, 57, 58, 59, 60] (by decide +kernel) (by decide +kernel)
set_option maxRecDepth 20000 in
theorem gX2_letNear_X2_changeAmounts : GoodIn wsX2_letNear (wsV RX2 242 RX2 yX2_changeAmounts wsX2_changeAmounts) := goodIn_app (goodIn_of _ (by decide +kernel)) ggX2_letNear_X2_changeAmounts
theorem dX2_letNear_0 : decode cX2_letNear 0 = .ok (.aload_n 0, 1) := by decide +kernel
theorem dX2_letNear_1 : decode cX2_letNear 1 = .ok (.iload_n 1, 1) := by decide +kernel
theorem dX2_letNear_2 : decode cX2_letNear 2 = .ok (.aload_n 0, 1) := by decide +kernel
theorem dX2_letNear_3 : decode cX2_letNear 3 = .ok (.getfield 9, 3) := by decide +kernel
theorem dX2_letNear_6 : decode cX2_letNear 6 = .ok (.iload_n 1, 1) := by decide +kernel
theorem dX2_letNear_7 : decode cX2_letNear 7 = .ok (.laload, 1) := by decide +kernel
theorem dX2_letNear_8 : decode cX2_letNear 8 = .ok (.invokestatic 127, 3) := by decide +kernel
theorem dX2_letNear_11 : decode cX2_letNear 11 = .ok (.bipush 52, 2) := by decide +kernel
theorem dX2_letNear_13 : decode cX2_letNear 13 = .ok (.sipush 1023, 3) := by decide +kernel
theorem dX2_letNear_16 : decode cX2_letNear 16 = .ok (.invokestatic 246, 3) := by decide +kernel
theorem dX2_letNear_19 : decode cX2_letNear 19 = .ok (.aload_n 0, 1) := by decide +kernel
theorem dX2_letNear_20 : decode cX2_letNear 20 = .ok (.getfield 13, 3) := by decide +kernel
theorem dX2_letNear_23 : decode cX2_letNear 23 = .ok (.iload_n 1, 1) := by decide +kernel
theorem dX2_letNear_24 : decode cX2_letNear 24 = .ok (.iaload, 1) := by decide +kernel
theorem dX2_letNear_25 : decode cX2_letNear 25 = .ok (.invokestatic 135, 3) := by decide +kernel
theorem dX2_letNear_28 : decode cX2_letNear 28 = .ok (.i2l, 1) := by decide +kernel
theorem dX2_letNear_29 : decode cX2_letNear 29 = .ok (.bipush 23, 2) := by decide +kernel
theorem dX2_letNear_31 : decode cX2_letNear 31 = .ok (.bipush 127, 2) := by decide +kernel
theorem dX2_letNear_33 : decode cX2_letNear 33 = .ok (.invokestatic 246, 3) := by decide +kernel
theorem dX2_letNear_36 : decode cX2_letNear 36 = .ok (.invokevirtual 242, 3) := by decide +kernel
theorem dX2_letNear_39 : decode cX2_letNear 39 = .ok (.return_, 1) := by decide +kernel
set_option maxRecDepth 20000 in
theorem ggX2_lean_X1_amount : GoodIn wsX2_lean wsX1_amount := goodIn_r _ [10, 11] (by decide +kernel) (by decide +kernel)
set_option maxRecDepth 20000 in
theorem gX2_lean_X1_amount : GoodIn wsX2_lean (va_wsS RX2 127 yX1_amount wsX1_amount) := goodIn_app (goodIn_of _ (by decide +kernel)) ggX2_lean_X1_amount
set_option maxRecDepth 20000 in
theorem ggX2_lean_X1_withSign : GoodIn wsX2_lean wsX1_withSign := goodIn_r _ [14, 15] (by decide +kernel) (by decide +kernel)
set_option maxRecDepth 20000 in
theorem gX2_lean_X1_withSign : GoodIn wsX2_lean (va_wsS RX2 251 yX1_withSign wsX1_withSign) := goodIn_app (goodIn_of _ (by decide +kernel)) ggX2_lean_X1_withSign
set_option maxRecDepth 20000 in
theorem ggX2_lean_X1_shortAmount : GoodIn wsX2_lean wsX1_shortAmount := goodIn_r _ [18, 19] (by decide +kernel) (by decide +kernel)
set_option maxRecDepth 20000 in
theorem gX2_lean_X1_shortAmount : GoodIn wsX2_lean (va_wsS RX2 135 yX1_shortAmount wsX1_shortAmount) := goodIn_app (goodIn_of _ (by decide +kernel)) ggX2_lean_X1_shortAmount
set_option maxRecDepth 20000 in
theorem ggX2_lean_X1_shortWithSign : GoodIn wsX2_lean wsX1_shortWithSign := goodIn_r _ [22, 23] (by decide +kernel) (by decide +kernel)
set_option maxRecDepth 20000 in
theorem gX2_lean_X1_shortWithSign : GoodIn wsX2_lean (va_wsS RX2 255 yX1_shortWithSign wsX1_shortWithSign) := goodIn_app (goodIn_of _ (by decide +kernel)) ggX2_lean_X1_shortWithSign
theorem dX2_lean_0 : decode cX2_lean 0 = .ok (.aload_n 0, 1) := by decide +kernel
theorem dX2_lean_1 : decode cX2_lean 1 = .ok (.getfield 9, 3) := by decide +kernel
theorem dX2_lean_4 : decode cX2_lean 4 = .ok (.iload_n 1, 1) := by decide +kernel
theorem dX2_lean_5 : decode cX2_lean 5 = .ok (.laload, 1) := by decide +kernel
theorem dX2_lean_6 : decode cX2_lean 6 = .ok (.invokestatic 127, 3) := by decide +kernel
theorem dX2_lean_9 : decode cX2_lean 9 = .ok (.lconst 0, 1) := by decide +kernel
theorem dX2_lean_10 : decode cX2_lean 10 = .ok (.lcmp, 1) := by decide +kernel
theorem dX2_lean_11 : decode cX2_lean 11 = .ok (.ifCond .ne 16, 3) := by decide +kernel
theorem dX2_lean_14 : decode cX2_lean 14 = .ok (.aload_n 0, 1) := by decide +kernel
theorem dX2_lean_15 : decode cX2_lean 15 = .ok (.aload_n 0, 1) := by decide +kernel
theorem dX2_lean_16 : decode cX2_lean 16 = .ok (.getfield 9, 3) := by decide +kernel
theorem dX2_lean_19 : decode cX2_lean 19 = .ok (.iload_n 1, 1) := by decide +kernel
theorem dX2_lean_20 : decode cX2_lean 20 = .ok (.laload, 1) := by decide +kernel
theorem dX2_lean_21 : decode cX2_lean 21 = .ok (.putfield 33, 3) := by decide +kernel
theorem dX2_lean_24 : decode cX2_lean 24 = .ok (.goto 19, 3) := by decide +kernel
theorem dX2_lean_27 : decode cX2_lean 27 = .ok (.aload_n 0, 1) := by decide +kernel
theorem dX2_lean_28 : decode cX2_lean 28 = .ok (.ldc2_w 249, 3) := by decide +kernel
theorem dX2_lean_31 : decode cX2_lean 31 = .ok (.aload_n 0, 1) := by decide +kernel
theorem dX2_lean_32 : decode cX2_lean 32 = .ok (.getfield 9, 3) := by decide +kernel
theorem dX2_lean_35 : decode cX2_lean 35 = .ok (.iload_n 1, 1) := by decide +kernel
theorem dX2_lean_36 : decode cX2_lean 36 = .ok (.laload, 1) := by decide +kernel
theorem dX2_lean_37 : decode cX2_lean 37 = .ok (.invokestatic 251, 3) := by decide +kernel
theorem dX2_lean_40 : decode cX2_lean 40 = .ok (.putfield 33, 3) := by decide +kernel
theorem dX2_lean_43 : decode cX2_lean 43 = .ok (.aload_n 0, 1) := by decide +kernel
theorem dX2_lean_44 : decode cX2_lean 44 = .ok (.getfield 13, 3) := by decide +kernel
theorem dX2_lean_47 : decode cX2_lean 47 = .ok (.iload_n 1, 1) := by decide +kernel
theorem dX2_lean_48 : decode cX2_lean 48 = .ok (.iaload, 1) := by decide +kernel
theorem dX2_lean_49 : decode cX2_lean 49 = .ok (.invokestatic 135, 3) := by decide +kernel
theorem dX2_lean_52 : decode cX2_lean 52 = .ok (.ifCond .ne 16, 3) := by decide +kernel
theorem dX2_lean_55 : decode cX2_lean 55 = .ok (.aload_n 0, 1) := by decide +kernel
theorem dX2_lean_56 : decode cX2_lean 56 = .ok (.aload_n 0, 1) := by decide +kernel
theorem dX2_lean_57 : decode cX2_lean 57 = .ok (.getfield 13, 3) := by decide +kernel
theorem dX2_lean_60 : decode cX2_lean 60 = .ok (.iload_n 1, 1) := by decide +kernel
theorem dX2_lean_61 : decode cX2_lean 61 = .ok (.iaload, 1) := by decide +kernel
theorem dX2_lean_62 : decode cX2_lean 62 = .ok (.putfield 37, 3) := by decide +kernel
theorem dX2_lean_65 : decode cX2_lean 65 = .ok (.goto 18, 3) := by decide +kernel
theorem dX2_lean_68 : decode cX2_lean 68 = .ok (.aload_n 0, 1) := by decide +kernel
theorem dX2_lean_69 : decode cX2_lean 69 = .ok (.ldc 254, 2) := by decide +kernel
theorem dX2_lean_71 : decode cX2_lean 71 = .ok (.aload_n 0, 1) := by decide +kernel
theorem dX2_lean_72 : decode cX2_lean 72 = .ok (.getfield 13, 3) := by decide +kernel
theorem dX2_lean_75 : decode cX2_lean 75 = .ok (.iload_n 1, 1) := by decide +kernel
theorem dX2_lean_76 : decode cX2_lean 76 = .ok (.iaload, 1) := by decide +kernel
theorem dX2_lean_77 : decode cX2_lean 77 = .ok (.invokestatic 255, 3) := by decide +kernel
theorem dX2_lean_80 : decode cX2_lean 80 = .ok (.putfield 37, 3) := by decide +kernel
theorem dX2_lean_83 : decode cX2_lean 83 = .ok (.return_, 1) := by decide +kernel
set_option maxRecDepth 20000 in
theorem ggX2_mirror_X1_amount : GoodIn wsX2_mirror wsX1_amount := goodIn_r _ [6, 7] (by decide +kernel) (by decide +kernel)
set_option maxRecDepth 20000 in
theorem gX2_mirror_X1_amount : GoodIn wsX2_mirror (va_wsS RX2 127 yX1_amount wsX1_amount) := goodIn_app (goodIn_of _ (by decide +kernel)) ggX2_mirror_X1_amount
set_option maxRecDepth 20000 in
theorem ggX2_mirror_X1_withSign : GoodIn wsX2_mirror wsX1_withSign := goodIn_r _ [10, 11] (by decide +kernel) (by decide +kernel)
set_option maxRecDepth 20000 in
theorem gX2_mirror_X1_withSign : GoodIn wsX2_mirror (va_wsS RX2 251 yX1_withSign wsX1_withSign) := goodIn_app (goodIn_of _ (by decide +kernel)) ggX2_mirror_X1_withSign
set_option maxRecDepth 20000 in
theorem ggX2_mirror_X2_changeLength : GoodIn wsX2_mirror wsX2_changeLength := goodIn_r _ [16, 1, 17, 30, 31, 32, 33, 34, 35, 36, 37, 38, 39, 40, 41, 42, 43, 44] (by decide +kernel) (by decide +kernel)
set_option maxRecDepth 20000 in
theorem gX2_mirror_X2_changeLength : GoodIn wsX2_mirror (wsV RX2 192 RX2 yX2_changeLength wsX2_changeLength) := goodIn_app (goodIn_of _ (by decide +kernel)) ggX2_mirror_X2_changeLength
set_option maxRecDepth 20000 in
theorem ggX2_mirror_X1_shortAmount : GoodIn wsX2_mirror wsX1_shortAmount := goodIn_r _ [20, 21] (by decide +kernel) (by decide +kernel)
set_option maxRecDepth 20000 in
theorem gX2_mirror_X1_shortAmount : GoodIn wsX2_mirror (va_wsS RX2 135 yX1_shortAmount wsX1_shortAmount) := goodIn_app (goodIn_of _ (by decide +kernel)) ggX2_mirror_X1_shortAmount
set_option maxRecDepth 20000 in
theorem ggX2_mirror_X1_shortWithSign : GoodIn wsX2_mirror wsX1_shortWithSign := goodIn_r _ [24, 25] (by decide +kernel) (by decide +kernel)
set_option maxRecDepth 20000 in
theorem gX2_mirror_X1_shortWithSign : GoodIn wsX2_mirror (va_wsS RX2 255 yX1_shortWithSign wsX1_shortWithSign) := goodIn_app (goodIn_of _ (by decide +kernel)) ggX2_mirror_X1_shortWithSign
set_option maxRecDepth 20000 in
theorem ggX2_mirror_X2_changePull : GoodIn wsX2_mirror wsX2_changePull := goodIn_r _ [29, 2, 17, 30, 31, 32, 33, 34, 35, 36, 37, 38, 39, 40, 41, 42, 43, 44] (by decide +kernel) (by decide +kernel)
set_option maxRecDepth 20000 in
theorem gX2_mirror_X2_changePull : GoodIn wsX2_mirror (wsV RX2 196 RX2 yX2_changePull wsX2_changePull) := goodIn_app (goodIn_of _ (by decide +kernel)) ggX2_mirror_X2_changePull
theorem dX2_mirror_0 : decode cX2_mirror 0 = .ok (.aload_n 0, 1) := by decide +kernel
theorem dX2_mirror_1 : decode cX2_mirror 1 = .ok (.iload_n 1, 1) := by decide +kernel
theorem dX2_mirror_2 : decode cX2_mirror 2 = .ok (.aload_n 0, 1) := by decide +kernel
theorem dX2_mirror_3 : decode cX2_mirror 3 = .ok (.getfield 9, 3) := by decide +kernel
theorem dX2_mirror_6 : decode cX2_mirror 6 = .ok (.iload_n 1, 1) := by decide +kernel
theorem dX2_mirror_7 : decode cX2_mirror 7 = .ok (.laload, 1) := by decide +kernel
theorem dX2_mirror_8 : decode cX2_mirror 8 = .ok (.invokestatic 127, 3) := by decide +kernel
theorem dX2_mirror_11 : decode cX2_mirror 11 = .ok (.aload_n 0, 1) := by decide +kernel
theorem dX2_mirror_12 : decode cX2_mirror 12 = .ok (.getfield 9, 3) := by decide +kernel
theorem dX2_mirror_15 : decode cX2_mirror 15 = .ok (.iload_n 2, 1) := by decide +kernel
theorem dX2_mirror_16 : decode cX2_mirror 16 = .ok (.laload, 1) := by decide +kernel
theorem dX2_mirror_17 : decode cX2_mirror 17 = .ok (.invokestatic 251, 3) := by decide +kernel
theorem dX2_mirror_20 : decode cX2_mirror 20 = .ok (.invokevirtual 192, 3) := by decide +kernel
theorem dX2_mirror_23 : decode cX2_mirror 23 = .ok (.aload_n 0, 1) := by decide +kernel
theorem dX2_mirror_24 : decode cX2_mirror 24 = .ok (.iload_n 1, 1) := by decide +kernel
theorem dX2_mirror_25 : decode cX2_mirror 25 = .ok (.aload_n 0, 1) := by decide +kernel
theorem dX2_mirror_26 : decode cX2_mirror 26 = .ok (.getfield 13, 3) := by decide +kernel
theorem dX2_mirror_29 : decode cX2_mirror 29 = .ok (.iload_n 1, 1) := by decide +kernel
theorem dX2_mirror_30 : decode cX2_mirror 30 = .ok (.iaload, 1) := by decide +kernel
theorem dX2_mirror_31 : decode cX2_mirror 31 = .ok (.invokestatic 135, 3) := by decide +kernel
theorem dX2_mirror_34 : decode cX2_mirror 34 = .ok (.aload_n 0, 1) := by decide +kernel
theorem dX2_mirror_35 : decode cX2_mirror 35 = .ok (.getfield 13, 3) := by decide +kernel
theorem dX2_mirror_38 : decode cX2_mirror 38 = .ok (.iload_n 2, 1) := by decide +kernel
theorem dX2_mirror_39 : decode cX2_mirror 39 = .ok (.iaload, 1) := by decide +kernel
theorem dX2_mirror_40 : decode cX2_mirror 40 = .ok (.invokestatic 255, 3) := by decide +kernel
theorem dX2_mirror_43 : decode cX2_mirror 43 = .ok (.invokevirtual 196, 3) := by decide +kernel
theorem dX2_mirror_46 : decode cX2_mirror 46 = .ok (.return_, 1) := by decide +kernel
set_option maxRecDepth 20000 in
theorem ggX2_hold_X1_greater : GoodIn wsX2_hold wsX1_greater := goodIn_r _ [7, 8, 9, 6, 10, 11] (by decide +kernel) (by decide +kernel)
set_option maxRecDepth 20000 in
theorem gX2_hold_X1_greater : GoodIn wsX2_hold (va_wsS RX2 212 yX1_greater wsX1_greater) := goodIn_app (goodIn_of _ (by decide +kernel)) ggX2_hold_X1_greater
set_option maxRecDepth 20000 in
theorem ggX2_hold_X1_lesser : GoodIn wsX2_hold wsX1_lesser := goodIn_r _ [14, 8, 9, 6, 10, 11] (by decide +kernel) (by decide +kernel)
set_option maxRecDepth 20000 in
theorem gX2_hold_X1_lesser : GoodIn wsX2_hold (va_wsS RX2 224 yX1_lesser wsX1_lesser) := goodIn_app (goodIn_of _ (by decide +kernel)) ggX2_hold_X1_lesser
set_option maxRecDepth 20000 in
theorem ggX2_hold_X2_changeLength : GoodIn wsX2_hold wsX2_changeLength := goodIn_r _ [19, 1, 20, 21, 22, 23, 24, 25, 26, 27, 28, 29, 30, 31, 32, 33, 34, 35] (by decide +kernel) (by decide +kernel)
set_option maxRecDepth 20000 in
theorem gX2_hold_X2_changeLength : GoodIn wsX2_hold (wsV RX2 192 RX2 yX2_changeLength wsX2_changeLength) := goodIn_app (goodIn_of _ (by decide +kernel)) ggX2_hold_X2_changeLength
theorem dX2_hold_0 : decode cX2_hold 0 = .ok (.aload_n 0, 1) := by decide +kernel
theorem dX2_hold_1 : decode cX2_hold 1 = .ok (.iload_n 1, 1) := by decide +kernel
theorem dX2_hold_2 : decode cX2_hold 2 = .ok (.aload_n 0, 1) := by decide +kernel
theorem dX2_hold_3 : decode cX2_hold 3 = .ok (.getfield 9, 3) := by decide +kernel
theorem dX2_hold_6 : decode cX2_hold 6 = .ok (.iload_n 1, 1) := by decide +kernel
theorem dX2_hold_7 : decode cX2_hold 7 = .ok (.laload, 1) := by decide +kernel
theorem dX2_hold_8 : decode cX2_hold 8 = .ok (.aload_n 0, 1) := by decide +kernel
theorem dX2_hold_9 : decode cX2_hold 9 = .ok (.getfield 23, 3) := by decide +kernel
theorem dX2_hold_12 : decode cX2_hold 12 = .ok (.iload_n 1, 1) := by decide +kernel
theorem dX2_hold_13 : decode cX2_hold 13 = .ok (.laload, 1) := by decide +kernel
theorem dX2_hold_14 : decode cX2_hold 14 = .ok (.invokestatic 212, 3) := by decide +kernel
theorem dX2_hold_17 : decode cX2_hold 17 = .ok (.aload_n 0, 1) := by decide +kernel
theorem dX2_hold_18 : decode cX2_hold 18 = .ok (.getfield 26, 3) := by decide +kernel
theorem dX2_hold_21 : decode cX2_hold 21 = .ok (.iload_n 1, 1) := by decide +kernel
theorem dX2_hold_22 : decode cX2_hold 22 = .ok (.laload, 1) := by decide +kernel
theorem dX2_hold_23 : decode cX2_hold 23 = .ok (.invokestatic 224, 3) := by decide +kernel
theorem dX2_hold_26 : decode cX2_hold 26 = .ok (.invokevirtual 192, 3) := by decide +kernel
theorem dX2_hold_29 : decode cX2_hold 29 = .ok (.return_, 1) := by decide +kernel
set_option maxRecDepth 20000 in
theorem ggX2_placeStops_X1_lesser : GoodIn wsX2_placeStops wsX1_lesser := goodIn_r _ [7, 8, 9, 6, 10, 11] (by decide +kernel) (by decide +kernel)
set_option maxRecDepth 20000 in
theorem gX2_placeStops_X1_lesser : GoodIn wsX2_placeStops (va_wsS RX2 224 yX1_lesser wsX1_lesser) := goodIn_app (goodIn_of _ (by decide +kernel)) ggX2_placeStops_X1_lesser
set_option maxRecDepth 20000 in
theorem ggX2_placeStops_X1_greater : GoodIn wsX2_placeStops wsX1_greater := goodIn_r _ [14, 8, 9, 6, 10, 11] (by decide +kernel) (by decide +kernel)
set_option maxRecDepth 20000 in
theorem gX2_placeStops_X1_greater : GoodIn wsX2_placeStops (va_wsS RX2 212 yX1_greater wsX1_greater) := goodIn_app (goodIn_of _ (by decide +kernel)) ggX2_placeStops_X1_greater
theorem dX2_placeStops_0 : decode cX2_placeStops 0 = .ok (.aload_n 0, 1) := by decide +kernel
theorem dX2_placeStops_1 : decode cX2_placeStops 1 = .ok (.getfield 23, 3) := by decide +kernel
theorem dX2_placeStops_4 : decode cX2_placeStops 4 = .ok (.iload_n 1, 1) := by decide +kernel
theorem dX2_placeStops_5 : decode cX2_placeStops 5 = .ok (.aload_n 0, 1) := by decide +kernel
theorem dX2_placeStops_6 : decode cX2_placeStops 6 = .ok (.getfield 9, 3) := by decide +kernel
theorem dX2_placeStops_9 : decode cX2_placeStops 9 = .ok (.iload_n 1, 1) := by decide +kernel
theorem dX2_placeStops_10 : decode cX2_placeStops 10 = .ok (.laload, 1) := by decide +kernel
theorem dX2_placeStops_11 : decode cX2_placeStops 11 = .ok (.aload_n 0, 1) := by decide +kernel
theorem dX2_placeStops_12 : decode cX2_placeStops 12 = .ok (.getfield 9, 3) := by decide +kernel
theorem dX2_placeStops_15 : decode cX2_placeStops 15 = .ok (.iload_n 2, 1) := by decide +kernel
theorem dX2_placeStops_16 : decode cX2_placeStops 16 = .ok (.laload, 1) := by decide +kernel
theorem dX2_placeStops_17 : decode cX2_placeStops 17 = .ok (.invokestatic 224, 3) := by decide +kernel
theorem dX2_placeStops_20 : decode cX2_placeStops 20 = .ok (.lastore, 1) := by decide +kernel
theorem dX2_placeStops_21 : decode cX2_placeStops 21 = .ok (.aload_n 0, 1) := by decide +kernel
theorem dX2_placeStops_22 : decode cX2_placeStops 22 = .ok (.getfield 26, 3) := by decide +kernel
theorem dX2_placeStops_25 : decode cX2_placeStops 25 = .ok (.iload_n 1, 1) := by decide +kernel
theorem dX2_placeStops_26 : decode cX2_placeStops 26 = .ok (.aload_n 0, 1) := by decide +kernel
theorem dX2_placeStops_27 : decode cX2_placeStops 27 = .ok (.getfield 9, 3) := by decide +kernel
theorem dX2_placeStops_30 : decode cX2_placeStops 30 = .ok (.iload_n 1, 1) := by decide +kernel
theorem dX2_placeStops_31 : decode cX2_placeStops 31 = .ok (.laload, 1) := by decide +kernel
theorem dX2_placeStops_32 : decode cX2_placeStops 32 = .ok (.aload_n 0, 1) := by decide +kernel
theorem dX2_placeStops_33 : decode cX2_placeStops 33 = .ok (.getfield 9, 3) := by decide +kernel
theorem dX2_placeStops_36 : decode cX2_placeStops 36 = .ok (.iload_n 2, 1) := by decide +kernel
theorem dX2_placeStops_37 : decode cX2_placeStops 37 = .ok (.laload, 1) := by decide +kernel
theorem dX2_placeStops_38 : decode cX2_placeStops 38 = .ok (.invokestatic 212, 3) := by decide +kernel
theorem dX2_placeStops_41 : decode cX2_placeStops 41 = .ok (.lastore, 1) := by decide +kernel
theorem dX2_placeStops_42 : decode cX2_placeStops 42 = .ok (.return_, 1) := by decide +kernel
set_option maxRecDepth 20000 in
theorem ggX2_gather_X1_amount : GoodIn wsX2_gather wsX1_amount := goodIn_r _ [25, 26] (by decide +kernel) (by decide +kernel)
set_option maxRecDepth 20000 in
theorem gX2_gather_X1_amount : GoodIn wsX2_gather (va_wsS RX2 127 yX1_amount wsX1_amount) := goodIn_app (goodIn_of _ (by decide +kernel)) ggX2_gather_X1_amount
set_option maxRecDepth 20000 in
theorem ggX2_gather_X1_greater : GoodIn wsX2_gather wsX1_greater := goodIn_r _ [29, 30, 31, 24, 32, 26] (by decide +kernel) (by decide +kernel)
set_option maxRecDepth 20000 in
theorem gX2_gather_X1_greater : GoodIn wsX2_gather (va_wsS RX2 212 yX1_greater wsX1_greater) := goodIn_app (goodIn_of _ (by decide +kernel)) ggX2_gather_X1_greater
set_option maxRecDepth 20000 in
theorem ggX2_gather_X1_shortAmount : GoodIn wsX2_gather wsX1_shortAmount := goodIn_r _ [35, 36] (by decide +kernel) (by decide +kernel)
set_option maxRecDepth 20000 in
theorem gX2_gather_X1_shortAmount : GoodIn wsX2_gather (va_wsS RX2 135 yX1_shortAmount wsX1_shortAmount) := goodIn_app (goodIn_of _ (by decide +kernel)) ggX2_gather_X1_shortAmount
set_option maxRecDepth 20000 in
theorem ggX2_gather_X1_shortLesser : GoodIn wsX2_gather wsX1_shortLesser := goodIn_r _ [39, 40, 41, 24, 42, 36] (by decide +kernel) (by decide +kernel)
set_option maxRecDepth 20000 in
theorem gX2_gather_X1_shortLesser : GoodIn wsX2_gather (va_wsS RX2 227 yX1_shortLesser wsX1_shortLesser) := goodIn_app (goodIn_of _ (by decide +kernel)) ggX2_gather_X1_shortLesser
theorem dX2_gather_0 : decode cX2_gather 0 = .ok (.aload_n 0, 1) := by decide +kernel
theorem dX2_gather_1 : decode cX2_gather 1 = .ok (.aload_n 0, 1) := by decide +kernel
theorem dX2_gather_2 : decode cX2_gather 2 = .ok (.getfield 33, 3) := by decide +kernel
theorem dX2_gather_5 : decode cX2_gather 5 = .ok (.aload_n 0, 1) := by decide +kernel
theorem dX2_gather_6 : decode cX2_gather 6 = .ok (.getfield 9, 3) := by decide +kernel
theorem dX2_gather_9 : decode cX2_gather 9 = .ok (.iload_n 1, 1) := by decide +kernel
theorem dX2_gather_10 : decode cX2_gather 10 = .ok (.laload, 1) := by decide +kernel
theorem dX2_gather_11 : decode cX2_gather 11 = .ok (.invokestatic 127, 3) := by decide +kernel
theorem dX2_gather_14 : decode cX2_gather 14 = .ok (.invokestatic 212, 3) := by decide +kernel
theorem dX2_gather_17 : decode cX2_gather 17 = .ok (.putfield 33, 3) := by decide +kernel
theorem dX2_gather_20 : decode cX2_gather 20 = .ok (.aload_n 0, 1) := by decide +kernel
theorem dX2_gather_21 : decode cX2_gather 21 = .ok (.aload_n 0, 1) := by decide +kernel
theorem dX2_gather_22 : decode cX2_gather 22 = .ok (.getfield 37, 3) := by decide +kernel
theorem dX2_gather_25 : decode cX2_gather 25 = .ok (.aload_n 0, 1) := by decide +kernel
theorem dX2_gather_26 : decode cX2_gather 26 = .ok (.getfield 13, 3) := by decide +kernel
theorem dX2_gather_29 : decode cX2_gather 29 = .ok (.iload_n 1, 1) := by decide +kernel
theorem dX2_gather_30 : decode cX2_gather 30 = .ok (.iaload, 1) := by decide +kernel
theorem dX2_gather_31 : decode cX2_gather 31 = .ok (.invokestatic 135, 3) := by decide +kernel
theorem dX2_gather_34 : decode cX2_gather 34 = .ok (.invokestatic 227, 3) := by decide +kernel
theorem dX2_gather_37 : decode cX2_gather 37 = .ok (.putfield 37, 3) := by decide +kernel
theorem dX2_gather_40 : decode cX2_gather 40 = .ok (.aload_n 0, 1) := by decide +kernel
theorem dX2_gather_41 : decode cX2_gather 41 = .ok (.aload_n 0, 1) := by decide +kernel
theorem dX2_gather_42 : decode cX2_gather 42 = .ok (.getfield 41, 3) := by decide +kernel
theorem dX2_gather_45 : decode cX2_gather 45 = .ok (.aload_n 0, 1) := by decide +kernel
theorem dX2_gather_46 : decode cX2_gather 46 = .ok (.getfield 17, 3) := by decide +kernel
theorem dX2_gather_49 : decode cX2_gather 49 = .ok (.iload_n 1, 1) := by decide +kernel
theorem dX2_gather_50 : decode cX2_gather 50 = .ok (.iaload, 1) := by decide +kernel
theorem dX2_gather_51 : decode cX2_gather 51 = .ok (.invokestatic 199, 3) := by decide +kernel
theorem dX2_gather_54 : decode cX2_gather 54 = .ok (.invokestatic 219, 3) := by decide +kernel
theorem dX2_gather_57 : decode cX2_gather 57 = .ok (.putfield 41, 3) := by decide +kernel
theorem dX2_gather_60 : decode cX2_gather 60 = .ok (.aload_n 0, 1) := by decide +kernel
theorem dX2_gather_61 : decode cX2_gather 61 = .ok (.aload_n 0, 1) := by decide +kernel
theorem dX2_gather_62 : decode cX2_gather 62 = .ok (.getfield 44, 3) := by decide +kernel
theorem dX2_gather_65 : decode cX2_gather 65 = .ok (.aload_n 0, 1) := by decide +kernel
theorem dX2_gather_66 : decode cX2_gather 66 = .ok (.getfield 20, 3) := by decide +kernel
theorem dX2_gather_69 : decode cX2_gather 69 = .ok (.iload_n 1, 1) := by decide +kernel
theorem dX2_gather_70 : decode cX2_gather 70 = .ok (.laload, 1) := by decide +kernel
theorem dX2_gather_71 : decode cX2_gather 71 = .ok (.invokestatic 207, 3) := by decide +kernel
theorem dX2_gather_74 : decode cX2_gather 74 = .ok (.invokestatic 233, 3) := by decide +kernel
theorem dX2_gather_77 : decode cX2_gather 77 = .ok (.putfield 44, 3) := by decide +kernel
theorem dX2_gather_80 : decode cX2_gather 80 = .ok (.return_, 1) := by decide +kernel
set_option maxRecDepth 20000 in
theorem ggX2_trade_X2_changeLength : GoodIn wsX2_trade wsX2_changeLength := goodIn_r _ [11, 1, 12, 25, 26, 27, 28, 29, 30, 31, 32, 33, 34, 35, 36, 37, 38, 39] (by decide +kernel) (by decide +kernel)
set_option maxRecDepth 20000 in
theorem gX2_trade_X2_changeLength : GoodIn wsX2_trade (wsV RX2 192 RX2 yX2_changeLength wsX2_changeLength) := goodIn_app (goodIn_of _ (by decide +kernel)) ggX2_trade_X2_changeLength
set_option maxRecDepth 20000 in
theorem ggX2_trade_X2_changePull : GoodIn wsX2_trade wsX2_changePull := goodIn_r _ [16, 2, 12, 25, 26, 27, 28, 29, 30, 31, 32, 33, 34, 35, 36, 37, 38, 39] (by decide +kernel) (by decide +kernel)
set_option maxRecDepth 20000 in
theorem gX2_trade_X2_changePull : GoodIn wsX2_trade (wsV RX2 196 RX2 yX2_changePull wsX2_changePull) := goodIn_app (goodIn_of _ (by decide +kernel)) ggX2_trade_X2_changePull
set_option maxRecDepth 20000 in
theorem ggX2_trade_X2_changeKnots : GoodIn wsX2_trade wsX2_changeKnots := goodIn_r _ [20, 3, 12, 25, 26, 27, 28, 29, 30, 31, 32, 33, 34, 35, 36, 37, 38, 39] (by decide +kernel) (by decide +kernel)
set_option maxRecDepth 20000 in
theorem gX2_trade_X2_changeKnots : GoodIn wsX2_trade (wsV RX2 204 RX2 yX2_changeKnots wsX2_changeKnots) := goodIn_app (goodIn_of _ (by decide +kernel)) ggX2_trade_X2_changeKnots
set_option maxRecDepth 20000 in
theorem ggX2_trade_X2_changeTwist : GoodIn wsX2_trade wsX2_changeTwist := goodIn_r _ [24, 4, 12, 25, 26, 27, 28, 29, 30, 31, 32, 33, 34, 35, 36, 37, 38, 39] (by decide +kernel) (by decide +kernel)
set_option maxRecDepth 20000 in
theorem gX2_trade_X2_changeTwist : GoodIn wsX2_trade (wsV RX2 209 RX2 yX2_changeTwist wsX2_changeTwist) := goodIn_app (goodIn_of _ (by decide +kernel)) ggX2_trade_X2_changeTwist
theorem dX2_trade_0 : decode cX2_trade 0 = .ok (.aload_n 0, 1) := by decide +kernel
theorem dX2_trade_1 : decode cX2_trade 1 = .ok (.getfield 9, 3) := by decide +kernel
theorem dX2_trade_4 : decode cX2_trade 4 = .ok (.iload_n 1, 1) := by decide +kernel
theorem dX2_trade_5 : decode cX2_trade 5 = .ok (.laload, 1) := by decide +kernel
theorem dX2_trade_6 : decode cX2_trade 6 = .ok (.lstore_n 3, 1) := by decide +kernel
theorem dX2_trade_7 : decode cX2_trade 7 = .ok (.aload_n 0, 1) := by decide +kernel
theorem dX2_trade_8 : decode cX2_trade 8 = .ok (.getfield 13, 3) := by decide +kernel
theorem dX2_trade_11 : decode cX2_trade 11 = .ok (.iload_n 1, 1) := by decide +kernel
theorem dX2_trade_12 : decode cX2_trade 12 = .ok (.iaload, 1) := by decide +kernel
theorem dX2_trade_13 : decode cX2_trade 13 = .ok (.istore 5, 2) := by decide +kernel
theorem dX2_trade_15 : decode cX2_trade 15 = .ok (.aload_n 0, 1) := by decide +kernel
theorem dX2_trade_16 : decode cX2_trade 16 = .ok (.getfield 17, 3) := by decide +kernel
theorem dX2_trade_19 : decode cX2_trade 19 = .ok (.iload_n 1, 1) := by decide +kernel
theorem dX2_trade_20 : decode cX2_trade 20 = .ok (.iaload, 1) := by decide +kernel
theorem dX2_trade_21 : decode cX2_trade 21 = .ok (.istore 6, 2) := by decide +kernel
theorem dX2_trade_23 : decode cX2_trade 23 = .ok (.aload_n 0, 1) := by decide +kernel
theorem dX2_trade_24 : decode cX2_trade 24 = .ok (.getfield 20, 3) := by decide +kernel
theorem dX2_trade_27 : decode cX2_trade 27 = .ok (.iload_n 1, 1) := by decide +kernel
theorem dX2_trade_28 : decode cX2_trade 28 = .ok (.laload, 1) := by decide +kernel
theorem dX2_trade_29 : decode cX2_trade 29 = .ok (.lstore 7, 2) := by decide +kernel
theorem dX2_trade_31 : decode cX2_trade 31 = .ok (.aload_n 0, 1) := by decide +kernel
theorem dX2_trade_32 : decode cX2_trade 32 = .ok (.getfield 23, 3) := by decide +kernel
theorem dX2_trade_35 : decode cX2_trade 35 = .ok (.iload_n 1, 1) := by decide +kernel
theorem dX2_trade_36 : decode cX2_trade 36 = .ok (.laload, 1) := by decide +kernel
theorem dX2_trade_37 : decode cX2_trade 37 = .ok (.lstore 9, 2) := by decide +kernel
theorem dX2_trade_39 : decode cX2_trade 39 = .ok (.aload_n 0, 1) := by decide +kernel
theorem dX2_trade_40 : decode cX2_trade 40 = .ok (.getfield 26, 3) := by decide +kernel
theorem dX2_trade_43 : decode cX2_trade 43 = .ok (.iload_n 1, 1) := by decide +kernel
theorem dX2_trade_44 : decode cX2_trade 44 = .ok (.laload, 1) := by decide +kernel
theorem dX2_trade_45 : decode cX2_trade 45 = .ok (.lstore 11, 2) := by decide +kernel
theorem dX2_trade_47 : decode cX2_trade 47 = .ok (.aload_n 0, 1) := by decide +kernel
theorem dX2_trade_48 : decode cX2_trade 48 = .ok (.iload_n 1, 1) := by decide +kernel
theorem dX2_trade_49 : decode cX2_trade 49 = .ok (.aload_n 0, 1) := by decide +kernel
theorem dX2_trade_50 : decode cX2_trade 50 = .ok (.getfield 9, 3) := by decide +kernel
theorem dX2_trade_53 : decode cX2_trade 53 = .ok (.iload_n 2, 1) := by decide +kernel
theorem dX2_trade_54 : decode cX2_trade 54 = .ok (.laload, 1) := by decide +kernel
theorem dX2_trade_55 : decode cX2_trade 55 = .ok (.invokevirtual 192, 3) := by decide +kernel
theorem dX2_trade_58 : decode cX2_trade 58 = .ok (.aload_n 0, 1) := by decide +kernel
theorem dX2_trade_59 : decode cX2_trade 59 = .ok (.iload_n 1, 1) := by decide +kernel
theorem dX2_trade_60 : decode cX2_trade 60 = .ok (.aload_n 0, 1) := by decide +kernel
theorem dX2_trade_61 : decode cX2_trade 61 = .ok (.getfield 13, 3) := by decide +kernel
theorem dX2_trade_64 : decode cX2_trade 64 = .ok (.iload_n 2, 1) := by decide +kernel
theorem dX2_trade_65 : decode cX2_trade 65 = .ok (.iaload, 1) := by decide +kernel
theorem dX2_trade_66 : decode cX2_trade 66 = .ok (.invokevirtual 196, 3) := by decide +kernel
theorem dX2_trade_69 : decode cX2_trade 69 = .ok (.aload_n 0, 1) := by decide +kernel
theorem dX2_trade_70 : decode cX2_trade 70 = .ok (.iload_n 1, 1) := by decide +kernel
theorem dX2_trade_71 : decode cX2_trade 71 = .ok (.aload_n 0, 1) := by decide +kernel
theorem dX2_trade_72 : decode cX2_trade 72 = .ok (.getfield 17, 3) := by decide +kernel
theorem dX2_trade_75 : decode cX2_trade 75 = .ok (.iload_n 2, 1) := by decide +kernel
theorem dX2_trade_76 : decode cX2_trade 76 = .ok (.iaload, 1) := by decide +kernel
theorem dX2_trade_77 : decode cX2_trade 77 = .ok (.invokevirtual 204, 3) := by decide +kernel
theorem dX2_trade_80 : decode cX2_trade 80 = .ok (.aload_n 0, 1) := by decide +kernel
theorem dX2_trade_81 : decode cX2_trade 81 = .ok (.iload_n 1, 1) := by decide +kernel
theorem dX2_trade_82 : decode cX2_trade 82 = .ok (.aload_n 0, 1) := by decide +kernel
theorem dX2_trade_83 : decode cX2_trade 83 = .ok (.getfield 20, 3) := by decide +kernel
theorem dX2_trade_86 : decode cX2_trade 86 = .ok (.iload_n 2, 1) := by decide +kernel
theorem dX2_trade_87 : decode cX2_trade 87 = .ok (.laload, 1) := by decide +kernel
theorem dX2_trade_88 : decode cX2_trade 88 = .ok (.invokevirtual 209, 3) := by decide +kernel
theorem dX2_trade_91 : decode cX2_trade 91 = .ok (.aload_n 0, 1) := by decide +kernel
theorem dX2_trade_92 : decode cX2_trade 92 = .ok (.getfield 23, 3) := by decide +kernel
theorem dX2_trade_95 : decode cX2_trade 95 = .ok (.iload_n 1, 1) := by decide +kernel
theorem dX2_trade_96 : decode cX2_trade 96 = .ok (.aload_n 0, 1) := by decide +kernel
theorem dX2_trade_97 : decode cX2_trade 97 = .ok (.getfield 23, 3) := by decide +kernel
theorem dX2_trade_100 : decode cX2_trade 100 = .ok (.iload_n 2, 1) := by decide +kernel
theorem dX2_trade_101 : decode cX2_trade 101 = .ok (.laload, 1) := by decide +kernel
theorem dX2_trade_102 : decode cX2_trade 102 = .ok (.lastore, 1) := by decide +kernel
theorem dX2_trade_103 : decode cX2_trade 103 = .ok (.aload_n 0, 1) := by decide +kernel
theorem dX2_trade_104 : decode cX2_trade 104 = .ok (.getfield 26, 3) := by decide +kernel
theorem dX2_trade_107 : decode cX2_trade 107 = .ok (.iload_n 1, 1) := by decide +kernel
theorem dX2_trade_108 : decode cX2_trade 108 = .ok (.aload_n 0, 1) := by decide +kernel
theorem dX2_trade_109 : decode cX2_trade 109 = .ok (.getfield 26, 3) := by decide +kernel
theorem dX2_trade_112 : decode cX2_trade 112 = .ok (.iload_n 2, 1) := by decide +kernel
theorem dX2_trade_113 : decode cX2_trade 113 = .ok (.laload, 1) := by decide +kernel
theorem dX2_trade_114 : decode cX2_trade 114 = .ok (.lastore, 1) := by decide +kernel
theorem dX2_trade_115 : decode cX2_trade 115 = .ok (.aload_n 0, 1) := by decide +kernel
theorem dX2_trade_116 : decode cX2_trade 116 = .ok (.iload_n 2, 1) := by decide +kernel
theorem dX2_trade_117 : decode cX2_trade 117 = .ok (.lload_n 3, 1) := by decide +kernel
theorem dX2_trade_118 : decode cX2_trade 118 = .ok (.invokevirtual 192, 3) := by decide +kernel
theorem dX2_trade_121 : decode cX2_trade 121 = .ok (.aload_n 0, 1) := by decide +kernel
theorem dX2_trade_122 : decode cX2_trade 122 = .ok (.iload_n 2, 1) := by decide +kernel
theorem dX2_trade_123 : decode cX2_trade 123 = .ok (.iload 5, 2) := by decide +kernel
theorem dX2_trade_125 : decode cX2_trade 125 = .ok (.invokevirtual 196, 3) := by decide +kernel
theorem dX2_trade_128 : decode cX2_trade 128 = .ok (.aload_n 0, 1) := by decide +kernel
theorem dX2_trade_129 : decode cX2_trade 129 = .ok (.iload_n 2, 1) := by decide +kernel
theorem dX2_trade_130 : decode cX2_trade 130 = .ok (.iload 6, 2) := by decide +kernel
theorem dX2_trade_132 : decode cX2_trade 132 = .ok (.invokevirtual 204, 3) := by decide +kernel
theorem dX2_trade_135 : decode cX2_trade 135 = .ok (.aload_n 0, 1) := by decide +kernel
theorem dX2_trade_136 : decode cX2_trade 136 = .ok (.iload_n 2, 1) := by decide +kernel
theorem dX2_trade_137 : decode cX2_trade 137 = .ok (.lload 7, 2) := by decide +kernel
theorem dX2_trade_139 : decode cX2_trade 139 = .ok (.invokevirtual 209, 3) := by decide +kernel
theorem dX2_trade_142 : decode cX2_trade 142 = .ok (.aload_n 0, 1) := by decide +kernel
theorem dX2_trade_143 : decode cX2_trade 143 = .ok (.getfield 23, 3) := by decide +kernel
theorem dX2_trade_146 : decode cX2_trade 146 = .ok (.iload_n 2, 1) := by decide +kernel
theorem dX2_trade_147 : decode cX2_trade 147 = .ok (.lload 9, 2) := by decide +kernel
theorem dX2_trade_149 : decode cX2_trade 149 = .ok (.lastore, 1) := by decide +kernel
theorem dX2_trade_150 : decode cX2_trade 150 = .ok (.aload_n 0, 1) := by decide +kernel
theorem dX2_trade_151 : decode cX2_trade 151 = .ok (.getfield 26, 3) := by decide +kernel
theorem dX2_trade_154 : decode cX2_trade 154 = .ok (.iload_n 2, 1) := by decide +kernel
theorem dX2_trade_155 : decode cX2_trade 155 = .ok (.lload 11, 2) := by decide +kernel
theorem dX2_trade_157 : decode cX2_trade 157 = .ok (.lastore, 1) := by decide +kernel
theorem dX2_trade_158 : decode cX2_trade 158 = .ok (.return_, 1) := by decide +kernel
set_option maxRecDepth 20000 in
theorem ggX2_climb_X1_amount : GoodIn wsX2_climb wsX1_amount := goodIn_r _ [8, 9] (by decide +kernel) (by decide +kernel)
set_option maxRecDepth 20000 in
theorem gX2_climb_X1_amount : GoodIn wsX2_climb (va_wsS RX2 127 yX1_amount wsX1_amount) := goodIn_app (goodIn_of _ (by decide +kernel)) ggX2_climb_X1_amount
set_option maxRecDepth 20000 in
theorem ggX2_climb_X2_changeKnots : GoodIn wsX2_climb wsX2_changeKnots := goodIn_r _ [14, 2, 15, 24, 25, 26, 27, 28, 29, 30, 31, 32, 33, 34, 35, 36, 37, 38] (by decide +kernel) (by decide +kernel)
set_option maxRecDepth 20000 in
theorem gX2_climb_X2_changeKnots : GoodIn wsX2_climb (wsV RX2 204 RX2 yX2_changeKnots wsX2_changeKnots) := goodIn_app (goodIn_of _ (by decide +kernel)) ggX2_climb_X2_changeKnots
set_option maxRecDepth 20000 in
theorem ggX2_climb_X1_shortAmount : GoodIn wsX2_climb wsX1_shortAmount := goodIn_r _ [18, 19] (by decide +kernel) (by decide +kernel)
set_option maxRecDepth 20000 in
theorem gX2_climb_X1_shortAmount : GoodIn wsX2_climb (va_wsS RX2 135 yX1_shortAmount wsX1_shortAmount) := goodIn_app (goodIn_of _ (by decide +kernel)) ggX2_climb_X1_shortAmount
set_option maxRecDepth 20000 in
theorem ggX2_climb_X2_changeTwist : GoodIn wsX2_climb wsX2_changeTwist := goodIn_r _ [23, 4, 15, 24, 25, 26, 27, 28, 29, 30, 31, 32, 33, 34, 35, 36, 37, 38] (by decide +kernel) (by decide +kernel)
set_option maxRecDepth 20000 in
theorem gX2_climb_X2_changeTwist : GoodIn wsX2_climb (wsV RX2 209 RX2 yX2_changeTwist wsX2_changeTwist) := goodIn_app (goodIn_of _ (by decide +kernel)) ggX2_climb_X2_changeTwist
theorem dX2_climb_0 : decode cX2_climb 0 = .ok (.aload_n 0, 1) := by decide +kernel
theorem dX2_climb_1 : decode cX2_climb 1 = .ok (.getfield 9, 3) := by decide +kernel
theorem dX2_climb_4 : decode cX2_climb 4 = .ok (.iload_n 1, 1) := by decide +kernel
theorem dX2_climb_5 : decode cX2_climb 5 = .ok (.laload, 1) := by decide +kernel
theorem dX2_climb_6 : decode cX2_climb 6 = .ok (.invokestatic 127, 3) := by decide +kernel
theorem dX2_climb_9 : decode cX2_climb 9 = .ok (.lconst 0, 1) := by decide +kernel
theorem dX2_climb_10 : decode cX2_climb 10 = .ok (.lcmp, 1) := by decide +kernel
theorem dX2_climb_11 : decode cX2_climb 11 = .ok (.ifCond .eq 38, 3) := by decide +kernel
theorem dX2_climb_14 : decode cX2_climb 14 = .ok (.aload_n 0, 1) := by decide +kernel
theorem dX2_climb_15 : decode cX2_climb 15 = .ok (.iload_n 1, 1) := by decide +kernel
theorem dX2_climb_16 : decode cX2_climb 16 = .ok (.aload_n 0, 1) := by decide +kernel
theorem dX2_climb_17 : decode cX2_climb 17 = .ok (.getfield 9, 3) := by decide +kernel
theorem dX2_climb_20 : decode cX2_climb 20 = .ok (.iload_n 1, 1) := by decide +kernel
theorem dX2_climb_21 : decode cX2_climb 21 = .ok (.laload, 1) := by decide +kernel
theorem dX2_climb_22 : decode cX2_climb 22 = .ok (.lconst 0, 1) := by decide +kernel
theorem dX2_climb_23 : decode cX2_climb 23 = .ok (.lcmp, 1) := by decide +kernel
theorem dX2_climb_24 : decode cX2_climb 24 = .ok (.ifCond .ge 14, 3) := by decide +kernel
theorem dX2_climb_27 : decode cX2_climb 27 = .ok (.aload_n 0, 1) := by decide +kernel
theorem dX2_climb_28 : decode cX2_climb 28 = .ok (.getfield 17, 3) := by decide +kernel
theorem dX2_climb_31 : decode cX2_climb 31 = .ok (.iload_n 1, 1) := by decide +kernel
theorem dX2_climb_32 : decode cX2_climb 32 = .ok (.iaload, 1) := by decide +kernel
theorem dX2_climb_33 : decode cX2_climb 33 = .ok (.iconst 1, 1) := by decide +kernel
theorem dX2_climb_34 : decode cX2_climb 34 = .ok (.isub, 1) := by decide +kernel
theorem dX2_climb_35 : decode cX2_climb 35 = .ok (.goto 11, 3) := by decide +kernel
theorem dX2_climb_38 : decode cX2_climb 38 = .ok (.aload_n 0, 1) := by decide +kernel
theorem dX2_climb_39 : decode cX2_climb 39 = .ok (.getfield 17, 3) := by decide +kernel
theorem dX2_climb_42 : decode cX2_climb 42 = .ok (.iload_n 1, 1) := by decide +kernel
theorem dX2_climb_43 : decode cX2_climb 43 = .ok (.iaload, 1) := by decide +kernel
theorem dX2_climb_44 : decode cX2_climb 44 = .ok (.iconst 1, 1) := by decide +kernel
theorem dX2_climb_45 : decode cX2_climb 45 = .ok (.iadd, 1) := by decide +kernel
theorem dX2_climb_46 : decode cX2_climb 46 = .ok (.invokevirtual 204, 3) := by decide +kernel
theorem dX2_climb_49 : decode cX2_climb 49 = .ok (.aload_n 0, 1) := by decide +kernel
theorem dX2_climb_50 : decode cX2_climb 50 = .ok (.getfield 13, 3) := by decide +kernel
theorem dX2_climb_53 : decode cX2_climb 53 = .ok (.iload_n 1, 1) := by decide +kernel
theorem dX2_climb_54 : decode cX2_climb 54 = .ok (.iaload, 1) := by decide +kernel
theorem dX2_climb_55 : decode cX2_climb 55 = .ok (.invokestatic 135, 3) := by decide +kernel
theorem dX2_climb_58 : decode cX2_climb 58 = .ok (.ifCond .eq 36, 3) := by decide +kernel
theorem dX2_climb_61 : decode cX2_climb 61 = .ok (.aload_n 0, 1) := by decide +kernel
theorem dX2_climb_62 : decode cX2_climb 62 = .ok (.iload_n 1, 1) := by decide +kernel
theorem dX2_climb_63 : decode cX2_climb 63 = .ok (.aload_n 0, 1) := by decide +kernel
theorem dX2_climb_64 : decode cX2_climb 64 = .ok (.getfield 13, 3) := by decide +kernel
theorem dX2_climb_67 : decode cX2_climb 67 = .ok (.iload_n 1, 1) := by decide +kernel
theorem dX2_climb_68 : decode cX2_climb 68 = .ok (.iaload, 1) := by decide +kernel
theorem dX2_climb_69 : decode cX2_climb 69 = .ok (.ifCond .ge 14, 3) := by decide +kernel
theorem dX2_climb_72 : decode cX2_climb 72 = .ok (.aload_n 0, 1) := by decide +kernel
theorem dX2_climb_73 : decode cX2_climb 73 = .ok (.getfield 20, 3) := by decide +kernel
theorem dX2_climb_76 : decode cX2_climb 76 = .ok (.iload_n 1, 1) := by decide +kernel
theorem dX2_climb_77 : decode cX2_climb 77 = .ok (.laload, 1) := by decide +kernel
theorem dX2_climb_78 : decode cX2_climb 78 = .ok (.lconst 1, 1) := by decide +kernel
theorem dX2_climb_79 : decode cX2_climb 79 = .ok (.lsub, 1) := by decide +kernel
theorem dX2_climb_80 : decode cX2_climb 80 = .ok (.goto 11, 3) := by decide +kernel
theorem dX2_climb_83 : decode cX2_climb 83 = .ok (.aload_n 0, 1) := by decide +kernel
theorem dX2_climb_84 : decode cX2_climb 84 = .ok (.getfield 20, 3) := by decide +kernel
theorem dX2_climb_87 : decode cX2_climb 87 = .ok (.iload_n 1, 1) := by decide +kernel
theorem dX2_climb_88 : decode cX2_climb 88 = .ok (.laload, 1) := by decide +kernel
theorem dX2_climb_89 : decode cX2_climb 89 = .ok (.lconst 1, 1) := by decide +kernel
theorem dX2_climb_90 : decode cX2_climb 90 = .ok (.ladd, 1) := by decide +kernel
theorem dX2_climb_91 : decode cX2_climb 91 = .ok (.invokevirtual 209, 3) := by decide +kernel
theorem dX2_climb_94 : decode cX2_climb 94 = .ok (.return_, 1) := by decide +kernel
set_option maxRecDepth 20000 in
theorem ggX2_halve_X1_amount : GoodIn wsX2_halve wsX1_amount := goodIn_r _ [8, 9] (by decide +kernel) (by decide +kernel)
set_option maxRecDepth 20000 in
theorem gX2_halve_X1_amount : GoodIn wsX2_halve (va_wsS RX2 127 yX1_amount wsX1_amount) := goodIn_app (goodIn_of _ (by decide +kernel)) ggX2_halve_X1_amount
set_option maxRecDepth 20000 in
theorem ggX2_halve_X1_half : GoodIn wsX2_halve wsX1_half := goodIn_r _ [12, 13] (by decide +kernel) (by decide +kernel)
set_option maxRecDepth 20000 in
theorem gX2_halve_X1_half : GoodIn wsX2_halve (va_wsS RX2 258 yX1_half wsX1_half) := goodIn_app (goodIn_of _ (by decide +kernel)) ggX2_halve_X1_half
set_option maxRecDepth 20000 in
theorem ggX2_halve_X1_shortAmount : GoodIn wsX2_halve wsX1_shortAmount := goodIn_r _ [16, 17] (by decide +kernel) (by decide +kernel)
set_option maxRecDepth 20000 in
theorem gX2_halve_X1_shortAmount : GoodIn wsX2_halve (va_wsS RX2 135 yX1_shortAmount wsX1_shortAmount) := goodIn_app (goodIn_of _ (by decide +kernel)) ggX2_halve_X1_shortAmount
set_option maxRecDepth 20000 in
theorem ggX2_halve_X2_changeAmounts : GoodIn wsX2_halve wsX2_changeAmounts := goodIn_r _ [22, 1, 3, 23, 24, 7, 25, 26, 27, 28, 29, 21, 30, 31, 32, 33, 34, 35, 36, 37, 38, 39, 40, 41, 42, 43, 44, 45, 46, 47, 48, 49, 50, 51, 52, 53, 54] (by decide +kernel) (by decide +kernel)
set_option maxRecDepth 20000 in
theorem gX2_halve_X2_changeAmounts : GoodIn wsX2_halve (wsV RX2 242 RX2 yX2_changeAmounts wsX2_changeAmounts) := goodIn_app (goodIn_of _ (by decide +kernel)) ggX2_halve_X2_changeAmounts
theorem dX2_halve_0 : decode cX2_halve 0 = .ok (.aload_n 0, 1) := by decide +kernel
theorem dX2_halve_1 : decode cX2_halve 1 = .ok (.iload_n 1, 1) := by decide +kernel
theorem dX2_halve_2 : decode cX2_halve 2 = .ok (.aload_n 0, 1) := by decide +kernel
theorem dX2_halve_3 : decode cX2_halve 3 = .ok (.getfield 9, 3) := by decide +kernel
theorem dX2_halve_6 : decode cX2_halve 6 = .ok (.iload_n 1, 1) := by decide +kernel
theorem dX2_halve_7 : decode cX2_halve 7 = .ok (.laload, 1) := by decide +kernel
theorem dX2_halve_8 : decode cX2_halve 8 = .ok (.invokestatic 127, 3) := by decide +kernel
theorem dX2_halve_11 : decode cX2_halve 11 = .ok (.bipush 52, 2) := by decide +kernel
theorem dX2_halve_13 : decode cX2_halve 13 = .ok (.ldc2_w 133, 3) := by decide +kernel
theorem dX2_halve_16 : decode cX2_halve 16 = .ok (.invokestatic 258, 3) := by decide +kernel
theorem dX2_halve_19 : decode cX2_halve 19 = .ok (.aload_n 0, 1) := by decide +kernel
theorem dX2_halve_20 : decode cX2_halve 20 = .ok (.getfield 13, 3) := by decide +kernel
theorem dX2_halve_23 : decode cX2_halve 23 = .ok (.iload_n 1, 1) := by decide +kernel
theorem dX2_halve_24 : decode cX2_halve 24 = .ok (.iaload, 1) := by decide +kernel
theorem dX2_halve_25 : decode cX2_halve 25 = .ok (.invokestatic 135, 3) := by decide +kernel
theorem dX2_halve_28 : decode cX2_halve 28 = .ok (.i2l, 1) := by decide +kernel
theorem dX2_halve_29 : decode cX2_halve 29 = .ok (.bipush 23, 2) := by decide +kernel
theorem dX2_halve_31 : decode cX2_halve 31 = .ok (.ldc2_w 262, 3) := by decide +kernel
theorem dX2_halve_34 : decode cX2_halve 34 = .ok (.invokestatic 258, 3) := by decide +kernel
theorem dX2_halve_37 : decode cX2_halve 37 = .ok (.invokevirtual 242, 3) := by decide +kernel
theorem dX2_halve_40 : decode cX2_halve 40 = .ok (.return_, 1) := by decide +kernel
set_option maxRecDepth 20000 in
theorem ggX2_makeTwice_X1_amount : GoodIn wsX2_makeTwice wsX1_amount := goodIn_r _ [8, 9] (by decide +kernel) (by decide +kernel)
set_option maxRecDepth 20000 in
theorem gX2_makeTwice_X1_amount : GoodIn wsX2_makeTwice (va_wsS RX2 127 yX1_amount wsX1_amount) := goodIn_app (goodIn_of _ (by decide +kernel)) ggX2_makeTwice_X1_amount
set_option maxRecDepth 20000 in
theorem ggX2_makeTwice_X1_twice : GoodIn wsX2_makeTwice wsX1_twice := goodIn_r _ [12] (by decide +kernel) (by decide +kernel)
set_option maxRecDepth 20000 in
theorem gX2_makeTwice_X1_twice : GoodIn wsX2_makeTwice (va_wsS RX2 264 yX1_twice wsX1_twice) := goodIn_app (goodIn_of _ (by decide +kernel)) ggX2_makeTwice_X1_twice
set_option maxRecDepth 20000 in
theorem ggX2_makeTwice_X1_shortAmount : GoodIn wsX2_makeTwice wsX1_shortAmount := goodIn_r _ [15, 16] (by decide +kernel) (by decide +kernel)
set_option maxRecDepth 20000 in
theorem gX2_makeTwice_X1_shortAmount : GoodIn wsX2_makeTwice (va_wsS RX2 135 yX1_shortAmount wsX1_shortAmount) := goodIn_app (goodIn_of _ (by decide +kernel)) ggX2_makeTwice_X1_shortAmount
set_option maxRecDepth 20000 in
theorem ggX2_makeTwice_X2_changeAmounts : GoodIn wsX2_makeTwice wsX2_changeAmounts := goodIn_r _ [21, 1, 3, 22, 23, 7, 24, 25, 26, 27, 28, 20, 29, 30, 31, 32, 33, 34, 35, 36, 37, 38, 39, 40, 41, 42, 43, 44, 45, 46, 47, 48, 49, 50, 51, 52, 53] (by decide +kernel) (by decide +kernel)
set_option maxRecDepth 20000 in
theorem gX2_makeTwice_X2_changeAmounts : GoodIn wsX2_makeTwice (wsV RX2 242 RX2 yX2_changeAmounts wsX2_changeAmounts) := goodIn_app (goodIn_of _ (by decide +kernel)) ggX2_makeTwice_X2_changeAmounts
theorem dX2_makeTwice_0 : decode cX2_makeTwice 0 = .ok (.aload_n 0, 1) := by decide +kernel
theorem dX2_makeTwice_1 : decode cX2_makeTwice 1 = .ok (.iload_n 1, 1) := by decide +kernel
theorem dX2_makeTwice_2 : decode cX2_makeTwice 2 = .ok (.aload_n 0, 1) := by decide +kernel
theorem dX2_makeTwice_3 : decode cX2_makeTwice 3 = .ok (.getfield 9, 3) := by decide +kernel
theorem dX2_makeTwice_6 : decode cX2_makeTwice 6 = .ok (.iload_n 1, 1) := by decide +kernel
theorem dX2_makeTwice_7 : decode cX2_makeTwice 7 = .ok (.laload, 1) := by decide +kernel
theorem dX2_makeTwice_8 : decode cX2_makeTwice 8 = .ok (.invokestatic 127, 3) := by decide +kernel
theorem dX2_makeTwice_11 : decode cX2_makeTwice 11 = .ok (.bipush 52, 2) := by decide +kernel
theorem dX2_makeTwice_13 : decode cX2_makeTwice 13 = .ok (.ldc2_w 133, 3) := by decide +kernel
theorem dX2_makeTwice_16 : decode cX2_makeTwice 16 = .ok (.invokestatic 264, 3) := by decide +kernel
theorem dX2_makeTwice_19 : decode cX2_makeTwice 19 = .ok (.aload_n 0, 1) := by decide +kernel
theorem dX2_makeTwice_20 : decode cX2_makeTwice 20 = .ok (.getfield 13, 3) := by decide +kernel
theorem dX2_makeTwice_23 : decode cX2_makeTwice 23 = .ok (.iload_n 1, 1) := by decide +kernel
theorem dX2_makeTwice_24 : decode cX2_makeTwice 24 = .ok (.iaload, 1) := by decide +kernel
theorem dX2_makeTwice_25 : decode cX2_makeTwice 25 = .ok (.invokestatic 135, 3) := by decide +kernel
theorem dX2_makeTwice_28 : decode cX2_makeTwice 28 = .ok (.i2l, 1) := by decide +kernel
theorem dX2_makeTwice_29 : decode cX2_makeTwice 29 = .ok (.bipush 23, 2) := by decide +kernel
theorem dX2_makeTwice_31 : decode cX2_makeTwice 31 = .ok (.ldc2_w 262, 3) := by decide +kernel
theorem dX2_makeTwice_34 : decode cX2_makeTwice 34 = .ok (.invokestatic 264, 3) := by decide +kernel
theorem dX2_makeTwice_37 : decode cX2_makeTwice 37 = .ok (.invokevirtual 242, 3) := by decide +kernel
theorem dX2_makeTwice_40 : decode cX2_makeTwice 40 = .ok (.return_, 1) := by decide +kernel
set_option maxRecDepth 20000 in
theorem ggX2_give_X2_changeLength : GoodIn wsX2_give wsX2_changeLength := goodIn_r _ [9, 10, 11, 27, 28, 29, 30, 31, 32, 33, 34, 35, 36, 37, 38, 39, 40, 41] (by decide +kernel) (by decide +kernel)
set_option maxRecDepth 20000 in
theorem gX2_give_X2_changeLength : GoodIn wsX2_give (wsV RX2 192 RX2 yX2_changeLength wsX2_changeLength) := goodIn_app (goodIn_of _ (by decide +kernel)) ggX2_give_X2_changeLength
set_option maxRecDepth 20000 in
theorem ggX2_give_X2_changePull : GoodIn wsX2_give wsX2_changePull := goodIn_r _ [15, 16, 11, 27, 28, 29, 30, 31, 32, 33, 34, 35, 36, 37, 38, 39, 40, 41] (by decide +kernel) (by decide +kernel)
set_option maxRecDepth 20000 in
theorem gX2_give_X2_changePull : GoodIn wsX2_give (wsV RX2 196 RX2 yX2_changePull wsX2_changePull) := goodIn_app (goodIn_of _ (by decide +kernel)) ggX2_give_X2_changePull
set_option maxRecDepth 20000 in
theorem ggX2_give_X2_changeKnots : GoodIn wsX2_give wsX2_changeKnots := goodIn_r _ [20, 21, 11, 27, 28, 29, 30, 31, 32, 33, 34, 35, 36, 37, 38, 39, 40, 41] (by decide +kernel) (by decide +kernel)
set_option maxRecDepth 20000 in
theorem gX2_give_X2_changeKnots : GoodIn wsX2_give (wsV RX2 204 RX2 yX2_changeKnots wsX2_changeKnots) := goodIn_app (goodIn_of _ (by decide +kernel)) ggX2_give_X2_changeKnots
set_option maxRecDepth 20000 in
theorem ggX2_give_X2_changeTwist : GoodIn wsX2_give wsX2_changeTwist := goodIn_r _ [25, 26, 11, 27, 28, 29, 30, 31, 32, 33, 34, 35, 36, 37, 38, 39, 40, 41] (by decide +kernel) (by decide +kernel)
set_option maxRecDepth 20000 in
theorem gX2_give_X2_changeTwist : GoodIn wsX2_give (wsV RX2 209 RX2 yX2_changeTwist wsX2_changeTwist) := goodIn_app (goodIn_of _ (by decide +kernel)) ggX2_give_X2_changeTwist
theorem dX2_give_0 : decode cX2_give 0 = .ok (.aload_n 0, 1) := by decide +kernel
theorem dX2_give_1 : decode cX2_give 1 = .ok (.iload_n 1, 1) := by decide +kernel
theorem dX2_give_2 : decode cX2_give 2 = .ok (.aload_n 0, 1) := by decide +kernel
theorem dX2_give_3 : decode cX2_give 3 = .ok (.getfield 33, 3) := by decide +kernel
theorem dX2_give_6 : decode cX2_give 6 = .ok (.invokevirtual 192, 3) := by decide +kernel
theorem dX2_give_9 : decode cX2_give 9 = .ok (.aload_n 0, 1) := by decide +kernel
theorem dX2_give_10 : decode cX2_give 10 = .ok (.iload_n 1, 1) := by decide +kernel
theorem dX2_give_11 : decode cX2_give 11 = .ok (.aload_n 0, 1) := by decide +kernel
theorem dX2_give_12 : decode cX2_give 12 = .ok (.getfield 37, 3) := by decide +kernel
theorem dX2_give_15 : decode cX2_give 15 = .ok (.invokevirtual 196, 3) := by decide +kernel
theorem dX2_give_18 : decode cX2_give 18 = .ok (.aload_n 0, 1) := by decide +kernel
theorem dX2_give_19 : decode cX2_give 19 = .ok (.iload_n 1, 1) := by decide +kernel
theorem dX2_give_20 : decode cX2_give 20 = .ok (.aload_n 0, 1) := by decide +kernel
theorem dX2_give_21 : decode cX2_give 21 = .ok (.getfield 41, 3) := by decide +kernel
theorem dX2_give_24 : decode cX2_give 24 = .ok (.invokevirtual 204, 3) := by decide +kernel
theorem dX2_give_27 : decode cX2_give 27 = .ok (.aload_n 0, 1) := by decide +kernel
theorem dX2_give_28 : decode cX2_give 28 = .ok (.iload_n 1, 1) := by decide +kernel
theorem dX2_give_29 : decode cX2_give 29 = .ok (.aload_n 0, 1) := by decide +kernel
theorem dX2_give_30 : decode cX2_give 30 = .ok (.getfield 44, 3) := by decide +kernel
theorem dX2_give_33 : decode cX2_give 33 = .ok (.invokevirtual 209, 3) := by decide +kernel
theorem dX2_give_36 : decode cX2_give 36 = .ok (.return_, 1) := by decide +kernel
set_option maxRecDepth 20000 in
theorem ggX2_changeAmounts_X1_withSign : GoodIn wsX2_changeAmounts wsX1_withSign := goodIn_r _ [6, 7] (by decide +kernel) (by decide +kernel)
set_option maxRecDepth 20000 in
theorem gX2_changeAmounts_X1_withSign : GoodIn wsX2_changeAmounts (va_wsS RX2 251 yX1_withSign wsX1_withSign) := goodIn_app (goodIn_of _ (by decide +kernel)) ggX2_changeAmounts_X1_withSign
set_option maxRecDepth 20000 in
theorem ggX2_changeAmounts_X2_changeLength : GoodIn wsX2_changeAmounts wsX2_changeLength := goodIn_r _ [12, 1, 13, 22, 23, 24, 25, 26, 27, 28, 29, 30, 31, 32, 33, 34, 35, 36] (by decide +kernel) (by decide +kernel)
set_option maxRecDepth 20000 in
theorem gX2_changeAmounts_X2_changeLength : GoodIn wsX2_changeAmounts (wsV RX2 192 RX2 yX2_changeLength wsX2_changeLength) := goodIn_app (goodIn_of _ (by decide +kernel)) ggX2_changeAmounts_X2_changeLength
set_option maxRecDepth 20000 in
theorem ggX2_changeAmounts_X1_shortWithSign : GoodIn wsX2_changeAmounts wsX1_shortWithSign := goodIn_r _ [16, 17] (by decide +kernel) (by decide +kernel)
set_option maxRecDepth 20000 in
theorem gX2_changeAmounts_X1_shortWithSign : GoodIn wsX2_changeAmounts (va_wsS RX2 255 yX1_shortWithSign wsX1_shortWithSign) := goodIn_app (goodIn_of _ (by decide +kernel)) ggX2_changeAmounts_X1_shortWithSign
set_option maxRecDepth 20000 in
theorem ggX2_changeAmounts_X2_changePull : GoodIn wsX2_changeAmounts wsX2_changePull := goodIn_r _ [21, 2, 13, 22, 23, 24, 25, 26, 27, 28, 29, 30, 31, 32, 33, 34, 35, 36] (by decide +kernel) (by decide +kernel)
set_option maxRecDepth 20000 in
theorem gX2_changeAmounts_X2_changePull : GoodIn wsX2_changeAmounts (wsV RX2 196 RX2 yX2_changePull wsX2_changePull) := goodIn_app (goodIn_of _ (by decide +kernel)) ggX2_changeAmounts_X2_changePull
theorem dX2_changeAmounts_0 : decode cX2_changeAmounts 0 = .ok (.aload_n 0, 1) := by decide +kernel
theorem dX2_changeAmounts_1 : decode cX2_changeAmounts 1 = .ok (.iload_n 1, 1) := by decide +kernel
theorem dX2_changeAmounts_2 : decode cX2_changeAmounts 2 = .ok (.lload_n 2, 1) := by decide +kernel
theorem dX2_changeAmounts_3 : decode cX2_changeAmounts 3 = .ok (.aload_n 0, 1) := by decide +kernel
theorem dX2_changeAmounts_4 : decode cX2_changeAmounts 4 = .ok (.getfield 9, 3) := by decide +kernel
theorem dX2_changeAmounts_7 : decode cX2_changeAmounts 7 = .ok (.iload_n 1, 1) := by decide +kernel
theorem dX2_changeAmounts_8 : decode cX2_changeAmounts 8 = .ok (.laload, 1) := by decide +kernel
theorem dX2_changeAmounts_9 : decode cX2_changeAmounts 9 = .ok (.invokestatic 251, 3) := by decide +kernel
theorem dX2_changeAmounts_12 : decode cX2_changeAmounts 12 = .ok (.invokevirtual 192, 3) := by decide +kernel
theorem dX2_changeAmounts_15 : decode cX2_changeAmounts 15 = .ok (.aload_n 0, 1) := by decide +kernel
theorem dX2_changeAmounts_16 : decode cX2_changeAmounts 16 = .ok (.iload_n 1, 1) := by decide +kernel
theorem dX2_changeAmounts_17 : decode cX2_changeAmounts 17 = .ok (.lload 4, 2) := by decide +kernel
theorem dX2_changeAmounts_19 : decode cX2_changeAmounts 19 = .ok (.l2i, 1) := by decide +kernel
theorem dX2_changeAmounts_20 : decode cX2_changeAmounts 20 = .ok (.aload_n 0, 1) := by decide +kernel
theorem dX2_changeAmounts_21 : decode cX2_changeAmounts 21 = .ok (.getfield 13, 3) := by decide +kernel
theorem dX2_changeAmounts_24 : decode cX2_changeAmounts 24 = .ok (.iload_n 1, 1) := by decide +kernel
theorem dX2_changeAmounts_25 : decode cX2_changeAmounts 25 = .ok (.iaload, 1) := by decide +kernel
theorem dX2_changeAmounts_26 : decode cX2_changeAmounts 26 = .ok (.invokestatic 255, 3) := by decide +kernel
theorem dX2_changeAmounts_29 : decode cX2_changeAmounts 29 = .ok (.invokevirtual 196, 3) := by decide +kernel
theorem dX2_changeAmounts_32 : decode cX2_changeAmounts 32 = .ok (.return_, 1) := by decide +kernel
set_option maxRecDepth 20000 in
theorem ggX2_danceOnce_X2_refusalOfMove : GoodIn wsX2_danceOnce wsX2_refusalOfMove := goodIn_r _ [11, 12, 13, 14, 10, 15, 16, 17, 18, 19, 196, 197, 198, 199, 200, 201, 202, 203, 204, 205, 206, 207, 208, 209, 210] (by decide +kernel) (by decide +kernel)
set_option maxRecDepth 20000 in
theorem gX2_danceOnce_X2_refusalOfMove : GoodIn wsX2_danceOnce (wsV RX2 90 RX2 yX2_refusalOfMove wsX2_refusalOfMove) := goodIn_app (goodIn_of _ (by decide +kernel)) ggX2_danceOnce_X2_refusalOfMove
set_option maxRecDepth 20000 in
theorem ggX2_danceOnce_X2_perform : GoodIn wsX2_danceOnce wsX2_perform := goodIn_r _ [23, 24, 25, 26, 27, 28, 10, 29, 30, 31, 32, 33, 34, 35, 36, 37, 38, 39, 40, 41, 42, 43, 44, 45, 46, 47, 48, 49, 50, 51, 52, 53, 54, 55, 56, 57, 58, 59, 60, 61, 62, 63, 64, 65, 66, 67, 68, 69, 70, 71, 72, 73, 74, 75, 76, 77, 78, 79, 80, 81, 82, 83, 84, 85, 86, 87, 88, 89, 90, 91, 92, 93, 94, 95, 96, 97, 98, 99, 100, 101, 102, 103, 104, 105, 106, 107, 108, 109, 110, 111, 112, 113, 114, 115, 116, 117, 118, 119, 120, 121, 122, 123, 124, 125, 126, 127, 128, 129, 130, 131, 132, 133, 134, 135, 136, 137, 138, 139, 140, 141, 142, 143, 144, 145, 146, 147, 148, 149, 150, 151, 152, 153, 154, 155, 156, 157, 158, 159, 160, 161, 162, 163, 164, 165, 166, 167, 168, 169, 170, 171, 172, 173, 174, 175, 176, 177, 178, 179, 180, 181, 182, 183, 184, 185, 186, 187, 188, 189, 190, 191, 192, 193, 194, 195, 196, 197, 198, 199, 200, 201, 202, 203, 204, 205, 206, 207, 208, 209, 210] (by decide +kernel) (by decide +kernel)
set_option maxRecDepth 20000 in
theorem gX2_danceOnce_X2_perform : GoodIn wsX2_danceOnce (wsV RX2 97 RX2 yX2_perform wsX2_perform) := goodIn_app (goodIn_of _ (by decide +kernel)) ggX2_danceOnce_X2_perform
theorem dX2_danceOnce_0 : decode cX2_danceOnce 0 = .ok (.iconst 0, 1) := by decide +kernel
theorem dX2_danceOnce_1 : decode cX2_danceOnce 1 = .ok (.istore_n 1, 1) := by decide +kernel
theorem dX2_danceOnce_2 : decode cX2_danceOnce 2 = .ok (.iload_n 1, 1) := by decide +kernel
theorem dX2_danceOnce_3 : decode cX2_danceOnce 3 = .ok (.aload_n 0, 1) := by decide +kernel
theorem dX2_danceOnce_4 : decode cX2_danceOnce 4 = .ok (.getfield 50, 3) := by decide +kernel
theorem dX2_danceOnce_7 : decode cX2_danceOnce 7 = .ok (.getfield 101, 3) := by decide +kernel
theorem dX2_danceOnce_10 : decode cX2_danceOnce 10 = .ok (.if_icmp .ge 90, 3) := by decide +kernel
theorem dX2_danceOnce_13 : decode cX2_danceOnce 13 = .ok (.iload_n 1, 1) := by decide +kernel
theorem dX2_danceOnce_14 : decode cX2_danceOnce 14 = .ok (.bipush 40, 2) := by decide +kernel
theorem dX2_danceOnce_16 : decode cX2_danceOnce 16 = .ok (.if_icmp .ge 84, 3) := by decide +kernel
theorem dX2_danceOnce_19 : decode cX2_danceOnce 19 = .ok (.aload_n 0, 1) := by decide +kernel
theorem dX2_danceOnce_20 : decode cX2_danceOnce 20 = .ok (.aload_n 0, 1) := by decide +kernel
theorem dX2_danceOnce_21 : decode cX2_danceOnce 21 = .ok (.aload_n 0, 1) := by decide +kernel
theorem dX2_danceOnce_22 : decode cX2_danceOnce 22 = .ok (.getfield 50, 3) := by decide +kernel
theorem dX2_danceOnce_25 : decode cX2_danceOnce 25 = .ok (.getfield 104, 3) := by decide +kernel
theorem dX2_danceOnce_28 : decode cX2_danceOnce 28 = .ok (.iload_n 1, 1) := by decide +kernel
theorem dX2_danceOnce_29 : decode cX2_danceOnce 29 = .ok (.iaload, 1) := by decide +kernel
theorem dX2_danceOnce_30 : decode cX2_danceOnce 30 = .ok (.aload_n 0, 1) := by decide +kernel
theorem dX2_danceOnce_31 : decode cX2_danceOnce 31 = .ok (.getfield 50, 3) := by decide +kernel
theorem dX2_danceOnce_34 : decode cX2_danceOnce 34 = .ok (.getfield 107, 3) := by decide +kernel
theorem dX2_danceOnce_37 : decode cX2_danceOnce 37 = .ok (.iload_n 1, 1) := by decide +kernel
theorem dX2_danceOnce_38 : decode cX2_danceOnce 38 = .ok (.iaload, 1) := by decide +kernel
theorem dX2_danceOnce_39 : decode cX2_danceOnce 39 = .ok (.aload_n 0, 1) := by decide +kernel
theorem dX2_danceOnce_40 : decode cX2_danceOnce 40 = .ok (.getfield 50, 3) := by decide +kernel
theorem dX2_danceOnce_43 : decode cX2_danceOnce 43 = .ok (.getfield 110, 3) := by decide +kernel
theorem dX2_danceOnce_46 : decode cX2_danceOnce 46 = .ok (.iload_n 1, 1) := by decide +kernel
theorem dX2_danceOnce_47 : decode cX2_danceOnce 47 = .ok (.iaload, 1) := by decide +kernel
theorem dX2_danceOnce_48 : decode cX2_danceOnce 48 = .ok (.invokevirtual 90, 3) := by decide +kernel
theorem dX2_danceOnce_51 : decode cX2_danceOnce 51 = .ok (.putfield 54, 3) := by decide +kernel
theorem dX2_danceOnce_54 : decode cX2_danceOnce 54 = .ok (.aload_n 0, 1) := by decide +kernel
theorem dX2_danceOnce_55 : decode cX2_danceOnce 55 = .ok (.getfield 54, 3) := by decide +kernel
theorem dX2_danceOnce_58 : decode cX2_danceOnce 58 = .ok (.ifCond .eq 5, 3) := by decide +kernel
theorem dX2_danceOnce_61 : decode cX2_danceOnce 61 = .ok (.iload_n 1, 1) := by decide +kernel
theorem dX2_danceOnce_62 : decode cX2_danceOnce 62 = .ok (.ireturn, 1) := by decide +kernel
theorem dX2_danceOnce_63 : decode cX2_danceOnce 63 = .ok (.aload_n 0, 1) := by decide +kernel
theorem dX2_danceOnce_64 : decode cX2_danceOnce 64 = .ok (.aload_n 0, 1) := by decide +kernel
theorem dX2_danceOnce_65 : decode cX2_danceOnce 65 = .ok (.getfield 50, 3) := by decide +kernel
theorem dX2_danceOnce_68 : decode cX2_danceOnce 68 = .ok (.getfield 104, 3) := by decide +kernel
theorem dX2_danceOnce_71 : decode cX2_danceOnce 71 = .ok (.iload_n 1, 1) := by decide +kernel
theorem dX2_danceOnce_72 : decode cX2_danceOnce 72 = .ok (.iaload, 1) := by decide +kernel
theorem dX2_danceOnce_73 : decode cX2_danceOnce 73 = .ok (.aload_n 0, 1) := by decide +kernel
theorem dX2_danceOnce_74 : decode cX2_danceOnce 74 = .ok (.getfield 50, 3) := by decide +kernel
theorem dX2_danceOnce_77 : decode cX2_danceOnce 77 = .ok (.getfield 107, 3) := by decide +kernel
theorem dX2_danceOnce_80 : decode cX2_danceOnce 80 = .ok (.iload_n 1, 1) := by decide +kernel
theorem dX2_danceOnce_81 : decode cX2_danceOnce 81 = .ok (.iaload, 1) := by decide +kernel
theorem dX2_danceOnce_82 : decode cX2_danceOnce 82 = .ok (.aload_n 0, 1) := by decide +kernel
theorem dX2_danceOnce_83 : decode cX2_danceOnce 83 = .ok (.getfield 50, 3) := by decide +kernel
theorem dX2_danceOnce_86 : decode cX2_danceOnce 86 = .ok (.getfield 110, 3) := by decide +kernel
theorem dX2_danceOnce_89 : decode cX2_danceOnce 89 = .ok (.iload_n 1, 1) := by decide +kernel
theorem dX2_danceOnce_90 : decode cX2_danceOnce 90 = .ok (.iaload, 1) := by decide +kernel
