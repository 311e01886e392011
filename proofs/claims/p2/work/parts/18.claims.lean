theorem dX7_goClaims_2 : decode cX7_goClaims 2 = .ok (.iload_n 2, 1) := by decide +kernel
theorem dX7_goClaims_3 : decode cX7_goClaims 3 = .ok (.sipush 480, 3) := by decide +kernel
theorem dX7_goClaims_6 : decode cX7_goClaims 6 = .ok (.if_icmp .ge 23, 3) := by decide +kernel
theorem dX7_goClaims_9 : decode cX7_goClaims 9 = .ok (.aload_n 0, 1) := by decide +kernel
theorem dX7_goClaims_10 : decode cX7_goClaims 10 = .ok (.getfield 72, 3) := by decide +kernel
theorem dX7_goClaims_13 : decode cX7_goClaims 13 = .ok (.iload_n 2, 1) := by decide +kernel
theorem dX7_goClaims_14 : decode cX7_goClaims 14 = .ok (.iconst (-1), 1) := by decide +kernel
theorem dX7_goClaims_15 : decode cX7_goClaims 15 = .ok (.iastore, 1) := by decide +kernel
theorem dX7_goClaims_16 : decode cX7_goClaims 16 = .ok (.aload_n 0, 1) := by decide +kernel
theorem dX7_goClaims_17 : decode cX7_goClaims 17 = .ok (.getfield 75, 3) := by decide +kernel
theorem dX7_goClaims_20 : decode cX7_goClaims 20 = .ok (.iload_n 2, 1) := by decide +kernel
theorem dX7_goClaims_21 : decode cX7_goClaims 21 = .ok (.iconst 0, 1) := by decide +kernel
theorem dX7_goClaims_22 : decode cX7_goClaims 22 = .ok (.iastore, 1) := by decide +kernel
theorem dX7_goClaims_23 : decode cX7_goClaims 23 = .ok (.iinc 2 1, 3) := by decide +kernel
theorem dX7_goClaims_26 : decode cX7_goClaims 26 = .ok (.goto (-24), 3) := by decide +kernel
theorem dX7_goClaims_31 : decode cX7_goClaims 31 = .ok (.iload_n 2, 1) := by decide +kernel
theorem dX7_goClaims_32 : decode cX7_goClaims 32 = .ok (.bipush 40, 2) := by decide +kernel
theorem dX7_goClaims_34 : decode cX7_goClaims 34 = .ok (.if_icmp .ge 23, 3) := by decide +kernel
theorem dX7_goClaims_37 : decode cX7_goClaims 37 = .ok (.aload_n 0, 1) := by decide +kernel
theorem dX7_goClaims_38 : decode cX7_goClaims 38 = .ok (.getfield 78, 3) := by decide +kernel
theorem dX7_goClaims_41 : decode cX7_goClaims 41 = .ok (.iload_n 2, 1) := by decide +kernel
theorem dX7_goClaims_42 : decode cX7_goClaims 42 = .ok (.iconst (-1), 1) := by decide +kernel
theorem dX7_goClaims_43 : decode cX7_goClaims 43 = .ok (.iastore, 1) := by decide +kernel
theorem dX7_goClaims_44 : decode cX7_goClaims 44 = .ok (.aload_n 0, 1) := by decide +kernel
theorem dX7_goClaims_45 : decode cX7_goClaims 45 = .ok (.getfield 81, 3) := by decide +kernel
theorem dX7_goClaims_48 : decode cX7_goClaims 48 = .ok (.iload_n 2, 1) := by decide +kernel
theorem dX7_goClaims_49 : decode cX7_goClaims 49 = .ok (.iconst 0, 1) := by decide +kernel
theorem dX7_goClaims_50 : decode cX7_goClaims 50 = .ok (.bastore, 1) := by decide +kernel
theorem dX7_goClaims_51 : decode cX7_goClaims 51 = .ok (.iinc 2 1, 3) := by decide +kernel
theorem dX7_goClaims_54 : decode cX7_goClaims 54 = .ok (.goto (-23), 3) := by decide +kernel
theorem dX7_goClaims_74 : decode cX7_goClaims 74 = .ok (.iload_n 3, 1) := by decide +kernel
theorem dX7_goClaims_75 : decode cX7_goClaims 75 = .ok (.iconst (-1), 1) := by decide +kernel
theorem dX7_goClaims_76 : decode cX7_goClaims 76 = .ok (.if_icmp .eq 151, 3) := by decide +kernel
theorem dX7_goClaims_79 : decode cX7_goClaims 79 = .ok (.iload 4, 2) := by decide +kernel
theorem dX7_goClaims_81 : decode cX7_goClaims 81 = .ok (.aload_n 0, 1) := by decide +kernel
theorem dX7_goClaims_82 : decode cX7_goClaims 82 = .ok (.getfield 19, 3) := by decide +kernel
theorem dX7_goClaims_85 : decode cX7_goClaims 85 = .ok (.iload_n 3, 1) := by decide +kernel
theorem dX7_goClaims_86 : decode cX7_goClaims 86 = .ok (.iaload, 1) := by decide +kernel
theorem dX7_goClaims_87 : decode cX7_goClaims 87 = .ok (.if_icmp .ge 140, 3) := by decide +kernel
theorem dX7_goClaims_90 : decode cX7_goClaims 90 = .ok (.bipush 20, 2) := by decide +kernel
theorem dX7_goClaims_92 : decode cX7_goClaims 92 = .ok (.iload_n 3, 1) := by decide +kernel
theorem dX7_goClaims_93 : decode cX7_goClaims 93 = .ok (.imul, 1) := by decide +kernel
theorem dX7_goClaims_94 : decode cX7_goClaims 94 = .ok (.iload 4, 2) := by decide +kernel
theorem dX7_goClaims_96 : decode cX7_goClaims 96 = .ok (.iadd, 1) := by decide +kernel
theorem dX7_goClaims_97 : decode cX7_goClaims 97 = .ok (.istore 5, 2) := by decide +kernel
theorem dX7_goClaims_99 : decode cX7_goClaims 99 = .ok (.aload_n 0, 1) := by decide +kernel
theorem dX7_goClaims_100 : decode cX7_goClaims 100 = .ok (.getfield 22, 3) := by decide +kernel
theorem dX7_goClaims_103 : decode cX7_goClaims 103 = .ok (.iload 5, 2) := by decide +kernel
theorem dX7_goClaims_105 : decode cX7_goClaims 105 = .ok (.iaload, 1) := by decide +kernel
theorem dX7_goClaims_106 : decode cX7_goClaims 106 = .ok (.bipush 6, 2) := by decide +kernel
theorem dX7_goClaims_108 : decode cX7_goClaims 108 = .ok (.if_icmp .lt 25, 3) := by decide +kernel
theorem dX7_goClaims_133 : decode cX7_goClaims 133 = .ok (.aload_n 0, 1) := by decide +kernel
theorem dX7_goClaims_134 : decode cX7_goClaims 134 = .ok (.getfield 22, 3) := by decide +kernel
theorem dX7_goClaims_137 : decode cX7_goClaims 137 = .ok (.iload 5, 2) := by decide +kernel
theorem dX7_goClaims_139 : decode cX7_goClaims 139 = .ok (.iaload, 1) := by decide +kernel
theorem dX7_goClaims_140 : decode cX7_goClaims 140 = .ok (.iconst 4, 1) := by decide +kernel
theorem dX7_goClaims_141 : decode cX7_goClaims 141 = .ok (.if_icmp .lt 80, 3) := by decide +kernel
theorem dX7_goClaims_221 : decode cX7_goClaims 221 = .ok (.iinc 4 1, 3) := by decide +kernel
theorem dX7_goClaims_224 : decode cX7_goClaims 224 = .ok (.goto (-150), 3) := by decide +kernel
theorem dX7_goClaims_144 : decode cX7_goClaims 144 = .ok (.bipush 40, 2) := by decide +kernel
theorem dX7_goClaims_146 : decode cX7_goClaims 146 = .ok (.aload_n 0, 1) := by decide +kernel
theorem dX7_goClaims_147 : decode cX7_goClaims 147 = .ok (.getfield 25, 3) := by decide +kernel
theorem dX7_goClaims_150 : decode cX7_goClaims 150 = .ok (.iload 5, 2) := by decide +kernel
theorem dX7_goClaims_152 : decode cX7_goClaims 152 = .ok (.iaload, 1) := by decide +kernel
theorem dX7_goClaims_153 : decode cX7_goClaims 153 = .ok (.imul, 1) := by decide +kernel
theorem dX7_goClaims_154 : decode cX7_goClaims 154 = .ok (.aload_n 0, 1) := by decide +kernel
theorem dX7_goClaims_155 : decode cX7_goClaims 155 = .ok (.getfield 31, 3) := by decide +kernel
theorem dX7_goClaims_158 : decode cX7_goClaims 158 = .ok (.iload 5, 2) := by decide +kernel
theorem dX7_goClaims_160 : decode cX7_goClaims 160 = .ok (.iaload, 1) := by decide +kernel
theorem dX7_goClaims_161 : decode cX7_goClaims 161 = .ok (.iadd, 1) := by decide +kernel
theorem dX7_goClaims_162 : decode cX7_goClaims 162 = .ok (.istore 6, 2) := by decide +kernel
theorem dX7_goClaims_164 : decode cX7_goClaims 164 = .ok (.aload_n 0, 1) := by decide +kernel
theorem dX7_goClaims_165 : decode cX7_goClaims 165 = .ok (.getfield 75, 3) := by decide +kernel
theorem dX7_goClaims_168 : decode cX7_goClaims 168 = .ok (.iload 6, 2) := by decide +kernel
theorem dX7_goClaims_170 : decode cX7_goClaims 170 = .ok (.dup2, 1) := by decide +kernel
theorem dX7_goClaims_171 : decode cX7_goClaims 171 = .ok (.iaload, 1) := by decide +kernel
theorem dX7_goClaims_172 : decode cX7_goClaims 172 = .ok (.aload_n 0, 1) := by decide +kernel
theorem dX7_goClaims_173 : decode cX7_goClaims 173 = .ok (.getfield 72, 3) := by decide +kernel
theorem dX7_goClaims_176 : decode cX7_goClaims 176 = .ok (.iload 6, 2) := by decide +kernel
theorem dX7_goClaims_178 : decode cX7_goClaims 178 = .ok (.iaload, 1) := by decide +kernel
theorem dX7_goClaims_179 : decode cX7_goClaims 179 = .ok (.iconst (-1), 1) := by decide +kernel
theorem dX7_goClaims_180 : decode cX7_goClaims 180 = .ok (.if_icmp .eq 29, 3) := by decide +kernel
theorem dX7_goClaims_209 : decode cX7_goClaims 209 = .ok (.iconst 0, 1) := by decide +kernel
theorem dX7_goClaims_210 : decode cX7_goClaims 210 = .ok (.iadd, 1) := by decide +kernel
theorem dX7_goClaims_211 : decode cX7_goClaims 211 = .ok (.iastore, 1) := by decide +kernel
theorem dX7_goClaims_212 : decode cX7_goClaims 212 = .ok (.aload_n 0, 1) := by decide +kernel
theorem dX7_goClaims_213 : decode cX7_goClaims 213 = .ok (.getfield 72, 3) := by decide +kernel
theorem dX7_goClaims_216 : decode cX7_goClaims 216 = .ok (.iload 6, 2) := by decide +kernel
theorem dX7_goClaims_218 : decode cX7_goClaims 218 = .ok (.iload 5, 2) := by decide +kernel
theorem dX7_goClaims_220 : decode cX7_goClaims 220 = .ok (.iastore, 1) := by decide +kernel
theorem dX7_goClaims_183 : decode cX7_goClaims 183 = .ok (.aload_n 0, 1) := by decide +kernel
theorem dX7_goClaims_184 : decode cX7_goClaims 184 = .ok (.getfield 22, 3) := by decide +kernel
theorem dX7_goClaims_187 : decode cX7_goClaims 187 = .ok (.aload_n 0, 1) := by decide +kernel
theorem dX7_goClaims_188 : decode cX7_goClaims 188 = .ok (.getfield 72, 3) := by decide +kernel
theorem dX7_goClaims_191 : decode cX7_goClaims 191 = .ok (.iload 6, 2) := by decide +kernel
theorem dX7_goClaims_193 : decode cX7_goClaims 193 = .ok (.iaload, 1) := by decide +kernel
theorem dX7_goClaims_194 : decode cX7_goClaims 194 = .ok (.iaload, 1) := by decide +kernel
theorem dX7_goClaims_195 : decode cX7_goClaims 195 = .ok (.aload_n 0, 1) := by decide +kernel
theorem dX7_goClaims_196 : decode cX7_goClaims 196 = .ok (.getfield 22, 3) := by decide +kernel
theorem dX7_goClaims_199 : decode cX7_goClaims 199 = .ok (.iload 5, 2) := by decide +kernel
theorem dX7_goClaims_201 : decode cX7_goClaims 201 = .ok (.iaload, 1) := by decide +kernel
theorem dX7_goClaims_202 : decode cX7_goClaims 202 = .ok (.if_icmp .eq 7, 3) := by decide +kernel
theorem dX7_goClaims_205 : decode cX7_goClaims 205 = .ok (.iconst 1, 1) := by decide +kernel
theorem dX7_goClaims_206 : decode cX7_goClaims 206 = .ok (.goto 4, 3) := by decide +kernel
theorem dX7_goClaims_111 : decode cX7_goClaims 111 = .ok (.aload_n 0, 1) := by decide +kernel
theorem dX7_goClaims_112 : decode cX7_goClaims 112 = .ok (.getfield 78, 3) := by decide +kernel
theorem dX7_goClaims_115 : decode cX7_goClaims 115 = .ok (.aload_n 0, 1) := by decide +kernel
theorem dX7_goClaims_116 : decode cX7_goClaims 116 = .ok (.getfield 31, 3) := by decide +kernel
theorem dX7_goClaims_119 : decode cX7_goClaims 119 = .ok (.iload 5, 2) := by decide +kernel
theorem dX7_goClaims_121 : decode cX7_goClaims 121 = .ok (.iaload, 1) := by decide +kernel
theorem dX7_goClaims_122 : decode cX7_goClaims 122 = .ok (.aload_n 0, 1) := by decide +kernel
theorem dX7_goClaims_123 : decode cX7_goClaims 123 = .ok (.getfield 22, 3) := by decide +kernel
theorem dX7_goClaims_126 : decode cX7_goClaims 126 = .ok (.iload 5, 2) := by decide +kernel
theorem dX7_goClaims_128 : decode cX7_goClaims 128 = .ok (.iaload, 1) := by decide +kernel
theorem dX7_goClaims_129 : decode cX7_goClaims 129 = .ok (.iastore, 1) := by decide +kernel
theorem dX7_goClaims_130 : decode cX7_goClaims 130 = .ok (.goto 91, 3) := by decide +kernel
theorem dX7_goClaims_59 : decode cX7_goClaims 59 = .ok (.iload_n 2, 1) := by decide +kernel
theorem dX7_goClaims_60 : decode cX7_goClaims 60 = .ok (.iload_n 1, 1) := by decide +kernel
theorem dX7_goClaims_61 : decode cX7_goClaims 61 = .ok (.if_icmp .gt 172, 3) := by decide +kernel
theorem dX7_goClaims_64 : decode cX7_goClaims 64 = .ok (.aload_n 0, 1) := by decide +kernel
theorem dX7_goClaims_65 : decode cX7_goClaims 65 = .ok (.getfield 13, 3) := by decide +kernel
theorem dX7_goClaims_68 : decode cX7_goClaims 68 = .ok (.iload_n 2, 1) := by decide +kernel
theorem dX7_goClaims_69 : decode cX7_goClaims 69 = .ok (.iaload, 1) := by decide +kernel
theorem dX7_goClaims_70 : decode cX7_goClaims 70 = .ok (.istore_n 3, 1) := by decide +kernel
theorem dX7_goClaims_71 : decode cX7_goClaims 71 = .ok (.iconst 0, 1) := by decide +kernel
theorem dX7_goClaims_72 : decode cX7_goClaims 72 = .ok (.istore 4, 2) := by decide +kernel
theorem dX7_goClaims_227 : decode cX7_goClaims 227 = .ok (.iinc 2 1, 3) := by decide +kernel
theorem dX7_goClaims_230 : decode cX7_goClaims 230 = .ok (.goto (-171), 3) := by decide +kernel
theorem dX7_goClaims_243 : decode cX7_goClaims 243 = .ok (.iload_n 3, 1) := by decide +kernel
theorem dX7_goClaims_244 : decode cX7_goClaims 244 = .ok (.bipush 40, 2) := by decide +kernel
theorem dX7_goClaims_246 : decode cX7_goClaims 246 = .ok (.if_icmp .ge 35, 3) := by decide +kernel
theorem dX7_goClaims_249 : decode cX7_goClaims 249 = .ok (.aload_n 0, 1) := by decide +kernel
theorem dX7_goClaims_250 : decode cX7_goClaims 250 = .ok (.getfield 81, 3) := by decide +kernel
theorem dX7_goClaims_253 : decode cX7_goClaims 253 = .ok (.iload_n 3, 1) := by decide +kernel
theorem dX7_goClaims_254 : decode cX7_goClaims 254 = .ok (.baload, 1) := by decide +kernel
theorem dX7_goClaims_255 : decode cX7_goClaims 255 = .ok (.ifCond .ne 20, 3) := by decide +kernel
theorem dX7_goClaims_275 : decode cX7_goClaims 275 = .ok (.iinc 3 1, 3) := by decide +kernel
theorem dX7_goClaims_278 : decode cX7_goClaims 278 = .ok (.goto (-35), 3) := by decide +kernel
theorem dX7_goClaims_258 : decode cX7_goClaims 258 = .ok (.aload_n 0, 1) := by decide +kernel
theorem dX7_goClaims_259 : decode cX7_goClaims 259 = .ok (.iload_n 3, 1) := by decide +kernel
theorem dX7_goClaims_260 : decode cX7_goClaims 260 = .ok (.invokevirtual 236, 3) := by decide +kernel
theorem dX7_goClaims_263 : decode cX7_goClaims 263 = .ok (.ifCond .eq 12, 3) := by decide +kernel
theorem dX7_goClaims_266 : decode cX7_goClaims 266 = .ok (.aload_n 0, 1) := by decide +kernel
theorem dX7_goClaims_267 : decode cX7_goClaims 267 = .ok (.getfield 81, 3) := by decide +kernel
theorem dX7_goClaims_270 : decode cX7_goClaims 270 = .ok (.iload_n 3, 1) := by decide +kernel
theorem dX7_goClaims_271 : decode cX7_goClaims 271 = .ok (.iconst 1, 1) := by decide +kernel
theorem dX7_goClaims_272 : decode cX7_goClaims 272 = .ok (.bastore, 1) := by decide +kernel
theorem dX7_goClaims_273 : decode cX7_goClaims 273 = .ok (.iconst 1, 1) := by decide +kernel
theorem dX7_goClaims_274 : decode cX7_goClaims 274 = .ok (.istore_n 2, 1) := by decide +kernel
theorem dX7_goClaims_235 : decode cX7_goClaims 235 = .ok (.iload_n 2, 1) := by decide +kernel
theorem dX7_goClaims_236 : decode cX7_goClaims 236 = .ok (.ifCond .eq 48, 3) := by decide +kernel
theorem dX7_goClaims_239 : decode cX7_goClaims 239 = .ok (.iconst 0, 1) := by decide +kernel
theorem dX7_goClaims_240 : decode cX7_goClaims 240 = .ok (.istore_n 2, 1) := by decide +kernel
theorem dX7_goClaims_241 : decode cX7_goClaims 241 = .ok (.iconst 0, 1) := by decide +kernel
theorem dX7_goClaims_242 : decode cX7_goClaims 242 = .ok (.istore_n 3, 1) := by decide +kernel
theorem dX7_goClaims_281 : decode cX7_goClaims 281 = .ok (.goto (-46), 3) := by decide +kernel
theorem dX7_goClaims_0 : decode cX7_goClaims 0 = .ok (.iconst 0, 1) := by decide +kernel
theorem dX7_goClaims_1 : decode cX7_goClaims 1 = .ok (.istore_n 2, 1) := by decide +kernel
theorem dX7_goClaims_29 : decode cX7_goClaims 29 = .ok (.iconst 0, 1) := by decide +kernel
theorem dX7_goClaims_30 : decode cX7_goClaims 30 = .ok (.istore_n 2, 1) := by decide +kernel
theorem dX7_goClaims_57 : decode cX7_goClaims 57 = .ok (.iconst 0, 1) := by decide +kernel
theorem dX7_goClaims_58 : decode cX7_goClaims 58 = .ok (.istore_n 2, 1) := by decide +kernel
theorem dX7_goClaims_233 : decode cX7_goClaims 233 = .ok (.iconst 1, 1) := by decide +kernel
theorem dX7_goClaims_234 : decode cX7_goClaims 234 = .ok (.istore_n 2, 1) := by decide +kernel
theorem dX7_goClaims_284 : decode cX7_goClaims 284 = .ok (.return_, 1) := by decide +kernel
def wp_X7_goClaims : List Cond := .code yX7_goClaims cX7_goClaims 7 none :: (([.fieldLink RX7 72 "AgreedTalksModel" "words" "[I", .fieldLink RX7 75 "AgreedTalksModel" "turns" "[I", .fieldLink RX7 78 "AgreedTalksModel" "states" "[I", .fieldLink RX7 81 "AgreedTalksModel" "stands" "[Z", .fieldLink RX7 13 "AgreedTalksModel" "counting" "[I", .fieldLink RX7 19 "AgreedTalksModel" "rLines" "[I", .fieldLink RX7 22 "AgreedTalksModel" "kinds" "[I", .fieldLink RX7 25 "AgreedTalksModel" "persons" "[I", .fieldLink RX7 31 "AgreedTalksModel" "numbers" "[I"] : List Cond) ++ wsX70 ++ (wsV RX7 236 RX7 yX7_canStand wp_X7_canStand))
theorem gc_X7_goClaims_X7_canStand : GoodIn wp_X7_goClaims (wsV RX7 236 RX7 yX7_canStand wp_X7_canStand) := goodIn_sub (fun _ h => List.mem_cons_of_mem _ (List.mem_append_right _ h)) (by decide +kernel)
set_option maxRecDepth 20000 in
theorem gi_X7_goClaims : GoodIn lw_tbl wp_X7_goClaims := (goodIn_ca (goodIn_ca (goodIn_r (.code yX7_goClaims cX7_goClaims 7 none :: ([.fieldLink RX7 72 "AgreedTalksModel" "words" "[I", .fieldLink RX7 75 "AgreedTalksModel" "turns" "[I", .fieldLink RX7 78 "AgreedTalksModel" "states" "[I", .fieldLink RX7 81 "AgreedTalksModel" "stands" "[Z", .fieldLink RX7 13 "AgreedTalksModel" "counting" "[I", .fieldLink RX7 19 "AgreedTalksModel" "rLines" "[I", .fieldLink RX7 22 "AgreedTalksModel" "kinds" "[I", .fieldLink RX7 25 "AgreedTalksModel" "persons" "[I", .fieldLink RX7 31 "AgreedTalksModel" "numbers" "[I"] : List Cond)) [946, 710, 711, 712, 713, 677, 680, 681, 682, 684] (by decide +kernel) (by decide +kernel)) wi_wsX7) (goodIn_app (goodIn_r _ [947, 949, 43, 57] (by decide +kernel) (by decide +kernel)) gi_X7_canStand))
set_option maxHeartbeats 4000000 in
set_option maxRecDepth 100000 in
theorem sg_X7_goClaims_2 {p : Program} {l : Launch} {e : Env} {s : State} {m : MethodId} {args : Array Value} {below : List Frame} {meth : Method} {c : Code} {Q : State → Prop} {A : Nat → Prop} {dC : Nat → ClassId} {dI : Nat → Nat → Nat} (h0 : Nat) (b3 : Nat) (b4 : Nat) (b6 : Nat) (b7 : Nat) (b8 : Nat) (b9 : Nat) (b10 : Nat) (b11 : Nat) (b12 : Nat) (b13 : Nat) (b15 : Nat) (b16 : Nat) (b17 : Nat) (b18 : Nat) (b19 : Nat) (b20 : Nat) (b21 : Nat) (b34 : Nat) (b35 : Nat) (b37 : Nat) (b38 : Nat) (b39 : Nat) (b40 : Nat) (b41 : Nat) (i0 : Int32) (i1 : Int32) (mk : Nat) (rk : Nat) (nl : Nat) (tp : Nat) (i23 : Int32) (i24 : Int32) (i25 : Int32) (w26 : Int64) (i27 : Int32) (i28 : Int32) (i29 : Int32) (i30 : Int32) (i31 : Int32) (i32 : Int32) (i33 : Int32) (tm : Nat) (mm : Nat) (cC : ClassId) (fc : Nat → Int32) (cL : ClassId) (fl : Nat → Int32) (cK : ClassId) (fk : Nat → Int32) (cP : ClassId) (fp : Nat → Int32) (cN : ClassId) (fn : Nat → Int32) (cG : ClassId) (fg : Nat → Int64) (cW : ClassId) (fw : Nat → Int32) (cU : ClassId) (fu : Nat → Int32) (cS : ClassId) (fs : Nat → Int32) (cZ : ClassId) (fz : Nat → Int32) (qmk : mk ≤ 30) (qrk : rk ≤ 40) (qm : mm < mk) (hC : okC fc mk rk) (hL : okB fl rk 21) (hN : okB fn 800 40) (hPp : okP fk fp 800) (hW : okC fw 480 800) (hx : p.tables.exec = Jvm.exec) (hb : c.code = cX7_goClaims) (hml : c.maxLocals = 7) (hown : s.vm.findClass RX7 = some m.cls) (hts : ∀ w ∈ wp_X7_goClaims, w.before args s = true) (hK : va_K (dC, dI) vwCl [(cC, .int), (cL, .int), (cK, .int), (cP, .int), (cN, .int), (cG, .long), (cW, .int), (cU, .int), (cS, .int), (cZ, .boolean)] s) (hA : ∀ q : Nat, s.heap.size ≤ q → A q) (kk_29 : ∀ (fw9 : Nat → Int32) (fu9 : Nat → Int32) (fs9 : Nat → Int32) (fz9 : Nat → Int32) (H : Heap) (locs : List Loc) (ls : Array Slot), (okC fw9 480 800) → okPD (dC, dI) vwCl A [(h0, .inr (8, [.int i0, .int i1, .int (nI mk), .ref b3, .ref b4, .int (nI rk), .ref b6, .ref b7, .ref b8, .ref b9, .ref b10, .ref b11, .ref b12, .ref b13, .int (nI nl), .ref b15, .ref b16, .ref b17, .ref b18, .ref b19, .ref b20, .ref b21, .int (nI tp), .int i23, .int i24, .int i25, .long w26, .int i27, .int i28, .int i29, .int i30, .int i31, .int i32, .int i33, .ref b34, .ref b35, .int (nI tm), .ref b37, .ref b38, .ref b39, .ref b40, .ref b41])), (b4, .inl (cC, 30, .inl fc)), (b7, .inl (cL, 40, .inl fl)), (b8, .inl (cK, 800, .inl fk)), (b9, .inl (cP, 800, .inl fp)), (b11, .inl (cN, 800, .inl fn)), (b13, .inl (cG, 800, .inr (.inl fg))), (b37, .inl (cW, 480, .inl fw9)), (b38, .inl (cU, 480, .inl fu9)), (b39, .inl (cS, 40, .inl fs9)), (b40, .inl (cZ, 40, .inl fz9))] H → va_S A s.heap H locs → lv_has ls 7 [(0, .ref h0), (1, .int (nI mm))] → W p l e ({ frames := 1, cells := 0, slots := 0, locals := 40 } : Room) s m args below meth c H locs 0 0 Q (F0 m 29 ls [])) : ∀ (n : Nat) (k9 : Nat) (fw9 : Nat → Int32) (fu9 : Nat → Int32) (fs9 : Nat → Int32) (fz9 : Nat → Int32) (H : Heap) (locs : List Loc) (ls : Array Slot), 480 - k9 < n → (k9 ≤ 480) → (okC fw9 480 800) → okPD (dC, dI) vwCl A [(h0, .inr (8, [.int i0, .int i1, .int (nI mk), .ref b3, .ref b4, .int (nI rk), .ref b6, .ref b7, .ref b8, .ref b9, .ref b10, .ref b11, .ref b12, .ref b13, .int (nI nl), .ref b15, .ref b16, .ref b17, .ref b18, .ref b19, .ref b20, .ref b21, .int (nI tp), .int i23, .int i24, .int i25, .long w26, .int i27, .int i28, .int i29, .int i30, .int i31, .int i32, .int i33, .ref b34, .ref b35, .int (nI tm), .ref b37, .ref b38, .ref b39, .ref b40, .ref b41])), (b4, .inl (cC, 30, .inl fc)), (b7, .inl (cL, 40, .inl fl)), (b8, .inl (cK, 800, .inl fk)), (b9, .inl (cP, 800, .inl fp)), (b11, .inl (cN, 800, .inl fn)), (b13, .inl (cG, 800, .inr (.inl fg))), (b37, .inl (cW, 480, .inl fw9)), (b38, .inl (cU, 480, .inl fu9)), (b39, .inl (cS, 40, .inl fs9)), (b40, .inl (cZ, 40, .inl fz9))] H → va_S A s.heap H locs → lv_has ls 7 [(0, .ref h0), (1, .int (nI mm)), (2, .int (nI k9))] → W p l e ({ frames := 1, cells := 0, slots := 0, locals := 40 } : Room) s m args below meth c H locs 0 0 Q (F0 m 2 ls []) := by
  have hinX7 : ∀ w ∈ u_ws RX7 TX7 42, w ∈ wp_X7_goClaims := fun _ h => List.mem_cons_of_mem _ (List.mem_append_left _ (List.mem_append_right _ h))
  intro n
  induction n with
  | zero =>
    intro k9 fw9 fu9 fs9 fz9 H locs ls hn
    exact absurd hn (Nat.not_lt_zero _)
  | succ n ih =>
    intro k9 fw9 fu9 fs9 fz9 H locs ls hn hk hW9 hPD hS hl
    obtain ⟨hP, hD⟩ := hPD
    refine lv_iload_n hx hb dX7_goClaims_2 rfl (lv_at hl 2 rfl) ?_
    refine lv_sipush (v := 480) hx hb dX7_goClaims_3 (by decide) ?_
    refine lv_icmp_ge (tgt := 29) hx hb dX7_goClaims_6 (by decide) (fun c_1 => ?_) (fun c_1 => ?_)
    · have c_1 : 480 ≤ k9 := (nI_leI (a := 480) (b := k9) (by omega) (by omega)).mp c_1
      exact kk_29 fw9 fu9 fs9 fz9 _ _ _ (by assumption) ⟨hP, hD⟩ hS (lv_sub hl [0, 1] rfl)
    · have c_1 : ¬ (480 ≤ k9) := fun h => c_1 ((nI_leI (a := 480) (b := k9) (by omega) (by omega)).mpr h)
      refine lv_aload_n hx hb dX7_goClaims_9 rfl (lv_at hl 0 rfl) ?_
      refine va_get (D := (dC, dI)) (ci := 8) (v := .ref b37) (C := RX7) (T := TX7) (N := 42) hx hb hts hinX7 hown hK hP 0 rfl rfl 37 (by decide) (hts (.fieldLink RX7 72 "AgreedTalksModel" "words" "[I") (by decide +kernel)) (fun _ h9 => h9) rfl dX7_goClaims_10 ?_
      refine lv_iload_n hx hb dX7_goClaims_13 rfl (lv_at hl 2 rfl) ?_
      refine lv_iconst (v := (-1)) hx hb dX7_goClaims_14 (by decide) ?_
      refine va_iast hx hb hK hP hD hS 7 6 rfl rfl (vp_in_nI (by omega) (by omega)) dX7_goClaims_15 (fun H locs hP hD hS => ?_)
      have hP : va_P (dC, dI) vwCl [(h0, .inr (8, [.int i0, .int i1, .int (nI mk), .ref b3, .ref b4, .int (nI rk), .ref b6, .ref b7, .ref b8, .ref b9, .ref b10, .ref b11, .ref b12, .ref b13, .int (nI nl), .ref b15, .ref b16, .ref b17, .ref b18, .ref b19, .ref b20, .ref b21, .int (nI tp), .int i23, .int i24, .int i25, .long w26, .int i27, .int i28, .int i29, .int i30, .int i31, .int i32, .int i33, .ref b34, .ref b35, .int (nI tm), .ref b37, .ref b38, .ref b39, .ref b40, .ref b41])), (b4, .inl (cC, 30, .inl fc)), (b7, .inl (cL, 40, .inl fl)), (b8, .inl (cK, 800, .inl fk)), (b9, .inl (cP, 800, .inl fp)), (b11, .inl (cN, 800, .inl fn)), (b13, .inl (cG, 800, .inr (.inl fg))), (b37, .inl (cW, 480, .inl (upd fw9 (Int32.toNatClampNeg (nI k9)) (-1)))), (b38, .inl (cU, 480, .inl fu9)), (b39, .inl (cS, 40, .inl fs9)), (b40, .inl (cZ, 40, .inl fz9))] H := hP
      have hD : va_D A [(h0, .inr (8, [.int i0, .int i1, .int (nI mk), .ref b3, .ref b4, .int (nI rk), .ref b6, .ref b7, .ref b8, .ref b9, .ref b10, .ref b11, .ref b12, .ref b13, .int (nI nl), .ref b15, .ref b16, .ref b17, .ref b18, .ref b19, .ref b20, .ref b21, .int (nI tp), .int i23, .int i24, .int i25, .long w26, .int i27, .int i28, .int i29, .int i30, .int i31, .int i32, .int i33, .ref b34, .ref b35, .int (nI tm), .ref b37, .ref b38, .ref b39, .ref b40, .ref b41])), (b4, .inl (cC, 30, .inl fc)), (b7, .inl (cL, 40, .inl fl)), (b8, .inl (cK, 800, .inl fk)), (b9, .inl (cP, 800, .inl fp)), (b11, .inl (cN, 800, .inl fn)), (b13, .inl (cG, 800, .inr (.inl fg))), (b37, .inl (cW, 480, .inl (upd fw9 (Int32.toNatClampNeg (nI k9)) (-1)))), (b38, .inl (cU, 480, .inl fu9)), (b39, .inl (cS, 40, .inl fs9)), (b40, .inl (cZ, 40, .inl fz9))] := hD
      generalize ef_2 : upd fw9 (Int32.toNatClampNeg (nI k9)) (-1) = f_2 at hP hD
      rw [show Int32.toNatClampNeg (nI k9) = k9 from nI_clamp (by omega)] at ef_2
      have hW9 : okC f_2 480 800 := by rw [← ef_2]; exact okC_m1 hW9
      refine lv_aload_n hx hb dX7_goClaims_16 rfl (lv_at hl 0 rfl) ?_
      refine va_get (D := (dC, dI)) (ci := 8) (v := .ref b38) (C := RX7) (T := TX7) (N := 42) hx hb hts hinX7 hown hK hP 0 rfl rfl 38 (by decide) (hts (.fieldLink RX7 75 "AgreedTalksModel" "turns" "[I") (by decide +kernel)) (fun _ h9 => h9) rfl dX7_goClaims_17 ?_
      refine lv_iload_n hx hb dX7_goClaims_20 rfl (lv_at hl 2 rfl) ?_
      refine lv_iconst (v := 0) hx hb dX7_goClaims_21 (by decide) ?_
      refine va_iast hx hb hK hP hD hS 8 7 rfl rfl (vp_in_nI (by omega) (by omega)) dX7_goClaims_22 (fun H locs hP hD hS => ?_)
      have hP : va_P (dC, dI) vwCl [(h0, .inr (8, [.int i0, .int i1, .int (nI mk), .ref b3, .ref b4, .int (nI rk), .ref b6, .ref b7, .ref b8, .ref b9, .ref b10, .ref b11, .ref b12, .ref b13, .int (nI nl), .ref b15, .ref b16, .ref b17, .ref b18, .ref b19, .ref b20, .ref b21, .int (nI tp), .int i23, .int i24, .int i25, .long w26, .int i27, .int i28, .int i29, .int i30, .int i31, .int i32, .int i33, .ref b34, .ref b35, .int (nI tm), .ref b37, .ref b38, .ref b39, .ref b40, .ref b41])), (b4, .inl (cC, 30, .inl fc)), (b7, .inl (cL, 40, .inl fl)), (b8, .inl (cK, 800, .inl fk)), (b9, .inl (cP, 800, .inl fp)), (b11, .inl (cN, 800, .inl fn)), (b13, .inl (cG, 800, .inr (.inl fg))), (b37, .inl (cW, 480, .inl f_2)), (b38, .inl (cU, 480, .inl (upd fu9 (Int32.toNatClampNeg (nI k9)) 0))), (b39, .inl (cS, 40, .inl fs9)), (b40, .inl (cZ, 40, .inl fz9))] H := hP
      have hD : va_D A [(h0, .inr (8, [.int i0, .int i1, .int (nI mk), .ref b3, .ref b4, .int (nI rk), .ref b6, .ref b7, .ref b8, .ref b9, .ref b10, .ref b11, .ref b12, .ref b13, .int (nI nl), .ref b15, .ref b16, .ref b17, .ref b18, .ref b19, .ref b20, .ref b21, .int (nI tp), .int i23, .int i24, .int i25, .long w26, .int i27, .int i28, .int i29, .int i30, .int i31, .int i32, .int i33, .ref b34, .ref b35, .int (nI tm), .ref b37, .ref b38, .ref b39, .ref b40, .ref b41])), (b4, .inl (cC, 30, .inl fc)), (b7, .inl (cL, 40, .inl fl)), (b8, .inl (cK, 800, .inl fk)), (b9, .inl (cP, 800, .inl fp)), (b11, .inl (cN, 800, .inl fn)), (b13, .inl (cG, 800, .inr (.inl fg))), (b37, .inl (cW, 480, .inl f_2)), (b38, .inl (cU, 480, .inl (upd fu9 (Int32.toNatClampNeg (nI k9)) 0))), (b39, .inl (cS, 40, .inl fs9)), (b40, .inl (cZ, 40, .inl fz9))] := hD
      generalize ef_3 : upd fu9 (Int32.toNatClampNeg (nI k9)) 0 = f_3 at hP hD
      rw [show Int32.toNatClampNeg (nI k9) = k9 from nI_clamp (by omega)] at ef_3
      refine lv_iinc (v := (nI (k9 + 1))) (lv' := [(2, .int (nI (k9 + 1))), (0, .ref h0), (1, .int (nI mm))]) hx hb dX7_goClaims_23 hl (k := 2) rfl (nI_1 _) (by decide) rfl (fun ls hl => ?_)
      refine lv_goto (tgt := 2) hx hb dX7_goClaims_26 (by decide) ?_
      exact ih (k9 + 1) f_2 f_3 fs9 fz9 _ _ _ (by omega) (by omega) (by assumption) ⟨hP, hD⟩ hS (lv_sub hl [1, 2, 0] rfl)
set_option maxHeartbeats 4000000 in
set_option maxRecDepth 100000 in
theorem sg_X7_goClaims_31 {p : Program} {l : Launch} {e : Env} {s : State} {m : MethodId} {args : Array Value} {below : List Frame} {meth : Method} {c : Code} {Q : State → Prop} {A : Nat → Prop} {dC : Nat → ClassId} {dI : Nat → Nat → Nat} (h0 : Nat) (b3 : Nat) (b4 : Nat) (b6 : Nat) (b7 : Nat) (b8 : Nat) (b9 : Nat) (b10 : Nat) (b11 : Nat) (b12 : Nat) (b13 : Nat) (b15 : Nat) (b16 : Nat) (b17 : Nat) (b18 : Nat) (b19 : Nat) (b20 : Nat) (b21 : Nat) (b34 : Nat) (b35 : Nat) (b37 : Nat) (b38 : Nat) (b39 : Nat) (b40 : Nat) (b41 : Nat) (i0 : Int32) (i1 : Int32) (mk : Nat) (rk : Nat) (nl : Nat) (tp : Nat) (i23 : Int32) (i24 : Int32) (i25 : Int32) (w26 : Int64) (i27 : Int32) (i28 : Int32) (i29 : Int32) (i30 : Int32) (i31 : Int32) (i32 : Int32) (i33 : Int32) (tm : Nat) (mm : Nat) (cC : ClassId) (fc : Nat → Int32) (cL : ClassId) (fl : Nat → Int32) (cK : ClassId) (fk : Nat → Int32) (cP : ClassId) (fp : Nat → Int32) (cN : ClassId) (fn : Nat → Int32) (cG : ClassId) (fg : Nat → Int64) (cW : ClassId) (fw : Nat → Int32) (cU : ClassId) (fu : Nat → Int32) (cS : ClassId) (fs : Nat → Int32) (cZ : ClassId) (fz : Nat → Int32) (qmk : mk ≤ 30) (qrk : rk ≤ 40) (qm : mm < mk) (hC : okC fc mk rk) (hL : okB fl rk 21) (hN : okB fn 800 40) (hPp : okP fk fp 800) (hW : okC fw 480 800) (hx : p.tables.exec = Jvm.exec) (hb : c.code = cX7_goClaims) (hml : c.maxLocals = 7) (hown : s.vm.findClass RX7 = some m.cls) (hts : ∀ w ∈ wp_X7_goClaims, w.before args s = true) (hK : va_K (dC, dI) vwCl [(cC, .int), (cL, .int), (cK, .int), (cP, .int), (cN, .int), (cG, .long), (cW, .int), (cU, .int), (cS, .int), (cZ, .boolean)] s) (hA : ∀ q : Nat, s.heap.size ≤ q → A q) (kk_57 : ∀ (fw9 : Nat → Int32) (fu9 : Nat → Int32) (fs9 : Nat → Int32) (fz9 : Nat → Int32) (H : Heap) (locs : List Loc) (ls : Array Slot), (okC fw9 480 800) → okPD (dC, dI) vwCl A [(h0, .inr (8, [.int i0, .int i1, .int (nI mk), .ref b3, .ref b4, .int (nI rk), .ref b6, .ref b7, .ref b8, .ref b9, .ref b10, .ref b11, .ref b12, .ref b13, .int (nI nl), .ref b15, .ref b16, .ref b17, .ref b18, .ref b19, .ref b20, .ref b21, .int (nI tp), .int i23, .int i24, .int i25, .long w26, .int i27, .int i28, .int i29, .int i30, .int i31, .int i32, .int i33, .ref b34, .ref b35, .int (nI tm), .ref b37, .ref b38, .ref b39, .ref b40, .ref b41])), (b4, .inl (cC, 30, .inl fc)), (b7, .inl (cL, 40, .inl fl)), (b8, .inl (cK, 800, .inl fk)), (b9, .inl (cP, 800, .inl fp)), (b11, .inl (cN, 800, .inl fn)), (b13, .inl (cG, 800, .inr (.inl fg))), (b37, .inl (cW, 480, .inl fw9)), (b38, .inl (cU, 480, .inl fu9)), (b39, .inl (cS, 40, .inl fs9)), (b40, .inl (cZ, 40, .inl fz9))] H → va_S A s.heap H locs → lv_has ls 7 [(0, .ref h0), (1, .int (nI mm))] → W p l e ({ frames := 1, cells := 0, slots := 0, locals := 40 } : Room) s m args below meth c H locs 0 0 Q (F0 m 57 ls [])) : ∀ (n : Nat) (k9 : Nat) (fw9 : Nat → Int32) (fu9 : Nat → Int32) (fs9 : Nat → Int32) (fz9 : Nat → Int32) (H : Heap) (locs : List Loc) (ls : Array Slot), 40 - k9 < n → (k9 ≤ 40) → (okC fw9 480 800) → okPD (dC, dI) vwCl A [(h0, .inr (8, [.int i0, .int i1, .int (nI mk), .ref b3, .ref b4, .int (nI rk), .ref b6, .ref b7, .ref b8, .ref b9, .ref b10, .ref b11, .ref b12, .ref b13, .int (nI nl), .ref b15, .ref b16, .ref b17, .ref b18, .ref b19, .ref b20, .ref b21, .int (nI tp), .int i23, .int i24, .int i25, .long w26, .int i27, .int i28, .int i29, .int i30, .int i31, .int i32, .int i33, .ref b34, .ref b35, .int (nI tm), .ref b37, .ref b38, .ref b39, .ref b40, .ref b41])), (b4, .inl (cC, 30, .inl fc)), (b7, .inl (cL, 40, .inl fl)), (b8, .inl (cK, 800, .inl fk)), (b9, .inl (cP, 800, .inl fp)), (b11, .inl (cN, 800, .inl fn)), (b13, .inl (cG, 800, .inr (.inl fg))), (b37, .inl (cW, 480, .inl fw9)), (b38, .inl (cU, 480, .inl fu9)), (b39, .inl (cS, 40, .inl fs9)), (b40, .inl (cZ, 40, .inl fz9))] H → va_S A s.heap H locs → lv_has ls 7 [(0, .ref h0), (1, .int (nI mm)), (2, .int (nI k9))] → W p l e ({ frames := 1, cells := 0, slots := 0, locals := 40 } : Room) s m args below meth c H locs 0 0 Q (F0 m 31 ls []) := by
  have hinX7 : ∀ w ∈ u_ws RX7 TX7 42, w ∈ wp_X7_goClaims := fun _ h => List.mem_cons_of_mem _ (List.mem_append_left _ (List.mem_append_right _ h))
  intro n
  induction n with
  | zero =>
    intro k9 fw9 fu9 fs9 fz9 H locs ls hn
    exact absurd hn (Nat.not_lt_zero _)
  | succ n ih =>
    intro k9 fw9 fu9 fs9 fz9 H locs ls hn hk hW9 hPD hS hl
    obtain ⟨hP, hD⟩ := hPD
    refine lv_iload_n hx hb dX7_goClaims_31 rfl (lv_at hl 2 rfl) ?_
    refine lv_bipush (v := 40) hx hb dX7_goClaims_32 (by decide) ?_
    refine lv_icmp_ge (tgt := 57) hx hb dX7_goClaims_34 (by decide) (fun c_8 => ?_) (fun c_8 => ?_)
    · have c_8 : 40 ≤ k9 := (nI_leI (a := 40) (b := k9) (by omega) (by omega)).mp c_8
      exact kk_57 fw9 fu9 fs9 fz9 _ _ _ (by assumption) ⟨hP, hD⟩ hS (lv_sub hl [0, 1] rfl)
    · have c_8 : ¬ (40 ≤ k9) := fun h => c_8 ((nI_leI (a := 40) (b := k9) (by omega) (by omega)).mpr h)
      refine lv_aload_n hx hb dX7_goClaims_37 rfl (lv_at hl 0 rfl) ?_
      refine va_get (D := (dC, dI)) (ci := 8) (v := .ref b39) (C := RX7) (T := TX7) (N := 42) hx hb hts hinX7 hown hK hP 0 rfl rfl 39 (by decide) (hts (.fieldLink RX7 78 "AgreedTalksModel" "states" "[I") (by decide +kernel)) (fun _ h9 => h9) rfl dX7_goClaims_38 ?_
      refine lv_iload_n hx hb dX7_goClaims_41 rfl (lv_at hl 2 rfl) ?_
      refine lv_iconst (v := (-1)) hx hb dX7_goClaims_42 (by decide) ?_
      refine va_iast hx hb hK hP hD hS 9 8 rfl rfl (vp_in_nI (by omega) (by omega)) dX7_goClaims_43 (fun H locs hP hD hS => ?_)
      have hP : va_P (dC, dI) vwCl [(h0, .inr (8, [.int i0, .int i1, .int (nI mk), .ref b3, .ref b4, .int (nI rk), .ref b6, .ref b7, .ref b8, .ref b9, .ref b10, .ref b11, .ref b12, .ref b13, .int (nI nl), .ref b15, .ref b16, .ref b17, .ref b18, .ref b19, .ref b20, .ref b21, .int (nI tp), .int i23, .int i24, .int i25, .long w26, .int i27, .int i28, .int i29, .int i30, .int i31, .int i32, .int i33, .ref b34, .ref b35, .int (nI tm), .ref b37, .ref b38, .ref b39, .ref b40, .ref b41])), (b4, .inl (cC, 30, .inl fc)), (b7, .inl (cL, 40, .inl fl)), (b8, .inl (cK, 800, .inl fk)), (b9, .inl (cP, 800, .inl fp)), (b11, .inl (cN, 800, .inl fn)), (b13, .inl (cG, 800, .inr (.inl fg))), (b37, .inl (cW, 480, .inl fw9)), (b38, .inl (cU, 480, .inl fu9)), (b39, .inl (cS, 40, .inl (upd fs9 (Int32.toNatClampNeg (nI k9)) (-1)))), (b40, .inl (cZ, 40, .inl fz9))] H := hP
      have hD : va_D A [(h0, .inr (8, [.int i0, .int i1, .int (nI mk), .ref b3, .ref b4, .int (nI rk), .ref b6, .ref b7, .ref b8, .ref b9, .ref b10, .ref b11, .ref b12, .ref b13, .int (nI nl), .ref b15, .ref b16, .ref b17, .ref b18, .ref b19, .ref b20, .ref b21, .int (nI tp), .int i23, .int i24, .int i25, .long w26, .int i27, .int i28, .int i29, .int i30, .int i31, .int i32, .int i33, .ref b34, .ref b35, .int (nI tm), .ref b37, .ref b38, .ref b39, .ref b40, .ref b41])), (b4, .inl (cC, 30, .inl fc)), (b7, .inl (cL, 40, .inl fl)), (b8, .inl (cK, 800, .inl fk)), (b9, .inl (cP, 800, .inl fp)), (b11, .inl (cN, 800, .inl fn)), (b13, .inl (cG, 800, .inr (.inl fg))), (b37, .inl (cW, 480, .inl fw9)), (b38, .inl (cU, 480, .inl fu9)), (b39, .inl (cS, 40, .inl (upd fs9 (Int32.toNatClampNeg (nI k9)) (-1)))), (b40, .inl (cZ, 40, .inl fz9))] := hD
      generalize ef_9 : upd fs9 (Int32.toNatClampNeg (nI k9)) (-1) = f_9 at hP hD
      rw [show Int32.toNatClampNeg (nI k9) = k9 from nI_clamp (by omega)] at ef_9
      refine lv_aload_n hx hb dX7_goClaims_44 rfl (lv_at hl 0 rfl) ?_
      refine va_get (D := (dC, dI)) (ci := 8) (v := .ref b40) (C := RX7) (T := TX7) (N := 42) hx hb hts hinX7 hown hK hP 0 rfl rfl 40 (by decide) (hts (.fieldLink RX7 81 "AgreedTalksModel" "stands" "[Z") (by decide +kernel)) (fun _ h9 => h9) rfl dX7_goClaims_45 ?_
      refine lv_iload_n hx hb dX7_goClaims_48 rfl (lv_at hl 2 rfl) ?_
      refine lv_iconst (v := 0) hx hb dX7_goClaims_49 (by decide) ?_
      refine va_zast hx hb hK hP hD hS 10 9 rfl rfl (vp_in_nI (by omega) (by omega)) dX7_goClaims_50 (fun H locs hP hD hS => ?_)
      have hP : va_P (dC, dI) vwCl [(h0, .inr (8, [.int i0, .int i1, .int (nI mk), .ref b3, .ref b4, .int (nI rk), .ref b6, .ref b7, .ref b8, .ref b9, .ref b10, .ref b11, .ref b12, .ref b13, .int (nI nl), .ref b15, .ref b16, .ref b17, .ref b18, .ref b19, .ref b20, .ref b21, .int (nI tp), .int i23, .int i24, .int i25, .long w26, .int i27, .int i28, .int i29, .int i30, .int i31, .int i32, .int i33, .ref b34, .ref b35, .int (nI tm), .ref b37, .ref b38, .ref b39, .ref b40, .ref b41])), (b4, .inl (cC, 30, .inl fc)), (b7, .inl (cL, 40, .inl fl)), (b8, .inl (cK, 800, .inl fk)), (b9, .inl (cP, 800, .inl fp)), (b11, .inl (cN, 800, .inl fn)), (b13, .inl (cG, 800, .inr (.inl fg))), (b37, .inl (cW, 480, .inl fw9)), (b38, .inl (cU, 480, .inl fu9)), (b39, .inl (cS, 40, .inl f_9)), (b40, .inl (cZ, 40, .inl (upd fz9 (Int32.toNatClampNeg (nI k9)) (vp_nar .boolean 0))))] H := hP
      have hD : va_D A [(h0, .inr (8, [.int i0, .int i1, .int (nI mk), .ref b3, .ref b4, .int (nI rk), .ref b6, .ref b7, .ref b8, .ref b9, .ref b10, .ref b11, .ref b12, .ref b13, .int (nI nl), .ref b15, .ref b16, .ref b17, .ref b18, .ref b19, .ref b20, .ref b21, .int (nI tp), .int i23, .int i24, .int i25, .long w26, .int i27, .int i28, .int i29, .int i30, .int i31, .int i32, .int i33, .ref b34, .ref b35, .int (nI tm), .ref b37, .ref b38, .ref b39, .ref b40, .ref b41])), (b4, .inl (cC, 30, .inl fc)), (b7, .inl (cL, 40, .inl fl)), (b8, .inl (cK, 800, .inl fk)), (b9, .inl (cP, 800, .inl fp)), (b11, .inl (cN, 800, .inl fn)), (b13, .inl (cG, 800, .inr (.inl fg))), (b37, .inl (cW, 480, .inl fw9)), (b38, .inl (cU, 480, .inl fu9)), (b39, .inl (cS, 40, .inl f_9)), (b40, .inl (cZ, 40, .inl (upd fz9 (Int32.toNatClampNeg (nI k9)) (vp_nar .boolean 0))))] := hD
      generalize ef_10 : upd fz9 (Int32.toNatClampNeg (nI k9)) (vp_nar .boolean 0) = f_10 at hP hD
      rw [show Int32.toNatClampNeg (nI k9) = k9 from nI_clamp (by omega)] at ef_10
      refine lv_iinc (v := (nI (k9 + 1))) (lv' := [(2, .int (nI (k9 + 1))), (0, .ref h0), (1, .int (nI mm))]) hx hb dX7_goClaims_51 hl (k := 2) rfl (nI_1 _) (by decide) rfl (fun ls hl => ?_)
      refine lv_goto (tgt := 31) hx hb dX7_goClaims_54 (by decide) ?_
      exact ih (k9 + 1) fw9 fu9 f_9 f_10 _ _ _ (by omega) (by omega) (by assumption) ⟨hP, hD⟩ hS (lv_sub hl [1, 2, 0] rfl)
set_option maxHeartbeats 4000000 in
set_option maxRecDepth 100000 in
theorem sg_X7_goClaims_74 {p : Program} {l : Launch} {e : Env} {s : State} {m : MethodId} {args : Array Value} {below : List Frame} {meth : Method} {c : Code} {Q : State → Prop} {A : Nat → Prop} {dC : Nat → ClassId} {dI : Nat → Nat → Nat} (h0 : Nat) (b3 : Nat) (b4 : Nat) (b6 : Nat) (b7 : Nat) (b8 : Nat) (b9 : Nat) (b10 : Nat) (b11 : Nat) (b12 : Nat) (b13 : Nat) (b15 : Nat) (b16 : Nat) (b17 : Nat) (b18 : Nat) (b19 : Nat) (b20 : Nat) (b21 : Nat) (b34 : Nat) (b35 : Nat) (b37 : Nat) (b38 : Nat) (b39 : Nat) (b40 : Nat) (b41 : Nat) (i0 : Int32) (i1 : Int32) (mk : Nat) (rk : Nat) (nl : Nat) (tp : Nat) (i23 : Int32) (i24 : Int32) (i25 : Int32) (w26 : Int64) (i27 : Int32) (i28 : Int32) (i29 : Int32) (i30 : Int32) (i31 : Int32) (i32 : Int32) (i33 : Int32) (tm : Nat) (mm : Nat) (cC : ClassId) (fc : Nat → Int32) (cL : ClassId) (fl : Nat → Int32) (cK : ClassId) (fk : Nat → Int32) (cP : ClassId) (fp : Nat → Int32) (cN : ClassId) (fn : Nat → Int32) (cG : ClassId) (fg : Nat → Int64) (cW : ClassId) (fw : Nat → Int32) (cU : ClassId) (fu : Nat → Int32) (cS : ClassId) (fs : Nat → Int32) (cZ : ClassId) (fz : Nat → Int32) (m9 : Nat) (r9 : Nat) (qmk : mk ≤ 30) (qrk : rk ≤ 40) (qm : mm < mk) (hC : okC fc mk rk) (hL : okB fl rk 21) (hN : okB fn 800 40) (hPp : okP fk fp 800) (hW : okC fw 480 800) (hx : p.tables.exec = Jvm.exec) (hb : c.code = cX7_goClaims) (hml : c.maxLocals = 7) (hown : s.vm.findClass RX7 = some m.cls) (hts : ∀ w ∈ wp_X7_goClaims, w.before args s = true) (hK : va_K (dC, dI) vwCl [(cC, .int), (cL, .int), (cK, .int), (cP, .int), (cN, .int), (cG, .long), (cW, .int), (cU, .int), (cS, .int), (cZ, .boolean)] s) (hA : ∀ q : Nat, s.heap.size ≤ q → A q) (kk_227 : ∀ (fw9 : Nat → Int32) (fu9 : Nat → Int32) (fs9 : Nat → Int32) (fz9 : Nat → Int32) (H : Heap) (locs : List Loc) (ls : Array Slot), (m9 ≤ mm) → (okC fw9 480 800) → okPD (dC, dI) vwCl A [(h0, .inr (8, [.int i0, .int i1, .int (nI mk), .ref b3, .ref b4, .int (nI rk), .ref b6, .ref b7, .ref b8, .ref b9, .ref b10, .ref b11, .ref b12, .ref b13, .int (nI nl), .ref b15, .ref b16, .ref b17, .ref b18, .ref b19, .ref b20, .ref b21, .int (nI tp), .int i23, .int i24, .int i25, .long w26, .int i27, .int i28, .int i29, .int i30, .int i31, .int i32, .int i33, .ref b34, .ref b35, .int (nI tm), .ref b37, .ref b38, .ref b39, .ref b40, .ref b41])), (b4, .inl (cC, 30, .inl fc)), (b7, .inl (cL, 40, .inl fl)), (b8, .inl (cK, 800, .inl fk)), (b9, .inl (cP, 800, .inl fp)), (b11, .inl (cN, 800, .inl fn)), (b13, .inl (cG, 800, .inr (.inl fg))), (b37, .inl (cW, 480, .inl fw9)), (b38, .inl (cU, 480, .inl fu9)), (b39, .inl (cS, 40, .inl fs9)), (b40, .inl (cZ, 40, .inl fz9))] H → va_S A s.heap H locs → lv_has ls 7 [(0, .ref h0), (1, .int (nI mm)), (2, .int (nI m9))] → W p l e ({ frames := 1, cells := 0, slots := 0, locals := 40 } : Room) s m args below meth c H locs 0 0 Q (F0 m 227 ls [])) : ∀ (n : Nat) (k9 : Nat) (fw9 : Nat → Int32) (fu9 : Nat → Int32) (fs9 : Nat → Int32) (fz9 : Nat → Int32) (H : Heap) (locs : List Loc) (ls : Array Slot), 20 - k9 < n → (m9 ≤ mm) → (r9 < rk) → (k9 ≤ 20) → (okC fw9 480 800) → okPD (dC, dI) vwCl A [(h0, .inr (8, [.int i0, .int i1, .int (nI mk), .ref b3, .ref b4, .int (nI rk), .ref b6, .ref b7, .ref b8, .ref b9, .ref b10, .ref b11, .ref b12, .ref b13, .int (nI nl), .ref b15, .ref b16, .ref b17, .ref b18, .ref b19, .ref b20, .ref b21, .int (nI tp), .int i23, .int i24, .int i25, .long w26, .int i27, .int i28, .int i29, .int i30, .int i31, .int i32, .int i33, .ref b34, .ref b35, .int (nI tm), .ref b37, .ref b38, .ref b39, .ref b40, .ref b41])), (b4, .inl (cC, 30, .inl fc)), (b7, .inl (cL, 40, .inl fl)), (b8, .inl (cK, 800, .inl fk)), (b9, .inl (cP, 800, .inl fp)), (b11, .inl (cN, 800, .inl fn)), (b13, .inl (cG, 800, .inr (.inl fg))), (b37, .inl (cW, 480, .inl fw9)), (b38, .inl (cU, 480, .inl fu9)), (b39, .inl (cS, 40, .inl fs9)), (b40, .inl (cZ, 40, .inl fz9))] H → va_S A s.heap H locs → lv_has ls 7 [(0, .ref h0), (1, .int (nI mm)), (2, .int (nI m9)), (3, .int (nI r9)), (4, .int (nI k9))] → W p l e ({ frames := 1, cells := 0, slots := 0, locals := 40 } : Room) s m args below meth c H locs 0 0 Q (F0 m 74 ls []) := by
  have hinX7 : ∀ w ∈ u_ws RX7 TX7 42, w ∈ wp_X7_goClaims := fun _ h => List.mem_cons_of_mem _ (List.mem_append_left _ (List.mem_append_right _ h))
  intro n
  induction n with
  | zero =>
    intro k9 fw9 fu9 fs9 fz9 H locs ls hn
    exact absurd hn (Nat.not_lt_zero _)
  | succ n ih =>
    intro k9 fw9 fu9 fs9 fz9 H locs ls hn hm hr9 hk9 hW9 hPD hS hl
    obtain ⟨hP, hD⟩ := hPD
    refine lv_iload_n hx hb dX7_goClaims_74 rfl (lv_at hl 3 rfl) ?_
    refine lv_iconst (v := (-1)) hx hb dX7_goClaims_75 (by decide) ?_
    refine lv_icmp_eq (tgt := 227) hx hb dX7_goClaims_76 (by decide) (fun c_19 => ?_) (fun c_19 => ?_)
    · exact absurd c_19 (nI_m1 (by omega))
    · refine lv_iload hx hb dX7_goClaims_79 (lv_at hl 4 rfl) ?_
      refine lv_aload_n hx hb dX7_goClaims_81 rfl (lv_at hl 0 rfl) ?_
      refine va_get (D := (dC, dI)) (ci := 8) (v := .ref b7) (C := RX7) (T := TX7) (N := 42) hx hb hts hinX7 hown hK hP 0 rfl rfl 7 (by decide) (hts (.fieldLink RX7 19 "AgreedTalksModel" "rLines" "[I") (by decide +kernel)) (fun _ h9 => h9) rfl dX7_goClaims_82 ?_
      refine lv_iload_n hx hb dX7_goClaims_85 rfl (lv_at hl 3 rfl) ?_
      refine va_iald hx hb hK hP 2 1 rfl rfl (vp_in_nI (by omega) (by omega)) dX7_goClaims_86 ?_
      refine lv_topi (fun x_20 ex_20 => ?_)
      rw [show (Int32.toNatClampNeg (nI r9)) = r9 from nI_clamp (by omega)] at ex_20
      obtain ⟨n_21, hn_21, h9⟩ := hL (r9) (by omega)
      rw [h9] at ex_20
      subst ex_20
      refine lv_icmp_ge (tgt := 227) hx hb dX7_goClaims_87 (by decide) (fun c_22 => ?_) (fun c_22 => ?_)
      · have c_22 : n_21 ≤ k9 := (nI_leI (a := n_21) (b := k9) (by omega) (by omega)).mp c_22
        exact kk_227 fw9 fu9 fs9 fz9 _ _ _ (by omega) (by assumption) ⟨hP, hD⟩ hS (lv_sub hl [0, 1, 2] rfl)
      · have c_22 : ¬ (n_21 ≤ k9) := fun h => c_22 ((nI_leI (a := n_21) (b := k9) (by omega) (by omega)).mpr h)
        refine lv_bipush (v := 20) hx hb dX7_goClaims_90 (by decide) ?_
        refine lv_iload_n hx hb dX7_goClaims_92 rfl (lv_at hl 3 rfl) ?_
        refine lv_imul hx hb dX7_goClaims_93 ?_
        refine lv_topi (fun x_23 ex_23 => ?_)
        obtain rfl : x_23 = (nI (20 * r9)) := by rw [ex_23]; exact pk_mul _ _
        refine lv_iload hx hb dX7_goClaims_94 (lv_at hl 4 rfl) ?_
        refine lv_iadd hx hb dX7_goClaims_96 ?_
        refine lv_topi (fun x_24 ex_24 => ?_)
        obtain rfl : x_24 = (nI (20 * r9 + k9)) := by rw [ex_24]; exact nI_add _ _
        refine lv_istore (lv' := [(5, .int (nI (20 * r9 + k9))), (0, .ref h0), (1, .int (nI mm)), (2, .int (nI m9)), (3, .int (nI r9)), (4, .int (nI k9))]) hx hb dX7_goClaims_97 hl (by decide) rfl (fun ls hl => ?_)
        refine lv_aload_n hx hb dX7_goClaims_99 rfl (lv_at hl 1 rfl) ?_
        refine va_get (D := (dC, dI)) (ci := 8) (v := .ref b8) (C := RX7) (T := TX7) (N := 42) hx hb hts hinX7 hown hK hP 0 rfl rfl 8 (by decide) (hts (.fieldLink RX7 22 "AgreedTalksModel" "kinds" "[I") (by decide +kernel)) (fun _ h9 => h9) rfl dX7_goClaims_100 ?_
        refine lv_iload hx hb dX7_goClaims_103 (lv_at hl 0 rfl) ?_
        refine va_iald hx hb hK hP 3 2 rfl rfl (vp_in_nI (by omega) (by omega)) dX7_goClaims_105 ?_
        refine lv_topi (fun x_25 ex_25 => ?_)
        rw [show (Int32.toNatClampNeg (nI (20 * r9 + k9))) = 20 * r9 + k9 from nI_clamp (by omega)] at ex_25
        refine lv_bipush (v := 6) hx hb dX7_goClaims_106 (by decide) ?_
        refine lv_icmp_lt (tgt := 133) hx hb dX7_goClaims_108 (by decide) (fun c_26 => ?_) (fun c_26 => ?_)
        · refine lv_aload_n hx hb dX7_goClaims_133 rfl (lv_at hl 1 rfl) ?_
          refine va_get (D := (dC, dI)) (ci := 8) (v := .ref b8) (C := RX7) (T := TX7) (N := 42) hx hb hts hinX7 hown hK hP 0 rfl rfl 8 (by decide) (hts (.fieldLink RX7 22 "AgreedTalksModel" "kinds" "[I") (by decide +kernel)) (fun _ h9 => h9) rfl dX7_goClaims_134 ?_
          refine lv_iload hx hb dX7_goClaims_137 (lv_at hl 0 rfl) ?_
          refine va_iald hx hb hK hP 3 2 rfl rfl (vp_in_nI (by omega) (by omega)) dX7_goClaims_139 ?_
          refine lv_topi (fun x_27 ex_27 => ?_)
          rw [show (Int32.toNatClampNeg (nI (20 * r9 + k9))) = 20 * r9 + k9 from nI_clamp (by omega)] at ex_27
          refine lv_iconst (v := 4) hx hb dX7_goClaims_140 (by decide) ?_
          refine lv_icmp_lt (tgt := 221) hx hb dX7_goClaims_141 (by decide) (fun c_28 => ?_) (fun c_28 => ?_)
          · refine lv_iinc (v := (nI (k9 + 1))) (lv' := [(4, .int (nI (k9 + 1))), (5, .int (nI (20 * r9 + k9))), (0, .ref h0), (1, .int (nI mm)), (2, .int (nI m9)), (3, .int (nI r9))]) hx hb dX7_goClaims_221 hl (k := 5) rfl (nI_1 _) (by decide) rfl (fun ls hl => ?_)
            refine lv_goto (tgt := 74) hx hb dX7_goClaims_224 (by decide) ?_
            exact ih (k9 + 1) fw9 fu9 fs9 fz9 _ _ _ (by omega) (by omega) (by omega) (by omega) (by assumption) ⟨hP, hD⟩ hS (lv_sub hl [2, 3, 4, 5, 0] rfl)
          · refine lv_bipush (v := 40) hx hb dX7_goClaims_144 (by decide) ?_
            refine lv_aload_n hx hb dX7_goClaims_146 rfl (lv_at hl 1 rfl) ?_
            refine va_get (D := (dC, dI)) (ci := 8) (v := .ref b9) (C := RX7) (T := TX7) (N := 42) hx hb hts hinX7 hown hK hP 0 rfl rfl 9 (by decide) (hts (.fieldLink RX7 25 "AgreedTalksModel" "persons" "[I") (by decide +kernel)) (fun _ h9 => h9) rfl dX7_goClaims_147 ?_
            refine lv_iload hx hb dX7_goClaims_150 (lv_at hl 0 rfl) ?_
            refine va_iald hx hb hK hP 4 3 rfl rfl (vp_in_nI (by omega) (by omega)) dX7_goClaims_152 ?_
            refine lv_topi (fun x_29 ex_29 => ?_)
            rw [show (Int32.toNatClampNeg (nI (20 * r9 + k9))) = 20 * r9 + k9 from nI_clamp (by omega)] at ex_29
            obtain ⟨n_30, hn_30, h9⟩ := hPp (20 * r9 + k9) (by omega) (by rw [← ex_27]; exact Int32.not_lt.mp c_28) (by rw [← ex_25]; exact Int32.not_le.mpr c_26)
            rw [h9] at ex_29
            subst ex_29
            refine lv_imul hx hb dX7_goClaims_153 ?_
            refine lv_topi (fun x_31 ex_31 => ?_)
            obtain rfl : x_31 = (nI (40 * n_30)) := by rw [ex_31]; exact pk_mul _ _
            refine lv_aload_n hx hb dX7_goClaims_154 rfl (lv_at hl 1 rfl) ?_
            refine va_get (D := (dC, dI)) (ci := 8) (v := .ref b11) (C := RX7) (T := TX7) (N := 42) hx hb hts hinX7 hown hK hP 0 rfl rfl 11 (by decide) (hts (.fieldLink RX7 31 "AgreedTalksModel" "numbers" "[I") (by decide +kernel)) (fun _ h9 => h9) rfl dX7_goClaims_155 ?_
            refine lv_iload hx hb dX7_goClaims_158 (lv_at hl 0 rfl) ?_
            refine va_iald hx hb hK hP 5 4 rfl rfl (vp_in_nI (by omega) (by omega)) dX7_goClaims_160 ?_
            refine lv_topi (fun x_32 ex_32 => ?_)
            rw [show (Int32.toNatClampNeg (nI (20 * r9 + k9))) = 20 * r9 + k9 from nI_clamp (by omega)] at ex_32
            obtain ⟨n_33, hn_33, h9⟩ := hN (20 * r9 + k9) (by omega)
            rw [h9] at ex_32
            subst ex_32
            refine lv_iadd hx hb dX7_goClaims_161 ?_
            refine lv_topi (fun x_34 ex_34 => ?_)
            obtain rfl : x_34 = (nI (40 * n_30 + n_33)) := by rw [ex_34]; exact nI_add _ _
            refine lv_istore (lv' := [(6, .int (nI (40 * n_30 + n_33))), (5, .int (nI (20 * r9 + k9))), (0, .ref h0), (1, .int (nI mm)), (2, .int (nI m9)), (3, .int (nI r9)), (4, .int (nI k9))]) hx hb dX7_goClaims_162 hl (by decide) rfl (fun ls hl => ?_)
            refine lv_aload_n hx hb dX7_goClaims_164 rfl (lv_at hl 2 rfl) ?_
            refine va_get (D := (dC, dI)) (ci := 8) (v := .ref b38) (C := RX7) (T := TX7) (N := 42) hx hb hts hinX7 hown hK hP 0 rfl rfl 38 (by decide) (hts (.fieldLink RX7 75 "AgreedTalksModel" "turns" "[I") (by decide +kernel)) (fun _ h9 => h9) rfl dX7_goClaims_165 ?_
            refine lv_iload hx hb dX7_goClaims_168 (lv_at hl 0 rfl) ?_
            refine lv_dup2_11 hx hb dX7_goClaims_170 rfl rfl ?_
            refine va_iald hx hb hK hP 8 7 rfl rfl (vp_in_nI (by omega) (by omega)) dX7_goClaims_171 ?_
            refine lv_topi (fun x_35 ex_35 => ?_)
            rw [show (Int32.toNatClampNeg (nI (40 * n_30 + n_33))) = 40 * n_30 + n_33 from nI_clamp (by omega)] at ex_35
            refine lv_aload_n hx hb dX7_goClaims_172 rfl (lv_at hl 2 rfl) ?_
            refine va_get (D := (dC, dI)) (ci := 8) (v := .ref b37) (C := RX7) (T := TX7) (N := 42) hx hb hts hinX7 hown hK hP 0 rfl rfl 37 (by decide) (hts (.fieldLink RX7 72 "AgreedTalksModel" "words" "[I") (by decide +kernel)) (fun _ h9 => h9) rfl dX7_goClaims_173 ?_
            refine lv_iload hx hb dX7_goClaims_176 (lv_at hl 0 rfl) ?_
            refine va_iald hx hb hK hP 7 6 rfl rfl (vp_in_nI (by omega) (by omega)) dX7_goClaims_178 ?_
            refine lv_topi (fun x_36 ex_36 => ?_)
            rw [show (Int32.toNatClampNeg (nI (40 * n_30 + n_33))) = 40 * n_30 + n_33 from nI_clamp (by omega)] at ex_36
            rcases hW9 (40 * n_30 + n_33) (by omega) with hvn_37 | ⟨n_37, hn_37, hvn_37⟩
            · rw [hvn_37] at ex_36
              subst ex_36
              refine lv_iconst (v := (-1)) hx hb dX7_goClaims_179 (by decide) ?_
              refine lv_icmp_eq (tgt := 209) hx hb dX7_goClaims_180 (by decide) (fun c_38 => ?_) (fun c_38 => ?_)
              · refine lv_iconst (v := 0) hx hb dX7_goClaims_209 (by decide) ?_
                refine lv_iadd hx hb dX7_goClaims_210 ?_
                refine lv_topi (fun x_39 ex_39 => ?_)
                refine va_iast hx hb hK hP hD hS 8 7 rfl rfl (vp_in_nI (by omega) (by omega)) dX7_goClaims_211 (fun H locs hP hD hS => ?_)
                have hP : va_P (dC, dI) vwCl [(h0, .inr (8, [.int i0, .int i1, .int (nI mk), .ref b3, .ref b4, .int (nI rk), .ref b6, .ref b7, .ref b8, .ref b9, .ref b10, .ref b11, .ref b12, .ref b13, .int (nI nl), .ref b15, .ref b16, .ref b17, .ref b18, .ref b19, .ref b20, .ref b21, .int (nI tp), .int i23, .int i24, .int i25, .long w26, .int i27, .int i28, .int i29, .int i30, .int i31, .int i32, .int i33, .ref b34, .ref b35, .int (nI tm), .ref b37, .ref b38, .ref b39, .ref b40, .ref b41])), (b4, .inl (cC, 30, .inl fc)), (b7, .inl (cL, 40, .inl fl)), (b8, .inl (cK, 800, .inl fk)), (b9, .inl (cP, 800, .inl fp)), (b11, .inl (cN, 800, .inl fn)), (b13, .inl (cG, 800, .inr (.inl fg))), (b37, .inl (cW, 480, .inl fw9)), (b38, .inl (cU, 480, .inl (upd fu9 (Int32.toNatClampNeg (nI (40 * n_30 + n_33))) x_39))), (b39, .inl (cS, 40, .inl fs9)), (b40, .inl (cZ, 40, .inl fz9))] H := hP
                have hD : va_D A [(h0, .inr (8, [.int i0, .int i1, .int (nI mk), .ref b3, .ref b4, .int (nI rk), .ref b6, .ref b7, .ref b8, .ref b9, .ref b10, .ref b11, .ref b12, .ref b13, .int (nI nl), .ref b15, .ref b16, .ref b17, .ref b18, .ref b19, .ref b20, .ref b21, .int (nI tp), .int i23, .int i24, .int i25, .long w26, .int i27, .int i28, .int i29, .int i30, .int i31, .int i32, .int i33, .ref b34, .ref b35, .int (nI tm), .ref b37, .ref b38, .ref b39, .ref b40, .ref b41])), (b4, .inl (cC, 30, .inl fc)), (b7, .inl (cL, 40, .inl fl)), (b8, .inl (cK, 800, .inl fk)), (b9, .inl (cP, 800, .inl fp)), (b11, .inl (cN, 800, .inl fn)), (b13, .inl (cG, 800, .inr (.inl fg))), (b37, .inl (cW, 480, .inl fw9)), (b38, .inl (cU, 480, .inl (upd fu9 (Int32.toNatClampNeg (nI (40 * n_30 + n_33))) x_39))), (b39, .inl (cS, 40, .inl fs9)), (b40, .inl (cZ, 40, .inl fz9))] := hD
                generalize ef_40 : upd fu9 (Int32.toNatClampNeg (nI (40 * n_30 + n_33))) x_39 = f_40 at hP hD
                rw [show Int32.toNatClampNeg (nI (40 * n_30 + n_33)) = 40 * n_30 + n_33 from nI_clamp (by omega)] at ef_40
                refine lv_aload_n hx hb dX7_goClaims_212 rfl (lv_at hl 2 rfl) ?_
                refine va_get (D := (dC, dI)) (ci := 8) (v := .ref b37) (C := RX7) (T := TX7) (N := 42) hx hb hts hinX7 hown hK hP 0 rfl rfl 37 (by decide) (hts (.fieldLink RX7 72 "AgreedTalksModel" "words" "[I") (by decide +kernel)) (fun _ h9 => h9) rfl dX7_goClaims_213 ?_
                refine lv_iload hx hb dX7_goClaims_216 (lv_at hl 0 rfl) ?_
                refine lv_iload hx hb dX7_goClaims_218 (lv_at hl 1 rfl) ?_
                refine va_iast hx hb hK hP hD hS 7 6 rfl rfl (vp_in_nI (by omega) (by omega)) dX7_goClaims_220 (fun H locs hP hD hS => ?_)
                have hP : va_P (dC, dI) vwCl [(h0, .inr (8, [.int i0, .int i1, .int (nI mk), .ref b3, .ref b4, .int (nI rk), .ref b6, .ref b7, .ref b8, .ref b9, .ref b10, .ref b11, .ref b12, .ref b13, .int (nI nl), .ref b15, .ref b16, .ref b17, .ref b18, .ref b19, .ref b20, .ref b21, .int (nI tp), .int i23, .int i24, .int i25, .long w26, .int i27, .int i28, .int i29, .int i30, .int i31, .int i32, .int i33, .ref b34, .ref b35, .int (nI tm), .ref b37, .ref b38, .ref b39, .ref b40, .ref b41])), (b4, .inl (cC, 30, .inl fc)), (b7, .inl (cL, 40, .inl fl)), (b8, .inl (cK, 800, .inl fk)), (b9, .inl (cP, 800, .inl fp)), (b11, .inl (cN, 800, .inl fn)), (b13, .inl (cG, 800, .inr (.inl fg))), (b37, .inl (cW, 480, .inl (upd fw9 (Int32.toNatClampNeg (nI (40 * n_30 + n_33))) (nI (20 * r9 + k9))))), (b38, .inl (cU, 480, .inl f_40)), (b39, .inl (cS, 40, .inl fs9)), (b40, .inl (cZ, 40, .inl fz9))] H := hP
                have hD : va_D A [(h0, .inr (8, [.int i0, .int i1, .int (nI mk), .ref b3, .ref b4, .int (nI rk), .ref b6, .ref b7, .ref b8, .ref b9, .ref b10, .ref b11, .ref b12, .ref b13, .int (nI nl), .ref b15, .ref b16, .ref b17, .ref b18, .ref b19, .ref b20, .ref b21, .int (nI tp), .int i23, .int i24, .int i25, .long w26, .int i27, .int i28, .int i29, .int i30, .int i31, .int i32, .int i33, .ref b34, .ref b35, .int (nI tm), .ref b37, .ref b38, .ref b39, .ref b40, .ref b41])), (b4, .inl (cC, 30, .inl fc)), (b7, .inl (cL, 40, .inl fl)), (b8, .inl (cK, 800, .inl fk)), (b9, .inl (cP, 800, .inl fp)), (b11, .inl (cN, 800, .inl fn)), (b13, .inl (cG, 800, .inr (.inl fg))), (b37, .inl (cW, 480, .inl (upd fw9 (Int32.toNatClampNeg (nI (40 * n_30 + n_33))) (nI (20 * r9 + k9))))), (b38, .inl (cU, 480, .inl f_40)), (b39, .inl (cS, 40, .inl fs9)), (b40, .inl (cZ, 40, .inl fz9))] := hD
                generalize ef_41 : upd fw9 (Int32.toNatClampNeg (nI (40 * n_30 + n_33))) (nI (20 * r9 + k9)) = f_41 at hP hD
                rw [show Int32.toNatClampNeg (nI (40 * n_30 + n_33)) = 40 * n_30 + n_33 from nI_clamp (by omega)] at ef_41
                have hW9 : okC f_41 480 800 := by rw [← ef_41]; exact okC_up hW9 (Nat.le_refl _) (by omega)
                refine lv_iinc (v := (nI (k9 + 1))) (lv' := [(4, .int (nI (k9 + 1))), (6, .int (nI (40 * n_30 + n_33))), (5, .int (nI (20 * r9 + k9))), (0, .ref h0), (1, .int (nI mm)), (2, .int (nI m9)), (3, .int (nI r9))]) hx hb dX7_goClaims_221 hl (k := 6) rfl (nI_1 _) (by decide) rfl (fun ls hl => ?_)
                refine lv_goto (tgt := 74) hx hb dX7_goClaims_224 (by decide) ?_
                exact ih (k9 + 1) f_41 f_40 fs9 fz9 _ _ _ (by omega) (by omega) (by omega) (by omega) (by assumption) ⟨hP, hD⟩ hS (lv_sub hl [3, 4, 5, 6, 0] rfl)
              · exact absurd c_38 (by decide)
            · rw [hvn_37] at ex_36
              subst ex_36
              refine lv_iconst (v := (-1)) hx hb dX7_goClaims_179 (by decide) ?_
              refine lv_icmp_eq (tgt := 209) hx hb dX7_goClaims_180 (by decide) (fun c_42 => ?_) (fun c_42 => ?_)
              · exact absurd c_42 (nI_m1 (by omega))
              · refine lv_aload_n hx hb dX7_goClaims_183 rfl (lv_at hl 2 rfl) ?_
                refine va_get (D := (dC, dI)) (ci := 8) (v := .ref b8) (C := RX7) (T := TX7) (N := 42) hx hb hts hinX7 hown hK hP 0 rfl rfl 8 (by decide) (hts (.fieldLink RX7 22 "AgreedTalksModel" "kinds" "[I") (by decide +kernel)) (fun _ h9 => h9) rfl dX7_goClaims_184 ?_
                refine lv_aload_n hx hb dX7_goClaims_187 rfl (lv_at hl 2 rfl) ?_
                refine va_get (D := (dC, dI)) (ci := 8) (v := .ref b37) (C := RX7) (T := TX7) (N := 42) hx hb hts hinX7 hown hK hP 0 rfl rfl 37 (by decide) (hts (.fieldLink RX7 72 "AgreedTalksModel" "words" "[I") (by decide +kernel)) (fun _ h9 => h9) rfl dX7_goClaims_188 ?_
                refine lv_iload hx hb dX7_goClaims_191 (lv_at hl 0 rfl) ?_
                refine va_iald hx hb hK hP 7 6 rfl rfl (vp_in_nI (by omega) (by omega)) dX7_goClaims_193 ?_
                refine lv_topi (fun x_43 ex_43 => ?_)
                rw [show (Int32.toNatClampNeg (nI (40 * n_30 + n_33))) = 40 * n_30 + n_33 from nI_clamp (by omega)] at ex_43
                rw [hvn_37] at ex_43
                subst ex_43
                refine va_iald hx hb hK hP 3 2 rfl rfl (vp_in_nI (by omega) (by omega)) dX7_goClaims_194 ?_
                refine lv_topi (fun x_44 ex_44 => ?_)
                rw [show (Int32.toNatClampNeg (nI n_37)) = n_37 from nI_clamp (by omega)] at ex_44
                refine lv_aload_n hx hb dX7_goClaims_195 rfl (lv_at hl 2 rfl) ?_
                refine va_get (D := (dC, dI)) (ci := 8) (v := .ref b8) (C := RX7) (T := TX7) (N := 42) hx hb hts hinX7 hown hK hP 0 rfl rfl 8 (by decide) (hts (.fieldLink RX7 22 "AgreedTalksModel" "kinds" "[I") (by decide +kernel)) (fun _ h9 => h9) rfl dX7_goClaims_196 ?_
                refine lv_iload hx hb dX7_goClaims_199 (lv_at hl 1 rfl) ?_
                refine va_iald hx hb hK hP 3 2 rfl rfl (vp_in_nI (by omega) (by omega)) dX7_goClaims_201 ?_
                refine lv_topi (fun x_45 ex_45 => ?_)
                rw [show (Int32.toNatClampNeg (nI (20 * r9 + k9))) = 20 * r9 + k9 from nI_clamp (by omega)] at ex_45
                refine lv_icmp_eq (tgt := 209) hx hb dX7_goClaims_202 (by decide) (fun c_46 => ?_) (fun c_46 => ?_)
                · refine lv_iconst (v := 0) hx hb dX7_goClaims_209 (by decide) ?_
                  refine lv_iadd hx hb dX7_goClaims_210 ?_
                  refine lv_topi (fun x_47 ex_47 => ?_)
                  refine va_iast hx hb hK hP hD hS 8 7 rfl rfl (vp_in_nI (by omega) (by omega)) dX7_goClaims_211 (fun H locs hP hD hS => ?_)
                  have hP : va_P (dC, dI) vwCl [(h0, .inr (8, [.int i0, .int i1, .int (nI mk), .ref b3, .ref b4, .int (nI rk), .ref b6, .ref b7, .ref b8, .ref b9, .ref b10, .ref b11, .ref b12, .ref b13, .int (nI nl), .ref b15, .ref b16, .ref b17, .ref b18, .ref b19, .ref b20, .ref b21, .int (nI tp), .int i23, .int i24, .int i25, .long w26, .int i27, .int i28, .int i29, .int i30, .int i31, .int i32, .int i33, .ref b34, .ref b35, .int (nI tm), .ref b37, .ref b38, .ref b39, .ref b40, .ref b41])), (b4, .inl (cC, 30, .inl fc)), (b7, .inl (cL, 40, .inl fl)), (b8, .inl (cK, 800, .inl fk)), (b9, .inl (cP, 800, .inl fp)), (b11, .inl (cN, 800, .inl fn)), (b13, .inl (cG, 800, .inr (.inl fg))), (b37, .inl (cW, 480, .inl fw9)), (b38, .inl (cU, 480, .inl (upd fu9 (Int32.toNatClampNeg (nI (40 * n_30 + n_33))) x_47))), (b39, .inl (cS, 40, .inl fs9)), (b40, .inl (cZ, 40, .inl fz9))] H := hP
                  have hD : va_D A [(h0, .inr (8, [.int i0, .int i1, .int (nI mk), .ref b3, .ref b4, .int (nI rk), .ref b6, .ref b7, .ref b8, .ref b9, .ref b10, .ref b11, .ref b12, .ref b13, .int (nI nl), .ref b15, .ref b16, .ref b17, .ref b18, .ref b19, .ref b20, .ref b21, .int (nI tp), .int i23, .int i24, .int i25, .long w26, .int i27, .int i28, .int i29, .int i30, .int i31, .int i32, .int i33, .ref b34, .ref b35, .int (nI tm), .ref b37, .ref b38, .ref b39, .ref b40, .ref b41])), (b4, .inl (cC, 30, .inl fc)), (b7, .inl (cL, 40, .inl fl)), (b8, .inl (cK, 800, .inl fk)), (b9, .inl (cP, 800, .inl fp)), (b11, .inl (cN, 800, .inl fn)), (b13, .inl (cG, 800, .inr (.inl fg))), (b37, .inl (cW, 480, .inl fw9)), (b38, .inl (cU, 480, .inl (upd fu9 (Int32.toNatClampNeg (nI (40 * n_30 + n_33))) x_47))), (b39, .inl (cS, 40, .inl fs9)), (b40, .inl (cZ, 40, .inl fz9))] := hD
                  generalize ef_48 : upd fu9 (Int32.toNatClampNeg (nI (40 * n_30 + n_33))) x_47 = f_48 at hP hD
                  rw [show Int32.toNatClampNeg (nI (40 * n_30 + n_33)) = 40 * n_30 + n_33 from nI_clamp (by omega)] at ef_48
                  refine lv_aload_n hx hb dX7_goClaims_212 rfl (lv_at hl 2 rfl) ?_
                  refine va_get (D := (dC, dI)) (ci := 8) (v := .ref b37) (C := RX7) (T := TX7) (N := 42) hx hb hts hinX7 hown hK hP 0 rfl rfl 37 (by decide) (hts (.fieldLink RX7 72 "AgreedTalksModel" "words" "[I") (by decide +kernel)) (fun _ h9 => h9) rfl dX7_goClaims_213 ?_
                  refine lv_iload hx hb dX7_goClaims_216 (lv_at hl 0 rfl) ?_
                  refine lv_iload hx hb dX7_goClaims_218 (lv_at hl 1 rfl) ?_
                  refine va_iast hx hb hK hP hD hS 7 6 rfl rfl (vp_in_nI (by omega) (by omega)) dX7_goClaims_220 (fun H locs hP hD hS => ?_)
                  have hP : va_P (dC, dI) vwCl [(h0, .inr (8, [.int i0, .int i1, .int (nI mk), .ref b3, .ref b4, .int (nI rk), .ref b6, .ref b7, .ref b8, .ref b9, .ref b10, .ref b11, .ref b12, .ref b13, .int (nI nl), .ref b15, .ref b16, .ref b17, .ref b18, .ref b19, .ref b20, .ref b21, .int (nI tp), .int i23, .int i24, .int i25, .long w26, .int i27, .int i28, .int i29, .int i30, .int i31, .int i32, .int i33, .ref b34, .ref b35, .int (nI tm), .ref b37, .ref b38, .ref b39, .ref b40, .ref b41])), (b4, .inl (cC, 30, .inl fc)), (b7, .inl (cL, 40, .inl fl)), (b8, .inl (cK, 800, .inl fk)), (b9, .inl (cP, 800, .inl fp)), (b11, .inl (cN, 800, .inl fn)), (b13, .inl (cG, 800, .inr (.inl fg))), (b37, .inl (cW, 480, .inl (upd fw9 (Int32.toNatClampNeg (nI (40 * n_30 + n_33))) (nI (20 * r9 + k9))))), (b38, .inl (cU, 480, .inl f_48)), (b39, .inl (cS, 40, .inl fs9)), (b40, .inl (cZ, 40, .inl fz9))] H := hP
                  have hD : va_D A [(h0, .inr (8, [.int i0, .int i1, .int (nI mk), .ref b3, .ref b4, .int (nI rk), .ref b6, .ref b7, .ref b8, .ref b9, .ref b10, .ref b11, .ref b12, .ref b13, .int (nI nl), .ref b15, .ref b16, .ref b17, .ref b18, .ref b19, .ref b20, .ref b21, .int (nI tp), .int i23, .int i24, .int i25, .long w26, .int i27, .int i28, .int i29, .int i30, .int i31, .int i32, .int i33, .ref b34, .ref b35, .int (nI tm), .ref b37, .ref b38, .ref b39, .ref b40, .ref b41])), (b4, .inl (cC, 30, .inl fc)), (b7, .inl (cL, 40, .inl fl)), (b8, .inl (cK, 800, .inl fk)), (b9, .inl (cP, 800, .inl fp)), (b11, .inl (cN, 800, .inl fn)), (b13, .inl (cG, 800, .inr (.inl fg))), (b37, .inl (cW, 480, .inl (upd fw9 (Int32.toNatClampNeg (nI (40 * n_30 + n_33))) (nI (20 * r9 + k9))))), (b38, .inl (cU, 480, .inl f_48)), (b39, .inl (cS, 40, .inl fs9)), (b40, .inl (cZ, 40, .inl fz9))] := hD
                  generalize ef_49 : upd fw9 (Int32.toNatClampNeg (nI (40 * n_30 + n_33))) (nI (20 * r9 + k9)) = f_49 at hP hD
                  rw [show Int32.toNatClampNeg (nI (40 * n_30 + n_33)) = 40 * n_30 + n_33 from nI_clamp (by omega)] at ef_49
                  have hW9 : okC f_49 480 800 := by rw [← ef_49]; exact okC_up hW9 (Nat.le_refl _) (by omega)
                  refine lv_iinc (v := (nI (k9 + 1))) (lv' := [(4, .int (nI (k9 + 1))), (6, .int (nI (40 * n_30 + n_33))), (5, .int (nI (20 * r9 + k9))), (0, .ref h0), (1, .int (nI mm)), (2, .int (nI m9)), (3, .int (nI r9))]) hx hb dX7_goClaims_221 hl (k := 6) rfl (nI_1 _) (by decide) rfl (fun ls hl => ?_)
                  refine lv_goto (tgt := 74) hx hb dX7_goClaims_224 (by decide) ?_
                  exact ih (k9 + 1) f_49 f_48 fs9 fz9 _ _ _ (by omega) (by omega) (by omega) (by omega) (by assumption) ⟨hP, hD⟩ hS (lv_sub hl [3, 4, 5, 6, 0] rfl)
                · refine lv_iconst (v := 1) hx hb dX7_goClaims_205 (by decide) ?_
                  refine lv_goto (tgt := 210) hx hb dX7_goClaims_206 (by decide) ?_
                  refine lv_iadd hx hb dX7_goClaims_210 ?_
                  refine lv_topi (fun x_50 ex_50 => ?_)
                  refine va_iast hx hb hK hP hD hS 8 7 rfl rfl (vp_in_nI (by omega) (by omega)) dX7_goClaims_211 (fun H locs hP hD hS => ?_)
                  have hP : va_P (dC, dI) vwCl [(h0, .inr (8, [.int i0, .int i1, .int (nI mk), .ref b3, .ref b4, .int (nI rk), .ref b6, .ref b7, .ref b8, .ref b9, .ref b10, .ref b11, .ref b12, .ref b13, .int (nI nl), .ref b15, .ref b16, .ref b17, .ref b18, .ref b19, .ref b20, .ref b21, .int (nI tp), .int i23, .int i24, .int i25, .long w26, .int i27, .int i28, .int i29, .int i30, .int i31, .int i32, .int i33, .ref b34, .ref b35, .int (nI tm), .ref b37, .ref b38, .ref b39, .ref b40, .ref b41])), (b4, .inl (cC, 30, .inl fc)), (b7, .inl (cL, 40, .inl fl)), (b8, .inl (cK, 800, .inl fk)), (b9, .inl (cP, 800, .inl fp)), (b11, .inl (cN, 800, .inl fn)), (b13, .inl (cG, 800, .inr (.inl fg))), (b37, .inl (cW, 480, .inl fw9)), (b38, .inl (cU, 480, .inl (upd fu9 (Int32.toNatClampNeg (nI (40 * n_30 + n_33))) x_50))), (b39, .inl (cS, 40, .inl fs9)), (b40, .inl (cZ, 40, .inl fz9))] H := hP
                  have hD : va_D A [(h0, .inr (8, [.int i0, .int i1, .int (nI mk), .ref b3, .ref b4, .int (nI rk), .ref b6, .ref b7, .ref b8, .ref b9, .ref b10, .ref b11, .ref b12, .ref b13, .int (nI nl), .ref b15, .ref b16, .ref b17, .ref b18, .ref b19, .ref b20, .ref b21, .int (nI tp), .int i23, .int i24, .int i25, .long w26, .int i27, .int i28, .int i29, .int i30, .int i31, .int i32, .int i33, .ref b34, .ref b35, .int (nI tm), .ref b37, .ref b38, .ref b39, .ref b40, .ref b41])), (b4, .inl (cC, 30, .inl fc)), (b7, .inl (cL, 40, .inl fl)), (b8, .inl (cK, 800, .inl fk)), (b9, .inl (cP, 800, .inl fp)), (b11, .inl (cN, 800, .inl fn)), (b13, .inl (cG, 800, .inr (.inl fg))), (b37, .inl (cW, 480, .inl fw9)), (b38, .inl (cU, 480, .inl (upd fu9 (Int32.toNatClampNeg (nI (40 * n_30 + n_33))) x_50))), (b39, .inl (cS, 40, .inl fs9)), (b40, .inl (cZ, 40, .inl fz9))] := hD
                  generalize ef_51 : upd fu9 (Int32.toNatClampNeg (nI (40 * n_30 + n_33))) x_50 = f_51 at hP hD
                  rw [show Int32.toNatClampNeg (nI (40 * n_30 + n_33)) = 40 * n_30 + n_33 from nI_clamp (by omega)] at ef_51
                  refine lv_aload_n hx hb dX7_goClaims_212 rfl (lv_at hl 2 rfl) ?_
                  refine va_get (D := (dC, dI)) (ci := 8) (v := .ref b37) (C := RX7) (T := TX7) (N := 42) hx hb hts hinX7 hown hK hP 0 rfl rfl 37 (by decide) (hts (.fieldLink RX7 72 "AgreedTalksModel" "words" "[I") (by decide +kernel)) (fun _ h9 => h9) rfl dX7_goClaims_213 ?_
                  refine lv_iload hx hb dX7_goClaims_216 (lv_at hl 0 rfl) ?_
                  refine lv_iload hx hb dX7_goClaims_218 (lv_at hl 1 rfl) ?_
                  refine va_iast hx hb hK hP hD hS 7 6 rfl rfl (vp_in_nI (by omega) (by omega)) dX7_goClaims_220 (fun H locs hP hD hS => ?_)
                  have hP : va_P (dC, dI) vwCl [(h0, .inr (8, [.int i0, .int i1, .int (nI mk), .ref b3, .ref b4, .int (nI rk), .ref b6, .ref b7, .ref b8, .ref b9, .ref b10, .ref b11, .ref b12, .ref b13, .int (nI nl), .ref b15, .ref b16, .ref b17, .ref b18, .ref b19, .ref b20, .ref b21, .int (nI tp), .int i23, .int i24, .int i25, .long w26, .int i27, .int i28, .int i29, .int i30, .int i31, .int i32, .int i33, .ref b34, .ref b35, .int (nI tm), .ref b37, .ref b38, .ref b39, .ref b40, .ref b41])), (b4, .inl (cC, 30, .inl fc)), (b7, .inl (cL, 40, .inl fl)), (b8, .inl (cK, 800, .inl fk)), (b9, .inl (cP, 800, .inl fp)), (b11, .inl (cN, 800, .inl fn)), (b13, .inl (cG, 800, .inr (.inl fg))), (b37, .inl (cW, 480, .inl (upd fw9 (Int32.toNatClampNeg (nI (40 * n_30 + n_33))) (nI (20 * r9 + k9))))), (b38, .inl (cU, 480, .inl f_51)), (b39, .inl (cS, 40, .inl fs9)), (b40, .inl (cZ, 40, .inl fz9))] H := hP
                  have hD : va_D A [(h0, .inr (8, [.int i0, .int i1, .int (nI mk), .ref b3, .ref b4, .int (nI rk), .ref b6, .ref b7, .ref b8, .ref b9, .ref b10, .ref b11, .ref b12, .ref b13, .int (nI nl), .ref b15, .ref b16, .ref b17, .ref b18, .ref b19, .ref b20, .ref b21, .int (nI tp), .int i23, .int i24, .int i25, .long w26, .int i27, .int i28, .int i29, .int i30, .int i31, .int i32, .int i33, .ref b34, .ref b35, .int (nI tm), .ref b37, .ref b38, .ref b39, .ref b40, .ref b41])), (b4, .inl (cC, 30, .inl fc)), (b7, .inl (cL, 40, .inl fl)), (b8, .inl (cK, 800, .inl fk)), (b9, .inl (cP, 800, .inl fp)), (b11, .inl (cN, 800, .inl fn)), (b13, .inl (cG, 800, .inr (.inl fg))), (b37, .inl (cW, 480, .inl (upd fw9 (Int32.toNatClampNeg (nI (40 * n_30 + n_33))) (nI (20 * r9 + k9))))), (b38, .inl (cU, 480, .inl f_51)), (b39, .inl (cS, 40, .inl fs9)), (b40, .inl (cZ, 40, .inl fz9))] := hD
                  generalize ef_52 : upd fw9 (Int32.toNatClampNeg (nI (40 * n_30 + n_33))) (nI (20 * r9 + k9)) = f_52 at hP hD
                  rw [show Int32.toNatClampNeg (nI (40 * n_30 + n_33)) = 40 * n_30 + n_33 from nI_clamp (by omega)] at ef_52
                  have hW9 : okC f_52 480 800 := by rw [← ef_52]; exact okC_up hW9 (Nat.le_refl _) (by omega)
                  refine lv_iinc (v := (nI (k9 + 1))) (lv' := [(4, .int (nI (k9 + 1))), (6, .int (nI (40 * n_30 + n_33))), (5, .int (nI (20 * r9 + k9))), (0, .ref h0), (1, .int (nI mm)), (2, .int (nI m9)), (3, .int (nI r9))]) hx hb dX7_goClaims_221 hl (k := 6) rfl (nI_1 _) (by decide) rfl (fun ls hl => ?_)
                  refine lv_goto (tgt := 74) hx hb dX7_goClaims_224 (by decide) ?_
                  exact ih (k9 + 1) f_52 f_51 fs9 fz9 _ _ _ (by omega) (by omega) (by omega) (by omega) (by assumption) ⟨hP, hD⟩ hS (lv_sub hl [3, 4, 5, 6, 0] rfl)
        · refine lv_aload_n hx hb dX7_goClaims_111 rfl (lv_at hl 1 rfl) ?_
          refine va_get (D := (dC, dI)) (ci := 8) (v := .ref b39) (C := RX7) (T := TX7) (N := 42) hx hb hts hinX7 hown hK hP 0 rfl rfl 39 (by decide) (hts (.fieldLink RX7 78 "AgreedTalksModel" "states" "[I") (by decide +kernel)) (fun _ h9 => h9) rfl dX7_goClaims_112 ?_
          refine lv_aload_n hx hb dX7_goClaims_115 rfl (lv_at hl 1 rfl) ?_
          refine va_get (D := (dC, dI)) (ci := 8) (v := .ref b11) (C := RX7) (T := TX7) (N := 42) hx hb hts hinX7 hown hK hP 0 rfl rfl 11 (by decide) (hts (.fieldLink RX7 31 "AgreedTalksModel" "numbers" "[I") (by decide +kernel)) (fun _ h9 => h9) rfl dX7_goClaims_116 ?_
          refine lv_iload hx hb dX7_goClaims_119 (lv_at hl 0 rfl) ?_
          refine va_iald hx hb hK hP 5 4 rfl rfl (vp_in_nI (by omega) (by omega)) dX7_goClaims_121 ?_
          refine lv_topi (fun x_53 ex_53 => ?_)
          rw [show (Int32.toNatClampNeg (nI (20 * r9 + k9))) = 20 * r9 + k9 from nI_clamp (by omega)] at ex_53
          obtain ⟨n_54, hn_54, h9⟩ := hN (20 * r9 + k9) (by omega)
          rw [h9] at ex_53
          subst ex_53
          refine lv_aload_n hx hb dX7_goClaims_122 rfl (lv_at hl 1 rfl) ?_
          refine va_get (D := (dC, dI)) (ci := 8) (v := .ref b8) (C := RX7) (T := TX7) (N := 42) hx hb hts hinX7 hown hK hP 0 rfl rfl 8 (by decide) (hts (.fieldLink RX7 22 "AgreedTalksModel" "kinds" "[I") (by decide +kernel)) (fun _ h9 => h9) rfl dX7_goClaims_123 ?_
          refine lv_iload hx hb dX7_goClaims_126 (lv_at hl 0 rfl) ?_
          refine va_iald hx hb hK hP 3 2 rfl rfl (vp_in_nI (by omega) (by omega)) dX7_goClaims_128 ?_
          refine lv_topi (fun x_55 ex_55 => ?_)
          rw [show (Int32.toNatClampNeg (nI (20 * r9 + k9))) = 20 * r9 + k9 from nI_clamp (by omega)] at ex_55
          refine va_iast hx hb hK hP hD hS 9 8 rfl rfl (vp_in_nI (by omega) (by omega)) dX7_goClaims_129 (fun H locs hP hD hS => ?_)
          have hP : va_P (dC, dI) vwCl [(h0, .inr (8, [.int i0, .int i1, .int (nI mk), .ref b3, .ref b4, .int (nI rk), .ref b6, .ref b7, .ref b8, .ref b9, .ref b10, .ref b11, .ref b12, .ref b13, .int (nI nl), .ref b15, .ref b16, .ref b17, .ref b18, .ref b19, .ref b20, .ref b21, .int (nI tp), .int i23, .int i24, .int i25, .long w26, .int i27, .int i28, .int i29, .int i30, .int i31, .int i32, .int i33, .ref b34, .ref b35, .int (nI tm), .ref b37, .ref b38, .ref b39, .ref b40, .ref b41])), (b4, .inl (cC, 30, .inl fc)), (b7, .inl (cL, 40, .inl fl)), (b8, .inl (cK, 800, .inl fk)), (b9, .inl (cP, 800, .inl fp)), (b11, .inl (cN, 800, .inl fn)), (b13, .inl (cG, 800, .inr (.inl fg))), (b37, .inl (cW, 480, .inl fw9)), (b38, .inl (cU, 480, .inl fu9)), (b39, .inl (cS, 40, .inl (upd fs9 (Int32.toNatClampNeg (nI n_54)) x_55))), (b40, .inl (cZ, 40, .inl fz9))] H := hP
          have hD : va_D A [(h0, .inr (8, [.int i0, .int i1, .int (nI mk), .ref b3, .ref b4, .int (nI rk), .ref b6, .ref b7, .ref b8, .ref b9, .ref b10, .ref b11, .ref b12, .ref b13, .int (nI nl), .ref b15, .ref b16, .ref b17, .ref b18, .ref b19, .ref b20, .ref b21, .int (nI tp), .int i23, .int i24, .int i25, .long w26, .int i27, .int i28, .int i29, .int i30, .int i31, .int i32, .int i33, .ref b34, .ref b35, .int (nI tm), .ref b37, .ref b38, .ref b39, .ref b40, .ref b41])), (b4, .inl (cC, 30, .inl fc)), (b7, .inl (cL, 40, .inl fl)), (b8, .inl (cK, 800, .inl fk)), (b9, .inl (cP, 800, .inl fp)), (b11, .inl (cN, 800, .inl fn)), (b13, .inl (cG, 800, .inr (.inl fg))), (b37, .inl (cW, 480, .inl fw9)), (b38, .inl (cU, 480, .inl fu9)), (b39, .inl (cS, 40, .inl (upd fs9 (Int32.toNatClampNeg (nI n_54)) x_55))), (b40, .inl (cZ, 40, .inl fz9))] := hD
          generalize ef_56 : upd fs9 (Int32.toNatClampNeg (nI n_54)) x_55 = f_56 at hP hD
          rw [show Int32.toNatClampNeg (nI n_54) = n_54 from nI_clamp (by omega)] at ef_56
          refine lv_goto (tgt := 221) hx hb dX7_goClaims_130 (by decide) ?_
          refine lv_iinc (v := (nI (k9 + 1))) (lv' := [(4, .int (nI (k9 + 1))), (5, .int (nI (20 * r9 + k9))), (0, .ref h0), (1, .int (nI mm)), (2, .int (nI m9)), (3, .int (nI r9))]) hx hb dX7_goClaims_221 hl (k := 5) rfl (nI_1 _) (by decide) rfl (fun ls hl => ?_)
          refine lv_goto (tgt := 74) hx hb dX7_goClaims_224 (by decide) ?_
          exact ih (k9 + 1) fw9 fu9 f_56 fz9 _ _ _ (by omega) (by omega) (by omega) (by omega) (by assumption) ⟨hP, hD⟩ hS (lv_sub hl [2, 3, 4, 5, 0] rfl)
set_option maxHeartbeats 4000000 in
set_option maxRecDepth 100000 in
theorem sg_X7_goClaims_59 {p : Program} {l : Launch} {e : Env} {s : State} {m : MethodId} {args : Array Value} {below : List Frame} {meth : Method} {c : Code} {Q : State → Prop} {A : Nat → Prop} {dC : Nat → ClassId} {dI : Nat → Nat → Nat} (h0 : Nat) (b3 : Nat) (b4 : Nat) (b6 : Nat) (b7 : Nat) (b8 : Nat) (b9 : Nat) (b10 : Nat) (b11 : Nat) (b12 : Nat) (b13 : Nat) (b15 : Nat) (b16 : Nat) (b17 : Nat) (b18 : Nat) (b19 : Nat) (b20 : Nat) (b21 : Nat) (b34 : Nat) (b35 : Nat) (b37 : Nat) (b38 : Nat) (b39 : Nat) (b40 : Nat) (b41 : Nat) (i0 : Int32) (i1 : Int32) (mk : Nat) (rk : Nat) (nl : Nat) (tp : Nat) (i23 : Int32) (i24 : Int32) (i25 : Int32) (w26 : Int64) (i27 : Int32) (i28 : Int32) (i29 : Int32) (i30 : Int32) (i31 : Int32) (i32 : Int32) (i33 : Int32) (tm : Nat) (mm : Nat) (cC : ClassId) (fc : Nat → Int32) (cL : ClassId) (fl : Nat → Int32) (cK : ClassId) (fk : Nat → Int32) (cP : ClassId) (fp : Nat → Int32) (cN : ClassId) (fn : Nat → Int32) (cG : ClassId) (fg : Nat → Int64) (cW : ClassId) (fw : Nat → Int32) (cU : ClassId) (fu : Nat → Int32) (cS : ClassId) (fs : Nat → Int32) (cZ : ClassId) (fz : Nat → Int32) (qmk : mk ≤ 30) (qrk : rk ≤ 40) (qm : mm < mk) (hC : okC fc mk rk) (hL : okB fl rk 21) (hN : okB fn 800 40) (hPp : okP fk fp 800) (hW : okC fw 480 800) (hx : p.tables.exec = Jvm.exec) (hb : c.code = cX7_goClaims) (hml : c.maxLocals = 7) (hown : s.vm.findClass RX7 = some m.cls) (hts : ∀ w ∈ wp_X7_goClaims, w.before args s = true) (hK : va_K (dC, dI) vwCl [(cC, .int), (cL, .int), (cK, .int), (cP, .int), (cN, .int), (cG, .long), (cW, .int), (cU, .int), (cS, .int), (cZ, .boolean)] s) (hA : ∀ q : Nat, s.heap.size ≤ q → A q) (kk_233 : ∀ (fw9 : Nat → Int32) (fu9 : Nat → Int32) (fs9 : Nat → Int32) (fz9 : Nat → Int32) (H : Heap) (locs : List Loc) (ls : Array Slot), (okC fw9 480 800) → okPD (dC, dI) vwCl A [(h0, .inr (8, [.int i0, .int i1, .int (nI mk), .ref b3, .ref b4, .int (nI rk), .ref b6, .ref b7, .ref b8, .ref b9, .ref b10, .ref b11, .ref b12, .ref b13, .int (nI nl), .ref b15, .ref b16, .ref b17, .ref b18, .ref b19, .ref b20, .ref b21, .int (nI tp), .int i23, .int i24, .int i25, .long w26, .int i27, .int i28, .int i29, .int i30, .int i31, .int i32, .int i33, .ref b34, .ref b35, .int (nI tm), .ref b37, .ref b38, .ref b39, .ref b40, .ref b41])), (b4, .inl (cC, 30, .inl fc)), (b7, .inl (cL, 40, .inl fl)), (b8, .inl (cK, 800, .inl fk)), (b9, .inl (cP, 800, .inl fp)), (b11, .inl (cN, 800, .inl fn)), (b13, .inl (cG, 800, .inr (.inl fg))), (b37, .inl (cW, 480, .inl fw9)), (b38, .inl (cU, 480, .inl fu9)), (b39, .inl (cS, 40, .inl fs9)), (b40, .inl (cZ, 40, .inl fz9))] H → va_S A s.heap H locs → lv_has ls 7 [(0, .ref h0), (1, .int (nI mm))] → W p l e ({ frames := 1, cells := 0, slots := 0, locals := 40 } : Room) s m args below meth c H locs 0 0 Q (F0 m 233 ls [])) : ∀ (n : Nat) (m9 : Nat) (fw9 : Nat → Int32) (fu9 : Nat → Int32) (fs9 : Nat → Int32) (fz9 : Nat → Int32) (H : Heap) (locs : List Loc) (ls : Array Slot), mm + 1 - m9 < n → (m9 ≤ mm + 1) → (okC fw9 480 800) → okPD (dC, dI) vwCl A [(h0, .inr (8, [.int i0, .int i1, .int (nI mk), .ref b3, .ref b4, .int (nI rk), .ref b6, .ref b7, .ref b8, .ref b9, .ref b10, .ref b11, .ref b12, .ref b13, .int (nI nl), .ref b15, .ref b16, .ref b17, .ref b18, .ref b19, .ref b20, .ref b21, .int (nI tp), .int i23, .int i24, .int i25, .long w26, .int i27, .int i28, .int i29, .int i30, .int i31, .int i32, .int i33, .ref b34, .ref b35, .int (nI tm), .ref b37, .ref b38, .ref b39, .ref b40, .ref b41])), (b4, .inl (cC, 30, .inl fc)), (b7, .inl (cL, 40, .inl fl)), (b8, .inl (cK, 800, .inl fk)), (b9, .inl (cP, 800, .inl fp)), (b11, .inl (cN, 800, .inl fn)), (b13, .inl (cG, 800, .inr (.inl fg))), (b37, .inl (cW, 480, .inl fw9)), (b38, .inl (cU, 480, .inl fu9)), (b39, .inl (cS, 40, .inl fs9)), (b40, .inl (cZ, 40, .inl fz9))] H → va_S A s.heap H locs → lv_has ls 7 [(0, .ref h0), (1, .int (nI mm)), (2, .int (nI m9))] → W p l e ({ frames := 1, cells := 0, slots := 0, locals := 40 } : Room) s m args below meth c H locs 0 0 Q (F0 m 59 ls []) := by
  have hinX7 : ∀ w ∈ u_ws RX7 TX7 42, w ∈ wp_X7_goClaims := fun _ h => List.mem_cons_of_mem _ (List.mem_append_left _ (List.mem_append_right _ h))
  intro n
  induction n with
  | zero =>
    intro m9 fw9 fu9 fs9 fz9 H locs ls hn
    exact absurd hn (Nat.not_lt_zero _)
  | succ n ih =>
    intro m9 fw9 fu9 fs9 fz9 H locs ls hn hm hW9 hPD hS hl
    obtain ⟨hP, hD⟩ := hPD
    refine lv_iload_n hx hb dX7_goClaims_59 rfl (lv_at hl 2 rfl) ?_
    refine lv_iload_n hx hb dX7_goClaims_60 rfl (lv_at hl 1 rfl) ?_
    refine lv_icmp_gt (tgt := 233) hx hb dX7_goClaims_61 (by decide) (fun c_15 => ?_) (fun c_15 => ?_)
    · have c_15 : mm < m9 := (nI_ltI (a := mm) (b := m9) (by omega) (by omega)).mp c_15
      exact kk_233 fw9 fu9 fs9 fz9 _ _ _ (by assumption) ⟨hP, hD⟩ hS (lv_sub hl [0, 1] rfl)
    · have c_15 : ¬ (mm < m9) := fun h => c_15 ((nI_ltI (a := mm) (b := m9) (by omega) (by omega)).mpr h)
      refine lv_aload_n hx hb dX7_goClaims_64 rfl (lv_at hl 0 rfl) ?_
      refine va_get (D := (dC, dI)) (ci := 8) (v := .ref b4) (C := RX7) (T := TX7) (N := 42) hx hb hts hinX7 hown hK hP 0 rfl rfl 4 (by decide) (hts (.fieldLink RX7 13 "AgreedTalksModel" "counting" "[I") (by decide +kernel)) (fun _ h9 => h9) rfl dX7_goClaims_65 ?_
      refine lv_iload_n hx hb dX7_goClaims_68 rfl (lv_at hl 2 rfl) ?_
      refine va_iald hx hb hK hP 1 0 rfl rfl (vp_in_nI (by omega) (by omega)) dX7_goClaims_69 ?_
      refine lv_topi (fun x_16 ex_16 => ?_)
      rw [show (Int32.toNatClampNeg (nI m9)) = m9 from nI_clamp (by omega)] at ex_16
      rcases hC (m9) (by omega) with hvn_17 | ⟨n_17, hn_17, hvn_17⟩
      · rw [hvn_17] at ex_16
        subst ex_16
        refine lv_istore_n (lv' := [(3, .int (-1)), (0, .ref h0), (1, .int (nI mm)), (2, .int (nI m9))]) hx hb dX7_goClaims_70 rfl hl (by decide) rfl (fun ls hl => ?_)
        refine lv_iconst (v := 0) hx hb dX7_goClaims_71 (by decide) ?_
        refine lv_istore (lv' := [(4, .int 0), (3, .int (-1)), (0, .ref h0), (1, .int (nI mm)), (2, .int (nI m9))]) hx hb dX7_goClaims_72 hl (by decide) rfl (fun ls hl => ?_)
        refine lv_iload_n hx hb dX7_goClaims_74 rfl (lv_at hl 1 rfl) ?_
        refine lv_iconst (v := (-1)) hx hb dX7_goClaims_75 (by decide) ?_
        refine lv_icmp_eq (tgt := 227) hx hb dX7_goClaims_76 (by decide) (fun c_18 => ?_) (fun c_18 => ?_)
        · refine lv_iinc (v := (nI (m9 + 1))) (lv' := [(2, .int (nI (m9 + 1))), (4, .int 0), (3, .int (-1)), (0, .ref h0), (1, .int (nI mm))]) hx hb dX7_goClaims_227 hl (k := 4) rfl (nI_1 _) (by decide) rfl (fun ls hl => ?_)
          refine lv_goto (tgt := 59) hx hb dX7_goClaims_230 (by decide) ?_
          exact ih (m9 + 1) fw9 fu9 fs9 fz9 _ _ _ (by omega) (by omega) (by assumption) ⟨hP, hD⟩ hS (lv_sub hl [3, 4, 0] rfl)
        · exact absurd c_18 (by decide)
      · rw [hvn_17] at ex_16
        subst ex_16
        refine lv_istore_n (lv' := [(3, .int (nI n_17)), (0, .ref h0), (1, .int (nI mm)), (2, .int (nI m9))]) hx hb dX7_goClaims_70 rfl hl (by decide) rfl (fun ls hl => ?_)
        refine lv_iconst (v := 0) hx hb dX7_goClaims_71 (by decide) ?_
        refine lv_istore (lv' := [(4, .int 0), (3, .int (nI n_17)), (0, .ref h0), (1, .int (nI mm)), (2, .int (nI m9))]) hx hb dX7_goClaims_72 hl (by decide) rfl (fun ls hl => ?_)
        refine sg_X7_goClaims_74 h0 b3 b4 b6 b7 b8 b9 b10 b11 b12 b13 b15 b16 b17 b18 b19 b20 b21 b34 b35 b37 b38 b39 b40 b41 i0 i1 mk rk nl tp i23 i24 i25 w26 i27 i28 i29 i30 i31 i32 i33 tm mm cC fc cL fl cK fk cP fp cN fn cG fg cW fw cU fu cS fs cZ fz m9 n_17 qmk qrk qm hC hL hN hPp hW hx hb hml hown hts hK hA (fun fw9_57 fu9_58 fs9_59 fz9_60 H locs ls hm hW9 hPD hS hl => ?_) ((20 - 0) + 1) 0 fw9 fu9 fs9 fz9 _ _ _ (Nat.lt_succ_self _) (by omega) (by omega) (by omega) (by assumption) ⟨hP, hD⟩ hS (lv_sub hl [2, 3, 4, 1, 0] rfl)
        obtain ⟨hP, hD⟩ := hPD
        refine lv_iinc (v := (nI (m9 + 1))) (lv' := [(2, .int (nI (m9 + 1))), (0, .ref h0), (1, .int (nI mm))]) hx hb dX7_goClaims_227 hl (k := 2) rfl (nI_1 _) (by decide) rfl (fun ls hl => ?_)
        refine lv_goto (tgt := 59) hx hb dX7_goClaims_230 (by decide) ?_
        exact ih (m9 + 1) fw9_57 fu9_58 fs9_59 fz9_60 _ _ _ (by omega) (by omega) (by assumption) ⟨hP, hD⟩ hS (lv_sub hl [1, 2, 0] rfl)
set_option maxHeartbeats 4000000 in
set_option maxRecDepth 100000 in
theorem sg_X7_goClaims_243 {p : Program} {l : Launch} {e : Env} {s : State} {m : MethodId} {args : Array Value} {below : List Frame} {meth : Method} {c : Code} {Q : State → Prop} {A : Nat → Prop} {dC : Nat → ClassId} {dI : Nat → Nat → Nat} (h0 : Nat) (b3 : Nat) (b4 : Nat) (b6 : Nat) (b7 : Nat) (b8 : Nat) (b9 : Nat) (b10 : Nat) (b11 : Nat) (b12 : Nat) (b13 : Nat) (b15 : Nat) (b16 : Nat) (b17 : Nat) (b18 : Nat) (b19 : Nat) (b20 : Nat) (b21 : Nat) (b34 : Nat) (b35 : Nat) (b37 : Nat) (b38 : Nat) (b39 : Nat) (b40 : Nat) (b41 : Nat) (i0 : Int32) (i1 : Int32) (mk : Nat) (rk : Nat) (nl : Nat) (tp : Nat) (i23 : Int32) (i24 : Int32) (i25 : Int32) (w26 : Int64) (i27 : Int32) (i28 : Int32) (i29 : Int32) (i30 : Int32) (i31 : Int32) (i32 : Int32) (i33 : Int32) (tm : Nat) (mm : Nat) (cC : ClassId) (fc : Nat → Int32) (cL : ClassId) (fl : Nat → Int32) (cK : ClassId) (fk : Nat → Int32) (cP : ClassId) (fp : Nat → Int32) (cN : ClassId) (fn : Nat → Int32) (cG : ClassId) (fg : Nat → Int64) (cW : ClassId) (fw : Nat → Int32) (cU : ClassId) (fu : Nat → Int32) (cS : ClassId) (fs : Nat → Int32) (cZ : ClassId) (fz : Nat → Int32) (z0 : Nat) (fw9 : Nat → Int32) (fu9 : Nat → Int32) (fs9 : Nat → Int32) (qmk : mk ≤ 30) (qrk : rk ≤ 40) (qm : mm < mk) (hC : okC fc mk rk) (hL : okB fl rk 21) (hN : okB fn 800 40) (hPp : okP fk fp 800) (hW : okC fw 480 800) (hx : p.tables.exec = Jvm.exec) (hb : c.code = cX7_goClaims) (hml : c.maxLocals = 7) (hown : s.vm.findClass RX7 = some m.cls) (hts : ∀ w ∈ wp_X7_goClaims, w.before args s = true) (hK : va_K (dC, dI) vwCl [(cC, .int), (cL, .int), (cK, .int), (cP, .int), (cN, .int), (cG, .long), (cW, .int), (cU, .int), (cS, .int), (cZ, .boolean)] s) (hA : ∀ q : Nat, s.heap.size ≤ q → A q) (kk_281 : ∀ (mo : Nat) (fz9 : Nat → Int32) (H : Heap) (locs : List Loc) (ls : Array Slot), (mo ≤ 1) → (zs fz9 40 ≤ z0) → (mo = 1 → zs fz9 40 < z0) → (okC fw9 480 800) → okPD (dC, dI) vwCl A [(h0, .inr (8, [.int i0, .int i1, .int (nI mk), .ref b3, .ref b4, .int (nI rk), .ref b6, .ref b7, .ref b8, .ref b9, .ref b10, .ref b11, .ref b12, .ref b13, .int (nI nl), .ref b15, .ref b16, .ref b17, .ref b18, .ref b19, .ref b20, .ref b21, .int (nI tp), .int i23, .int i24, .int i25, .long w26, .int i27, .int i28, .int i29, .int i30, .int i31, .int i32, .int i33, .ref b34, .ref b35, .int (nI tm), .ref b37, .ref b38, .ref b39, .ref b40, .ref b41])), (b4, .inl (cC, 30, .inl fc)), (b7, .inl (cL, 40, .inl fl)), (b8, .inl (cK, 800, .inl fk)), (b9, .inl (cP, 800, .inl fp)), (b11, .inl (cN, 800, .inl fn)), (b13, .inl (cG, 800, .inr (.inl fg))), (b37, .inl (cW, 480, .inl fw9)), (b38, .inl (cU, 480, .inl fu9)), (b39, .inl (cS, 40, .inl fs9)), (b40, .inl (cZ, 40, .inl fz9))] H → va_S A s.heap H locs → lv_has ls 7 [(0, .ref h0), (1, .int (nI mm)), (2, .int (nI mo))] → W p l e ({ frames := 1, cells := 0, slots := 0, locals := 40 } : Room) s m args below meth c H locs 0 0 Q (F0 m 281 ls [])) : ∀ (n : Nat) (mo : Nat) (c9 : Nat) (fz9 : Nat → Int32) (H : Heap) (locs : List Loc) (ls : Array Slot), 40 - c9 < n → (mo ≤ 1) → (c9 ≤ 40) → (zs fz9 40 ≤ z0) → (mo = 1 → zs fz9 40 < z0) → (okC fw9 480 800) → okPD (dC, dI) vwCl A [(h0, .inr (8, [.int i0, .int i1, .int (nI mk), .ref b3, .ref b4, .int (nI rk), .ref b6, .ref b7, .ref b8, .ref b9, .ref b10, .ref b11, .ref b12, .ref b13, .int (nI nl), .ref b15, .ref b16, .ref b17, .ref b18, .ref b19, .ref b20, .ref b21, .int (nI tp), .int i23, .int i24, .int i25, .long w26, .int i27, .int i28, .int i29, .int i30, .int i31, .int i32, .int i33, .ref b34, .ref b35, .int (nI tm), .ref b37, .ref b38, .ref b39, .ref b40, .ref b41])), (b4, .inl (cC, 30, .inl fc)), (b7, .inl (cL, 40, .inl fl)), (b8, .inl (cK, 800, .inl fk)), (b9, .inl (cP, 800, .inl fp)), (b11, .inl (cN, 800, .inl fn)), (b13, .inl (cG, 800, .inr (.inl fg))), (b37, .inl (cW, 480, .inl fw9)), (b38, .inl (cU, 480, .inl fu9)), (b39, .inl (cS, 40, .inl fs9)), (b40, .inl (cZ, 40, .inl fz9))] H → va_S A s.heap H locs → lv_has ls 7 [(0, .ref h0), (1, .int (nI mm)), (2, .int (nI mo)), (3, .int (nI c9))] → W p l e ({ frames := 1, cells := 0, slots := 0, locals := 40 } : Room) s m args below meth c H locs 0 0 Q (F0 m 243 ls []) := by
  have hinX7 : ∀ w ∈ u_ws RX7 TX7 42, w ∈ wp_X7_goClaims := fun _ h => List.mem_cons_of_mem _ (List.mem_append_left _ (List.mem_append_right _ h))
  intro n
  induction n with
  | zero =>
    intro mo c9 fz9 H locs ls hn
    exact absurd hn (Nat.not_lt_zero _)
  | succ n ih =>
    intro mo c9 fz9 H locs ls hn hmo hc9 hz1 hz2 hW9 hPD hS hl
    obtain ⟨hP, hD⟩ := hPD
    refine lv_iload_n hx hb dX7_goClaims_243 rfl (lv_at hl 3 rfl) ?_
    refine lv_bipush (v := 40) hx hb dX7_goClaims_244 (by decide) ?_
    refine lv_icmp_ge (tgt := 281) hx hb dX7_goClaims_246 (by decide) (fun c_66 => ?_) (fun c_66 => ?_)
    · have c_66 : 40 ≤ c9 := (nI_leI (a := 40) (b := c9) (by omega) (by omega)).mp c_66
      exact kk_281 mo fz9 _ _ _ (by omega) (by omega) hz2 (by assumption) ⟨hP, hD⟩ hS (lv_sub hl [0, 1, 2] rfl)
    · have c_66 : ¬ (40 ≤ c9) := fun h => c_66 ((nI_leI (a := 40) (b := c9) (by omega) (by omega)).mpr h)
      refine lv_aload_n hx hb dX7_goClaims_249 rfl (lv_at hl 0 rfl) ?_
      refine va_get (D := (dC, dI)) (ci := 8) (v := .ref b40) (C := RX7) (T := TX7) (N := 42) hx hb hts hinX7 hown hK hP 0 rfl rfl 40 (by decide) (hts (.fieldLink RX7 81 "AgreedTalksModel" "stands" "[Z") (by decide +kernel)) (fun _ h9 => h9) rfl dX7_goClaims_250 ?_
      refine lv_iload_n hx hb dX7_goClaims_253 rfl (lv_at hl 3 rfl) ?_
      refine va_zald hx hb hK hP 10 9 rfl rfl (vp_in_nI (by omega) (by omega)) dX7_goClaims_254 ?_
      refine lv_topi (fun x_67 ex_67 => ?_)
      rw [show (Int32.toNatClampNeg (nI c9)) = c9 from nI_clamp (by omega)] at ex_67
      refine lv_if_ne (tgt := 275) hx hb dX7_goClaims_255 (by decide) (fun c_68 => ?_) (fun c_68 => ?_)
      · refine lv_iinc (v := (nI (c9 + 1))) (lv' := [(3, .int (nI (c9 + 1))), (0, .ref h0), (1, .int (nI mm)), (2, .int (nI mo))]) hx hb dX7_goClaims_275 hl (k := 3) rfl (nI_1 _) (by decide) rfl (fun ls hl => ?_)
        refine lv_goto (tgt := 243) hx hb dX7_goClaims_278 (by decide) ?_
        exact ih mo (c9 + 1) fz9 _ _ _ (by omega) (by omega) (by omega) (by omega) (by intro h; omega) (by assumption) ⟨hP, hD⟩ hS (lv_sub hl [1, 2, 3, 0] rfl)
      · refine lv_aload_n hx hb dX7_goClaims_258 rfl (lv_at hl 0 rfl) ?_
        refine lv_iload_n hx hb dX7_goClaims_259 rfl (lv_at hl 3 rfl) ?_
        have hPc := hP.sub (ws' := [(h0, .inr (8, [.int i0, .int i1, .int (nI mk), .ref b3, .ref b4, .int (nI rk), .ref b6, .ref b7, .ref b8, .ref b9, .ref b10, .ref b11, .ref b12, .ref b13, .int (nI nl), .ref b15, .ref b16, .ref b17, .ref b18, .ref b19, .ref b20, .ref b21, .int (nI tp), .int i23, .int i24, .int i25, .long w26, .int i27, .int i28, .int i29, .int i30, .int i31, .int i32, .int i33, .ref b34, .ref b35, .int (nI tm), .ref b37, .ref b38, .ref b39, .ref b40, .ref b41])), (b37, .inl (cW, 480, .inl fw9)), (b8, .inl (cK, 800, .inl fk)), (b13, .inl (cG, 800, .inr (.inl fg))), (b40, .inl (cZ, 40, .inl fz9))]) [0, 7, 3, 6, 10] rfl
        have hDc := hD.sub (ws' := [(h0, .inr (8, [.int i0, .int i1, .int (nI mk), .ref b3, .ref b4, .int (nI rk), .ref b6, .ref b7, .ref b8, .ref b9, .ref b10, .ref b11, .ref b12, .ref b13, .int (nI nl), .ref b15, .ref b16, .ref b17, .ref b18, .ref b19, .ref b20, .ref b21, .int (nI tp), .int i23, .int i24, .int i25, .long w26, .int i27, .int i28, .int i29, .int i30, .int i31, .int i32, .int i33, .ref b34, .ref b35, .int (nI tm), .ref b37, .ref b38, .ref b39, .ref b40, .ref b41])), (b37, .inl (cW, 480, .inl fw9)), (b8, .inl (cK, 800, .inl fk)), (b13, .inl (cG, 800, .inr (.inl fg))), (b40, .inl (cZ, 40, .inl fz9))]) [0, 7, 3, 6, 10] (by decide) rfl
        have hKc := hK.sub (tys' := [(cW, .int), (cK, .int), (cG, .long), (cZ, .boolean)]) [6, 2, 5, 9] rfl
        have hFc := va_free (wc := [(h0, .inr (8, [.int i0, .int i1, .int (nI mk), .ref b3, .ref b4, .int (nI rk), .ref b6, .ref b7, .ref b8, .ref b9, .ref b10, .ref b11, .ref b12, .ref b13, .int (nI nl), .ref b15, .ref b16, .ref b17, .ref b18, .ref b19, .ref b20, .ref b21, .int (nI tp), .int i23, .int i24, .int i25, .long w26, .int i27, .int i28, .int i29, .int i30, .int i31, .int i32, .int i33, .ref b34, .ref b35, .int (nI tm), .ref b37, .ref b38, .ref b39, .ref b40, .ref b41])), (b37, .inl (cW, 480, .inl fw9)), (b8, .inl (cK, 800, .inl fk)), (b13, .inl (cG, 800, .inr (.inl fg))), (b40, .inl (cZ, 40, .inl fz9))]) hD hS hA [0, 7, 3, 6, 10] rfl
        refine va_calli (va_runV (As := [.int (nI c9)]) (rest := []) ⟨hx, hb, hml, hown, hts⟩ (c_X7_canStand l dC dI _ h0 b3 b4 b6 b7 b8 b9 b10 b11 b12 b13 b15 b16 b17 b18 b19 b20 b21 b34 b35 b37 b38 b39 b40 b41 i0 i1 mk rk nl tp i23 i24 i25 w26 i27 i28 i29 i30 i31 i32 i33 tm c9 cW fw9 cK fk cG fg cZ fz9 (by omega) (by assumption)) (cwV 1 hts gc_X7_goClaims_X7_canStand rfl rfl rfl (by decide +kernel) ⟨Nat.le_of_ble_eq_true rfl, Nat.le_of_ble_eq_true rfl⟩) ⟨fun a U g mk q => by obtain ⟨q0, q1, qP, qK, qD⟩ := q; exact ⟨q0, q1, qP, va_K.moved (u := U) (U := U.calling g mk a) (Vm.Alike.refl U.vm) qK, qD⟩, va_recv hKc hPc (ci := 8) (q0 := 0) rfl rfl, fun U hU hW => ⟨rfl, by rw [hU], by rw [hU]; exact hPc, va_K.moved hW.alike hKc, hDc.weaken (fun _ _ _ _ => trivial)⟩⟩ rfl rfl hl.1 rfl (lv_room (Nat.le_of_ble_eq_true rfl)) dX7_goClaims_260 ⟨Nat.zero_le _, Nat.zero_le _⟩) hS (fun q _ h => hFc q h) hFc (fun r_69 u t H1 locs ht hvm hw hB hz1 hk1 hS => ?_)
        obtain ⟨hP1, hK1, hD1⟩ := hB
        rw [ht] at hP1
        obtain ⟨hP, hD⟩ := va_join (wr := [(b4, .inl (cC, 30, .inl fc)), (b7, .inl (cL, 40, .inl fl)), (b9, .inl (cP, 800, .inl fp)), (b11, .inl (cN, 800, .inl fn)), (b38, .inl (cU, 480, .inl fu9)), (b39, .inl (cS, 40, .inl fs9))]) (w1 := [(h0, .inr (8, [.int i0, .int i1, .int (nI mk), .ref b3, .ref b4, .int (nI rk), .ref b6, .ref b7, .ref b8, .ref b9, .ref b10, .ref b11, .ref b12, .ref b13, .int (nI nl), .ref b15, .ref b16, .ref b17, .ref b18, .ref b19, .ref b20, .ref b21, .int (nI tp), .int i23, .int i24, .int i25, .long w26, .int i27, .int i28, .int i29, .int i30, .int i31, .int i32, .int i33, .ref b34, .ref b35, .int (nI tm), .ref b37, .ref b38, .ref b39, .ref b40, .ref b41])), (b37, .inl (cW, 480, .inl fw9)), (b8, .inl (cK, 800, .inl fk)), (b13, .inl (cG, 800, .inr (.inl fg))), (b40, .inl (cZ, 40, .inl fz9))]) hP hD [0, 7, 3, 6, 10] [1, 2, 4, 5, 8, 9] rfl rfl (by decide) (by decide) hk1 hFc hP1 hD1
        generalize H1 = H at hP hS ⊢
        have hP : va_P (dC, dI) vwCl [(b4, .inl (cC, 30, .inl fc)), (b7, .inl (cL, 40, .inl fl)), (b9, .inl (cP, 800, .inl fp)), (b11, .inl (cN, 800, .inl fn)), (b38, .inl (cU, 480, .inl fu9)), (b39, .inl (cS, 40, .inl fs9)), (h0, .inr (8, [.int i0, .int i1, .int (nI mk), .ref b3, .ref b4, .int (nI rk), .ref b6, .ref b7, .ref b8, .ref b9, .ref b10, .ref b11, .ref b12, .ref b13, .int (nI nl), .ref b15, .ref b16, .ref b17, .ref b18, .ref b19, .ref b20, .ref b21, .int (nI tp), .int i23, .int i24, .int i25, .long w26, .int i27, .int i28, .int i29, .int i30, .int i31, .int i32, .int i33, .ref b34, .ref b35, .int (nI tm), .ref b37, .ref b38, .ref b39, .ref b40, .ref b41])), (b37, .inl (cW, 480, .inl fw9)), (b8, .inl (cK, 800, .inl fk)), (b13, .inl (cG, 800, .inr (.inl fg))), (b40, .inl (cZ, 40, .inl fz9))] H := hP
        have hD : va_D A [(b4, .inl (cC, 30, .inl fc)), (b7, .inl (cL, 40, .inl fl)), (b9, .inl (cP, 800, .inl fp)), (b11, .inl (cN, 800, .inl fn)), (b38, .inl (cU, 480, .inl fu9)), (b39, .inl (cS, 40, .inl fs9)), (h0, .inr (8, [.int i0, .int i1, .int (nI mk), .ref b3, .ref b4, .int (nI rk), .ref b6, .ref b7, .ref b8, .ref b9, .ref b10, .ref b11, .ref b12, .ref b13, .int (nI nl), .ref b15, .ref b16, .ref b17, .ref b18, .ref b19, .ref b20, .ref b21, .int (nI tp), .int i23, .int i24, .int i25, .long w26, .int i27, .int i28, .int i29, .int i30, .int i31, .int i32, .int i33, .ref b34, .ref b35, .int (nI tm), .ref b37, .ref b38, .ref b39, .ref b40, .ref b41])), (b37, .inl (cW, 480, .inl fw9)), (b8, .inl (cK, 800, .inl fk)), (b13, .inl (cG, 800, .inr (.inl fg))), (b40, .inl (cZ, 40, .inl fz9))] := hD
        have hr_69 := hw
        try dsimp only at hr_69
        refine lv_if_eq (tgt := 275) hx hb dX7_goClaims_263 (by decide) (fun c_70 => ?_) (fun c_70 => ?_)
        · refine lv_iinc (v := (nI (c9 + 1))) (lv' := [(3, .int (nI (c9 + 1))), (0, .ref h0), (1, .int (nI mm)), (2, .int (nI mo))]) hx hb dX7_goClaims_275 hl (k := 3) rfl (nI_1 _) (by decide) rfl (fun ls hl => ?_)
          refine lv_goto (tgt := 243) hx hb dX7_goClaims_278 (by decide) ?_
          exact ih mo (c9 + 1) fz9 _ _ _ (by omega) (by omega) (by omega) (by omega) (by intro h; omega) (by assumption) ⟨(hP.sub [6, 0, 1, 8, 2, 3, 9, 7, 4, 5, 10] rfl), (hD.sub [6, 0, 1, 8, 2, 3, 9, 7, 4, 5, 10] (by decide) rfl)⟩ hS (lv_sub hl [1, 2, 3, 0] rfl)
        · refine lv_aload_n hx hb dX7_goClaims_266 rfl (lv_at hl 0 rfl) ?_
          refine va_get (D := (dC, dI)) (ci := 8) (v := .ref b40) (C := RX7) (T := TX7) (N := 42) hx hb hts hinX7 hown hK hP 6 rfl rfl 40 (by decide) (hts (.fieldLink RX7 81 "AgreedTalksModel" "stands" "[Z") (by decide +kernel)) (fun _ h9 => h9) rfl dX7_goClaims_267 ?_
          refine lv_iload_n hx hb dX7_goClaims_270 rfl (lv_at hl 3 rfl) ?_
          refine lv_iconst (v := 1) hx hb dX7_goClaims_271 (by decide) ?_
          refine va_zast hx hb hK hP hD hS 10 9 rfl rfl (vp_in_nI (by omega) (by omega)) dX7_goClaims_272 (fun H locs hP hD hS => ?_)
          have hP : va_P (dC, dI) vwCl [(b4, .inl (cC, 30, .inl fc)), (b7, .inl (cL, 40, .inl fl)), (b9, .inl (cP, 800, .inl fp)), (b11, .inl (cN, 800, .inl fn)), (b38, .inl (cU, 480, .inl fu9)), (b39, .inl (cS, 40, .inl fs9)), (h0, .inr (8, [.int i0, .int i1, .int (nI mk), .ref b3, .ref b4, .int (nI rk), .ref b6, .ref b7, .ref b8, .ref b9, .ref b10, .ref b11, .ref b12, .ref b13, .int (nI nl), .ref b15, .ref b16, .ref b17, .ref b18, .ref b19, .ref b20, .ref b21, .int (nI tp), .int i23, .int i24, .int i25, .long w26, .int i27, .int i28, .int i29, .int i30, .int i31, .int i32, .int i33, .ref b34, .ref b35, .int (nI tm), .ref b37, .ref b38, .ref b39, .ref b40, .ref b41])), (b37, .inl (cW, 480, .inl fw9)), (b8, .inl (cK, 800, .inl fk)), (b13, .inl (cG, 800, .inr (.inl fg))), (b40, .inl (cZ, 40, .inl (upd fz9 (Int32.toNatClampNeg (nI c9)) (vp_nar .boolean 1))))] H := hP
          have hD : va_D A [(b4, .inl (cC, 30, .inl fc)), (b7, .inl (cL, 40, .inl fl)), (b9, .inl (cP, 800, .inl fp)), (b11, .inl (cN, 800, .inl fn)), (b38, .inl (cU, 480, .inl fu9)), (b39, .inl (cS, 40, .inl fs9)), (h0, .inr (8, [.int i0, .int i1, .int (nI mk), .ref b3, .ref b4, .int (nI rk), .ref b6, .ref b7, .ref b8, .ref b9, .ref b10, .ref b11, .ref b12, .ref b13, .int (nI nl), .ref b15, .ref b16, .ref b17, .ref b18, .ref b19, .ref b20, .ref b21, .int (nI tp), .int i23, .int i24, .int i25, .long w26, .int i27, .int i28, .int i29, .int i30, .int i31, .int i32, .int i33, .ref b34, .ref b35, .int (nI tm), .ref b37, .ref b38, .ref b39, .ref b40, .ref b41])), (b37, .inl (cW, 480, .inl fw9)), (b8, .inl (cK, 800, .inl fk)), (b13, .inl (cG, 800, .inr (.inl fg))), (b40, .inl (cZ, 40, .inl (upd fz9 (Int32.toNatClampNeg (nI c9)) (vp_nar .boolean 1))))] := hD
          generalize ef_71 : upd fz9 (Int32.toNatClampNeg (nI c9)) (vp_nar .boolean 1) = f_71 at hP hD
          rw [show Int32.toNatClampNeg (nI c9) = c9 from nI_clamp (by omega)] at ef_71
          have hzs : zs f_71 40 + 1 = zs fz9 40 := by rw [← ef_71, show vp_nar .boolean 1 = 1 from rfl]; exact zs_up (by rw [← ex_67]; exact c_68) (by decide) 40 (by omega)
          refine lv_iconst (v := 1) hx hb dX7_goClaims_273 (by decide) ?_
          refine lv_istore_n (lv' := [(2, .int 1), (0, .ref h0), (1, .int (nI mm)), (3, .int (nI c9))]) hx hb dX7_goClaims_274 rfl hl (by decide) rfl (fun ls hl => ?_)
          refine lv_iinc (v := (nI (c9 + 1))) (lv' := [(3, .int (nI (c9 + 1))), (2, .int 1), (0, .ref h0), (1, .int (nI mm))]) hx hb dX7_goClaims_275 hl (k := 3) rfl (nI_1 _) (by decide) rfl (fun ls hl => ?_)
          refine lv_goto (tgt := 243) hx hb dX7_goClaims_278 (by decide) ?_
          exact ih 1 (c9 + 1) f_71 _ _ _ (by omega) (by omega) (by omega) (by omega) (by intro h; omega) (by assumption) ⟨(hP.sub [6, 0, 1, 8, 2, 3, 9, 7, 4, 5, 10] rfl), (hD.sub [6, 0, 1, 8, 2, 3, 9, 7, 4, 5, 10] (by decide) rfl)⟩ hS (lv_sub hl [2, 3, 1, 0] rfl)
set_option maxHeartbeats 4000000 in
set_option maxRecDepth 100000 in
theorem sg_X7_goClaims_235 {p : Program} {l : Launch} {e : Env} {s : State} {m : MethodId} {args : Array Value} {below : List Frame} {meth : Method} {c : Code} {Q : State → Prop} {A : Nat → Prop} {dC : Nat → ClassId} {dI : Nat → Nat → Nat} (h0 : Nat) (b3 : Nat) (b4 : Nat) (b6 : Nat) (b7 : Nat) (b8 : Nat) (b9 : Nat) (b10 : Nat) (b11 : Nat) (b12 : Nat) (b13 : Nat) (b15 : Nat) (b16 : Nat) (b17 : Nat) (b18 : Nat) (b19 : Nat) (b20 : Nat) (b21 : Nat) (b34 : Nat) (b35 : Nat) (b37 : Nat) (b38 : Nat) (b39 : Nat) (b40 : Nat) (b41 : Nat) (i0 : Int32) (i1 : Int32) (mk : Nat) (rk : Nat) (nl : Nat) (tp : Nat) (i23 : Int32) (i24 : Int32) (i25 : Int32) (w26 : Int64) (i27 : Int32) (i28 : Int32) (i29 : Int32) (i30 : Int32) (i31 : Int32) (i32 : Int32) (i33 : Int32) (tm : Nat) (mm : Nat) (cC : ClassId) (fc : Nat → Int32) (cL : ClassId) (fl : Nat → Int32) (cK : ClassId) (fk : Nat → Int32) (cP : ClassId) (fp : Nat → Int32) (cN : ClassId) (fn : Nat → Int32) (cG : ClassId) (fg : Nat → Int64) (cW : ClassId) (fw : Nat → Int32) (cU : ClassId) (fu : Nat → Int32) (cS : ClassId) (fs : Nat → Int32) (cZ : ClassId) (fz : Nat → Int32) (fw9 : Nat → Int32) (fu9 : Nat → Int32) (fs9 : Nat → Int32) (qmk : mk ≤ 30) (qrk : rk ≤ 40) (qm : mm < mk) (hC : okC fc mk rk) (hL : okB fl rk 21) (hN : okB fn 800 40) (hPp : okP fk fp 800) (hW : okC fw 480 800) (hx : p.tables.exec = Jvm.exec) (hb : c.code = cX7_goClaims) (hml : c.maxLocals = 7) (hown : s.vm.findClass RX7 = some m.cls) (hts : ∀ w ∈ wp_X7_goClaims, w.before args s = true) (hK : va_K (dC, dI) vwCl [(cC, .int), (cL, .int), (cK, .int), (cP, .int), (cN, .int), (cG, .long), (cW, .int), (cU, .int), (cS, .int), (cZ, .boolean)] s) (hA : ∀ q : Nat, s.heap.size ≤ q → A q) (kk_284 : ∀ (fz9 : Nat → Int32) (H : Heap) (locs : List Loc) (ls : Array Slot), (okC fw9 480 800) → okPD (dC, dI) vwCl A [(h0, .inr (8, [.int i0, .int i1, .int (nI mk), .ref b3, .ref b4, .int (nI rk), .ref b6, .ref b7, .ref b8, .ref b9, .ref b10, .ref b11, .ref b12, .ref b13, .int (nI nl), .ref b15, .ref b16, .ref b17, .ref b18, .ref b19, .ref b20, .ref b21, .int (nI tp), .int i23, .int i24, .int i25, .long w26, .int i27, .int i28, .int i29, .int i30, .int i31, .int i32, .int i33, .ref b34, .ref b35, .int (nI tm), .ref b37, .ref b38, .ref b39, .ref b40, .ref b41])), (b4, .inl (cC, 30, .inl fc)), (b7, .inl (cL, 40, .inl fl)), (b8, .inl (cK, 800, .inl fk)), (b9, .inl (cP, 800, .inl fp)), (b11, .inl (cN, 800, .inl fn)), (b13, .inl (cG, 800, .inr (.inl fg))), (b37, .inl (cW, 480, .inl fw9)), (b38, .inl (cU, 480, .inl fu9)), (b39, .inl (cS, 40, .inl fs9)), (b40, .inl (cZ, 40, .inl fz9))] H → va_S A s.heap H locs → lv_has ls 7 [(0, .ref h0), (1, .int (nI mm))] → W p l e ({ frames := 1, cells := 0, slots := 0, locals := 40 } : Room) s m args below meth c H locs 0 0 Q (F0 m 284 ls [])) : ∀ (n : Nat) (mo : Nat) (fz9 : Nat → Int32) (H : Heap) (locs : List Loc) (ls : Array Slot), 2 * zs fz9 40 + mo < n → (mo ≤ 1) → (okC fw9 480 800) → okPD (dC, dI) vwCl A [(h0, .inr (8, [.int i0, .int i1, .int (nI mk), .ref b3, .ref b4, .int (nI rk), .ref b6, .ref b7, .ref b8, .ref b9, .ref b10, .ref b11, .ref b12, .ref b13, .int (nI nl), .ref b15, .ref b16, .ref b17, .ref b18, .ref b19, .ref b20, .ref b21, .int (nI tp), .int i23, .int i24, .int i25, .long w26, .int i27, .int i28, .int i29, .int i30, .int i31, .int i32, .int i33, .ref b34, .ref b35, .int (nI tm), .ref b37, .ref b38, .ref b39, .ref b40, .ref b41])), (b4, .inl (cC, 30, .inl fc)), (b7, .inl (cL, 40, .inl fl)), (b8, .inl (cK, 800, .inl fk)), (b9, .inl (cP, 800, .inl fp)), (b11, .inl (cN, 800, .inl fn)), (b13, .inl (cG, 800, .inr (.inl fg))), (b37, .inl (cW, 480, .inl fw9)), (b38, .inl (cU, 480, .inl fu9)), (b39, .inl (cS, 40, .inl fs9)), (b40, .inl (cZ, 40, .inl fz9))] H → va_S A s.heap H locs → lv_has ls 7 [(0, .ref h0), (1, .int (nI mm)), (2, .int (nI mo))] → W p l e ({ frames := 1, cells := 0, slots := 0, locals := 40 } : Room) s m args below meth c H locs 0 0 Q (F0 m 235 ls []) := by
  have hinX7 : ∀ w ∈ u_ws RX7 TX7 42, w ∈ wp_X7_goClaims := fun _ h => List.mem_cons_of_mem _ (List.mem_append_left _ (List.mem_append_right _ h))
  intro n
  induction n with
  | zero =>
    intro mo fz9 H locs ls hn
    exact absurd hn (Nat.not_lt_zero _)
  | succ n ih =>
    intro mo fz9 H locs ls hn hmo hW9 hPD hS hl
    obtain ⟨hP, hD⟩ := hPD
    refine lv_iload_n hx hb dX7_goClaims_235 rfl (lv_at hl 2 rfl) ?_
    refine lv_if_eq (tgt := 284) hx hb dX7_goClaims_236 (by decide) (fun c_65 => ?_) (fun c_65 => ?_)
    · have c_65 : mo = 0 := (nI_eq (a := mo) (b := 0) (by omega) (by omega)).mp c_65
      exact kk_284 fz9 _ _ _ (by assumption) ⟨hP, hD⟩ hS (lv_sub hl [0, 1] rfl)
    · have c_65 : ¬ (mo = 0) := fun h => c_65 ((nI_eq (a := mo) (b := 0) (by omega) (by omega)).mpr h)
      refine lv_iconst (v := 0) hx hb dX7_goClaims_239 (by decide) ?_
      refine lv_istore_n (lv' := [(2, .int 0), (0, .ref h0), (1, .int (nI mm))]) hx hb dX7_goClaims_240 rfl hl (by decide) rfl (fun ls hl => ?_)
      refine lv_iconst (v := 0) hx hb dX7_goClaims_241 (by decide) ?_
      refine lv_istore_n (lv' := [(3, .int 0), (2, .int 0), (0, .ref h0), (1, .int (nI mm))]) hx hb dX7_goClaims_242 rfl hl (by decide) rfl (fun ls hl => ?_)
      refine sg_X7_goClaims_243 h0 b3 b4 b6 b7 b8 b9 b10 b11 b12 b13 b15 b16 b17 b18 b19 b20 b21 b34 b35 b37 b38 b39 b40 b41 i0 i1 mk rk nl tp i23 i24 i25 w26 i27 i28 i29 i30 i31 i32 i33 tm mm cC fc cL fl cK fk cP fp cN fn cG fg cW fw cU fu cS fs cZ fz (zs fz9 40) fw9 fu9 fs9 qmk qrk qm hC hL hN hPp hW hx hb hml hown hts hK hA (fun mo_72 fz9_73 H locs ls hmo hz1 hz2 hW9 hPD hS hl => ?_) ((40 - 0) + 1) 0 0 fz9 _ _ _ (Nat.lt_succ_self _) (by omega) (by omega) (by omega) (by intro h; omega) (by assumption) ⟨hP, hD⟩ hS (lv_sub hl [2, 3, 1, 0] rfl)
      obtain ⟨hP, hD⟩ := hPD
      refine lv_goto (tgt := 235) hx hb dX7_goClaims_281 (by decide) ?_
      exact ih mo_72 fz9_73 _ _ _ (by omega) (by omega) (by assumption) ⟨hP, hD⟩ hS (lv_sub hl [0, 1, 2] rfl)
set_option maxHeartbeats 4000000 in
set_option maxRecDepth 100000 in
/-- goClaims -/
theorem c_X7_goClaims (l : Launch) (dC : Nat → ClassId) (dI : Nat → Nat → Nat) (sz : Nat) (h0 : Nat) (b3 : Nat) (b4 : Nat) (b6 : Nat) (b7 : Nat) (b8 : Nat) (b9 : Nat) (b10 : Nat) (b11 : Nat) (b12 : Nat) (b13 : Nat) (b15 : Nat) (b16 : Nat) (b17 : Nat) (b18 : Nat) (b19 : Nat) (b20 : Nat) (b21 : Nat) (b34 : Nat) (b35 : Nat) (b37 : Nat) (b38 : Nat) (b39 : Nat) (b40 : Nat) (b41 : Nat) (i0 : Int32) (i1 : Int32) (mk : Nat) (rk : Nat) (nl : Nat) (tp : Nat) (i23 : Int32) (i24 : Int32) (i25 : Int32) (w26 : Int64) (i27 : Int32) (i28 : Int32) (i29 : Int32) (i30 : Int32) (i31 : Int32) (i32 : Int32) (i33 : Int32) (tm : Nat) (mm : Nat) (cC : ClassId) (fc : Nat → Int32) (cL : ClassId) (fl : Nat → Int32) (cK : ClassId) (fk : Nat → Int32) (cP : ClassId) (fp : Nat → Int32) (cN : ClassId) (fn : Nat → Int32) (cG : ClassId) (fg : Nat → Int64) (cW : ClassId) (fw : Nat → Int32) (cU : ClassId) (fu : Nat → Int32) (cS : ClassId) (fs : Nat → Int32) (cZ : ClassId) (fz : Nat → Int32) (qmk : mk ≤ 30) (qrk : rk ≤ 40) (qm : mm < mk) (hC : okC fc mk rk) (hL : okB fl rk 21) (hN : okB fn 800 40) (hPp : okP fk fp 800) (hW : okC fw 480 800) : Met l yX7_goClaims wp_X7_goClaims ({ frames := 1, cells := 0, slots := 0, locals := 40 }) (va_Pc [.ref h0, .int (nI mm)] (fun U => U.heap.size = sz ∧ va_P (dC, dI) vwCl [(h0, .inr (8, [.int i0, .int i1, .int (nI mk), .ref b3, .ref b4, .int (nI rk), .ref b6, .ref b7, .ref b8, .ref b9, .ref b10, .ref b11, .ref b12, .ref b13, .int (nI nl), .ref b15, .ref b16, .ref b17, .ref b18, .ref b19, .ref b20, .ref b21, .int (nI tp), .int i23, .int i24, .int i25, .long w26, .int i27, .int i28, .int i29, .int i30, .int i31, .int i32, .int i33, .ref b34, .ref b35, .int (nI tm), .ref b37, .ref b38, .ref b39, .ref b40, .ref b41])), (b4, .inl (cC, 30, .inl fc)), (b7, .inl (cL, 40, .inl fl)), (b8, .inl (cK, 800, .inl fk)), (b9, .inl (cP, 800, .inl fp)), (b11, .inl (cN, 800, .inl fn)), (b13, .inl (cG, 800, .inr (.inl fg))), (b37, .inl (cW, 480, .inl fw)), (b38, .inl (cU, 480, .inl fu)), (b39, .inl (cS, 40, .inl fs)), (b40, .inl (cZ, 40, .inl fz))] U.heap ∧ va_K (dC, dI) vwCl [(cC, .int), (cL, .int), (cK, .int), (cP, .int), (cN, .int), (cG, .long), (cW, .int), (cU, .int), (cS, .int), (cZ, .boolean)] U ∧ va_D (fun _ => True) [(h0, .inr (8, [.int i0, .int i1, .int (nI mk), .ref b3, .ref b4, .int (nI rk), .ref b6, .ref b7, .ref b8, .ref b9, .ref b10, .ref b11, .ref b12, .ref b13, .int (nI nl), .ref b15, .ref b16, .ref b17, .ref b18, .ref b19, .ref b20, .ref b21, .int (nI tp), .int i23, .int i24, .int i25, .long w26, .int i27, .int i28, .int i29, .int i30, .int i31, .int i32, .int i33, .ref b34, .ref b35, .int (nI tm), .ref b37, .ref b38, .ref b39, .ref b40, .ref b41])), (b4, .inl (cC, 30, .inl fc)), (b7, .inl (cL, 40, .inl fl)), (b8, .inl (cK, 800, .inl fk)), (b9, .inl (cP, 800, .inl fp)), (b11, .inl (cN, 800, .inl fn)), (b13, .inl (cG, 800, .inr (.inl fg))), (b37, .inl (cW, 480, .inl fw)), (b38, .inl (cU, 480, .inl fu)), (b39, .inl (cS, 40, .inl fs)), (b40, .inl (cZ, 40, .inl fz))])) (va_Qv (fun (_ : Unit) => True) (fun (_ : Unit) (t : State) => ∃ (gw : Nat → Int32), ∃ (gu : Nat → Int32), ∃ (gs : Nat → Int32), ∃ (gz : Nat → Int32), (okC gw 480 800) ∧ va_P (dC, dI) vwCl [(h0, .inr (8, [.int i0, .int i1, .int (nI mk), .ref b3, .ref b4, .int (nI rk), .ref b6, .ref b7, .ref b8, .ref b9, .ref b10, .ref b11, .ref b12, .ref b13, .int (nI nl), .ref b15, .ref b16, .ref b17, .ref b18, .ref b19, .ref b20, .ref b21, .int (nI tp), .int i23, .int i24, .int i25, .long w26, .int i27, .int i28, .int i29, .int i30, .int i31, .int i32, .int i33, .ref b34, .ref b35, .int (nI tm), .ref b37, .ref b38, .ref b39, .ref b40, .ref b41])), (b4, .inl (cC, 30, .inl fc)), (b7, .inl (cL, 40, .inl fl)), (b8, .inl (cK, 800, .inl fk)), (b9, .inl (cP, 800, .inl fp)), (b11, .inl (cN, 800, .inl fn)), (b13, .inl (cG, 800, .inr (.inl fg))), (b37, .inl (cW, 480, .inl gw)), (b38, .inl (cU, 480, .inl gu)), (b39, .inl (cS, 40, .inl gs)), (b40, .inl (cZ, 40, .inl gz))] t.heap ∧ va_K (dC, dI) vwCl [(cC, .int), (cL, .int), (cK, .int), (cP, .int), (cN, .int), (cG, .long), (cW, .int), (cU, .int), (cS, .int), (cZ, .boolean)] t ∧ va_D (va_A [(h0, .inr (8, [.int i0, .int i1, .int (nI mk), .ref b3, .ref b4, .int (nI rk), .ref b6, .ref b7, .ref b8, .ref b9, .ref b10, .ref b11, .ref b12, .ref b13, .int (nI nl), .ref b15, .ref b16, .ref b17, .ref b18, .ref b19, .ref b20, .ref b21, .int (nI tp), .int i23, .int i24, .int i25, .long w26, .int i27, .int i28, .int i29, .int i30, .int i31, .int i32, .int i33, .ref b34, .ref b35, .int (nI tm), .ref b37, .ref b38, .ref b39, .ref b40, .ref b41])), (b4, .inl (cC, 30, .inl fc)), (b7, .inl (cL, 40, .inl fl)), (b8, .inl (cK, 800, .inl fk)), (b9, .inl (cP, 800, .inl fp)), (b11, .inl (cN, 800, .inl fn)), (b13, .inl (cG, 800, .inr (.inl fg))), (b37, .inl (cW, 480, .inl fw)), (b38, .inl (cU, 480, .inl fu)), (b39, .inl (cS, 40, .inl fs)), (b40, .inl (cZ, 40, .inl fz))] sz) [(h0, .inr (8, [.int i0, .int i1, .int (nI mk), .ref b3, .ref b4, .int (nI rk), .ref b6, .ref b7, .ref b8, .ref b9, .ref b10, .ref b11, .ref b12, .ref b13, .int (nI nl), .ref b15, .ref b16, .ref b17, .ref b18, .ref b19, .ref b20, .ref b21, .int (nI tp), .int i23, .int i24, .int i25, .long w26, .int i27, .int i28, .int i29, .int i30, .int i31, .int i32, .int i33, .ref b34, .ref b35, .int (nI tm), .ref b37, .ref b38, .ref b39, .ref b40, .ref b41])), (b4, .inl (cC, 30, .inl fc)), (b7, .inl (cL, 40, .inl fl)), (b8, .inl (cK, 800, .inl fk)), (b9, .inl (cP, 800, .inl fp)), (b11, .inl (cN, 800, .inl fn)), (b13, .inl (cG, 800, .inr (.inl fg))), (b37, .inl (cW, 480, .inl gw)), (b38, .inl (cU, 480, .inl gu)), (b39, .inl (cS, 40, .inl gs)), (b40, .inl (cZ, 40, .inl gz))]) (va_A [(h0, .inr (8, [.int i0, .int i1, .int (nI mk), .ref b3, .ref b4, .int (nI rk), .ref b6, .ref b7, .ref b8, .ref b9, .ref b10, .ref b11, .ref b12, .ref b13, .int (nI nl), .ref b15, .ref b16, .ref b17, .ref b18, .ref b19, .ref b20, .ref b21, .int (nI tp), .int i23, .int i24, .int i25, .long w26, .int i27, .int i28, .int i29, .int i30, .int i31, .int i32, .int i33, .ref b34, .ref b35, .int (nI tm), .ref b37, .ref b38, .ref b39, .ref b40, .ref b41])), (b4, .inl (cC, 30, .inl fc)), (b7, .inl (cL, 40, .inl fl)), (b8, .inl (cK, 800, .inl fk)), (b9, .inl (cP, 800, .inl fp)), (b11, .inl (cN, 800, .inl fn)), (b13, .inl (cG, 800, .inr (.inl fg))), (b37, .inl (cW, 480, .inl fw)), (b38, .inl (cU, 480, .inl fu)), (b39, .inl (cS, 40, .inl fs)), (b40, .inl (cZ, 40, .inl fz))] sz)) 0 0 (va_A [(h0, .inr (8, [.int i0, .int i1, .int (nI mk), .ref b3, .ref b4, .int (nI rk), .ref b6, .ref b7, .ref b8, .ref b9, .ref b10, .ref b11, .ref b12, .ref b13, .int (nI nl), .ref b15, .ref b16, .ref b17, .ref b18, .ref b19, .ref b20, .ref b21, .int (nI tp), .int i23, .int i24, .int i25, .long w26, .int i27, .int i28, .int i29, .int i30, .int i31, .int i32, .int i33, .ref b34, .ref b35, .int (nI tm), .ref b37, .ref b38, .ref b39, .ref b40, .ref b41])), (b4, .inl (cC, 30, .inl fc)), (b7, .inl (cL, 40, .inl fl)), (b8, .inl (cK, 800, .inl fk)), (b9, .inl (cP, 800, .inl fp)), (b11, .inl (cN, 800, .inl fn)), (b13, .inl (cG, 800, .inr (.inl fg))), (b37, .inl (cW, 480, .inl fw)), (b38, .inl (cU, 480, .inl fu)), (b39, .inl (cS, 40, .inl fs)), (b40, .inl (cZ, 40, .inl fz))] sz) := by
  refine Met.ofW (cc := cX7_goClaims) (maxL := 7) (ret := none) (by decide) rfl ?_
  intro p e s m args below meth c s₁ B hml hv
  obtain ⟨rfl, hsz, hP, hK, hD0⟩ := hv
  have hx := B.exec
  have hb := B.bytes
  have hr := B.returns
  have hts := atoms_spec (ws := wp_X7_goClaims) B.pre
  have hown : s.vm.findClass RX7 = some m.cls := findClass_of_methodNamed B.named
  have hlocks := B.notSynchronized
  subst hsz
  have hD := hD0.self (sz := s.heap.size)
  generalize hAe : va_A [(h0, .inr (8, [.int i0, .int i1, .int (nI mk), .ref b3, .ref b4, .int (nI rk), .ref b6, .ref b7, .ref b8, .ref b9, .ref b10, .ref b11, .ref b12, .ref b13, .int (nI nl), .ref b15, .ref b16, .ref b17, .ref b18, .ref b19, .ref b20, .ref b21, .int (nI tp), .int i23, .int i24, .int i25, .long w26, .int i27, .int i28, .int i29, .int i30, .int i31, .int i32, .int i33, .ref b34, .ref b35, .int (nI tm), .ref b37, .ref b38, .ref b39, .ref b40, .ref b41])), (b4, .inl (cC, 30, .inl fc)), (b7, .inl (cL, 40, .inl fl)), (b8, .inl (cK, 800, .inl fk)), (b9, .inl (cP, 800, .inl fp)), (b11, .inl (cN, 800, .inl fn)), (b13, .inl (cG, 800, .inr (.inl fg))), (b37, .inl (cW, 480, .inl fw)), (b38, .inl (cU, 480, .inl fu)), (b39, .inl (cS, 40, .inl fs)), (b40, .inl (cZ, 40, .inl fz))] s.heap.size = A at hD ⊢
  have hA : ∀ q : Nat, s.heap.size ≤ q → A q := fun q h => by rw [← hAe]; exact Or.inr h
  have hS : va_S A s.heap s.heap [] := va_S.rf
  have hP : va_P (dC, dI) vwCl [(h0, .inr (8, [.int i0, .int i1, .int (nI mk), .ref b3, .ref b4, .int (nI rk), .ref b6, .ref b7, .ref b8, .ref b9, .ref b10, .ref b11, .ref b12, .ref b13, .int (nI nl), .ref b15, .ref b16, .ref b17, .ref b18, .ref b19, .ref b20, .ref b21, .int (nI tp), .int i23, .int i24, .int i25, .long w26, .int i27, .int i28, .int i29, .int i30, .int i31, .int i32, .int i33, .ref b34, .ref b35, .int (nI tm), .ref b37, .ref b38, .ref b39, .ref b40, .ref b41])), (b4, .inl (cC, 30, .inl fc)), (b7, .inl (cL, 40, .inl fl)), (b8, .inl (cK, 800, .inl fk)), (b9, .inl (cP, 800, .inl fp)), (b11, .inl (cN, 800, .inl fn)), (b13, .inl (cG, 800, .inr (.inl fg))), (b37, .inl (cW, 480, .inl fw)), (b38, .inl (cU, 480, .inl fu)), (b39, .inl (cS, 40, .inl fs)), (b40, .inl (cZ, 40, .inl fz))] s.heap := hP
  have hl := lv_entry ([.ref h0, .int (nI mm)]) (n := 7) (Nat.le_of_ble_eq_true rfl)
  rw [lg_entry_eq]
  generalize (lg_sl ([.ref h0, .int (nI mm)]) ++ List.replicate (7 - (lg_sl ([.ref h0, .int (nI mm)])).length) Slot.unset).toArray = ls at hl ⊢
  have hl : lv_has ls 7 [(0, .ref h0), (1, .int (nI mm))] := hl
  have hinX7 : ∀ w ∈ u_ws RX7 TX7 42, w ∈ wp_X7_goClaims := fun _ h => List.mem_cons_of_mem _ (List.mem_append_left _ (List.mem_append_right _ h))
  refine lv_iconst (v := 0) hx hb dX7_goClaims_0 (by decide) ?_
  refine lv_istore_n (lv' := [(2, .int 0), (0, .ref h0), (1, .int (nI mm))]) hx hb dX7_goClaims_1 rfl hl (by decide) rfl (fun ls hl => ?_)
  refine sg_X7_goClaims_2 h0 b3 b4 b6 b7 b8 b9 b10 b11 b12 b13 b15 b16 b17 b18 b19 b20 b21 b34 b35 b37 b38 b39 b40 b41 i0 i1 mk rk nl tp i23 i24 i25 w26 i27 i28 i29 i30 i31 i32 i33 tm mm cC fc cL fl cK fk cP fp cN fn cG fg cW fw cU fu cS fs cZ fz qmk qrk qm hC hL hN hPp hW hx hb hml hown hts hK hA (fun fw9_4 fu9_5 fs9_6 fz9_7 H locs ls hW9 hPD hS hl => ?_) ((480 - 0) + 1) 0 fw fu fs fz _ _ _ (Nat.lt_succ_self _) (by omega) (by assumption) ⟨hP, hD⟩ hS (lv_sub hl [1, 2, 0] rfl)
  obtain ⟨hP, hD⟩ := hPD
  refine lv_iconst (v := 0) hx hb dX7_goClaims_29 (by decide) ?_
  refine lv_istore_n (lv' := [(2, .int 0), (0, .ref h0), (1, .int (nI mm))]) hx hb dX7_goClaims_30 rfl hl (by decide) rfl (fun ls hl => ?_)
  refine sg_X7_goClaims_31 h0 b3 b4 b6 b7 b8 b9 b10 b11 b12 b13 b15 b16 b17 b18 b19 b20 b21 b34 b35 b37 b38 b39 b40 b41 i0 i1 mk rk nl tp i23 i24 i25 w26 i27 i28 i29 i30 i31 i32 i33 tm mm cC fc cL fl cK fk cP fp cN fn cG fg cW fw cU fu cS fs cZ fz qmk qrk qm hC hL hN hPp hW hx hb hml hown hts hK hA (fun fw9_11 fu9_12 fs9_13 fz9_14 H locs ls hW9 hPD hS hl => ?_) ((40 - 0) + 1) 0 fw9_4 fu9_5 fs9_6 fz9_7 _ _ _ (Nat.lt_succ_self _) (by omega) (by assumption) ⟨hP, hD⟩ hS (lv_sub hl [1, 2, 0] rfl)
  obtain ⟨hP, hD⟩ := hPD
  refine lv_iconst (v := 0) hx hb dX7_goClaims_57 (by decide) ?_
  refine lv_istore_n (lv' := [(2, .int 0), (0, .ref h0), (1, .int (nI mm))]) hx hb dX7_goClaims_58 rfl hl (by decide) rfl (fun ls hl => ?_)
  refine sg_X7_goClaims_59 h0 b3 b4 b6 b7 b8 b9 b10 b11 b12 b13 b15 b16 b17 b18 b19 b20 b21 b34 b35 b37 b38 b39 b40 b41 i0 i1 mk rk nl tp i23 i24 i25 w26 i27 i28 i29 i30 i31 i32 i33 tm mm cC fc cL fl cK fk cP fp cN fn cG fg cW fw cU fu cS fs cZ fz qmk qrk qm hC hL hN hPp hW hx hb hml hown hts hK hA (fun fw9_61 fu9_62 fs9_63 fz9_64 H locs ls hW9 hPD hS hl => ?_) ((mm + 1 - 0) + 1) 0 fw9_11 fu9_12 fs9_13 fz9_14 _ _ _ (Nat.lt_succ_self _) (by omega) (by assumption) ⟨hP, hD⟩ hS (lv_sub hl [1, 2, 0] rfl)
  obtain ⟨hP, hD⟩ := hPD
  refine lv_iconst (v := 1) hx hb dX7_goClaims_233 (by decide) ?_
  refine lv_istore_n (lv' := [(2, .int 1), (0, .ref h0), (1, .int (nI mm))]) hx hb dX7_goClaims_234 rfl hl (by decide) rfl (fun ls hl => ?_)
  refine sg_X7_goClaims_235 h0 b3 b4 b6 b7 b8 b9 b10 b11 b12 b13 b15 b16 b17 b18 b19 b20 b21 b34 b35 b37 b38 b39 b40 b41 i0 i1 mk rk nl tp i23 i24 i25 w26 i27 i28 i29 i30 i31 i32 i33 tm mm cC fc cL fl cK fk cP fp cN fn cG fg cW fw cU fu cS fs cZ fz fw9_61 fu9_62 fs9_63 qmk qrk qm hC hL hN hPp hW hx hb hml hown hts hK hA (fun fz9_74 H locs ls hW9 hPD hS hl => ?_) ((2 * zs fz9_64 40 + 1) + 1) 1 fz9_64 _ _ _ (Nat.lt_succ_self _) (by omega) (by assumption) ⟨hP, hD⟩ hS (lv_sub hl [1, 2, 0] rfl)
  obtain ⟨hP, hD⟩ := hPD
  have hP9 := hP.sub (ws' := [(h0, .inr (8, [.int i0, .int i1, .int (nI mk), .ref b3, .ref b4, .int (nI rk), .ref b6, .ref b7, .ref b8, .ref b9, .ref b10, .ref b11, .ref b12, .ref b13, .int (nI nl), .ref b15, .ref b16, .ref b17, .ref b18, .ref b19, .ref b20, .ref b21, .int (nI tp), .int i23, .int i24, .int i25, .long w26, .int i27, .int i28, .int i29, .int i30, .int i31, .int i32, .int i33, .ref b34, .ref b35, .int (nI tm), .ref b37, .ref b38, .ref b39, .ref b40, .ref b41])), (b4, .inl (cC, 30, .inl fc)), (b7, .inl (cL, 40, .inl fl)), (b8, .inl (cK, 800, .inl fk)), (b9, .inl (cP, 800, .inl fp)), (b11, .inl (cN, 800, .inl fn)), (b13, .inl (cG, 800, .inr (.inl fg))), (b37, .inl (cW, 480, .inl fw9_61)), (b38, .inl (cU, 480, .inl fu9_62)), (b39, .inl (cS, 40, .inl fs9_63)), (b40, .inl (cZ, 40, .inl fz9_74))]) [0, 1, 2, 3, 4, 5, 6, 7, 8, 9, 10] rfl
  have hD9 := hD.sub (ws' := [(h0, .inr (8, [.int i0, .int i1, .int (nI mk), .ref b3, .ref b4, .int (nI rk), .ref b6, .ref b7, .ref b8, .ref b9, .ref b10, .ref b11, .ref b12, .ref b13, .int (nI nl), .ref b15, .ref b16, .ref b17, .ref b18, .ref b19, .ref b20, .ref b21, .int (nI tp), .int i23, .int i24, .int i25, .long w26, .int i27, .int i28, .int i29, .int i30, .int i31, .int i32, .int i33, .ref b34, .ref b35, .int (nI tm), .ref b37, .ref b38, .ref b39, .ref b40, .ref b41])), (b4, .inl (cC, 30, .inl fc)), (b7, .inl (cL, 40, .inl fl)), (b8, .inl (cK, 800, .inl fk)), (b9, .inl (cP, 800, .inl fp)), (b11, .inl (cN, 800, .inl fn)), (b13, .inl (cG, 800, .inr (.inl fg))), (b37, .inl (cW, 480, .inl fw9_61)), (b38, .inl (cU, 480, .inl fu9_62)), (b39, .inl (cS, 40, .inl fs9_63)), (b40, .inl (cZ, 40, .inl fz9_74))]) [0, 1, 2, 3, 4, 5, 6, 7, 8, 9, 10] (by decide) rfl
  have hK9 := hK.sub (tys' := [(cC, .int), (cL, .int), (cK, .int), (cP, .int), (cN, .int), (cG, .long), (cW, .int), (cU, .int), (cS, .int), (cZ, .boolean)]) [0, 1, 2, 3, 4, 5, 6, 7, 8, 9] rfl
  exact W.vret hx hb hr (fun t ht hW => ⟨⟨(), rfl, trivial, fw9_61, fu9_62, fs9_63, fz9_74, (by assumption), by rw [ht]; exact hP9, va_K.moved hW.alike hK9, hD9⟩, hS.F ht⟩) hS.2.2 dX7_goClaims_284
