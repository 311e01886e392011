theorem dX7_next_8 : decode cX7_next 8 = .ok (.aload_n 0, 1) := by decide +kernel
theorem dX7_next_9 : decode cX7_next 9 = .ok (.getfield 121, 3) := by decide +kernel
theorem dX7_next_12 : decode cX7_next 12 = .ok (.aload_n 0, 1) := by decide +kernel
theorem dX7_next_13 : decode cX7_next 13 = .ok (.getfield 111, 3) := by decide +kernel
theorem dX7_next_16 : decode cX7_next 16 = .ok (.if_icmp .ge 30, 3) := by decide +kernel
theorem dX7_next_19 : decode cX7_next 19 = .ok (.aload_n 0, 1) := by decide +kernel
theorem dX7_next_20 : decode cX7_next 20 = .ok (.getfield 59, 3) := by decide +kernel
theorem dX7_next_23 : decode cX7_next 23 = .ok (.aload_n 0, 1) := by decide +kernel
theorem dX7_next_24 : decode cX7_next 24 = .ok (.getfield 121, 3) := by decide +kernel
theorem dX7_next_27 : decode cX7_next 27 = .ok (.iaload, 1) := by decide +kernel
theorem dX7_next_28 : decode cX7_next 28 = .ok (.bipush 32, 2) := by decide +kernel
theorem dX7_next_30 : decode cX7_next 30 = .ok (.if_icmp .ne 16, 3) := by decide +kernel
theorem dX7_next_33 : decode cX7_next 33 = .ok (.aload_n 0, 1) := by decide +kernel
theorem dX7_next_34 : decode cX7_next 34 = .ok (.dup, 1) := by decide +kernel
theorem dX7_next_35 : decode cX7_next 35 = .ok (.getfield 121, 3) := by decide +kernel
theorem dX7_next_38 : decode cX7_next 38 = .ok (.iconst 1, 1) := by decide +kernel
theorem dX7_next_39 : decode cX7_next 39 = .ok (.iadd, 1) := by decide +kernel
theorem dX7_next_40 : decode cX7_next 40 = .ok (.putfield 121, 3) := by decide +kernel
theorem dX7_next_43 : decode cX7_next 43 = .ok (.goto (-35), 3) := by decide +kernel
theorem dX7_next_243 : decode cX7_next 243 = .ok (.aload_n 0, 1) := by decide +kernel
theorem dX7_next_244 : decode cX7_next 244 = .ok (.getfield 135, 3) := by decide +kernel
theorem dX7_next_247 : decode cX7_next 247 = .ok (.iconst 2, 1) := by decide +kernel
theorem dX7_next_248 : decode cX7_next 248 = .ok (.if_icmp .ne 87, 3) := by decide +kernel
theorem dX7_next_251 : decode cX7_next 251 = .ok (.aload_n 0, 1) := by decide +kernel
theorem dX7_next_252 : decode cX7_next 252 = .ok (.getfield 118, 3) := by decide +kernel
theorem dX7_next_255 : decode cX7_next 255 = .ok (.aload_n 0, 1) := by decide +kernel
theorem dX7_next_256 : decode cX7_next 256 = .ok (.getfield 111, 3) := by decide +kernel
theorem dX7_next_259 : decode cX7_next 259 = .ok (.if_icmp .ge 76, 3) := by decide +kernel
theorem dX7_next_262 : decode cX7_next 262 = .ok (.aload_n 0, 1) := by decide +kernel
theorem dX7_next_263 : decode cX7_next 263 = .ok (.getfield 59, 3) := by decide +kernel
theorem dX7_next_266 : decode cX7_next 266 = .ok (.aload_n 0, 1) := by decide +kernel
theorem dX7_next_267 : decode cX7_next 267 = .ok (.getfield 118, 3) := by decide +kernel
theorem dX7_next_270 : decode cX7_next 270 = .ok (.iaload, 1) := by decide +kernel
theorem dX7_next_271 : decode cX7_next 271 = .ok (.invokestatic 132, 3) := by decide +kernel
theorem dX7_next_274 : decode cX7_next 274 = .ok (.ifCond .eq 61, 3) := by decide +kernel
theorem dX7_next_277 : decode cX7_next 277 = .ok (.aload_n 0, 1) := by decide +kernel
theorem dX7_next_278 : decode cX7_next 278 = .ok (.aload_n 0, 1) := by decide +kernel
theorem dX7_next_279 : decode cX7_next 279 = .ok (.getfield 124, 3) := by decide +kernel
theorem dX7_next_282 : decode cX7_next 282 = .ok (.ldc2_w 144, 3) := by decide +kernel
theorem dX7_next_285 : decode cX7_next 285 = .ok (.lcmp, 1) := by decide +kernel
theorem dX7_next_286 : decode cX7_next 286 = .ok (.ifCond .le 10, 3) := by decide +kernel
theorem dX7_next_296 : decode cX7_next 296 = .ok (.aload_n 0, 1) := by decide +kernel
theorem dX7_next_297 : decode cX7_next 297 = .ok (.getfield 124, 3) := by decide +kernel
theorem dX7_next_300 : decode cX7_next 300 = .ok (.ldc2_w 146, 3) := by decide +kernel
theorem dX7_next_303 : decode cX7_next 303 = .ok (.lmul, 1) := by decide +kernel
theorem dX7_next_304 : decode cX7_next 304 = .ok (.aload_n 0, 1) := by decide +kernel
theorem dX7_next_305 : decode cX7_next 305 = .ok (.getfield 59, 3) := by decide +kernel
theorem dX7_next_308 : decode cX7_next 308 = .ok (.aload_n 0, 1) := by decide +kernel
theorem dX7_next_309 : decode cX7_next 309 = .ok (.getfield 118, 3) := by decide +kernel
theorem dX7_next_312 : decode cX7_next 312 = .ok (.iaload, 1) := by decide +kernel
theorem dX7_next_313 : decode cX7_next 313 = .ok (.i2l, 1) := by decide +kernel
theorem dX7_next_314 : decode cX7_next 314 = .ok (.ladd, 1) := by decide +kernel
theorem dX7_next_315 : decode cX7_next 315 = .ok (.ldc2_w 148, 3) := by decide +kernel
theorem dX7_next_318 : decode cX7_next 318 = .ok (.lsub, 1) := by decide +kernel
theorem dX7_next_319 : decode cX7_next 319 = .ok (.putfield 124, 3) := by decide +kernel
theorem dX7_next_322 : decode cX7_next 322 = .ok (.aload_n 0, 1) := by decide +kernel
theorem dX7_next_323 : decode cX7_next 323 = .ok (.dup, 1) := by decide +kernel
theorem dX7_next_324 : decode cX7_next 324 = .ok (.getfield 118, 3) := by decide +kernel
theorem dX7_next_327 : decode cX7_next 327 = .ok (.iconst 1, 1) := by decide +kernel
theorem dX7_next_328 : decode cX7_next 328 = .ok (.iadd, 1) := by decide +kernel
theorem dX7_next_329 : decode cX7_next 329 = .ok (.putfield 118, 3) := by decide +kernel
theorem dX7_next_332 : decode cX7_next 332 = .ok (.goto (-89), 3) := by decide +kernel
theorem dX7_next_289 : decode cX7_next 289 = .ok (.aload_n 0, 1) := by decide +kernel
theorem dX7_next_290 : decode cX7_next 290 = .ok (.getfield 124, 3) := by decide +kernel
theorem dX7_next_293 : decode cX7_next 293 = .ok (.goto 26, 3) := by decide +kernel
theorem dX7_next_149 : decode cX7_next 149 = .ok (.aload_n 0, 1) := by decide +kernel
theorem dX7_next_150 : decode cX7_next 150 = .ok (.getfield 135, 3) := by decide +kernel
theorem dX7_next_153 : decode cX7_next 153 = .ok (.iconst 1, 1) := by decide +kernel
theorem dX7_next_154 : decode cX7_next 154 = .ok (.if_icmp .ne 89, 3) := by decide +kernel
theorem dX7_next_157 : decode cX7_next 157 = .ok (.aload_n 0, 1) := by decide +kernel
theorem dX7_next_158 : decode cX7_next 158 = .ok (.getfield 118, 3) := by decide +kernel
theorem dX7_next_161 : decode cX7_next 161 = .ok (.aload_n 0, 1) := by decide +kernel
theorem dX7_next_162 : decode cX7_next 162 = .ok (.getfield 111, 3) := by decide +kernel
theorem dX7_next_165 : decode cX7_next 165 = .ok (.if_icmp .ge 78, 3) := by decide +kernel
theorem dX7_next_168 : decode cX7_next 168 = .ok (.aload_n 0, 1) := by decide +kernel
theorem dX7_next_169 : decode cX7_next 169 = .ok (.getfield 59, 3) := by decide +kernel
theorem dX7_next_172 : decode cX7_next 172 = .ok (.aload_n 0, 1) := by decide +kernel
theorem dX7_next_173 : decode cX7_next 173 = .ok (.getfield 118, 3) := by decide +kernel
theorem dX7_next_176 : decode cX7_next 176 = .ok (.iaload, 1) := by decide +kernel
theorem dX7_next_177 : decode cX7_next 177 = .ok (.invokestatic 128, 3) := by decide +kernel
theorem dX7_next_180 : decode cX7_next 180 = .ok (.ifCond .eq 63, 3) := by decide +kernel
theorem dX7_next_183 : decode cX7_next 183 = .ok (.aload_n 0, 1) := by decide +kernel
theorem dX7_next_184 : decode cX7_next 184 = .ok (.aload_n 0, 1) := by decide +kernel
theorem dX7_next_185 : decode cX7_next 185 = .ok (.getfield 118, 3) := by decide +kernel
theorem dX7_next_188 : decode cX7_next 188 = .ok (.aload_n 0, 1) := by decide +kernel
theorem dX7_next_189 : decode cX7_next 189 = .ok (.getfield 121, 3) := by decide +kernel
theorem dX7_next_192 : decode cX7_next 192 = .ok (.isub, 1) := by decide +kernel
theorem dX7_next_193 : decode cX7_next 193 = .ok (.bipush 8, 2) := by decide +kernel
theorem dX7_next_195 : decode cX7_next 195 = .ok (.if_icmp .ge 29, 3) := by decide +kernel
theorem dX7_next_224 : decode cX7_next 224 = .ok (.ldc2_w 142, 3) := by decide +kernel
theorem dX7_next_227 : decode cX7_next 227 = .ok (.putfield 124, 3) := by decide +kernel
theorem dX7_next_230 : decode cX7_next 230 = .ok (.aload_n 0, 1) := by decide +kernel
theorem dX7_next_231 : decode cX7_next 231 = .ok (.dup, 1) := by decide +kernel
theorem dX7_next_232 : decode cX7_next 232 = .ok (.getfield 118, 3) := by decide +kernel
theorem dX7_next_235 : decode cX7_next 235 = .ok (.iconst 1, 1) := by decide +kernel
theorem dX7_next_236 : decode cX7_next 236 = .ok (.iadd, 1) := by decide +kernel
theorem dX7_next_237 : decode cX7_next 237 = .ok (.putfield 118, 3) := by decide +kernel
theorem dX7_next_240 : decode cX7_next 240 = .ok (.goto (-91), 3) := by decide +kernel
theorem dX7_next_198 : decode cX7_next 198 = .ok (.aload_n 0, 1) := by decide +kernel
theorem dX7_next_199 : decode cX7_next 199 = .ok (.getfield 124, 3) := by decide +kernel
theorem dX7_next_202 : decode cX7_next 202 = .ok (.ldc2_w 138, 3) := by decide +kernel
theorem dX7_next_205 : decode cX7_next 205 = .ok (.lmul, 1) := by decide +kernel
theorem dX7_next_206 : decode cX7_next 206 = .ok (.aload_n 0, 1) := by decide +kernel
theorem dX7_next_207 : decode cX7_next 207 = .ok (.getfield 59, 3) := by decide +kernel
theorem dX7_next_210 : decode cX7_next 210 = .ok (.aload_n 0, 1) := by decide +kernel
theorem dX7_next_211 : decode cX7_next 211 = .ok (.getfield 118, 3) := by decide +kernel
theorem dX7_next_214 : decode cX7_next 214 = .ok (.iaload, 1) := by decide +kernel
theorem dX7_next_215 : decode cX7_next 215 = .ok (.i2l, 1) := by decide +kernel
theorem dX7_next_216 : decode cX7_next 216 = .ok (.ladd, 1) := by decide +kernel
theorem dX7_next_217 : decode cX7_next 217 = .ok (.ldc2_w 140, 3) := by decide +kernel
theorem dX7_next_220 : decode cX7_next 220 = .ok (.lsub, 1) := by decide +kernel
theorem dX7_next_221 : decode cX7_next 221 = .ok (.goto 6, 3) := by decide +kernel
theorem dX7_next_0 : decode cX7_next 0 = .ok (.aload_n 0, 1) := by decide +kernel
theorem dX7_next_1 : decode cX7_next 1 = .ok (.aload_n 0, 1) := by decide +kernel
theorem dX7_next_2 : decode cX7_next 2 = .ok (.getfield 118, 3) := by decide +kernel
theorem dX7_next_5 : decode cX7_next 5 = .ok (.putfield 121, 3) := by decide +kernel
theorem dX7_next_46 : decode cX7_next 46 = .ok (.aload_n 0, 1) := by decide +kernel
theorem dX7_next_47 : decode cX7_next 47 = .ok (.aload_n 0, 1) := by decide +kernel
theorem dX7_next_48 : decode cX7_next 48 = .ok (.getfield 121, 3) := by decide +kernel
theorem dX7_next_51 : decode cX7_next 51 = .ok (.putfield 118, 3) := by decide +kernel
theorem dX7_next_54 : decode cX7_next 54 = .ok (.aload_n 0, 1) := by decide +kernel
theorem dX7_next_55 : decode cX7_next 55 = .ok (.lconst 0, 1) := by decide +kernel
theorem dX7_next_56 : decode cX7_next 56 = .ok (.putfield 124, 3) := by decide +kernel
theorem dX7_next_59 : decode cX7_next 59 = .ok (.aload_n 0, 1) := by decide +kernel
theorem dX7_next_60 : decode cX7_next 60 = .ok (.aload_n 0, 1) := by decide +kernel
theorem dX7_next_61 : decode cX7_next 61 = .ok (.getfield 121, 3) := by decide +kernel
theorem dX7_next_64 : decode cX7_next 64 = .ok (.aload_n 0, 1) := by decide +kernel
theorem dX7_next_65 : decode cX7_next 65 = .ok (.getfield 111, 3) := by decide +kernel
theorem dX7_next_68 : decode cX7_next 68 = .ok (.if_icmp .ne 7, 3) := by decide +kernel
theorem dX7_next_75 : decode cX7_next 75 = .ok (.aload_n 0, 1) := by decide +kernel
theorem dX7_next_76 : decode cX7_next 76 = .ok (.getfield 59, 3) := by decide +kernel
theorem dX7_next_79 : decode cX7_next 79 = .ok (.aload_n 0, 1) := by decide +kernel
theorem dX7_next_80 : decode cX7_next 80 = .ok (.getfield 121, 3) := by decide +kernel
theorem dX7_next_83 : decode cX7_next 83 = .ok (.iaload, 1) := by decide +kernel
theorem dX7_next_84 : decode cX7_next 84 = .ok (.invokestatic 128, 3) := by decide +kernel
theorem dX7_next_87 : decode cX7_next 87 = .ok (.ifCond .eq 7, 3) := by decide +kernel
theorem dX7_next_94 : decode cX7_next 94 = .ok (.aload_n 0, 1) := by decide +kernel
theorem dX7_next_95 : decode cX7_next 95 = .ok (.getfield 59, 3) := by decide +kernel
theorem dX7_next_98 : decode cX7_next 98 = .ok (.aload_n 0, 1) := by decide +kernel
theorem dX7_next_99 : decode cX7_next 99 = .ok (.getfield 121, 3) := by decide +kernel
theorem dX7_next_102 : decode cX7_next 102 = .ok (.iaload, 1) := by decide +kernel
theorem dX7_next_103 : decode cX7_next 103 = .ok (.invokestatic 132, 3) := by decide +kernel
theorem dX7_next_106 : decode cX7_next 106 = .ok (.ifCond .eq 7, 3) := by decide +kernel
theorem dX7_next_113 : decode cX7_next 113 = .ok (.iconst 3, 1) := by decide +kernel
theorem dX7_next_114 : decode cX7_next 114 = .ok (.putfield 135, 3) := by decide +kernel
theorem dX7_next_117 : decode cX7_next 117 = .ok (.aload_n 0, 1) := by decide +kernel
theorem dX7_next_118 : decode cX7_next 118 = .ok (.getfield 135, 3) := by decide +kernel
theorem dX7_next_121 : decode cX7_next 121 = .ok (.iconst 3, 1) := by decide +kernel
theorem dX7_next_122 : decode cX7_next 122 = .ok (.if_icmp .ne 27, 3) := by decide +kernel
theorem dX7_next_125 : decode cX7_next 125 = .ok (.aload_n 0, 1) := by decide +kernel
theorem dX7_next_126 : decode cX7_next 126 = .ok (.aload_n 0, 1) := by decide +kernel
theorem dX7_next_127 : decode cX7_next 127 = .ok (.getfield 59, 3) := by decide +kernel
theorem dX7_next_130 : decode cX7_next 130 = .ok (.aload_n 0, 1) := by decide +kernel
theorem dX7_next_131 : decode cX7_next 131 = .ok (.getfield 121, 3) := by decide +kernel
theorem dX7_next_134 : decode cX7_next 134 = .ok (.iaload, 1) := by decide +kernel
theorem dX7_next_135 : decode cX7_next 135 = .ok (.i2l, 1) := by decide +kernel
theorem dX7_next_136 : decode cX7_next 136 = .ok (.putfield 124, 3) := by decide +kernel
theorem dX7_next_139 : decode cX7_next 139 = .ok (.aload_n 0, 1) := by decide +kernel
theorem dX7_next_140 : decode cX7_next 140 = .ok (.dup, 1) := by decide +kernel
theorem dX7_next_141 : decode cX7_next 141 = .ok (.getfield 118, 3) := by decide +kernel
theorem dX7_next_144 : decode cX7_next 144 = .ok (.iconst 1, 1) := by decide +kernel
theorem dX7_next_145 : decode cX7_next 145 = .ok (.iadd, 1) := by decide +kernel
theorem dX7_next_146 : decode cX7_next 146 = .ok (.putfield 118, 3) := by decide +kernel
theorem dX7_next_335 : decode cX7_next 335 = .ok (.return_, 1) := by decide +kernel
theorem dX7_next_109 : decode cX7_next 109 = .ok (.iconst 2, 1) := by decide +kernel
theorem dX7_next_110 : decode cX7_next 110 = .ok (.goto 4, 3) := by decide +kernel
theorem dX7_next_90 : decode cX7_next 90 = .ok (.iconst 1, 1) := by decide +kernel
theorem dX7_next_91 : decode cX7_next 91 = .ok (.goto 23, 3) := by decide +kernel
theorem dX7_next_71 : decode cX7_next 71 = .ok (.iconst 0, 1) := by decide +kernel
theorem dX7_next_72 : decode cX7_next 72 = .ok (.goto 42, 3) := by decide +kernel
def wp_X7_next : List Cond := .code yX7_next cX7_next 1 none :: (([.fieldLink RX7 118 "AgreedTalksModel" "to" "I", .fieldLink RX7 121 "AgreedTalksModel" "from" "I", .fieldLink RX7 111 "AgreedTalksModel" "taped" "I", .fieldLink RX7 59 "AgreedTalksModel" "tape" "[I", .fieldLink RX7 124 "AgreedTalksModel" "worth" "J", .fieldLink RX7 135 "AgreedTalksModel" "sort" "I", .constantLong RX7 144 (1000), .constantLong RX7 146 (10), .constantLong RX7 148 (48), .constantLong RX7 142 (-1), .constantLong RX7 138 (32), .constantLong RX7 140 (96)] : List Cond) ++ wsX70 ++ (va_wsS RX7 128 yX7_isSmall wp_X7_isSmall) ++ (va_wsS RX7 132 yX7_isDigit wp_X7_isDigit))
theorem gc_X7_next_X7_isSmall : GoodIn wp_X7_next (va_wsS RX7 128 yX7_isSmall wp_X7_isSmall) := goodIn_sub (fun _ h => List.mem_cons_of_mem _ (List.mem_append_left _ (List.mem_append_right _ h))) (by decide +kernel)
theorem gc_X7_next_X7_isDigit : GoodIn wp_X7_next (va_wsS RX7 132 yX7_isDigit wp_X7_isDigit) := goodIn_sub (fun _ h => List.mem_cons_of_mem _ (List.mem_append_right _ h)) (by decide +kernel)
set_option maxRecDepth 20000 in
theorem gi_X7_next : GoodIn lw_tbl wp_X7_next := (goodIn_ca (goodIn_ca (goodIn_ca (goodIn_r (.code yX7_next cX7_next 1 none :: ([.fieldLink RX7 118 "AgreedTalksModel" "to" "I", .fieldLink RX7 121 "AgreedTalksModel" "from" "I", .fieldLink RX7 111 "AgreedTalksModel" "taped" "I", .fieldLink RX7 59 "AgreedTalksModel" "tape" "[I", .fieldLink RX7 124 "AgreedTalksModel" "worth" "J", .fieldLink RX7 135 "AgreedTalksModel" "sort" "I", .constantLong RX7 144 (1000), .constantLong RX7 146 (10), .constantLong RX7 148 (48), .constantLong RX7 142 (-1), .constantLong RX7 138 (32), .constantLong RX7 140 (96)] : List Cond)) [836, 697, 696, 695, 694, 699, 698, 846, 847, 848, 845, 843, 844] (by decide +kernel) (by decide +kernel)) wi_wsX7) (goodIn_app (goodIn_r _ [837, 838, 57] (by decide +kernel) (by decide +kernel)) gi_X7_isSmall)) (goodIn_app (goodIn_r _ [840, 841, 57] (by decide +kernel) (by decide +kernel)) gi_X7_isDigit))
set_option maxHeartbeats 4000000 in
set_option maxRecDepth 100000 in
theorem sg_X7_next_8 {p : Program} {l : Launch} {e : Env} {s : State} {m : MethodId} {args : Array Value} {below : List Frame} {meth : Method} {c : Code} {Q : State → Prop} {A : Nat → Prop} {dC : Nat → ClassId} {dI : Nat → Nat → Nat} (h0 : Nat) (b3 : Nat) (b4 : Nat) (b6 : Nat) (b7 : Nat) (b8 : Nat) (b9 : Nat) (b10 : Nat) (b11 : Nat) (b12 : Nat) (b13 : Nat) (b15 : Nat) (b16 : Nat) (b17 : Nat) (b18 : Nat) (b19 : Nat) (b20 : Nat) (b21 : Nat) (b34 : Nat) (b35 : Nat) (b37 : Nat) (b38 : Nat) (b39 : Nat) (b40 : Nat) (b41 : Nat) (i0 : Int32) (i1 : Int32) (mk : Nat) (rk : Nat) (nl : Nat) (tp : Nat) (i23 : Int32) (i25 : Int32) (w26 : Int64) (i27 : Int32) (i28 : Int32) (i29 : Int32) (i30 : Int32) (i31 : Int32) (i32 : Int32) (i33 : Int32) (tm : Nat) (t0 : Nat) (cT : ClassId) (ft : Nat → Int32) (qtp : tp ≤ 300) (q0 : t0 ≤ tp) (hx : p.tables.exec = Jvm.exec) (hb : c.code = cX7_next) (hml : c.maxLocals = 1) (hown : s.vm.findClass RX7 = some m.cls) (hts : ∀ w ∈ wp_X7_next, w.before args s = true) (hK : va_K (dC, dI) vwCl [(cT, .int)] s) (hA : ∀ q : Nat, s.heap.size ≤ q → A q) (kk_46 : ∀ (f9 : Nat) (H : Heap) (locs : List Loc) (ls : Array Slot), (t0 ≤ f9) → (f9 ≤ tp) → okPD (dC, dI) vwCl A [(h0, .inr (8, [.int i0, .int i1, .int (nI mk), .ref b3, .ref b4, .int (nI rk), .ref b6, .ref b7, .ref b8, .ref b9, .ref b10, .ref b11, .ref b12, .ref b13, .int (nI nl), .ref b15, .ref b16, .ref b17, .ref b18, .ref b19, .ref b20, .ref b21, .int (nI tp), .int (nI f9), .int (nI t0), .int i25, .long w26, .int i27, .int i28, .int i29, .int i30, .int i31, .int i32, .int i33, .ref b34, .ref b35, .int (nI tm), .ref b37, .ref b38, .ref b39, .ref b40, .ref b41])), (b21, .inl (cT, 300, .inl ft))] H → va_S A s.heap H locs → lv_has ls 1 [(0, .ref h0)] → W p l e ({ frames := 1, cells := 0, slots := 0, locals := 30 } : Room) s m args below meth c H locs 0 0 Q (F0 m 46 ls [])) : ∀ (n : Nat) (f9 : Nat) (H : Heap) (locs : List Loc) (ls : Array Slot), tp - f9 < n → (t0 ≤ f9) → (f9 ≤ tp) → okPD (dC, dI) vwCl A [(h0, .inr (8, [.int i0, .int i1, .int (nI mk), .ref b3, .ref b4, .int (nI rk), .ref b6, .ref b7, .ref b8, .ref b9, .ref b10, .ref b11, .ref b12, .ref b13, .int (nI nl), .ref b15, .ref b16, .ref b17, .ref b18, .ref b19, .ref b20, .ref b21, .int (nI tp), .int (nI f9), .int (nI t0), .int i25, .long w26, .int i27, .int i28, .int i29, .int i30, .int i31, .int i32, .int i33, .ref b34, .ref b35, .int (nI tm), .ref b37, .ref b38, .ref b39, .ref b40, .ref b41])), (b21, .inl (cT, 300, .inl ft))] H → va_S A s.heap H locs → lv_has ls 1 [(0, .ref h0)] → W p l e ({ frames := 1, cells := 0, slots := 0, locals := 30 } : Room) s m args below meth c H locs 0 0 Q (F0 m 8 ls []) := by
  have hinX7 : ∀ w ∈ u_ws RX7 TX7 42, w ∈ wp_X7_next := fun _ h => List.mem_cons_of_mem _ (List.mem_append_left _ (List.mem_append_left _ (List.mem_append_right _ h)))
  intro n
  induction n with
  | zero =>
    intro f9 H locs ls hn
    exact absurd hn (Nat.not_lt_zero _)
  | succ n ih =>
    intro f9 H locs ls hn hge hf hPD hS hl
    obtain ⟨hP, hD⟩ := hPD
    refine lv_aload_n hx hb dX7_next_8 rfl (lv_at hl 0 rfl) ?_
    refine va_get (D := (dC, dI)) (ci := 8) (v := .int (nI f9)) (C := RX7) (T := TX7) (N := 42) hx hb hts hinX7 hown hK hP 0 rfl rfl 23 (by decide) (hts (.fieldLink RX7 121 "AgreedTalksModel" "from" "I") (by decide +kernel)) (fun _ h9 => h9) rfl dX7_next_9 ?_
    refine lv_aload_n hx hb dX7_next_12 rfl (lv_at hl 0 rfl) ?_
    refine va_get (D := (dC, dI)) (ci := 8) (v := .int (nI tp)) (C := RX7) (T := TX7) (N := 42) hx hb hts hinX7 hown hK hP 0 rfl rfl 22 (by decide) (hts (.fieldLink RX7 111 "AgreedTalksModel" "taped" "I") (by decide +kernel)) (fun _ h9 => h9) rfl dX7_next_13 ?_
    refine lv_icmp_ge (tgt := 46) hx hb dX7_next_16 (by decide) (fun c_1 => ?_) (fun c_1 => ?_)
    · have c_1 : tp ≤ f9 := (nI_leI (a := tp) (b := f9) (by omega) (by omega)).mp c_1
      exact kk_46 f9 _ _ _ (by omega) (by omega) ⟨hP, hD⟩ hS (lv_sub hl [0] rfl)
    · have c_1 : ¬ (tp ≤ f9) := fun h => c_1 ((nI_leI (a := tp) (b := f9) (by omega) (by omega)).mpr h)
      refine lv_aload_n hx hb dX7_next_19 rfl (lv_at hl 0 rfl) ?_
      refine va_get (D := (dC, dI)) (ci := 8) (v := .ref b21) (C := RX7) (T := TX7) (N := 42) hx hb hts hinX7 hown hK hP 0 rfl rfl 21 (by decide) (hts (.fieldLink RX7 59 "AgreedTalksModel" "tape" "[I") (by decide +kernel)) (fun _ h9 => h9) rfl dX7_next_20 ?_
      refine lv_aload_n hx hb dX7_next_23 rfl (lv_at hl 0 rfl) ?_
      refine va_get (D := (dC, dI)) (ci := 8) (v := .int (nI f9)) (C := RX7) (T := TX7) (N := 42) hx hb hts hinX7 hown hK hP 0 rfl rfl 23 (by decide) (hts (.fieldLink RX7 121 "AgreedTalksModel" "from" "I") (by decide +kernel)) (fun _ h9 => h9) rfl dX7_next_24 ?_
      refine va_iald hx hb hK hP 1 0 rfl rfl (vp_in_nI (by omega) (by omega)) dX7_next_27 ?_
      refine lv_topi (fun x_2 ex_2 => ?_)
      rw [show (Int32.toNatClampNeg (nI f9)) = f9 from nI_clamp (by omega)] at ex_2
      refine lv_bipush (v := 32) hx hb dX7_next_28 (by decide) ?_
      refine lv_icmp_ne (tgt := 46) hx hb dX7_next_30 (by decide) (fun c_3 => ?_) (fun c_3 => ?_)
      · exact kk_46 f9 _ _ _ (by omega) (by omega) ⟨hP, hD⟩ hS (lv_sub hl [0] rfl)
      · refine lv_aload_n hx hb dX7_next_33 rfl (lv_at hl 0 rfl) ?_
        refine lv_dup hx hb dX7_next_34 rfl ?_
        refine va_get (D := (dC, dI)) (ci := 8) (v := .int (nI f9)) (C := RX7) (T := TX7) (N := 42) hx hb hts hinX7 hown hK hP 0 rfl rfl 23 (by decide) (hts (.fieldLink RX7 121 "AgreedTalksModel" "from" "I") (by decide +kernel)) (fun _ h9 => h9) rfl dX7_next_35 ?_
        refine lv_iconst (v := 1) hx hb dX7_next_38 (by decide) ?_
        refine lv_iadd hx hb dX7_next_39 ?_
        refine lv_topi (fun x_4 ex_4 => ?_)
        obtain rfl : x_4 = (nI (f9 + 1)) := by rw [ex_4]; exact nI_add _ _
        refine va_put (D := (dC, dI)) (ci := 8) (v := .int (nI (f9 + 1))) (ty := .int) (C := RX7) (T := TX7) (N := 42) hx hb hts hinX7 tyX7 tyX7_ok nmX7 hown hK hP hD hS 0 rfl rfl 23 (by decide) (hts (.fieldLink RX7 121 "AgreedTalksModel" "from" "I") (by decide +kernel)) (fun _ h9 => h9) rfl (by decide +kernel) rfl rfl (Nat.le_of_ble_eq_true rfl) dX7_next_40 (fun H locs hP hD hS => ?_)
        have hP : va_P (dC, dI) vwCl [(h0, .inr (8, [.int i0, .int i1, .int (nI mk), .ref b3, .ref b4, .int (nI rk), .ref b6, .ref b7, .ref b8, .ref b9, .ref b10, .ref b11, .ref b12, .ref b13, .int (nI nl), .ref b15, .ref b16, .ref b17, .ref b18, .ref b19, .ref b20, .ref b21, .int (nI tp), .int (nI (f9 + 1)), .int (nI t0), .int i25, .long w26, .int i27, .int i28, .int i29, .int i30, .int i31, .int i32, .int i33, .ref b34, .ref b35, .int (nI tm), .ref b37, .ref b38, .ref b39, .ref b40, .ref b41])), (b21, .inl (cT, 300, .inl ft))] H := hP
        have hD : va_D A [(h0, .inr (8, [.int i0, .int i1, .int (nI mk), .ref b3, .ref b4, .int (nI rk), .ref b6, .ref b7, .ref b8, .ref b9, .ref b10, .ref b11, .ref b12, .ref b13, .int (nI nl), .ref b15, .ref b16, .ref b17, .ref b18, .ref b19, .ref b20, .ref b21, .int (nI tp), .int (nI (f9 + 1)), .int (nI t0), .int i25, .long w26, .int i27, .int i28, .int i29, .int i30, .int i31, .int i32, .int i33, .ref b34, .ref b35, .int (nI tm), .ref b37, .ref b38, .ref b39, .ref b40, .ref b41])), (b21, .inl (cT, 300, .inl ft))] := hD
        refine lv_goto (tgt := 8) hx hb dX7_next_43 (by decide) ?_
        exact ih (f9 + 1) _ _ _ (by omega) (by omega) (by omega) ⟨hP, hD⟩ hS (lv_sub hl [0] rfl)
set_option maxHeartbeats 4000000 in
set_option maxRecDepth 100000 in
theorem sg_X7_next_243 {p : Program} {l : Launch} {e : Env} {s : State} {m : MethodId} {args : Array Value} {below : List Frame} {meth : Method} {c : Code} {Q : State → Prop} {A : Nat → Prop} {dC : Nat → ClassId} {dI : Nat → Nat → Nat} (h0 : Nat) (b3 : Nat) (b4 : Nat) (b6 : Nat) (b7 : Nat) (b8 : Nat) (b9 : Nat) (b10 : Nat) (b11 : Nat) (b12 : Nat) (b13 : Nat) (b15 : Nat) (b16 : Nat) (b17 : Nat) (b18 : Nat) (b19 : Nat) (b20 : Nat) (b21 : Nat) (b34 : Nat) (b35 : Nat) (b37 : Nat) (b38 : Nat) (b39 : Nat) (b40 : Nat) (b41 : Nat) (i0 : Int32) (i1 : Int32) (mk : Nat) (rk : Nat) (nl : Nat) (tp : Nat) (i23 : Int32) (i25 : Int32) (w26 : Int64) (i27 : Int32) (i28 : Int32) (i29 : Int32) (i30 : Int32) (i31 : Int32) (i32 : Int32) (i33 : Int32) (tm : Nat) (t0 : Nat) (cT : ClassId) (ft : Nat → Int32) (qtp : tp ≤ 300) (q0 : t0 ≤ tp) (hx : p.tables.exec = Jvm.exec) (hb : c.code = cX7_next) (hml : c.maxLocals = 1) (hown : s.vm.findClass RX7 = some m.cls) (hts : ∀ w ∈ wp_X7_next, w.before args s = true) (hK : va_K (dC, dI) vwCl [(cT, .int)] s) (hA : ∀ q : Nat, s.heap.size ≤ q → A q) (kk_335 : ∀ (f9 : Nat) (t9 : Nat) (so : Int32) (wv : Int64) (H : Heap) (locs : List Loc) (ls : Array Slot), (t0 ≤ f9) → (f9 ≤ t9) → (t9 ≤ tp) → (okS ft f9 t9 so wv) → okPD (dC, dI) vwCl A [(h0, .inr (8, [.int i0, .int i1, .int (nI mk), .ref b3, .ref b4, .int (nI rk), .ref b6, .ref b7, .ref b8, .ref b9, .ref b10, .ref b11, .ref b12, .ref b13, .int (nI nl), .ref b15, .ref b16, .ref b17, .ref b18, .ref b19, .ref b20, .ref b21, .int (nI tp), .int (nI f9), .int (nI t9), .int so, .long wv, .int i27, .int i28, .int i29, .int i30, .int i31, .int i32, .int i33, .ref b34, .ref b35, .int (nI tm), .ref b37, .ref b38, .ref b39, .ref b40, .ref b41])), (b21, .inl (cT, 300, .inl ft))] H → va_S A s.heap H locs → lv_has ls 1 [(0, .ref h0)] → W p l e ({ frames := 1, cells := 0, slots := 0, locals := 30 } : Room) s m args below meth c H locs 0 0 Q (F0 m 335 ls [])) : ∀ (n : Nat) (f9 : Nat) (t9 : Nat) (wv : Int64) (H : Heap) (locs : List Loc) (ls : Array Slot), tp - t9 < n → (t0 ≤ f9) → (f9 ≤ t9) → (t9 ≤ tp) → (f9 < tp) → (okDg wv) → (t9 = f9 → okDi (ft f9)) → okPD (dC, dI) vwCl A [(h0, .inr (8, [.int i0, .int i1, .int (nI mk), .ref b3, .ref b4, .int (nI rk), .ref b6, .ref b7, .ref b8, .ref b9, .ref b10, .ref b11, .ref b12, .ref b13, .int (nI nl), .ref b15, .ref b16, .ref b17, .ref b18, .ref b19, .ref b20, .ref b21, .int (nI tp), .int (nI f9), .int (nI t9), .int 2, .long wv, .int i27, .int i28, .int i29, .int i30, .int i31, .int i32, .int i33, .ref b34, .ref b35, .int (nI tm), .ref b37, .ref b38, .ref b39, .ref b40, .ref b41])), (b21, .inl (cT, 300, .inl ft))] H → va_S A s.heap H locs → lv_has ls 1 [(0, .ref h0)] → W p l e ({ frames := 1, cells := 0, slots := 0, locals := 30 } : Room) s m args below meth c H locs 0 0 Q (F0 m 243 ls []) := by
  have hinX7 : ∀ w ∈ u_ws RX7 TX7 42, w ∈ wp_X7_next := fun _ h => List.mem_cons_of_mem _ (List.mem_append_left _ (List.mem_append_left _ (List.mem_append_right _ h)))
  intro n
  induction n with
  | zero =>
    intro f9 t9 wv H locs ls hn
    exact absurd hn (Nat.not_lt_zero _)
  | succ n ih =>
    intro f9 t9 wv H locs ls hn hge hf ht hft hdg hz hPD hS hl
    obtain ⟨hP, hD⟩ := hPD
    refine lv_aload_n hx hb dX7_next_243 rfl (lv_at hl 0 rfl) ?_
    refine va_get (D := (dC, dI)) (ci := 8) (v := .int 2) (C := RX7) (T := TX7) (N := 42) hx hb hts hinX7 hown hK hP 0 rfl rfl 25 (by decide) (hts (.fieldLink RX7 135 "AgreedTalksModel" "sort" "I") (by decide +kernel)) (fun _ h9 => h9) rfl dX7_next_244 ?_
    refine lv_iconst (v := 2) hx hb dX7_next_247 (by decide) ?_
    refine lv_icmp_ne (tgt := 335) hx hb dX7_next_248 (by decide) (fun c_20 => ?_) (fun c_20 => ?_)
    · exact absurd c_20 (by decide)
    · refine lv_aload_n hx hb dX7_next_251 rfl (lv_at hl 0 rfl) ?_
      refine va_get (D := (dC, dI)) (ci := 8) (v := .int (nI t9)) (C := RX7) (T := TX7) (N := 42) hx hb hts hinX7 hown hK hP 0 rfl rfl 24 (by decide) (hts (.fieldLink RX7 118 "AgreedTalksModel" "to" "I") (by decide +kernel)) (fun _ h9 => h9) rfl dX7_next_252 ?_
      refine lv_aload_n hx hb dX7_next_255 rfl (lv_at hl 0 rfl) ?_
      refine va_get (D := (dC, dI)) (ci := 8) (v := .int (nI tp)) (C := RX7) (T := TX7) (N := 42) hx hb hts hinX7 hown hK hP 0 rfl rfl 22 (by decide) (hts (.fieldLink RX7 111 "AgreedTalksModel" "taped" "I") (by decide +kernel)) (fun _ h9 => h9) rfl dX7_next_256 ?_
      refine lv_icmp_ge (tgt := 335) hx hb dX7_next_259 (by decide) (fun c_21 => ?_) (fun c_21 => ?_)
      · have c_21 : tp ≤ t9 := (nI_leI (a := tp) (b := t9) (by omega) (by omega)).mp c_21
        have hlt : f9 < t9 := by omega
        exact kk_335 f9 t9 2 wv _ _ _ (by omega) (by omega) (by omega) (okS_d _ hdg hlt) ⟨hP, hD⟩ hS (lv_sub hl [0] rfl)
      · have c_21 : ¬ (tp ≤ t9) := fun h => c_21 ((nI_leI (a := tp) (b := t9) (by omega) (by omega)).mpr h)
        refine lv_aload_n hx hb dX7_next_262 rfl (lv_at hl 0 rfl) ?_
        refine va_get (D := (dC, dI)) (ci := 8) (v := .ref b21) (C := RX7) (T := TX7) (N := 42) hx hb hts hinX7 hown hK hP 0 rfl rfl 21 (by decide) (hts (.fieldLink RX7 59 "AgreedTalksModel" "tape" "[I") (by decide +kernel)) (fun _ h9 => h9) rfl dX7_next_263 ?_
        refine lv_aload_n hx hb dX7_next_266 rfl (lv_at hl 0 rfl) ?_
        refine va_get (D := (dC, dI)) (ci := 8) (v := .int (nI t9)) (C := RX7) (T := TX7) (N := 42) hx hb hts hinX7 hown hK hP 0 rfl rfl 24 (by decide) (hts (.fieldLink RX7 118 "AgreedTalksModel" "to" "I") (by decide +kernel)) (fun _ h9 => h9) rfl dX7_next_267 ?_
        refine va_iald hx hb hK hP 1 0 rfl rfl (vp_in_nI (by omega) (by omega)) dX7_next_270 ?_
        refine lv_topi (fun x_22 ex_22 => ?_)
        rw [show (Int32.toNatClampNeg (nI t9)) = t9 from nI_clamp (by omega)] at ex_22
        have hPc := hP.sub (ws' := []) [] rfl
        have hDc := hD.sub (ws' := []) [] (by decide) rfl
        have hKc := hK.sub (tys' := []) [] rfl
        have hFc := va_free (wc := []) hD hS hA [] rfl
        refine va_calli (va_runS (As := [.int x_22]) (rest := []) ⟨hx, hb, hml, hown, hts⟩ (c_X7_isDigit l dC dI _ x_22) (va_cwS 1 hts gc_X7_next_X7_isDigit rfl rfl rfl (by decide +kernel) ⟨Nat.le_of_ble_eq_true rfl, Nat.le_of_ble_eq_true rfl⟩) ⟨fun a U g mk q => by obtain ⟨q0, q1, qP, qK, qD⟩ := q; exact ⟨q0, q1, qP, va_K.moved (u := U) (U := U.calling g mk a) (Vm.Alike.refl U.vm) qK, qD⟩, fun U hU hW => ⟨rfl, by rw [hU], by rw [hU]; exact hPc, va_K.moved hW.alike hKc, hDc.weaken (fun _ _ _ _ => trivial)⟩⟩ rfl rfl hl.1 rfl (lv_room (Nat.le_of_ble_eq_true rfl)) dX7_next_271 ⟨Nat.zero_le _, Nat.zero_le _⟩) hS (fun q _ h => hFc q h) hFc (fun r_23 u t H1 locs ht hvm hw hB hz1 hk1 hS => ?_)
        obtain ⟨hP1, hK1, hD1⟩ := hB
        rw [ht] at hP1
        obtain ⟨hP, hD⟩ := va_join (wr := [(h0, .inr (8, [.int i0, .int i1, .int (nI mk), .ref b3, .ref b4, .int (nI rk), .ref b6, .ref b7, .ref b8, .ref b9, .ref b10, .ref b11, .ref b12, .ref b13, .int (nI nl), .ref b15, .ref b16, .ref b17, .ref b18, .ref b19, .ref b20, .ref b21, .int (nI tp), .int (nI f9), .int (nI t9), .int 2, .long wv, .int i27, .int i28, .int i29, .int i30, .int i31, .int i32, .int i33, .ref b34, .ref b35, .int (nI tm), .ref b37, .ref b38, .ref b39, .ref b40, .ref b41])), (b21, .inl (cT, 300, .inl ft))]) (w1 := []) hP hD [] [0, 1] rfl rfl (by decide) (by decide) hk1 hFc hP1 hD1
        generalize H1 = H at hP hS ⊢
        have hP : va_P (dC, dI) vwCl [(h0, .inr (8, [.int i0, .int i1, .int (nI mk), .ref b3, .ref b4, .int (nI rk), .ref b6, .ref b7, .ref b8, .ref b9, .ref b10, .ref b11, .ref b12, .ref b13, .int (nI nl), .ref b15, .ref b16, .ref b17, .ref b18, .ref b19, .ref b20, .ref b21, .int (nI tp), .int (nI f9), .int (nI t9), .int 2, .long wv, .int i27, .int i28, .int i29, .int i30, .int i31, .int i32, .int i33, .ref b34, .ref b35, .int (nI tm), .ref b37, .ref b38, .ref b39, .ref b40, .ref b41])), (b21, .inl (cT, 300, .inl ft))] H := hP
        have hD : va_D A [(h0, .inr (8, [.int i0, .int i1, .int (nI mk), .ref b3, .ref b4, .int (nI rk), .ref b6, .ref b7, .ref b8, .ref b9, .ref b10, .ref b11, .ref b12, .ref b13, .int (nI nl), .ref b15, .ref b16, .ref b17, .ref b18, .ref b19, .ref b20, .ref b21, .int (nI tp), .int (nI f9), .int (nI t9), .int 2, .long wv, .int i27, .int i28, .int i29, .int i30, .int i31, .int i32, .int i33, .ref b34, .ref b35, .int (nI tm), .ref b37, .ref b38, .ref b39, .ref b40, .ref b41])), (b21, .inl (cT, 300, .inl ft))] := hD
        have hr_23 := hw
        try dsimp only at hr_23
        refine lv_if_eq (tgt := 335) hx hb dX7_next_274 (by decide) (fun c_24 => ?_) (fun c_24 => ?_)
        · have hlt : f9 < t9 := by
            rcases Nat.lt_or_ge f9 t9 with h | h
            · exact h
            · have e1 : t9 = f9 := by omega
              rcases hr_23 with ⟨_, h2⟩ | ⟨h1, _⟩
              · exact absurd (by rw [ex_22, e1]; exact hz e1) h2
              · rw [h1] at c_24; exact absurd c_24 (by decide)
          exact kk_335 f9 t9 2 wv _ _ _ (by omega) (by omega) (by omega) (okS_d _ hdg hlt) ⟨hP, hD⟩ hS (lv_sub hl [0] rfl)
        · have hsm : okDi (ft t9) := by
            rcases hr_23 with ⟨h1, _⟩ | ⟨_, h2⟩
            · exact absurd h1 c_24
            · rw [← ex_22]; exact h2
          refine lv_aload_n hx hb dX7_next_277 rfl (lv_at hl 0 rfl) ?_
          refine lv_aload_n hx hb dX7_next_278 rfl (lv_at hl 0 rfl) ?_
          refine va_get (D := (dC, dI)) (ci := 8) (v := .long wv) (C := RX7) (T := TX7) (N := 42) hx hb hts hinX7 hown hK hP 0 rfl rfl 26 (by decide) (hts (.fieldLink RX7 124 "AgreedTalksModel" "worth" "J") (by decide +kernel)) (fun _ h9 => h9) rfl dX7_next_279 ?_
          refine lv_ldc2 (v := 1000) hx hb hown (hts (.constantLong RX7 144 (1000)) (by decide +kernel)) dX7_next_282 ?_
          refine W.lcmp hx hb dX7_next_285 ?_
          refine lv_if_le (tgt := 296) hx hb dX7_next_286 (by decide) (fun c_25 => ?_) (fun c_25 => ?_)
          · have c_25 : wv ≤ 1000 := (lg_cmp_le _ _).mp c_25
            refine lv_aload_n hx hb dX7_next_296 rfl (lv_at hl 0 rfl) ?_
            refine va_get (D := (dC, dI)) (ci := 8) (v := .long wv) (C := RX7) (T := TX7) (N := 42) hx hb hts hinX7 hown hK hP 0 rfl rfl 26 (by decide) (hts (.fieldLink RX7 124 "AgreedTalksModel" "worth" "J") (by decide +kernel)) (fun _ h9 => h9) rfl dX7_next_297 ?_
            refine lv_ldc2 (v := 10) hx hb hown (hts (.constantLong RX7 146 (10)) (by decide +kernel)) dX7_next_300 ?_
            refine lv_lmul hx hb dX7_next_303 ?_
            refine lv_topl (fun x_26 ex_26 => ?_)
            refine lv_aload_n hx hb dX7_next_304 rfl (lv_at hl 0 rfl) ?_
            refine va_get (D := (dC, dI)) (ci := 8) (v := .ref b21) (C := RX7) (T := TX7) (N := 42) hx hb hts hinX7 hown hK hP 0 rfl rfl 21 (by decide) (hts (.fieldLink RX7 59 "AgreedTalksModel" "tape" "[I") (by decide +kernel)) (fun _ h9 => h9) rfl dX7_next_305 ?_
            refine lv_aload_n hx hb dX7_next_308 rfl (lv_at hl 0 rfl) ?_
            refine va_get (D := (dC, dI)) (ci := 8) (v := .int (nI t9)) (C := RX7) (T := TX7) (N := 42) hx hb hts hinX7 hown hK hP 0 rfl rfl 24 (by decide) (hts (.fieldLink RX7 118 "AgreedTalksModel" "to" "I") (by decide +kernel)) (fun _ h9 => h9) rfl dX7_next_309 ?_
            refine va_iald hx hb hK hP 1 0 rfl rfl (vp_in_nI (by omega) (by omega)) dX7_next_312 ?_
            refine lv_topi (fun x_27 ex_27 => ?_)
            rw [show (Int32.toNatClampNeg (nI t9)) = t9 from nI_clamp (by omega)] at ex_27
            refine lv_i2l hx hb dX7_next_313 rfl ?_
            refine lv_ladd hx hb dX7_next_314 ?_
            refine lv_topl (fun x_28 ex_28 => ?_)
            refine lv_ldc2 (v := 48) hx hb hown (hts (.constantLong RX7 148 (48)) (by decide +kernel)) dX7_next_315 ?_
            refine lv_lsub hx hb dX7_next_318 ?_
            refine lv_topl (fun x_29 ex_29 => ?_)
            refine va_put (D := (dC, dI)) (ci := 8) (v := .long x_29) (ty := .long) (C := RX7) (T := TX7) (N := 42) hx hb hts hinX7 tyX7 tyX7_ok nmX7 hown hK hP hD hS 0 rfl rfl 26 (by decide) (hts (.fieldLink RX7 124 "AgreedTalksModel" "worth" "J") (by decide +kernel)) (fun _ h9 => h9) rfl (by decide +kernel) rfl rfl (Nat.le_of_ble_eq_true rfl) dX7_next_319 (fun H locs hP hD hS => ?_)
            have hP : va_P (dC, dI) vwCl [(h0, .inr (8, [.int i0, .int i1, .int (nI mk), .ref b3, .ref b4, .int (nI rk), .ref b6, .ref b7, .ref b8, .ref b9, .ref b10, .ref b11, .ref b12, .ref b13, .int (nI nl), .ref b15, .ref b16, .ref b17, .ref b18, .ref b19, .ref b20, .ref b21, .int (nI tp), .int (nI f9), .int (nI t9), .int 2, .long x_29, .int i27, .int i28, .int i29, .int i30, .int i31, .int i32, .int i33, .ref b34, .ref b35, .int (nI tm), .ref b37, .ref b38, .ref b39, .ref b40, .ref b41])), (b21, .inl (cT, 300, .inl ft))] H := hP
            have hD : va_D A [(h0, .inr (8, [.int i0, .int i1, .int (nI mk), .ref b3, .ref b4, .int (nI rk), .ref b6, .ref b7, .ref b8, .ref b9, .ref b10, .ref b11, .ref b12, .ref b13, .int (nI nl), .ref b15, .ref b16, .ref b17, .ref b18, .ref b19, .ref b20, .ref b21, .int (nI tp), .int (nI f9), .int (nI t9), .int 2, .long x_29, .int i27, .int i28, .int i29, .int i30, .int i31, .int i32, .int i33, .ref b34, .ref b35, .int (nI tm), .ref b37, .ref b38, .ref b39, .ref b40, .ref b41])), (b21, .inl (cT, 300, .inl ft))] := hD
            refine lv_aload_n hx hb dX7_next_322 rfl (lv_at hl 0 rfl) ?_
            refine lv_dup hx hb dX7_next_323 rfl ?_
            refine va_get (D := (dC, dI)) (ci := 8) (v := .int (nI t9)) (C := RX7) (T := TX7) (N := 42) hx hb hts hinX7 hown hK hP 0 rfl rfl 24 (by decide) (hts (.fieldLink RX7 118 "AgreedTalksModel" "to" "I") (by decide +kernel)) (fun _ h9 => h9) rfl dX7_next_324 ?_
            refine lv_iconst (v := 1) hx hb dX7_next_327 (by decide) ?_
            refine lv_iadd hx hb dX7_next_328 ?_
            refine lv_topi (fun x_30 ex_30 => ?_)
            obtain rfl : x_30 = (nI (t9 + 1)) := by rw [ex_30]; exact nI_add _ _
            refine va_put (D := (dC, dI)) (ci := 8) (v := .int (nI (t9 + 1))) (ty := .int) (C := RX7) (T := TX7) (N := 42) hx hb hts hinX7 tyX7 tyX7_ok nmX7 hown hK hP hD hS 0 rfl rfl 24 (by decide) (hts (.fieldLink RX7 118 "AgreedTalksModel" "to" "I") (by decide +kernel)) (fun _ h9 => h9) rfl (by decide +kernel) rfl rfl (Nat.le_of_ble_eq_true rfl) dX7_next_329 (fun H locs hP hD hS => ?_)
            have hP : va_P (dC, dI) vwCl [(h0, .inr (8, [.int i0, .int i1, .int (nI mk), .ref b3, .ref b4, .int (nI rk), .ref b6, .ref b7, .ref b8, .ref b9, .ref b10, .ref b11, .ref b12, .ref b13, .int (nI nl), .ref b15, .ref b16, .ref b17, .ref b18, .ref b19, .ref b20, .ref b21, .int (nI tp), .int (nI f9), .int (nI (t9 + 1)), .int 2, .long x_29, .int i27, .int i28, .int i29, .int i30, .int i31, .int i32, .int i33, .ref b34, .ref b35, .int (nI tm), .ref b37, .ref b38, .ref b39, .ref b40, .ref b41])), (b21, .inl (cT, 300, .inl ft))] H := hP
            have hD : va_D A [(h0, .inr (8, [.int i0, .int i1, .int (nI mk), .ref b3, .ref b4, .int (nI rk), .ref b6, .ref b7, .ref b8, .ref b9, .ref b10, .ref b11, .ref b12, .ref b13, .int (nI nl), .ref b15, .ref b16, .ref b17, .ref b18, .ref b19, .ref b20, .ref b21, .int (nI tp), .int (nI f9), .int (nI (t9 + 1)), .int 2, .long x_29, .int i27, .int i28, .int i29, .int i30, .int i31, .int i32, .int i33, .ref b34, .ref b35, .int (nI tm), .ref b37, .ref b38, .ref b39, .ref b40, .ref b41])), (b21, .inl (cT, 300, .inl ft))] := hD
            refine lv_goto (tgt := 243) hx hb dX7_next_332 (by decide) ?_
            exact ih f9 (t9 + 1) x_29 _ _ _ (by omega) (by omega) (by omega) (by omega) (by omega) (by rw [ex_29, ex_28, ex_26, ex_27]; exact okDg_step hdg hsm (by assumption)) (fun h => absurd h (by omega)) ⟨hP, hD⟩ hS (lv_sub hl [0] rfl)
          · have c_25 : ¬ (wv ≤ 1000) := fun h => c_25 ((lg_cmp_le _ _).mpr h)
            refine lv_aload_n hx hb dX7_next_289 rfl (lv_at hl 0 rfl) ?_
            refine va_get (D := (dC, dI)) (ci := 8) (v := .long wv) (C := RX7) (T := TX7) (N := 42) hx hb hts hinX7 hown hK hP 0 rfl rfl 26 (by decide) (hts (.fieldLink RX7 124 "AgreedTalksModel" "worth" "J") (by decide +kernel)) (fun _ h9 => h9) rfl dX7_next_290 ?_
            refine lv_goto (tgt := 319) hx hb dX7_next_293 (by decide) ?_
            refine va_put (D := (dC, dI)) (ci := 8) (v := .long wv) (ty := .long) (C := RX7) (T := TX7) (N := 42) hx hb hts hinX7 tyX7 tyX7_ok nmX7 hown hK hP hD hS 0 rfl rfl 26 (by decide) (hts (.fieldLink RX7 124 "AgreedTalksModel" "worth" "J") (by decide +kernel)) (fun _ h9 => h9) rfl (by decide +kernel) rfl rfl (Nat.le_of_ble_eq_true rfl) dX7_next_319 (fun H locs hP hD hS => ?_)
            have hP : va_P (dC, dI) vwCl [(h0, .inr (8, [.int i0, .int i1, .int (nI mk), .ref b3, .ref b4, .int (nI rk), .ref b6, .ref b7, .ref b8, .ref b9, .ref b10, .ref b11, .ref b12, .ref b13, .int (nI nl), .ref b15, .ref b16, .ref b17, .ref b18, .ref b19, .ref b20, .ref b21, .int (nI tp), .int (nI f9), .int (nI t9), .int 2, .long wv, .int i27, .int i28, .int i29, .int i30, .int i31, .int i32, .int i33, .ref b34, .ref b35, .int (nI tm), .ref b37, .ref b38, .ref b39, .ref b40, .ref b41])), (b21, .inl (cT, 300, .inl ft))] H := hP
            have hD : va_D A [(h0, .inr (8, [.int i0, .int i1, .int (nI mk), .ref b3, .ref b4, .int (nI rk), .ref b6, .ref b7, .ref b8, .ref b9, .ref b10, .ref b11, .ref b12, .ref b13, .int (nI nl), .ref b15, .ref b16, .ref b17, .ref b18, .ref b19, .ref b20, .ref b21, .int (nI tp), .int (nI f9), .int (nI t9), .int 2, .long wv, .int i27, .int i28, .int i29, .int i30, .int i31, .int i32, .int i33, .ref b34, .ref b35, .int (nI tm), .ref b37, .ref b38, .ref b39, .ref b40, .ref b41])), (b21, .inl (cT, 300, .inl ft))] := hD
            refine lv_aload_n hx hb dX7_next_322 rfl (lv_at hl 0 rfl) ?_
            refine lv_dup hx hb dX7_next_323 rfl ?_
            refine va_get (D := (dC, dI)) (ci := 8) (v := .int (nI t9)) (C := RX7) (T := TX7) (N := 42) hx hb hts hinX7 hown hK hP 0 rfl rfl 24 (by decide) (hts (.fieldLink RX7 118 "AgreedTalksModel" "to" "I") (by decide +kernel)) (fun _ h9 => h9) rfl dX7_next_324 ?_
            refine lv_iconst (v := 1) hx hb dX7_next_327 (by decide) ?_
            refine lv_iadd hx hb dX7_next_328 ?_
            refine lv_topi (fun x_31 ex_31 => ?_)
            obtain rfl : x_31 = (nI (t9 + 1)) := by rw [ex_31]; exact nI_add _ _
            refine va_put (D := (dC, dI)) (ci := 8) (v := .int (nI (t9 + 1))) (ty := .int) (C := RX7) (T := TX7) (N := 42) hx hb hts hinX7 tyX7 tyX7_ok nmX7 hown hK hP hD hS 0 rfl rfl 24 (by decide) (hts (.fieldLink RX7 118 "AgreedTalksModel" "to" "I") (by decide +kernel)) (fun _ h9 => h9) rfl (by decide +kernel) rfl rfl (Nat.le_of_ble_eq_true rfl) dX7_next_329 (fun H locs hP hD hS => ?_)
            have hP : va_P (dC, dI) vwCl [(h0, .inr (8, [.int i0, .int i1, .int (nI mk), .ref b3, .ref b4, .int (nI rk), .ref b6, .ref b7, .ref b8, .ref b9, .ref b10, .ref b11, .ref b12, .ref b13, .int (nI nl), .ref b15, .ref b16, .ref b17, .ref b18, .ref b19, .ref b20, .ref b21, .int (nI tp), .int (nI f9), .int (nI (t9 + 1)), .int 2, .long wv, .int i27, .int i28, .int i29, .int i30, .int i31, .int i32, .int i33, .ref b34, .ref b35, .int (nI tm), .ref b37, .ref b38, .ref b39, .ref b40, .ref b41])), (b21, .inl (cT, 300, .inl ft))] H := hP
            have hD : va_D A [(h0, .inr (8, [.int i0, .int i1, .int (nI mk), .ref b3, .ref b4, .int (nI rk), .ref b6, .ref b7, .ref b8, .ref b9, .ref b10, .ref b11, .ref b12, .ref b13, .int (nI nl), .ref b15, .ref b16, .ref b17, .ref b18, .ref b19, .ref b20, .ref b21, .int (nI tp), .int (nI f9), .int (nI (t9 + 1)), .int 2, .long wv, .int i27, .int i28, .int i29, .int i30, .int i31, .int i32, .int i33, .ref b34, .ref b35, .int (nI tm), .ref b37, .ref b38, .ref b39, .ref b40, .ref b41])), (b21, .inl (cT, 300, .inl ft))] := hD
            refine lv_goto (tgt := 243) hx hb dX7_next_332 (by decide) ?_
            exact ih f9 (t9 + 1) wv _ _ _ (by omega) (by omega) (by omega) (by omega) (by omega) (by assumption) (fun h => absurd h (by omega)) ⟨hP, hD⟩ hS (lv_sub hl [0] rfl)
set_option maxHeartbeats 4000000 in
set_option maxRecDepth 100000 in
theorem sg_X7_next_149 {p : Program} {l : Launch} {e : Env} {s : State} {m : MethodId} {args : Array Value} {below : List Frame} {meth : Method} {c : Code} {Q : State → Prop} {A : Nat → Prop} {dC : Nat → ClassId} {dI : Nat → Nat → Nat} (h0 : Nat) (b3 : Nat) (b4 : Nat) (b6 : Nat) (b7 : Nat) (b8 : Nat) (b9 : Nat) (b10 : Nat) (b11 : Nat) (b12 : Nat) (b13 : Nat) (b15 : Nat) (b16 : Nat) (b17 : Nat) (b18 : Nat) (b19 : Nat) (b20 : Nat) (b21 : Nat) (b34 : Nat) (b35 : Nat) (b37 : Nat) (b38 : Nat) (b39 : Nat) (b40 : Nat) (b41 : Nat) (i0 : Int32) (i1 : Int32) (mk : Nat) (rk : Nat) (nl : Nat) (tp : Nat) (i23 : Int32) (i25 : Int32) (w26 : Int64) (i27 : Int32) (i28 : Int32) (i29 : Int32) (i30 : Int32) (i31 : Int32) (i32 : Int32) (i33 : Int32) (tm : Nat) (t0 : Nat) (cT : ClassId) (ft : Nat → Int32) (qtp : tp ≤ 300) (q0 : t0 ≤ tp) (hx : p.tables.exec = Jvm.exec) (hb : c.code = cX7_next) (hml : c.maxLocals = 1) (hown : s.vm.findClass RX7 = some m.cls) (hts : ∀ w ∈ wp_X7_next, w.before args s = true) (hK : va_K (dC, dI) vwCl [(cT, .int)] s) (hA : ∀ q : Nat, s.heap.size ≤ q → A q) (kk_335 : ∀ (f9 : Nat) (t9 : Nat) (so : Int32) (wv : Int64) (H : Heap) (locs : List Loc) (ls : Array Slot), (t0 ≤ f9) → (f9 ≤ t9) → (t9 ≤ tp) → (okS ft f9 t9 so wv) → okPD (dC, dI) vwCl A [(h0, .inr (8, [.int i0, .int i1, .int (nI mk), .ref b3, .ref b4, .int (nI rk), .ref b6, .ref b7, .ref b8, .ref b9, .ref b10, .ref b11, .ref b12, .ref b13, .int (nI nl), .ref b15, .ref b16, .ref b17, .ref b18, .ref b19, .ref b20, .ref b21, .int (nI tp), .int (nI f9), .int (nI t9), .int so, .long wv, .int i27, .int i28, .int i29, .int i30, .int i31, .int i32, .int i33, .ref b34, .ref b35, .int (nI tm), .ref b37, .ref b38, .ref b39, .ref b40, .ref b41])), (b21, .inl (cT, 300, .inl ft))] H → va_S A s.heap H locs → lv_has ls 1 [(0, .ref h0)] → W p l e ({ frames := 1, cells := 0, slots := 0, locals := 30 } : Room) s m args below meth c H locs 0 0 Q (F0 m 335 ls [])) : ∀ (n : Nat) (f9 : Nat) (t9 : Nat) (wv : Int64) (H : Heap) (locs : List Loc) (ls : Array Slot), tp - t9 < n → (t0 ≤ f9) → (f9 ≤ t9) → (t9 ≤ tp) → (f9 < tp) → (okWd ft f9 (t9 - f9) wv) → (t9 = f9 → okSm (ft f9)) → okPD (dC, dI) vwCl A [(h0, .inr (8, [.int i0, .int i1, .int (nI mk), .ref b3, .ref b4, .int (nI rk), .ref b6, .ref b7, .ref b8, .ref b9, .ref b10, .ref b11, .ref b12, .ref b13, .int (nI nl), .ref b15, .ref b16, .ref b17, .ref b18, .ref b19, .ref b20, .ref b21, .int (nI tp), .int (nI f9), .int (nI t9), .int 1, .long wv, .int i27, .int i28, .int i29, .int i30, .int i31, .int i32, .int i33, .ref b34, .ref b35, .int (nI tm), .ref b37, .ref b38, .ref b39, .ref b40, .ref b41])), (b21, .inl (cT, 300, .inl ft))] H → va_S A s.heap H locs → lv_has ls 1 [(0, .ref h0)] → W p l e ({ frames := 1, cells := 0, slots := 0, locals := 30 } : Room) s m args below meth c H locs 0 0 Q (F0 m 149 ls []) := by
  have hinX7 : ∀ w ∈ u_ws RX7 TX7 42, w ∈ wp_X7_next := fun _ h => List.mem_cons_of_mem _ (List.mem_append_left _ (List.mem_append_left _ (List.mem_append_right _ h)))
  intro n
  induction n with
  | zero =>
    intro f9 t9 wv H locs ls hn
    exact absurd hn (Nat.not_lt_zero _)
  | succ n ih =>
    intro f9 t9 wv H locs ls hn hge hf ht hft hwd hz hPD hS hl
    obtain ⟨hP, hD⟩ := hPD
    refine lv_aload_n hx hb dX7_next_149 rfl (lv_at hl 0 rfl) ?_
    refine va_get (D := (dC, dI)) (ci := 8) (v := .int 1) (C := RX7) (T := TX7) (N := 42) hx hb hts hinX7 hown hK hP 0 rfl rfl 25 (by decide) (hts (.fieldLink RX7 135 "AgreedTalksModel" "sort" "I") (by decide +kernel)) (fun _ h9 => h9) rfl dX7_next_150 ?_
    refine lv_iconst (v := 1) hx hb dX7_next_153 (by decide) ?_
    refine lv_icmp_ne (tgt := 243) hx hb dX7_next_154 (by decide) (fun c_37 => ?_) (fun c_37 => ?_)
    · exact absurd c_37 (by decide)
    · refine lv_aload_n hx hb dX7_next_157 rfl (lv_at hl 0 rfl) ?_
      refine va_get (D := (dC, dI)) (ci := 8) (v := .int (nI t9)) (C := RX7) (T := TX7) (N := 42) hx hb hts hinX7 hown hK hP 0 rfl rfl 24 (by decide) (hts (.fieldLink RX7 118 "AgreedTalksModel" "to" "I") (by decide +kernel)) (fun _ h9 => h9) rfl dX7_next_158 ?_
      refine lv_aload_n hx hb dX7_next_161 rfl (lv_at hl 0 rfl) ?_
      refine va_get (D := (dC, dI)) (ci := 8) (v := .int (nI tp)) (C := RX7) (T := TX7) (N := 42) hx hb hts hinX7 hown hK hP 0 rfl rfl 22 (by decide) (hts (.fieldLink RX7 111 "AgreedTalksModel" "taped" "I") (by decide +kernel)) (fun _ h9 => h9) rfl dX7_next_162 ?_
      refine lv_icmp_ge (tgt := 243) hx hb dX7_next_165 (by decide) (fun c_38 => ?_) (fun c_38 => ?_)
      · have c_38 : tp ≤ t9 := (nI_leI (a := tp) (b := t9) (by omega) (by omega)).mp c_38
        have hlt : f9 < t9 := by omega
        refine lv_aload_n hx hb dX7_next_243 rfl (lv_at hl 0 rfl) ?_
        refine va_get (D := (dC, dI)) (ci := 8) (v := .int 1) (C := RX7) (T := TX7) (N := 42) hx hb hts hinX7 hown hK hP 0 rfl rfl 25 (by decide) (hts (.fieldLink RX7 135 "AgreedTalksModel" "sort" "I") (by decide +kernel)) (fun _ h9 => h9) rfl dX7_next_244 ?_
        refine lv_iconst (v := 2) hx hb dX7_next_247 (by decide) ?_
        refine lv_icmp_ne (tgt := 335) hx hb dX7_next_248 (by decide) (fun c_39 => ?_) (fun c_39 => ?_)
        · exact kk_335 f9 t9 1 wv _ _ _ (by omega) (by omega) (by omega) (okS_w hwd hlt) ⟨hP, hD⟩ hS (lv_sub hl [0] rfl)
        · exact absurd c_39 (by decide)
      · have c_38 : ¬ (tp ≤ t9) := fun h => c_38 ((nI_leI (a := tp) (b := t9) (by omega) (by omega)).mpr h)
        refine lv_aload_n hx hb dX7_next_168 rfl (lv_at hl 0 rfl) ?_
        refine va_get (D := (dC, dI)) (ci := 8) (v := .ref b21) (C := RX7) (T := TX7) (N := 42) hx hb hts hinX7 hown hK hP 0 rfl rfl 21 (by decide) (hts (.fieldLink RX7 59 "AgreedTalksModel" "tape" "[I") (by decide +kernel)) (fun _ h9 => h9) rfl dX7_next_169 ?_
        refine lv_aload_n hx hb dX7_next_172 rfl (lv_at hl 0 rfl) ?_
        refine va_get (D := (dC, dI)) (ci := 8) (v := .int (nI t9)) (C := RX7) (T := TX7) (N := 42) hx hb hts hinX7 hown hK hP 0 rfl rfl 24 (by decide) (hts (.fieldLink RX7 118 "AgreedTalksModel" "to" "I") (by decide +kernel)) (fun _ h9 => h9) rfl dX7_next_173 ?_
        refine va_iald hx hb hK hP 1 0 rfl rfl (vp_in_nI (by omega) (by omega)) dX7_next_176 ?_
        refine lv_topi (fun x_40 ex_40 => ?_)
        rw [show (Int32.toNatClampNeg (nI t9)) = t9 from nI_clamp (by omega)] at ex_40
        have hPc := hP.sub (ws' := []) [] rfl
        have hDc := hD.sub (ws' := []) [] (by decide) rfl
        have hKc := hK.sub (tys' := []) [] rfl
        have hFc := va_free (wc := []) hD hS hA [] rfl
        refine va_calli (va_runS (As := [.int x_40]) (rest := []) ⟨hx, hb, hml, hown, hts⟩ (c_X7_isSmall l dC dI _ x_40) (va_cwS 1 hts gc_X7_next_X7_isSmall rfl rfl rfl (by decide +kernel) ⟨Nat.le_of_ble_eq_true rfl, Nat.le_of_ble_eq_true rfl⟩) ⟨fun a U g mk q => by obtain ⟨q0, q1, qP, qK, qD⟩ := q; exact ⟨q0, q1, qP, va_K.moved (u := U) (U := U.calling g mk a) (Vm.Alike.refl U.vm) qK, qD⟩, fun U hU hW => ⟨rfl, by rw [hU], by rw [hU]; exact hPc, va_K.moved hW.alike hKc, hDc.weaken (fun _ _ _ _ => trivial)⟩⟩ rfl rfl hl.1 rfl (lv_room (Nat.le_of_ble_eq_true rfl)) dX7_next_177 ⟨Nat.zero_le _, Nat.zero_le _⟩) hS (fun q _ h => hFc q h) hFc (fun r_41 u t H1 locs ht hvm hw hB hz1 hk1 hS => ?_)
        obtain ⟨hP1, hK1, hD1⟩ := hB
        rw [ht] at hP1
        obtain ⟨hP, hD⟩ := va_join (wr := [(h0, .inr (8, [.int i0, .int i1, .int (nI mk), .ref b3, .ref b4, .int (nI rk), .ref b6, .ref b7, .ref b8, .ref b9, .ref b10, .ref b11, .ref b12, .ref b13, .int (nI nl), .ref b15, .ref b16, .ref b17, .ref b18, .ref b19, .ref b20, .ref b21, .int (nI tp), .int (nI f9), .int (nI t9), .int 1, .long wv, .int i27, .int i28, .int i29, .int i30, .int i31, .int i32, .int i33, .ref b34, .ref b35, .int (nI tm), .ref b37, .ref b38, .ref b39, .ref b40, .ref b41])), (b21, .inl (cT, 300, .inl ft))]) (w1 := []) hP hD [] [0, 1] rfl rfl (by decide) (by decide) hk1 hFc hP1 hD1
        generalize H1 = H at hP hS ⊢
        have hP : va_P (dC, dI) vwCl [(h0, .inr (8, [.int i0, .int i1, .int (nI mk), .ref b3, .ref b4, .int (nI rk), .ref b6, .ref b7, .ref b8, .ref b9, .ref b10, .ref b11, .ref b12, .ref b13, .int (nI nl), .ref b15, .ref b16, .ref b17, .ref b18, .ref b19, .ref b20, .ref b21, .int (nI tp), .int (nI f9), .int (nI t9), .int 1, .long wv, .int i27, .int i28, .int i29, .int i30, .int i31, .int i32, .int i33, .ref b34, .ref b35, .int (nI tm), .ref b37, .ref b38, .ref b39, .ref b40, .ref b41])), (b21, .inl (cT, 300, .inl ft))] H := hP
        have hD : va_D A [(h0, .inr (8, [.int i0, .int i1, .int (nI mk), .ref b3, .ref b4, .int (nI rk), .ref b6, .ref b7, .ref b8, .ref b9, .ref b10, .ref b11, .ref b12, .ref b13, .int (nI nl), .ref b15, .ref b16, .ref b17, .ref b18, .ref b19, .ref b20, .ref b21, .int (nI tp), .int (nI f9), .int (nI t9), .int 1, .long wv, .int i27, .int i28, .int i29, .int i30, .int i31, .int i32, .int i33, .ref b34, .ref b35, .int (nI tm), .ref b37, .ref b38, .ref b39, .ref b40, .ref b41])), (b21, .inl (cT, 300, .inl ft))] := hD
        have hr_41 := hw
        try dsimp only at hr_41
        refine lv_if_eq (tgt := 243) hx hb dX7_next_180 (by decide) (fun c_42 => ?_) (fun c_42 => ?_)
        · have hlt : f9 < t9 := by
            rcases Nat.lt_or_ge f9 t9 with h | h
            · exact h
            · have e1 : t9 = f9 := by omega
              rcases hr_41 with ⟨_, h2⟩ | ⟨h1, _⟩
              · exact absurd (by rw [ex_40, e1]; exact hz e1) h2
              · rw [h1] at c_42; exact absurd c_42 (by decide)
          refine lv_aload_n hx hb dX7_next_243 rfl (lv_at hl 0 rfl) ?_
          refine va_get (D := (dC, dI)) (ci := 8) (v := .int 1) (C := RX7) (T := TX7) (N := 42) hx hb hts hinX7 hown hK hP 0 rfl rfl 25 (by decide) (hts (.fieldLink RX7 135 "AgreedTalksModel" "sort" "I") (by decide +kernel)) (fun _ h9 => h9) rfl dX7_next_244 ?_
          refine lv_iconst (v := 2) hx hb dX7_next_247 (by decide) ?_
          refine lv_icmp_ne (tgt := 335) hx hb dX7_next_248 (by decide) (fun c_43 => ?_) (fun c_43 => ?_)
          · exact kk_335 f9 t9 1 wv _ _ _ (by omega) (by omega) (by omega) (okS_w hwd hlt) ⟨hP, hD⟩ hS (lv_sub hl [0] rfl)
          · exact absurd c_43 (by decide)
        · have hsm : okSm (ft t9) := by
            rcases hr_41 with ⟨h1, _⟩ | ⟨_, h2⟩
            · exact absurd h1 c_42
            · rw [← ex_40]; exact h2
          refine lv_aload_n hx hb dX7_next_183 rfl (lv_at hl 0 rfl) ?_
          refine lv_aload_n hx hb dX7_next_184 rfl (lv_at hl 0 rfl) ?_
          refine va_get (D := (dC, dI)) (ci := 8) (v := .int (nI t9)) (C := RX7) (T := TX7) (N := 42) hx hb hts hinX7 hown hK hP 0 rfl rfl 24 (by decide) (hts (.fieldLink RX7 118 "AgreedTalksModel" "to" "I") (by decide +kernel)) (fun _ h9 => h9) rfl dX7_next_185 ?_
          refine lv_aload_n hx hb dX7_next_188 rfl (lv_at hl 0 rfl) ?_
          refine va_get (D := (dC, dI)) (ci := 8) (v := .int (nI f9)) (C := RX7) (T := TX7) (N := 42) hx hb hts hinX7 hown hK hP 0 rfl rfl 23 (by decide) (hts (.fieldLink RX7 121 "AgreedTalksModel" "from" "I") (by decide +kernel)) (fun _ h9 => h9) rfl dX7_next_189 ?_
          refine lv_isub hx hb dX7_next_192 ?_
          refine lv_topi (fun x_44 ex_44 => ?_)
          obtain rfl : x_44 = (nI (t9 - f9)) := by rw [ex_44]; exact pk_sub (by omega)
          refine lv_bipush (v := 8) hx hb dX7_next_193 (by decide) ?_
          refine lv_icmp_ge (tgt := 224) hx hb dX7_next_195 (by decide) (fun c_45 => ?_) (fun c_45 => ?_)
          · have c_45 : 8 ≤ t9 - f9 := (nI_leI (a := 8) (b := t9 - f9) (by omega) (by omega)).mp c_45
            refine lv_ldc2 (v := (-1)) hx hb hown (hts (.constantLong RX7 142 (-1)) (by decide +kernel)) dX7_next_224 ?_
            refine va_put (D := (dC, dI)) (ci := 8) (v := .long (-1)) (ty := .long) (C := RX7) (T := TX7) (N := 42) hx hb hts hinX7 tyX7 tyX7_ok nmX7 hown hK hP hD hS 0 rfl rfl 26 (by decide) (hts (.fieldLink RX7 124 "AgreedTalksModel" "worth" "J") (by decide +kernel)) (fun _ h9 => h9) rfl (by decide +kernel) rfl rfl (Nat.le_of_ble_eq_true rfl) dX7_next_227 (fun H locs hP hD hS => ?_)
            have hP : va_P (dC, dI) vwCl [(h0, .inr (8, [.int i0, .int i1, .int (nI mk), .ref b3, .ref b4, .int (nI rk), .ref b6, .ref b7, .ref b8, .ref b9, .ref b10, .ref b11, .ref b12, .ref b13, .int (nI nl), .ref b15, .ref b16, .ref b17, .ref b18, .ref b19, .ref b20, .ref b21, .int (nI tp), .int (nI f9), .int (nI t9), .int 1, .long (-1), .int i27, .int i28, .int i29, .int i30, .int i31, .int i32, .int i33, .ref b34, .ref b35, .int (nI tm), .ref b37, .ref b38, .ref b39, .ref b40, .ref b41])), (b21, .inl (cT, 300, .inl ft))] H := hP
            have hD : va_D A [(h0, .inr (8, [.int i0, .int i1, .int (nI mk), .ref b3, .ref b4, .int (nI rk), .ref b6, .ref b7, .ref b8, .ref b9, .ref b10, .ref b11, .ref b12, .ref b13, .int (nI nl), .ref b15, .ref b16, .ref b17, .ref b18, .ref b19, .ref b20, .ref b21, .int (nI tp), .int (nI f9), .int (nI t9), .int 1, .long (-1), .int i27, .int i28, .int i29, .int i30, .int i31, .int i32, .int i33, .ref b34, .ref b35, .int (nI tm), .ref b37, .ref b38, .ref b39, .ref b40, .ref b41])), (b21, .inl (cT, 300, .inl ft))] := hD
            refine lv_aload_n hx hb dX7_next_230 rfl (lv_at hl 0 rfl) ?_
            refine lv_dup hx hb dX7_next_231 rfl ?_
            refine va_get (D := (dC, dI)) (ci := 8) (v := .int (nI t9)) (C := RX7) (T := TX7) (N := 42) hx hb hts hinX7 hown hK hP 0 rfl rfl 24 (by decide) (hts (.fieldLink RX7 118 "AgreedTalksModel" "to" "I") (by decide +kernel)) (fun _ h9 => h9) rfl dX7_next_232 ?_
            refine lv_iconst (v := 1) hx hb dX7_next_235 (by decide) ?_
            refine lv_iadd hx hb dX7_next_236 ?_
            refine lv_topi (fun x_46 ex_46 => ?_)
            obtain rfl : x_46 = (nI (t9 + 1)) := by rw [ex_46]; exact nI_add _ _
            refine va_put (D := (dC, dI)) (ci := 8) (v := .int (nI (t9 + 1))) (ty := .int) (C := RX7) (T := TX7) (N := 42) hx hb hts hinX7 tyX7 tyX7_ok nmX7 hown hK hP hD hS 0 rfl rfl 24 (by decide) (hts (.fieldLink RX7 118 "AgreedTalksModel" "to" "I") (by decide +kernel)) (fun _ h9 => h9) rfl (by decide +kernel) rfl rfl (Nat.le_of_ble_eq_true rfl) dX7_next_237 (fun H locs hP hD hS => ?_)
            have hP : va_P (dC, dI) vwCl [(h0, .inr (8, [.int i0, .int i1, .int (nI mk), .ref b3, .ref b4, .int (nI rk), .ref b6, .ref b7, .ref b8, .ref b9, .ref b10, .ref b11, .ref b12, .ref b13, .int (nI nl), .ref b15, .ref b16, .ref b17, .ref b18, .ref b19, .ref b20, .ref b21, .int (nI tp), .int (nI f9), .int (nI (t9 + 1)), .int 1, .long (-1), .int i27, .int i28, .int i29, .int i30, .int i31, .int i32, .int i33, .ref b34, .ref b35, .int (nI tm), .ref b37, .ref b38, .ref b39, .ref b40, .ref b41])), (b21, .inl (cT, 300, .inl ft))] H := hP
            have hD : va_D A [(h0, .inr (8, [.int i0, .int i1, .int (nI mk), .ref b3, .ref b4, .int (nI rk), .ref b6, .ref b7, .ref b8, .ref b9, .ref b10, .ref b11, .ref b12, .ref b13, .int (nI nl), .ref b15, .ref b16, .ref b17, .ref b18, .ref b19, .ref b20, .ref b21, .int (nI tp), .int (nI f9), .int (nI (t9 + 1)), .int 1, .long (-1), .int i27, .int i28, .int i29, .int i30, .int i31, .int i32, .int i33, .ref b34, .ref b35, .int (nI tm), .ref b37, .ref b38, .ref b39, .ref b40, .ref b41])), (b21, .inl (cT, 300, .inl ft))] := hD
            refine lv_goto (tgt := 149) hx hb dX7_next_240 (by decide) ?_
            exact ih f9 (t9 + 1) (-1) _ _ _ (by omega) (by omega) (by omega) (by omega) (by omega) (by rw [show t9 + 1 - f9 = (t9 - f9) + 1 by omega]; exact okWd_m1 _ _ (by omega)) (fun h => absurd h (by omega)) ⟨hP, hD⟩ hS (lv_sub hl [0] rfl)
          · have c_45 : ¬ (8 ≤ t9 - f9) := fun h => c_45 ((nI_leI (a := 8) (b := t9 - f9) (by omega) (by omega)).mpr h)
            refine lv_aload_n hx hb dX7_next_198 rfl (lv_at hl 0 rfl) ?_
            refine va_get (D := (dC, dI)) (ci := 8) (v := .long wv) (C := RX7) (T := TX7) (N := 42) hx hb hts hinX7 hown hK hP 0 rfl rfl 26 (by decide) (hts (.fieldLink RX7 124 "AgreedTalksModel" "worth" "J") (by decide +kernel)) (fun _ h9 => h9) rfl dX7_next_199 ?_
            refine lv_ldc2 (v := 32) hx hb hown (hts (.constantLong RX7 138 (32)) (by decide +kernel)) dX7_next_202 ?_
            refine lv_lmul hx hb dX7_next_205 ?_
            refine lv_topl (fun x_47 ex_47 => ?_)
            refine lv_aload_n hx hb dX7_next_206 rfl (lv_at hl 0 rfl) ?_
            refine va_get (D := (dC, dI)) (ci := 8) (v := .ref b21) (C := RX7) (T := TX7) (N := 42) hx hb hts hinX7 hown hK hP 0 rfl rfl 21 (by decide) (hts (.fieldLink RX7 59 "AgreedTalksModel" "tape" "[I") (by decide +kernel)) (fun _ h9 => h9) rfl dX7_next_207 ?_
            refine lv_aload_n hx hb dX7_next_210 rfl (lv_at hl 0 rfl) ?_
            refine va_get (D := (dC, dI)) (ci := 8) (v := .int (nI t9)) (C := RX7) (T := TX7) (N := 42) hx hb hts hinX7 hown hK hP 0 rfl rfl 24 (by decide) (hts (.fieldLink RX7 118 "AgreedTalksModel" "to" "I") (by decide +kernel)) (fun _ h9 => h9) rfl dX7_next_211 ?_
            refine va_iald hx hb hK hP 1 0 rfl rfl (vp_in_nI (by omega) (by omega)) dX7_next_214 ?_
            refine lv_topi (fun x_48 ex_48 => ?_)
            rw [show (Int32.toNatClampNeg (nI t9)) = t9 from nI_clamp (by omega)] at ex_48
            refine lv_i2l hx hb dX7_next_215 rfl ?_
            refine lv_ladd hx hb dX7_next_216 ?_
            refine lv_topl (fun x_49 ex_49 => ?_)
            refine lv_ldc2 (v := 96) hx hb hown (hts (.constantLong RX7 140 (96)) (by decide +kernel)) dX7_next_217 ?_
            refine lv_lsub hx hb dX7_next_220 ?_
            refine lv_topl (fun x_50 ex_50 => ?_)
            refine lv_goto (tgt := 227) hx hb dX7_next_221 (by decide) ?_
            refine va_put (D := (dC, dI)) (ci := 8) (v := .long x_50) (ty := .long) (C := RX7) (T := TX7) (N := 42) hx hb hts hinX7 tyX7 tyX7_ok nmX7 hown hK hP hD hS 0 rfl rfl 26 (by decide) (hts (.fieldLink RX7 124 "AgreedTalksModel" "worth" "J") (by decide +kernel)) (fun _ h9 => h9) rfl (by decide +kernel) rfl rfl (Nat.le_of_ble_eq_true rfl) dX7_next_227 (fun H locs hP hD hS => ?_)
            have hP : va_P (dC, dI) vwCl [(h0, .inr (8, [.int i0, .int i1, .int (nI mk), .ref b3, .ref b4, .int (nI rk), .ref b6, .ref b7, .ref b8, .ref b9, .ref b10, .ref b11, .ref b12, .ref b13, .int (nI nl), .ref b15, .ref b16, .ref b17, .ref b18, .ref b19, .ref b20, .ref b21, .int (nI tp), .int (nI f9), .int (nI t9), .int 1, .long x_50, .int i27, .int i28, .int i29, .int i30, .int i31, .int i32, .int i33, .ref b34, .ref b35, .int (nI tm), .ref b37, .ref b38, .ref b39, .ref b40, .ref b41])), (b21, .inl (cT, 300, .inl ft))] H := hP
            have hD : va_D A [(h0, .inr (8, [.int i0, .int i1, .int (nI mk), .ref b3, .ref b4, .int (nI rk), .ref b6, .ref b7, .ref b8, .ref b9, .ref b10, .ref b11, .ref b12, .ref b13, .int (nI nl), .ref b15, .ref b16, .ref b17, .ref b18, .ref b19, .ref b20, .ref b21, .int (nI tp), .int (nI f9), .int (nI t9), .int 1, .long x_50, .int i27, .int i28, .int i29, .int i30, .int i31, .int i32, .int i33, .ref b34, .ref b35, .int (nI tm), .ref b37, .ref b38, .ref b39, .ref b40, .ref b41])), (b21, .inl (cT, 300, .inl ft))] := hD
            refine lv_aload_n hx hb dX7_next_230 rfl (lv_at hl 0 rfl) ?_
            refine lv_dup hx hb dX7_next_231 rfl ?_
            refine va_get (D := (dC, dI)) (ci := 8) (v := .int (nI t9)) (C := RX7) (T := TX7) (N := 42) hx hb hts hinX7 hown hK hP 0 rfl rfl 24 (by decide) (hts (.fieldLink RX7 118 "AgreedTalksModel" "to" "I") (by decide +kernel)) (fun _ h9 => h9) rfl dX7_next_232 ?_
            refine lv_iconst (v := 1) hx hb dX7_next_235 (by decide) ?_
            refine lv_iadd hx hb dX7_next_236 ?_
            refine lv_topi (fun x_51 ex_51 => ?_)
            obtain rfl : x_51 = (nI (t9 + 1)) := by rw [ex_51]; exact nI_add _ _
            refine va_put (D := (dC, dI)) (ci := 8) (v := .int (nI (t9 + 1))) (ty := .int) (C := RX7) (T := TX7) (N := 42) hx hb hts hinX7 tyX7 tyX7_ok nmX7 hown hK hP hD hS 0 rfl rfl 24 (by decide) (hts (.fieldLink RX7 118 "AgreedTalksModel" "to" "I") (by decide +kernel)) (fun _ h9 => h9) rfl (by decide +kernel) rfl rfl (Nat.le_of_ble_eq_true rfl) dX7_next_237 (fun H locs hP hD hS => ?_)
            have hP : va_P (dC, dI) vwCl [(h0, .inr (8, [.int i0, .int i1, .int (nI mk), .ref b3, .ref b4, .int (nI rk), .ref b6, .ref b7, .ref b8, .ref b9, .ref b10, .ref b11, .ref b12, .ref b13, .int (nI nl), .ref b15, .ref b16, .ref b17, .ref b18, .ref b19, .ref b20, .ref b21, .int (nI tp), .int (nI f9), .int (nI (t9 + 1)), .int 1, .long x_50, .int i27, .int i28, .int i29, .int i30, .int i31, .int i32, .int i33, .ref b34, .ref b35, .int (nI tm), .ref b37, .ref b38, .ref b39, .ref b40, .ref b41])), (b21, .inl (cT, 300, .inl ft))] H := hP
            have hD : va_D A [(h0, .inr (8, [.int i0, .int i1, .int (nI mk), .ref b3, .ref b4, .int (nI rk), .ref b6, .ref b7, .ref b8, .ref b9, .ref b10, .ref b11, .ref b12, .ref b13, .int (nI nl), .ref b15, .ref b16, .ref b17, .ref b18, .ref b19, .ref b20, .ref b21, .int (nI tp), .int (nI f9), .int (nI (t9 + 1)), .int 1, .long x_50, .int i27, .int i28, .int i29, .int i30, .int i31, .int i32, .int i33, .ref b34, .ref b35, .int (nI tm), .ref b37, .ref b38, .ref b39, .ref b40, .ref b41])), (b21, .inl (cT, 300, .inl ft))] := hD
            refine lv_goto (tgt := 149) hx hb dX7_next_240 (by decide) ?_
            exact ih f9 (t9 + 1) x_50 _ _ _ (by omega) (by omega) (by omega) (by omega) (by omega) (by rw [show t9 + 1 - f9 = (t9 - f9) + 1 by omega, ex_50, ex_49, ex_47, ex_48, show ft t9 = ft (f9 + (t9 - f9)) by rw [Nat.add_sub_cancel' hf]]; exact okWd_step hwd (by rw [Nat.add_sub_cancel' hf]; exact hsm) (by omega)) (fun h => absurd h (by omega)) ⟨hP, hD⟩ hS (lv_sub hl [0] rfl)
set_option maxHeartbeats 4000000 in
set_option maxRecDepth 100000 in
/-- next(): the next token of the tape -/
theorem c_X7_next (l : Launch) (dC : Nat → ClassId) (dI : Nat → Nat → Nat) (sz : Nat) (h0 : Nat) (b3 : Nat) (b4 : Nat) (b6 : Nat) (b7 : Nat) (b8 : Nat) (b9 : Nat) (b10 : Nat) (b11 : Nat) (b12 : Nat) (b13 : Nat) (b15 : Nat) (b16 : Nat) (b17 : Nat) (b18 : Nat) (b19 : Nat) (b20 : Nat) (b21 : Nat) (b34 : Nat) (b35 : Nat) (b37 : Nat) (b38 : Nat) (b39 : Nat) (b40 : Nat) (b41 : Nat) (i0 : Int32) (i1 : Int32) (mk : Nat) (rk : Nat) (nl : Nat) (tp : Nat) (i23 : Int32) (i25 : Int32) (w26 : Int64) (i27 : Int32) (i28 : Int32) (i29 : Int32) (i30 : Int32) (i31 : Int32) (i32 : Int32) (i33 : Int32) (tm : Nat) (t0 : Nat) (cT : ClassId) (ft : Nat → Int32) (qtp : tp ≤ 300) (q0 : t0 ≤ tp) : Met l yX7_next wp_X7_next ({ frames := 1, cells := 0, slots := 0, locals := 30 }) (va_Pc [.ref h0] (fun U => U.heap.size = sz ∧ va_P (dC, dI) vwCl [(h0, .inr (8, [.int i0, .int i1, .int (nI mk), .ref b3, .ref b4, .int (nI rk), .ref b6, .ref b7, .ref b8, .ref b9, .ref b10, .ref b11, .ref b12, .ref b13, .int (nI nl), .ref b15, .ref b16, .ref b17, .ref b18, .ref b19, .ref b20, .ref b21, .int (nI tp), .int i23, .int (nI t0), .int i25, .long w26, .int i27, .int i28, .int i29, .int i30, .int i31, .int i32, .int i33, .ref b34, .ref b35, .int (nI tm), .ref b37, .ref b38, .ref b39, .ref b40, .ref b41])), (b21, .inl (cT, 300, .inl ft))] U.heap ∧ va_K (dC, dI) vwCl [(cT, .int)] U ∧ va_D (fun _ => True) [(h0, .inr (8, [.int i0, .int i1, .int (nI mk), .ref b3, .ref b4, .int (nI rk), .ref b6, .ref b7, .ref b8, .ref b9, .ref b10, .ref b11, .ref b12, .ref b13, .int (nI nl), .ref b15, .ref b16, .ref b17, .ref b18, .ref b19, .ref b20, .ref b21, .int (nI tp), .int i23, .int (nI t0), .int i25, .long w26, .int i27, .int i28, .int i29, .int i30, .int i31, .int i32, .int i33, .ref b34, .ref b35, .int (nI tm), .ref b37, .ref b38, .ref b39, .ref b40, .ref b41])), (b21, .inl (cT, 300, .inl ft))])) (va_Qv (fun (_ : Unit) => True) (fun (_ : Unit) (t : State) => ∃ (f1 : Nat), ∃ (t1 : Nat), ∃ (so : Int32), ∃ (wo : Int64), (t0 ≤ f1) ∧ (f1 ≤ t1) ∧ (t1 ≤ tp) ∧ (okS ft f1 t1 so wo) ∧ va_P (dC, dI) vwCl [(h0, .inr (8, [.int i0, .int i1, .int (nI mk), .ref b3, .ref b4, .int (nI rk), .ref b6, .ref b7, .ref b8, .ref b9, .ref b10, .ref b11, .ref b12, .ref b13, .int (nI nl), .ref b15, .ref b16, .ref b17, .ref b18, .ref b19, .ref b20, .ref b21, .int (nI tp), .int (nI f1), .int (nI t1), .int so, .long wo, .int i27, .int i28, .int i29, .int i30, .int i31, .int i32, .int i33, .ref b34, .ref b35, .int (nI tm), .ref b37, .ref b38, .ref b39, .ref b40, .ref b41])), (b21, .inl (cT, 300, .inl ft))] t.heap ∧ va_K (dC, dI) vwCl [(cT, .int)] t ∧ va_D (va_A [(h0, .inr (8, [.int i0, .int i1, .int (nI mk), .ref b3, .ref b4, .int (nI rk), .ref b6, .ref b7, .ref b8, .ref b9, .ref b10, .ref b11, .ref b12, .ref b13, .int (nI nl), .ref b15, .ref b16, .ref b17, .ref b18, .ref b19, .ref b20, .ref b21, .int (nI tp), .int i23, .int (nI t0), .int i25, .long w26, .int i27, .int i28, .int i29, .int i30, .int i31, .int i32, .int i33, .ref b34, .ref b35, .int (nI tm), .ref b37, .ref b38, .ref b39, .ref b40, .ref b41])), (b21, .inl (cT, 300, .inl ft))] sz) [(h0, .inr (8, [.int i0, .int i1, .int (nI mk), .ref b3, .ref b4, .int (nI rk), .ref b6, .ref b7, .ref b8, .ref b9, .ref b10, .ref b11, .ref b12, .ref b13, .int (nI nl), .ref b15, .ref b16, .ref b17, .ref b18, .ref b19, .ref b20, .ref b21, .int (nI tp), .int (nI f1), .int (nI t1), .int so, .long wo, .int i27, .int i28, .int i29, .int i30, .int i31, .int i32, .int i33, .ref b34, .ref b35, .int (nI tm), .ref b37, .ref b38, .ref b39, .ref b40, .ref b41])), (b21, .inl (cT, 300, .inl ft))]) (va_A [(h0, .inr (8, [.int i0, .int i1, .int (nI mk), .ref b3, .ref b4, .int (nI rk), .ref b6, .ref b7, .ref b8, .ref b9, .ref b10, .ref b11, .ref b12, .ref b13, .int (nI nl), .ref b15, .ref b16, .ref b17, .ref b18, .ref b19, .ref b20, .ref b21, .int (nI tp), .int i23, .int (nI t0), .int i25, .long w26, .int i27, .int i28, .int i29, .int i30, .int i31, .int i32, .int i33, .ref b34, .ref b35, .int (nI tm), .ref b37, .ref b38, .ref b39, .ref b40, .ref b41])), (b21, .inl (cT, 300, .inl ft))] sz)) 0 0 (va_A [(h0, .inr (8, [.int i0, .int i1, .int (nI mk), .ref b3, .ref b4, .int (nI rk), .ref b6, .ref b7, .ref b8, .ref b9, .ref b10, .ref b11, .ref b12, .ref b13, .int (nI nl), .ref b15, .ref b16, .ref b17, .ref b18, .ref b19, .ref b20, .ref b21, .int (nI tp), .int i23, .int (nI t0), .int i25, .long w26, .int i27, .int i28, .int i29, .int i30, .int i31, .int i32, .int i33, .ref b34, .ref b35, .int (nI tm), .ref b37, .ref b38, .ref b39, .ref b40, .ref b41])), (b21, .inl (cT, 300, .inl ft))] sz) := by
  refine Met.ofW (cc := cX7_next) (maxL := 1) (ret := none) (by decide) rfl ?_
  intro p e s m args below meth c s₁ B hml hv
  obtain ⟨rfl, hsz, hP, hK, hD0⟩ := hv
  have hx := B.exec
  have hb := B.bytes
  have hr := B.returns
  have hts := atoms_spec (ws := wp_X7_next) B.pre
  have hown : s.vm.findClass RX7 = some m.cls := findClass_of_methodNamed B.named
  have hlocks := B.notSynchronized
  subst hsz
  have hD := hD0.self (sz := s.heap.size)
  generalize hAe : va_A [(h0, .inr (8, [.int i0, .int i1, .int (nI mk), .ref b3, .ref b4, .int (nI rk), .ref b6, .ref b7, .ref b8, .ref b9, .ref b10, .ref b11, .ref b12, .ref b13, .int (nI nl), .ref b15, .ref b16, .ref b17, .ref b18, .ref b19, .ref b20, .ref b21, .int (nI tp), .int i23, .int (nI t0), .int i25, .long w26, .int i27, .int i28, .int i29, .int i30, .int i31, .int i32, .int i33, .ref b34, .ref b35, .int (nI tm), .ref b37, .ref b38, .ref b39, .ref b40, .ref b41])), (b21, .inl (cT, 300, .inl ft))] s.heap.size = A at hD ⊢
  have hA : ∀ q : Nat, s.heap.size ≤ q → A q := fun q h => by rw [← hAe]; exact Or.inr h
  have hS : va_S A s.heap s.heap [] := va_S.rf
  have hP : va_P (dC, dI) vwCl [(h0, .inr (8, [.int i0, .int i1, .int (nI mk), .ref b3, .ref b4, .int (nI rk), .ref b6, .ref b7, .ref b8, .ref b9, .ref b10, .ref b11, .ref b12, .ref b13, .int (nI nl), .ref b15, .ref b16, .ref b17, .ref b18, .ref b19, .ref b20, .ref b21, .int (nI tp), .int i23, .int (nI t0), .int i25, .long w26, .int i27, .int i28, .int i29, .int i30, .int i31, .int i32, .int i33, .ref b34, .ref b35, .int (nI tm), .ref b37, .ref b38, .ref b39, .ref b40, .ref b41])), (b21, .inl (cT, 300, .inl ft))] s.heap := hP
  have hl := lv_entry ([.ref h0]) (n := 1) (Nat.le_of_ble_eq_true rfl)
  rw [lg_entry_eq]
  generalize (lg_sl ([.ref h0]) ++ List.replicate (1 - (lg_sl ([.ref h0])).length) Slot.unset).toArray = ls at hl ⊢
  have hl : lv_has ls 1 [(0, .ref h0)] := hl
  have hinX7 : ∀ w ∈ u_ws RX7 TX7 42, w ∈ wp_X7_next := fun _ h => List.mem_cons_of_mem _ (List.mem_append_left _ (List.mem_append_left _ (List.mem_append_right _ h)))
  refine lv_aload_n hx hb dX7_next_0 rfl (lv_at hl 0 rfl) ?_
  refine lv_aload_n hx hb dX7_next_1 rfl (lv_at hl 0 rfl) ?_
  refine va_get (D := (dC, dI)) (ci := 8) (v := .int (nI t0)) (C := RX7) (T := TX7) (N := 42) hx hb hts hinX7 hown hK hP 0 rfl rfl 24 (by decide) (hts (.fieldLink RX7 118 "AgreedTalksModel" "to" "I") (by decide +kernel)) (fun _ h9 => h9) rfl dX7_next_2 ?_
  refine va_put (D := (dC, dI)) (ci := 8) (v := .int (nI t0)) (ty := .int) (C := RX7) (T := TX7) (N := 42) hx hb hts hinX7 tyX7 tyX7_ok nmX7 hown hK hP hD hS 0 rfl rfl 23 (by decide) (hts (.fieldLink RX7 121 "AgreedTalksModel" "from" "I") (by decide +kernel)) (fun _ h9 => h9) rfl (by decide +kernel) rfl rfl (Nat.le_of_ble_eq_true rfl) dX7_next_5 (fun H locs hP hD hS => ?_)
  have hP : va_P (dC, dI) vwCl [(h0, .inr (8, [.int i0, .int i1, .int (nI mk), .ref b3, .ref b4, .int (nI rk), .ref b6, .ref b7, .ref b8, .ref b9, .ref b10, .ref b11, .ref b12, .ref b13, .int (nI nl), .ref b15, .ref b16, .ref b17, .ref b18, .ref b19, .ref b20, .ref b21, .int (nI tp), .int (nI t0), .int (nI t0), .int i25, .long w26, .int i27, .int i28, .int i29, .int i30, .int i31, .int i32, .int i33, .ref b34, .ref b35, .int (nI tm), .ref b37, .ref b38, .ref b39, .ref b40, .ref b41])), (b21, .inl (cT, 300, .inl ft))] H := hP
  have hD : va_D A [(h0, .inr (8, [.int i0, .int i1, .int (nI mk), .ref b3, .ref b4, .int (nI rk), .ref b6, .ref b7, .ref b8, .ref b9, .ref b10, .ref b11, .ref b12, .ref b13, .int (nI nl), .ref b15, .ref b16, .ref b17, .ref b18, .ref b19, .ref b20, .ref b21, .int (nI tp), .int (nI t0), .int (nI t0), .int i25, .long w26, .int i27, .int i28, .int i29, .int i30, .int i31, .int i32, .int i33, .ref b34, .ref b35, .int (nI tm), .ref b37, .ref b38, .ref b39, .ref b40, .ref b41])), (b21, .inl (cT, 300, .inl ft))] := hD
  refine sg_X7_next_8 h0 b3 b4 b6 b7 b8 b9 b10 b11 b12 b13 b15 b16 b17 b18 b19 b20 b21 b34 b35 b37 b38 b39 b40 b41 i0 i1 mk rk nl tp i23 i25 w26 i27 i28 i29 i30 i31 i32 i33 tm t0 cT ft qtp q0 hx hb hml hown hts hK hA (fun f9_5 H locs ls hge hf hPD hS hl => ?_) ((tp - t0) + 1) t0 _ _ _ (Nat.lt_succ_self _) (by omega) (by omega) ⟨hP, hD⟩ hS (lv_sub hl [0] rfl)
  obtain ⟨hP, hD⟩ := hPD
  refine lv_aload_n hx hb dX7_next_46 rfl (lv_at hl 0 rfl) ?_
  refine lv_aload_n hx hb dX7_next_47 rfl (lv_at hl 0 rfl) ?_
  refine va_get (D := (dC, dI)) (ci := 8) (v := .int (nI f9_5)) (C := RX7) (T := TX7) (N := 42) hx hb hts hinX7 hown hK hP 0 rfl rfl 23 (by decide) (hts (.fieldLink RX7 121 "AgreedTalksModel" "from" "I") (by decide +kernel)) (fun _ h9 => h9) rfl dX7_next_48 ?_
  refine va_put (D := (dC, dI)) (ci := 8) (v := .int (nI f9_5)) (ty := .int) (C := RX7) (T := TX7) (N := 42) hx hb hts hinX7 tyX7 tyX7_ok nmX7 hown hK hP hD hS 0 rfl rfl 24 (by decide) (hts (.fieldLink RX7 118 "AgreedTalksModel" "to" "I") (by decide +kernel)) (fun _ h9 => h9) rfl (by decide +kernel) rfl rfl (Nat.le_of_ble_eq_true rfl) dX7_next_51 (fun H locs hP hD hS => ?_)
  have hP : va_P (dC, dI) vwCl [(h0, .inr (8, [.int i0, .int i1, .int (nI mk), .ref b3, .ref b4, .int (nI rk), .ref b6, .ref b7, .ref b8, .ref b9, .ref b10, .ref b11, .ref b12, .ref b13, .int (nI nl), .ref b15, .ref b16, .ref b17, .ref b18, .ref b19, .ref b20, .ref b21, .int (nI tp), .int (nI f9_5), .int (nI f9_5), .int i25, .long w26, .int i27, .int i28, .int i29, .int i30, .int i31, .int i32, .int i33, .ref b34, .ref b35, .int (nI tm), .ref b37, .ref b38, .ref b39, .ref b40, .ref b41])), (b21, .inl (cT, 300, .inl ft))] H := hP
  have hD : va_D A [(h0, .inr (8, [.int i0, .int i1, .int (nI mk), .ref b3, .ref b4, .int (nI rk), .ref b6, .ref b7, .ref b8, .ref b9, .ref b10, .ref b11, .ref b12, .ref b13, .int (nI nl), .ref b15, .ref b16, .ref b17, .ref b18, .ref b19, .ref b20, .ref b21, .int (nI tp), .int (nI f9_5), .int (nI f9_5), .int i25, .long w26, .int i27, .int i28, .int i29, .int i30, .int i31, .int i32, .int i33, .ref b34, .ref b35, .int (nI tm), .ref b37, .ref b38, .ref b39, .ref b40, .ref b41])), (b21, .inl (cT, 300, .inl ft))] := hD
  refine lv_aload_n hx hb dX7_next_54 rfl (lv_at hl 0 rfl) ?_
  refine lv_lconst (v := 0) hx hb dX7_next_55 (by decide) ?_
  refine va_put (D := (dC, dI)) (ci := 8) (v := .long 0) (ty := .long) (C := RX7) (T := TX7) (N := 42) hx hb hts hinX7 tyX7 tyX7_ok nmX7 hown hK hP hD hS 0 rfl rfl 26 (by decide) (hts (.fieldLink RX7 124 "AgreedTalksModel" "worth" "J") (by decide +kernel)) (fun _ h9 => h9) rfl (by decide +kernel) rfl rfl (Nat.le_of_ble_eq_true rfl) dX7_next_56 (fun H locs hP hD hS => ?_)
  have hP : va_P (dC, dI) vwCl [(h0, .inr (8, [.int i0, .int i1, .int (nI mk), .ref b3, .ref b4, .int (nI rk), .ref b6, .ref b7, .ref b8, .ref b9, .ref b10, .ref b11, .ref b12, .ref b13, .int (nI nl), .ref b15, .ref b16, .ref b17, .ref b18, .ref b19, .ref b20, .ref b21, .int (nI tp), .int (nI f9_5), .int (nI f9_5), .int i25, .long 0, .int i27, .int i28, .int i29, .int i30, .int i31, .int i32, .int i33, .ref b34, .ref b35, .int (nI tm), .ref b37, .ref b38, .ref b39, .ref b40, .ref b41])), (b21, .inl (cT, 300, .inl ft))] H := hP
  have hD : va_D A [(h0, .inr (8, [.int i0, .int i1, .int (nI mk), .ref b3, .ref b4, .int (nI rk), .ref b6, .ref b7, .ref b8, .ref b9, .ref b10, .ref b11, .ref b12, .ref b13, .int (nI nl), .ref b15, .ref b16, .ref b17, .ref b18, .ref b19, .ref b20, .ref b21, .int (nI tp), .int (nI f9_5), .int (nI f9_5), .int i25, .long 0, .int i27, .int i28, .int i29, .int i30, .int i31, .int i32, .int i33, .ref b34, .ref b35, .int (nI tm), .ref b37, .ref b38, .ref b39, .ref b40, .ref b41])), (b21, .inl (cT, 300, .inl ft))] := hD
  refine lv_aload_n hx hb dX7_next_59 rfl (lv_at hl 0 rfl) ?_
  refine lv_aload_n hx hb dX7_next_60 rfl (lv_at hl 0 rfl) ?_
  refine va_get (D := (dC, dI)) (ci := 8) (v := .int (nI f9_5)) (C := RX7) (T := TX7) (N := 42) hx hb hts hinX7 hown hK hP 0 rfl rfl 23 (by decide) (hts (.fieldLink RX7 121 "AgreedTalksModel" "from" "I") (by decide +kernel)) (fun _ h9 => h9) rfl dX7_next_61 ?_
  refine lv_aload_n hx hb dX7_next_64 rfl (lv_at hl 0 rfl) ?_
  refine va_get (D := (dC, dI)) (ci := 8) (v := .int (nI tp)) (C := RX7) (T := TX7) (N := 42) hx hb hts hinX7 hown hK hP 0 rfl rfl 22 (by decide) (hts (.fieldLink RX7 111 "AgreedTalksModel" "taped" "I") (by decide +kernel)) (fun _ h9 => h9) rfl dX7_next_65 ?_
  refine lv_icmp_ne (tgt := 75) hx hb dX7_next_68 (by decide) (fun c_6 => ?_) (fun c_6 => ?_)
  · have c_6 : ¬ (f9_5 = tp) := fun h => c_6 ((nI_eq (a := f9_5) (b := tp) (by omega) (by omega)).mpr h)
    refine lv_aload_n hx hb dX7_next_75 rfl (lv_at hl 0 rfl) ?_
    refine va_get (D := (dC, dI)) (ci := 8) (v := .ref b21) (C := RX7) (T := TX7) (N := 42) hx hb hts hinX7 hown hK hP 0 rfl rfl 21 (by decide) (hts (.fieldLink RX7 59 "AgreedTalksModel" "tape" "[I") (by decide +kernel)) (fun _ h9 => h9) rfl dX7_next_76 ?_
    refine lv_aload_n hx hb dX7_next_79 rfl (lv_at hl 0 rfl) ?_
    refine va_get (D := (dC, dI)) (ci := 8) (v := .int (nI f9_5)) (C := RX7) (T := TX7) (N := 42) hx hb hts hinX7 hown hK hP 0 rfl rfl 23 (by decide) (hts (.fieldLink RX7 121 "AgreedTalksModel" "from" "I") (by decide +kernel)) (fun _ h9 => h9) rfl dX7_next_80 ?_
    refine va_iald hx hb hK hP 1 0 rfl rfl (vp_in_nI (by omega) (by omega)) dX7_next_83 ?_
    refine lv_topi (fun x_7 ex_7 => ?_)
    rw [show (Int32.toNatClampNeg (nI f9_5)) = f9_5 from nI_clamp (by omega)] at ex_7
    have hPc := hP.sub (ws' := []) [] rfl
    have hDc := hD.sub (ws' := []) [] (by decide) rfl
    have hKc := hK.sub (tys' := []) [] rfl
    have hFc := va_free (wc := []) hD hS hA [] rfl
    refine va_calli (va_runS (As := [.int x_7]) (rest := [.ref h0]) ⟨hx, hb, hml, hown, hts⟩ (c_X7_isSmall l dC dI _ x_7) (va_cwS 1 hts gc_X7_next_X7_isSmall rfl rfl rfl (by decide +kernel) ⟨Nat.le_of_ble_eq_true rfl, Nat.le_of_ble_eq_true rfl⟩) ⟨fun a U g mk q => by obtain ⟨q0, q1, qP, qK, qD⟩ := q; exact ⟨q0, q1, qP, va_K.moved (u := U) (U := U.calling g mk a) (Vm.Alike.refl U.vm) qK, qD⟩, fun U hU hW => ⟨rfl, by rw [hU], by rw [hU]; exact hPc, va_K.moved hW.alike hKc, hDc.weaken (fun _ _ _ _ => trivial)⟩⟩ rfl rfl hl.1 rfl (lv_room (Nat.le_of_ble_eq_true rfl)) dX7_next_84 ⟨Nat.zero_le _, Nat.zero_le _⟩) hS (fun q _ h => hFc q h) hFc (fun r_8 u t H1 locs ht hvm hw hB hz1 hk1 hS => ?_)
    obtain ⟨hP1, hK1, hD1⟩ := hB
    rw [ht] at hP1
    obtain ⟨hP, hD⟩ := va_join (wr := [(h0, .inr (8, [.int i0, .int i1, .int (nI mk), .ref b3, .ref b4, .int (nI rk), .ref b6, .ref b7, .ref b8, .ref b9, .ref b10, .ref b11, .ref b12, .ref b13, .int (nI nl), .ref b15, .ref b16, .ref b17, .ref b18, .ref b19, .ref b20, .ref b21, .int (nI tp), .int (nI f9_5), .int (nI f9_5), .int i25, .long 0, .int i27, .int i28, .int i29, .int i30, .int i31, .int i32, .int i33, .ref b34, .ref b35, .int (nI tm), .ref b37, .ref b38, .ref b39, .ref b40, .ref b41])), (b21, .inl (cT, 300, .inl ft))]) (w1 := []) hP hD [] [0, 1] rfl rfl (by decide) (by decide) hk1 hFc hP1 hD1
    generalize H1 = H at hP hS ⊢
    have hP : va_P (dC, dI) vwCl [(h0, .inr (8, [.int i0, .int i1, .int (nI mk), .ref b3, .ref b4, .int (nI rk), .ref b6, .ref b7, .ref b8, .ref b9, .ref b10, .ref b11, .ref b12, .ref b13, .int (nI nl), .ref b15, .ref b16, .ref b17, .ref b18, .ref b19, .ref b20, .ref b21, .int (nI tp), .int (nI f9_5), .int (nI f9_5), .int i25, .long 0, .int i27, .int i28, .int i29, .int i30, .int i31, .int i32, .int i33, .ref b34, .ref b35, .int (nI tm), .ref b37, .ref b38, .ref b39, .ref b40, .ref b41])), (b21, .inl (cT, 300, .inl ft))] H := hP
    have hD : va_D A [(h0, .inr (8, [.int i0, .int i1, .int (nI mk), .ref b3, .ref b4, .int (nI rk), .ref b6, .ref b7, .ref b8, .ref b9, .ref b10, .ref b11, .ref b12, .ref b13, .int (nI nl), .ref b15, .ref b16, .ref b17, .ref b18, .ref b19, .ref b20, .ref b21, .int (nI tp), .int (nI f9_5), .int (nI f9_5), .int i25, .long 0, .int i27, .int i28, .int i29, .int i30, .int i31, .int i32, .int i33, .ref b34, .ref b35, .int (nI tm), .ref b37, .ref b38, .ref b39, .ref b40, .ref b41])), (b21, .inl (cT, 300, .inl ft))] := hD
    have hr_8 := hw
    try dsimp only at hr_8
    refine lv_if_eq (tgt := 94) hx hb dX7_next_87 (by decide) (fun c_9 => ?_) (fun c_9 => ?_)
    · refine lv_aload_n hx hb dX7_next_94 rfl (lv_at hl 0 rfl) ?_
      refine va_get (D := (dC, dI)) (ci := 8) (v := .ref b21) (C := RX7) (T := TX7) (N := 42) hx hb hts hinX7 hown hK hP 0 rfl rfl 21 (by decide) (hts (.fieldLink RX7 59 "AgreedTalksModel" "tape" "[I") (by decide +kernel)) (fun _ h9 => h9) rfl dX7_next_95 ?_
      refine lv_aload_n hx hb dX7_next_98 rfl (lv_at hl 0 rfl) ?_
      refine va_get (D := (dC, dI)) (ci := 8) (v := .int (nI f9_5)) (C := RX7) (T := TX7) (N := 42) hx hb hts hinX7 hown hK hP 0 rfl rfl 23 (by decide) (hts (.fieldLink RX7 121 "AgreedTalksModel" "from" "I") (by decide +kernel)) (fun _ h9 => h9) rfl dX7_next_99 ?_
      refine va_iald hx hb hK hP 1 0 rfl rfl (vp_in_nI (by omega) (by omega)) dX7_next_102 ?_
      refine lv_topi (fun x_10 ex_10 => ?_)
      rw [show (Int32.toNatClampNeg (nI f9_5)) = f9_5 from nI_clamp (by omega)] at ex_10
      have hPc := hP.sub (ws' := []) [] rfl
      have hDc := hD.sub (ws' := []) [] (by decide) rfl
      have hKc := hK.sub (tys' := []) [] rfl
      have hFc := va_free (wc := []) hD hS hA [] rfl
      refine va_calli (va_runS (As := [.int x_10]) (rest := [.ref h0]) ⟨hx, hb, hml, hown, hts⟩ (c_X7_isDigit l dC dI _ x_10) (va_cwS 1 hts gc_X7_next_X7_isDigit rfl rfl rfl (by decide +kernel) ⟨Nat.le_of_ble_eq_true rfl, Nat.le_of_ble_eq_true rfl⟩) ⟨fun a U g mk q => by obtain ⟨q0, q1, qP, qK, qD⟩ := q; exact ⟨q0, q1, qP, va_K.moved (u := U) (U := U.calling g mk a) (Vm.Alike.refl U.vm) qK, qD⟩, fun U hU hW => ⟨rfl, by rw [hU], by rw [hU]; exact hPc, va_K.moved hW.alike hKc, hDc.weaken (fun _ _ _ _ => trivial)⟩⟩ rfl rfl hl.1 rfl (lv_room (Nat.le_of_ble_eq_true rfl)) dX7_next_103 ⟨Nat.zero_le _, Nat.zero_le _⟩) hS (fun q _ h => hFc q h) hFc (fun r_11 u t H1 locs ht hvm hw hB hz1 hk1 hS => ?_)
      obtain ⟨hP1, hK1, hD1⟩ := hB
      rw [ht] at hP1
      obtain ⟨hP, hD⟩ := va_join (wr := [(h0, .inr (8, [.int i0, .int i1, .int (nI mk), .ref b3, .ref b4, .int (nI rk), .ref b6, .ref b7, .ref b8, .ref b9, .ref b10, .ref b11, .ref b12, .ref b13, .int (nI nl), .ref b15, .ref b16, .ref b17, .ref b18, .ref b19, .ref b20, .ref b21, .int (nI tp), .int (nI f9_5), .int (nI f9_5), .int i25, .long 0, .int i27, .int i28, .int i29, .int i30, .int i31, .int i32, .int i33, .ref b34, .ref b35, .int (nI tm), .ref b37, .ref b38, .ref b39, .ref b40, .ref b41])), (b21, .inl (cT, 300, .inl ft))]) (w1 := []) hP hD [] [0, 1] rfl rfl (by decide) (by decide) hk1 hFc hP1 hD1
      generalize H1 = H at hP hS ⊢
      have hP : va_P (dC, dI) vwCl [(h0, .inr (8, [.int i0, .int i1, .int (nI mk), .ref b3, .ref b4, .int (nI rk), .ref b6, .ref b7, .ref b8, .ref b9, .ref b10, .ref b11, .ref b12, .ref b13, .int (nI nl), .ref b15, .ref b16, .ref b17, .ref b18, .ref b19, .ref b20, .ref b21, .int (nI tp), .int (nI f9_5), .int (nI f9_5), .int i25, .long 0, .int i27, .int i28, .int i29, .int i30, .int i31, .int i32, .int i33, .ref b34, .ref b35, .int (nI tm), .ref b37, .ref b38, .ref b39, .ref b40, .ref b41])), (b21, .inl (cT, 300, .inl ft))] H := hP
      have hD : va_D A [(h0, .inr (8, [.int i0, .int i1, .int (nI mk), .ref b3, .ref b4, .int (nI rk), .ref b6, .ref b7, .ref b8, .ref b9, .ref b10, .ref b11, .ref b12, .ref b13, .int (nI nl), .ref b15, .ref b16, .ref b17, .ref b18, .ref b19, .ref b20, .ref b21, .int (nI tp), .int (nI f9_5), .int (nI f9_5), .int i25, .long 0, .int i27, .int i28, .int i29, .int i30, .int i31, .int i32, .int i33, .ref b34, .ref b35, .int (nI tm), .ref b37, .ref b38, .ref b39, .ref b40, .ref b41])), (b21, .inl (cT, 300, .inl ft))] := hD
      have hr_11 := hw
      try dsimp only at hr_11
      refine lv_if_eq (tgt := 113) hx hb dX7_next_106 (by decide) (fun c_12 => ?_) (fun c_12 => ?_)
      · refine lv_iconst (v := 3) hx hb dX7_next_113 (by decide) ?_
        refine va_put (D := (dC, dI)) (ci := 8) (v := .int 3) (ty := .int) (C := RX7) (T := TX7) (N := 42) hx hb hts hinX7 tyX7 tyX7_ok nmX7 hown hK hP hD hS 0 rfl rfl 25 (by decide) (hts (.fieldLink RX7 135 "AgreedTalksModel" "sort" "I") (by decide +kernel)) (fun _ h9 => h9) rfl (by decide +kernel) rfl rfl (Nat.le_of_ble_eq_true rfl) dX7_next_114 (fun H locs hP hD hS => ?_)
        have hP : va_P (dC, dI) vwCl [(h0, .inr (8, [.int i0, .int i1, .int (nI mk), .ref b3, .ref b4, .int (nI rk), .ref b6, .ref b7, .ref b8, .ref b9, .ref b10, .ref b11, .ref b12, .ref b13, .int (nI nl), .ref b15, .ref b16, .ref b17, .ref b18, .ref b19, .ref b20, .ref b21, .int (nI tp), .int (nI f9_5), .int (nI f9_5), .int 3, .long 0, .int i27, .int i28, .int i29, .int i30, .int i31, .int i32, .int i33, .ref b34, .ref b35, .int (nI tm), .ref b37, .ref b38, .ref b39, .ref b40, .ref b41])), (b21, .inl (cT, 300, .inl ft))] H := hP
        have hD : va_D A [(h0, .inr (8, [.int i0, .int i1, .int (nI mk), .ref b3, .ref b4, .int (nI rk), .ref b6, .ref b7, .ref b8, .ref b9, .ref b10, .ref b11, .ref b12, .ref b13, .int (nI nl), .ref b15, .ref b16, .ref b17, .ref b18, .ref b19, .ref b20, .ref b21, .int (nI tp), .int (nI f9_5), .int (nI f9_5), .int 3, .long 0, .int i27, .int i28, .int i29, .int i30, .int i31, .int i32, .int i33, .ref b34, .ref b35, .int (nI tm), .ref b37, .ref b38, .ref b39, .ref b40, .ref b41])), (b21, .inl (cT, 300, .inl ft))] := hD
        refine lv_aload_n hx hb dX7_next_117 rfl (lv_at hl 0 rfl) ?_
        refine va_get (D := (dC, dI)) (ci := 8) (v := .int 3) (C := RX7) (T := TX7) (N := 42) hx hb hts hinX7 hown hK hP 0 rfl rfl 25 (by decide) (hts (.fieldLink RX7 135 "AgreedTalksModel" "sort" "I") (by decide +kernel)) (fun _ h9 => h9) rfl dX7_next_118 ?_
        refine lv_iconst (v := 3) hx hb dX7_next_121 (by decide) ?_
        refine lv_icmp_ne (tgt := 149) hx hb dX7_next_122 (by decide) (fun c_13 => ?_) (fun c_13 => ?_)
        · exact absurd c_13 (by decide)
        · refine lv_aload_n hx hb dX7_next_125 rfl (lv_at hl 0 rfl) ?_
          refine lv_aload_n hx hb dX7_next_126 rfl (lv_at hl 0 rfl) ?_
          refine va_get (D := (dC, dI)) (ci := 8) (v := .ref b21) (C := RX7) (T := TX7) (N := 42) hx hb hts hinX7 hown hK hP 0 rfl rfl 21 (by decide) (hts (.fieldLink RX7 59 "AgreedTalksModel" "tape" "[I") (by decide +kernel)) (fun _ h9 => h9) rfl dX7_next_127 ?_
          refine lv_aload_n hx hb dX7_next_130 rfl (lv_at hl 0 rfl) ?_
          refine va_get (D := (dC, dI)) (ci := 8) (v := .int (nI f9_5)) (C := RX7) (T := TX7) (N := 42) hx hb hts hinX7 hown hK hP 0 rfl rfl 23 (by decide) (hts (.fieldLink RX7 121 "AgreedTalksModel" "from" "I") (by decide +kernel)) (fun _ h9 => h9) rfl dX7_next_131 ?_
          refine va_iald hx hb hK hP 1 0 rfl rfl (vp_in_nI (by omega) (by omega)) dX7_next_134 ?_
          refine lv_topi (fun x_14 ex_14 => ?_)
          rw [show (Int32.toNatClampNeg (nI f9_5)) = f9_5 from nI_clamp (by omega)] at ex_14
          refine lv_i2l hx hb dX7_next_135 rfl ?_
          refine va_put (D := (dC, dI)) (ci := 8) (v := .long ((x_14).toInt64)) (ty := .long) (C := RX7) (T := TX7) (N := 42) hx hb hts hinX7 tyX7 tyX7_ok nmX7 hown hK hP hD hS 0 rfl rfl 26 (by decide) (hts (.fieldLink RX7 124 "AgreedTalksModel" "worth" "J") (by decide +kernel)) (fun _ h9 => h9) rfl (by decide +kernel) rfl rfl (Nat.le_of_ble_eq_true rfl) dX7_next_136 (fun H locs hP hD hS => ?_)
          have hP : va_P (dC, dI) vwCl [(h0, .inr (8, [.int i0, .int i1, .int (nI mk), .ref b3, .ref b4, .int (nI rk), .ref b6, .ref b7, .ref b8, .ref b9, .ref b10, .ref b11, .ref b12, .ref b13, .int (nI nl), .ref b15, .ref b16, .ref b17, .ref b18, .ref b19, .ref b20, .ref b21, .int (nI tp), .int (nI f9_5), .int (nI f9_5), .int 3, .long ((x_14).toInt64), .int i27, .int i28, .int i29, .int i30, .int i31, .int i32, .int i33, .ref b34, .ref b35, .int (nI tm), .ref b37, .ref b38, .ref b39, .ref b40, .ref b41])), (b21, .inl (cT, 300, .inl ft))] H := hP
          have hD : va_D A [(h0, .inr (8, [.int i0, .int i1, .int (nI mk), .ref b3, .ref b4, .int (nI rk), .ref b6, .ref b7, .ref b8, .ref b9, .ref b10, .ref b11, .ref b12, .ref b13, .int (nI nl), .ref b15, .ref b16, .ref b17, .ref b18, .ref b19, .ref b20, .ref b21, .int (nI tp), .int (nI f9_5), .int (nI f9_5), .int 3, .long ((x_14).toInt64), .int i27, .int i28, .int i29, .int i30, .int i31, .int i32, .int i33, .ref b34, .ref b35, .int (nI tm), .ref b37, .ref b38, .ref b39, .ref b40, .ref b41])), (b21, .inl (cT, 300, .inl ft))] := hD
          refine lv_aload_n hx hb dX7_next_139 rfl (lv_at hl 0 rfl) ?_
          refine lv_dup hx hb dX7_next_140 rfl ?_
          refine va_get (D := (dC, dI)) (ci := 8) (v := .int (nI f9_5)) (C := RX7) (T := TX7) (N := 42) hx hb hts hinX7 hown hK hP 0 rfl rfl 24 (by decide) (hts (.fieldLink RX7 118 "AgreedTalksModel" "to" "I") (by decide +kernel)) (fun _ h9 => h9) rfl dX7_next_141 ?_
          refine lv_iconst (v := 1) hx hb dX7_next_144 (by decide) ?_
          refine lv_iadd hx hb dX7_next_145 ?_
          refine lv_topi (fun x_15 ex_15 => ?_)
          obtain rfl : x_15 = (nI (f9_5 + 1)) := by rw [ex_15]; exact nI_add _ _
          refine va_put (D := (dC, dI)) (ci := 8) (v := .int (nI (f9_5 + 1))) (ty := .int) (C := RX7) (T := TX7) (N := 42) hx hb hts hinX7 tyX7 tyX7_ok nmX7 hown hK hP hD hS 0 rfl rfl 24 (by decide) (hts (.fieldLink RX7 118 "AgreedTalksModel" "to" "I") (by decide +kernel)) (fun _ h9 => h9) rfl (by decide +kernel) rfl rfl (Nat.le_of_ble_eq_true rfl) dX7_next_146 (fun H locs hP hD hS => ?_)
          have hP : va_P (dC, dI) vwCl [(h0, .inr (8, [.int i0, .int i1, .int (nI mk), .ref b3, .ref b4, .int (nI rk), .ref b6, .ref b7, .ref b8, .ref b9, .ref b10, .ref b11, .ref b12, .ref b13, .int (nI nl), .ref b15, .ref b16, .ref b17, .ref b18, .ref b19, .ref b20, .ref b21, .int (nI tp), .int (nI f9_5), .int (nI (f9_5 + 1)), .int 3, .long ((x_14).toInt64), .int i27, .int i28, .int i29, .int i30, .int i31, .int i32, .int i33, .ref b34, .ref b35, .int (nI tm), .ref b37, .ref b38, .ref b39, .ref b40, .ref b41])), (b21, .inl (cT, 300, .inl ft))] H := hP
          have hD : va_D A [(h0, .inr (8, [.int i0, .int i1, .int (nI mk), .ref b3, .ref b4, .int (nI rk), .ref b6, .ref b7, .ref b8, .ref b9, .ref b10, .ref b11, .ref b12, .ref b13, .int (nI nl), .ref b15, .ref b16, .ref b17, .ref b18, .ref b19, .ref b20, .ref b21, .int (nI tp), .int (nI f9_5), .int (nI (f9_5 + 1)), .int 3, .long ((x_14).toInt64), .int i27, .int i28, .int i29, .int i30, .int i31, .int i32, .int i33, .ref b34, .ref b35, .int (nI tm), .ref b37, .ref b38, .ref b39, .ref b40, .ref b41])), (b21, .inl (cT, 300, .inl ft))] := hD
          refine lv_aload_n hx hb dX7_next_149 rfl (lv_at hl 0 rfl) ?_
          refine va_get (D := (dC, dI)) (ci := 8) (v := .int 3) (C := RX7) (T := TX7) (N := 42) hx hb hts hinX7 hown hK hP 0 rfl rfl 25 (by decide) (hts (.fieldLink RX7 135 "AgreedTalksModel" "sort" "I") (by decide +kernel)) (fun _ h9 => h9) rfl dX7_next_150 ?_
          refine lv_iconst (v := 1) hx hb dX7_next_153 (by decide) ?_
          refine lv_icmp_ne (tgt := 243) hx hb dX7_next_154 (by decide) (fun c_16 => ?_) (fun c_16 => ?_)
          · refine lv_aload_n hx hb dX7_next_243 rfl (lv_at hl 0 rfl) ?_
            refine va_get (D := (dC, dI)) (ci := 8) (v := .int 3) (C := RX7) (T := TX7) (N := 42) hx hb hts hinX7 hown hK hP 0 rfl rfl 25 (by decide) (hts (.fieldLink RX7 135 "AgreedTalksModel" "sort" "I") (by decide +kernel)) (fun _ h9 => h9) rfl dX7_next_244 ?_
            refine lv_iconst (v := 2) hx hb dX7_next_247 (by decide) ?_
            refine lv_icmp_ne (tgt := 335) hx hb dX7_next_248 (by decide) (fun c_17 => ?_) (fun c_17 => ?_)
            · have hP9 := hP.sub (ws' := [(h0, .inr (8, [.int i0, .int i1, .int (nI mk), .ref b3, .ref b4, .int (nI rk), .ref b6, .ref b7, .ref b8, .ref b9, .ref b10, .ref b11, .ref b12, .ref b13, .int (nI nl), .ref b15, .ref b16, .ref b17, .ref b18, .ref b19, .ref b20, .ref b21, .int (nI tp), .int (nI f9_5), .int (nI (f9_5 + 1)), .int 3, .long ((x_14).toInt64), .int i27, .int i28, .int i29, .int i30, .int i31, .int i32, .int i33, .ref b34, .ref b35, .int (nI tm), .ref b37, .ref b38, .ref b39, .ref b40, .ref b41])), (b21, .inl (cT, 300, .inl ft))]) [0, 1] rfl
              have hD9 := hD.sub (ws' := [(h0, .inr (8, [.int i0, .int i1, .int (nI mk), .ref b3, .ref b4, .int (nI rk), .ref b6, .ref b7, .ref b8, .ref b9, .ref b10, .ref b11, .ref b12, .ref b13, .int (nI nl), .ref b15, .ref b16, .ref b17, .ref b18, .ref b19, .ref b20, .ref b21, .int (nI tp), .int (nI f9_5), .int (nI (f9_5 + 1)), .int 3, .long ((x_14).toInt64), .int i27, .int i28, .int i29, .int i30, .int i31, .int i32, .int i33, .ref b34, .ref b35, .int (nI tm), .ref b37, .ref b38, .ref b39, .ref b40, .ref b41])), (b21, .inl (cT, 300, .inl ft))]) [0, 1] (by decide) rfl
              have hK9 := hK.sub (tys' := [(cT, .int)]) [0] rfl
              exact W.vret hx hb hr (fun t ht hW => ⟨⟨(), rfl, trivial, f9_5, (f9_5 + 1), 3, ((x_14).toInt64), (by omega), (by omega), (by omega), okS_3 _ (by omega) _, by rw [ht]; exact hP9, va_K.moved hW.alike hK9, hD9⟩, hS.F ht⟩) hS.2.2 dX7_next_335
            · exact absurd c_17 (by decide)
          · exact absurd c_16 (by decide)
      · have hsm0 : okDi (ft f9_5) := by
          rcases hr_11 with ⟨h1, _⟩ | ⟨_, h2⟩
          · exact absurd h1 c_12
          · rw [← ex_10]; exact h2
        refine lv_iconst (v := 2) hx hb dX7_next_109 (by decide) ?_
        refine lv_goto (tgt := 114) hx hb dX7_next_110 (by decide) ?_
        refine va_put (D := (dC, dI)) (ci := 8) (v := .int 2) (ty := .int) (C := RX7) (T := TX7) (N := 42) hx hb hts hinX7 tyX7 tyX7_ok nmX7 hown hK hP hD hS 0 rfl rfl 25 (by decide) (hts (.fieldLink RX7 135 "AgreedTalksModel" "sort" "I") (by decide +kernel)) (fun _ h9 => h9) rfl (by decide +kernel) rfl rfl (Nat.le_of_ble_eq_true rfl) dX7_next_114 (fun H locs hP hD hS => ?_)
        have hP : va_P (dC, dI) vwCl [(h0, .inr (8, [.int i0, .int i1, .int (nI mk), .ref b3, .ref b4, .int (nI rk), .ref b6, .ref b7, .ref b8, .ref b9, .ref b10, .ref b11, .ref b12, .ref b13, .int (nI nl), .ref b15, .ref b16, .ref b17, .ref b18, .ref b19, .ref b20, .ref b21, .int (nI tp), .int (nI f9_5), .int (nI f9_5), .int 2, .long 0, .int i27, .int i28, .int i29, .int i30, .int i31, .int i32, .int i33, .ref b34, .ref b35, .int (nI tm), .ref b37, .ref b38, .ref b39, .ref b40, .ref b41])), (b21, .inl (cT, 300, .inl ft))] H := hP
        have hD : va_D A [(h0, .inr (8, [.int i0, .int i1, .int (nI mk), .ref b3, .ref b4, .int (nI rk), .ref b6, .ref b7, .ref b8, .ref b9, .ref b10, .ref b11, .ref b12, .ref b13, .int (nI nl), .ref b15, .ref b16, .ref b17, .ref b18, .ref b19, .ref b20, .ref b21, .int (nI tp), .int (nI f9_5), .int (nI f9_5), .int 2, .long 0, .int i27, .int i28, .int i29, .int i30, .int i31, .int i32, .int i33, .ref b34, .ref b35, .int (nI tm), .ref b37, .ref b38, .ref b39, .ref b40, .ref b41])), (b21, .inl (cT, 300, .inl ft))] := hD
        refine lv_aload_n hx hb dX7_next_117 rfl (lv_at hl 0 rfl) ?_
        refine va_get (D := (dC, dI)) (ci := 8) (v := .int 2) (C := RX7) (T := TX7) (N := 42) hx hb hts hinX7 hown hK hP 0 rfl rfl 25 (by decide) (hts (.fieldLink RX7 135 "AgreedTalksModel" "sort" "I") (by decide +kernel)) (fun _ h9 => h9) rfl dX7_next_118 ?_
        refine lv_iconst (v := 3) hx hb dX7_next_121 (by decide) ?_
        refine lv_icmp_ne (tgt := 149) hx hb dX7_next_122 (by decide) (fun c_18 => ?_) (fun c_18 => ?_)
        · refine lv_aload_n hx hb dX7_next_149 rfl (lv_at hl 0 rfl) ?_
          refine va_get (D := (dC, dI)) (ci := 8) (v := .int 2) (C := RX7) (T := TX7) (N := 42) hx hb hts hinX7 hown hK hP 0 rfl rfl 25 (by decide) (hts (.fieldLink RX7 135 "AgreedTalksModel" "sort" "I") (by decide +kernel)) (fun _ h9 => h9) rfl dX7_next_150 ?_
          refine lv_iconst (v := 1) hx hb dX7_next_153 (by decide) ?_
          refine lv_icmp_ne (tgt := 243) hx hb dX7_next_154 (by decide) (fun c_19 => ?_) (fun c_19 => ?_)
          · refine sg_X7_next_243 h0 b3 b4 b6 b7 b8 b9 b10 b11 b12 b13 b15 b16 b17 b18 b19 b20 b21 b34 b35 b37 b38 b39 b40 b41 i0 i1 mk rk nl tp i23 i25 w26 i27 i28 i29 i30 i31 i32 i33 tm t0 cT ft qtp q0 hx hb hml hown hts hK hA (fun f9_32 t9_33 so_34 wv_35 H locs ls hge hf ht hs hPD hS hl => ?_) ((tp - f9_5) + 1) f9_5 f9_5 0 _ _ _ (Nat.lt_succ_self _) (by omega) (by omega) (by omega) (by omega) okDg_0 (fun _ => hsm0) ⟨hP, hD⟩ hS (lv_sub hl [0] rfl)
            obtain ⟨hP, hD⟩ := hPD
            have hP9 := hP.sub (ws' := [(h0, .inr (8, [.int i0, .int i1, .int (nI mk), .ref b3, .ref b4, .int (nI rk), .ref b6, .ref b7, .ref b8, .ref b9, .ref b10, .ref b11, .ref b12, .ref b13, .int (nI nl), .ref b15, .ref b16, .ref b17, .ref b18, .ref b19, .ref b20, .ref b21, .int (nI tp), .int (nI f9_32), .int (nI t9_33), .int so_34, .long wv_35, .int i27, .int i28, .int i29, .int i30, .int i31, .int i32, .int i33, .ref b34, .ref b35, .int (nI tm), .ref b37, .ref b38, .ref b39, .ref b40, .ref b41])), (b21, .inl (cT, 300, .inl ft))]) [0, 1] rfl
            have hD9 := hD.sub (ws' := [(h0, .inr (8, [.int i0, .int i1, .int (nI mk), .ref b3, .ref b4, .int (nI rk), .ref b6, .ref b7, .ref b8, .ref b9, .ref b10, .ref b11, .ref b12, .ref b13, .int (nI nl), .ref b15, .ref b16, .ref b17, .ref b18, .ref b19, .ref b20, .ref b21, .int (nI tp), .int (nI f9_32), .int (nI t9_33), .int so_34, .long wv_35, .int i27, .int i28, .int i29, .int i30, .int i31, .int i32, .int i33, .ref b34, .ref b35, .int (nI tm), .ref b37, .ref b38, .ref b39, .ref b40, .ref b41])), (b21, .inl (cT, 300, .inl ft))]) [0, 1] (by decide) rfl
            have hK9 := hK.sub (tys' := [(cT, .int)]) [0] rfl
            exact W.vret hx hb hr (fun t ht hW => ⟨⟨(), rfl, trivial, f9_32, t9_33, so_34, wv_35, (by omega), (by omega), (by omega), (by assumption), by rw [ht]; exact hP9, va_K.moved hW.alike hK9, hD9⟩, hS.F ht⟩) hS.2.2 dX7_next_335
          · exact absurd c_19 (by decide)
        · exact absurd c_18 (by decide)
    · have hsm0 : okSm (ft f9_5) := by
        rcases hr_8 with ⟨h1, _⟩ | ⟨_, h2⟩
        · exact absurd h1 c_9
        · rw [← ex_7]; exact h2
      refine lv_iconst (v := 1) hx hb dX7_next_90 (by decide) ?_
      refine lv_goto (tgt := 114) hx hb dX7_next_91 (by decide) ?_
      refine va_put (D := (dC, dI)) (ci := 8) (v := .int 1) (ty := .int) (C := RX7) (T := TX7) (N := 42) hx hb hts hinX7 tyX7 tyX7_ok nmX7 hown hK hP hD hS 0 rfl rfl 25 (by decide) (hts (.fieldLink RX7 135 "AgreedTalksModel" "sort" "I") (by decide +kernel)) (fun _ h9 => h9) rfl (by decide +kernel) rfl rfl (Nat.le_of_ble_eq_true rfl) dX7_next_114 (fun H locs hP hD hS => ?_)
      have hP : va_P (dC, dI) vwCl [(h0, .inr (8, [.int i0, .int i1, .int (nI mk), .ref b3, .ref b4, .int (nI rk), .ref b6, .ref b7, .ref b8, .ref b9, .ref b10, .ref b11, .ref b12, .ref b13, .int (nI nl), .ref b15, .ref b16, .ref b17, .ref b18, .ref b19, .ref b20, .ref b21, .int (nI tp), .int (nI f9_5), .int (nI f9_5), .int 1, .long 0, .int i27, .int i28, .int i29, .int i30, .int i31, .int i32, .int i33, .ref b34, .ref b35, .int (nI tm), .ref b37, .ref b38, .ref b39, .ref b40, .ref b41])), (b21, .inl (cT, 300, .inl ft))] H := hP
      have hD : va_D A [(h0, .inr (8, [.int i0, .int i1, .int (nI mk), .ref b3, .ref b4, .int (nI rk), .ref b6, .ref b7, .ref b8, .ref b9, .ref b10, .ref b11, .ref b12, .ref b13, .int (nI nl), .ref b15, .ref b16, .ref b17, .ref b18, .ref b19, .ref b20, .ref b21, .int (nI tp), .int (nI f9_5), .int (nI f9_5), .int 1, .long 0, .int i27, .int i28, .int i29, .int i30, .int i31, .int i32, .int i33, .ref b34, .ref b35, .int (nI tm), .ref b37, .ref b38, .ref b39, .ref b40, .ref b41])), (b21, .inl (cT, 300, .inl ft))] := hD
      refine lv_aload_n hx hb dX7_next_117 rfl (lv_at hl 0 rfl) ?_
      refine va_get (D := (dC, dI)) (ci := 8) (v := .int 1) (C := RX7) (T := TX7) (N := 42) hx hb hts hinX7 hown hK hP 0 rfl rfl 25 (by decide) (hts (.fieldLink RX7 135 "AgreedTalksModel" "sort" "I") (by decide +kernel)) (fun _ h9 => h9) rfl dX7_next_118 ?_
      refine lv_iconst (v := 3) hx hb dX7_next_121 (by decide) ?_
      refine lv_icmp_ne (tgt := 149) hx hb dX7_next_122 (by decide) (fun c_36 => ?_) (fun c_36 => ?_)
      · refine sg_X7_next_149 h0 b3 b4 b6 b7 b8 b9 b10 b11 b12 b13 b15 b16 b17 b18 b19 b20 b21 b34 b35 b37 b38 b39 b40 b41 i0 i1 mk rk nl tp i23 i25 w26 i27 i28 i29 i30 i31 i32 i33 tm t0 cT ft qtp q0 hx hb hml hown hts hK hA (fun f9_52 t9_53 so_54 wv_55 H locs ls hge hf ht hs hPD hS hl => ?_) ((tp - f9_5) + 1) f9_5 f9_5 0 _ _ _ (Nat.lt_succ_self _) (by omega) (by omega) (by omega) (by omega) (by rw [Nat.sub_self]; exact okWd_0 _ _) (fun _ => hsm0) ⟨hP, hD⟩ hS (lv_sub hl [0] rfl)
        obtain ⟨hP, hD⟩ := hPD
        have hP9 := hP.sub (ws' := [(h0, .inr (8, [.int i0, .int i1, .int (nI mk), .ref b3, .ref b4, .int (nI rk), .ref b6, .ref b7, .ref b8, .ref b9, .ref b10, .ref b11, .ref b12, .ref b13, .int (nI nl), .ref b15, .ref b16, .ref b17, .ref b18, .ref b19, .ref b20, .ref b21, .int (nI tp), .int (nI f9_52), .int (nI t9_53), .int so_54, .long wv_55, .int i27, .int i28, .int i29, .int i30, .int i31, .int i32, .int i33, .ref b34, .ref b35, .int (nI tm), .ref b37, .ref b38, .ref b39, .ref b40, .ref b41])), (b21, .inl (cT, 300, .inl ft))]) [0, 1] rfl
        have hD9 := hD.sub (ws' := [(h0, .inr (8, [.int i0, .int i1, .int (nI mk), .ref b3, .ref b4, .int (nI rk), .ref b6, .ref b7, .ref b8, .ref b9, .ref b10, .ref b11, .ref b12, .ref b13, .int (nI nl), .ref b15, .ref b16, .ref b17, .ref b18, .ref b19, .ref b20, .ref b21, .int (nI tp), .int (nI f9_52), .int (nI t9_53), .int so_54, .long wv_55, .int i27, .int i28, .int i29, .int i30, .int i31, .int i32, .int i33, .ref b34, .ref b35, .int (nI tm), .ref b37, .ref b38, .ref b39, .ref b40, .ref b41])), (b21, .inl (cT, 300, .inl ft))]) [0, 1] (by decide) rfl
        have hK9 := hK.sub (tys' := [(cT, .int)]) [0] rfl
        exact W.vret hx hb hr (fun t ht hW => ⟨⟨(), rfl, trivial, f9_52, t9_53, so_54, wv_55, (by omega), (by omega), (by omega), (by assumption), by rw [ht]; exact hP9, va_K.moved hW.alike hK9, hD9⟩, hS.F ht⟩) hS.2.2 dX7_next_335
      · exact absurd c_36 (by decide)
  · have c_6 : f9_5 = tp := (nI_eq (a := f9_5) (b := tp) (by omega) (by omega)).mp c_6
    refine lv_iconst (v := 0) hx hb dX7_next_71 (by decide) ?_
    refine lv_goto (tgt := 114) hx hb dX7_next_72 (by decide) ?_
    refine va_put (D := (dC, dI)) (ci := 8) (v := .int 0) (ty := .int) (C := RX7) (T := TX7) (N := 42) hx hb hts hinX7 tyX7 tyX7_ok nmX7 hown hK hP hD hS 0 rfl rfl 25 (by decide) (hts (.fieldLink RX7 135 "AgreedTalksModel" "sort" "I") (by decide +kernel)) (fun _ h9 => h9) rfl (by decide +kernel) rfl rfl (Nat.le_of_ble_eq_true rfl) dX7_next_114 (fun H locs hP hD hS => ?_)
    have hP : va_P (dC, dI) vwCl [(h0, .inr (8, [.int i0, .int i1, .int (nI mk), .ref b3, .ref b4, .int (nI rk), .ref b6, .ref b7, .ref b8, .ref b9, .ref b10, .ref b11, .ref b12, .ref b13, .int (nI nl), .ref b15, .ref b16, .ref b17, .ref b18, .ref b19, .ref b20, .ref b21, .int (nI tp), .int (nI f9_5), .int (nI f9_5), .int 0, .long 0, .int i27, .int i28, .int i29, .int i30, .int i31, .int i32, .int i33, .ref b34, .ref b35, .int (nI tm), .ref b37, .ref b38, .ref b39, .ref b40, .ref b41])), (b21, .inl (cT, 300, .inl ft))] H := hP
    have hD : va_D A [(h0, .inr (8, [.int i0, .int i1, .int (nI mk), .ref b3, .ref b4, .int (nI rk), .ref b6, .ref b7, .ref b8, .ref b9, .ref b10, .ref b11, .ref b12, .ref b13, .int (nI nl), .ref b15, .ref b16, .ref b17, .ref b18, .ref b19, .ref b20, .ref b21, .int (nI tp), .int (nI f9_5), .int (nI f9_5), .int 0, .long 0, .int i27, .int i28, .int i29, .int i30, .int i31, .int i32, .int i33, .ref b34, .ref b35, .int (nI tm), .ref b37, .ref b38, .ref b39, .ref b40, .ref b41])), (b21, .inl (cT, 300, .inl ft))] := hD
    refine lv_aload_n hx hb dX7_next_117 rfl (lv_at hl 0 rfl) ?_
    refine va_get (D := (dC, dI)) (ci := 8) (v := .int 0) (C := RX7) (T := TX7) (N := 42) hx hb hts hinX7 hown hK hP 0 rfl rfl 25 (by decide) (hts (.fieldLink RX7 135 "AgreedTalksModel" "sort" "I") (by decide +kernel)) (fun _ h9 => h9) rfl dX7_next_118 ?_
    refine lv_iconst (v := 3) hx hb dX7_next_121 (by decide) ?_
    refine lv_icmp_ne (tgt := 149) hx hb dX7_next_122 (by decide) (fun c_56 => ?_) (fun c_56 => ?_)
    · refine lv_aload_n hx hb dX7_next_149 rfl (lv_at hl 0 rfl) ?_
      refine va_get (D := (dC, dI)) (ci := 8) (v := .int 0) (C := RX7) (T := TX7) (N := 42) hx hb hts hinX7 hown hK hP 0 rfl rfl 25 (by decide) (hts (.fieldLink RX7 135 "AgreedTalksModel" "sort" "I") (by decide +kernel)) (fun _ h9 => h9) rfl dX7_next_150 ?_
      refine lv_iconst (v := 1) hx hb dX7_next_153 (by decide) ?_
      refine lv_icmp_ne (tgt := 243) hx hb dX7_next_154 (by decide) (fun c_57 => ?_) (fun c_57 => ?_)
      · refine lv_aload_n hx hb dX7_next_243 rfl (lv_at hl 0 rfl) ?_
        refine va_get (D := (dC, dI)) (ci := 8) (v := .int 0) (C := RX7) (T := TX7) (N := 42) hx hb hts hinX7 hown hK hP 0 rfl rfl 25 (by decide) (hts (.fieldLink RX7 135 "AgreedTalksModel" "sort" "I") (by decide +kernel)) (fun _ h9 => h9) rfl dX7_next_244 ?_
        refine lv_iconst (v := 2) hx hb dX7_next_247 (by decide) ?_
        refine lv_icmp_ne (tgt := 335) hx hb dX7_next_248 (by decide) (fun c_58 => ?_) (fun c_58 => ?_)
        · have hP9 := hP.sub (ws' := [(h0, .inr (8, [.int i0, .int i1, .int (nI mk), .ref b3, .ref b4, .int (nI rk), .ref b6, .ref b7, .ref b8, .ref b9, .ref b10, .ref b11, .ref b12, .ref b13, .int (nI nl), .ref b15, .ref b16, .ref b17, .ref b18, .ref b19, .ref b20, .ref b21, .int (nI tp), .int (nI f9_5), .int (nI f9_5), .int 0, .long 0, .int i27, .int i28, .int i29, .int i30, .int i31, .int i32, .int i33, .ref b34, .ref b35, .int (nI tm), .ref b37, .ref b38, .ref b39, .ref b40, .ref b41])), (b21, .inl (cT, 300, .inl ft))]) [0, 1] rfl
          have hD9 := hD.sub (ws' := [(h0, .inr (8, [.int i0, .int i1, .int (nI mk), .ref b3, .ref b4, .int (nI rk), .ref b6, .ref b7, .ref b8, .ref b9, .ref b10, .ref b11, .ref b12, .ref b13, .int (nI nl), .ref b15, .ref b16, .ref b17, .ref b18, .ref b19, .ref b20, .ref b21, .int (nI tp), .int (nI f9_5), .int (nI f9_5), .int 0, .long 0, .int i27, .int i28, .int i29, .int i30, .int i31, .int i32, .int i33, .ref b34, .ref b35, .int (nI tm), .ref b37, .ref b38, .ref b39, .ref b40, .ref b41])), (b21, .inl (cT, 300, .inl ft))]) [0, 1] (by decide) rfl
          have hK9 := hK.sub (tys' := [(cT, .int)]) [0] rfl
          exact W.vret hx hb hr (fun t ht hW => ⟨⟨(), rfl, trivial, f9_5, f9_5, 0, 0, (by omega), (by omega), (by omega), okS_0 _ _ _ _, by rw [ht]; exact hP9, va_K.moved hW.alike hK9, hD9⟩, hS.F ht⟩) hS.2.2 dX7_next_335
        · exact absurd c_58 (by decide)
      · exact absurd c_57 (by decide)
    · exact absurd c_56 (by decide)
