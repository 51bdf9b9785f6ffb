set_option maxRecDepth 20000 in
theorem ggX12_lookAt_X12_isSmall : GoodIn wsX12_lookAt wsX12_isSmall := goodIn_r _ [10, 11, 12, 13, 14, 9, 15] (by decide +kernel) (by decide +kernel)
set_option maxRecDepth 20000 in
theorem gX12_lookAt_X12_isSmall : GoodIn wsX12_lookAt (va_wsS RX12 276 yX12_isSmall wsX12_isSmall) := goodIn_app (goodIn_of _ (by decide +kernel)) ggX12_lookAt_X12_isSmall
set_option maxRecDepth 20000 in
theorem ggX12_lookAt_X12_isFigure : GoodIn wsX12_lookAt wsX12_isFigure := goodIn_r _ [18, 19, 20, 13, 14, 9, 15] (by decide +kernel) (by decide +kernel)
set_option maxRecDepth 20000 in
theorem gX12_lookAt_X12_isFigure : GoodIn wsX12_lookAt (va_wsS RX12 279 yX12_isFigure wsX12_isFigure) := goodIn_app (goodIn_of _ (by decide +kernel)) ggX12_lookAt_X12_isFigure
theorem dX12_lookAt_0 : decode cX12_lookAt 0 = .ok (.aload_n 0, 1) := by decide +kernel
theorem dX12_lookAt_1 : decode cX12_lookAt 1 = .ok (.iload_n 1, 1) := by decide +kernel
theorem dX12_lookAt_2 : decode cX12_lookAt 2 = .ok (.putfield 264, 3) := by decide +kernel
theorem dX12_lookAt_5 : decode cX12_lookAt 5 = .ok (.aload_n 0, 1) := by decide +kernel
theorem dX12_lookAt_6 : decode cX12_lookAt 6 = .ok (.getfield 264, 3) := by decide +kernel
theorem dX12_lookAt_9 : decode cX12_lookAt 9 = .ok (.aload_n 0, 1) := by decide +kernel
theorem dX12_lookAt_10 : decode cX12_lookAt 10 = .ok (.getfield 253, 3) := by decide +kernel
theorem dX12_lookAt_13 : decode cX12_lookAt 13 = .ok (.if_icmp .ge 30, 3) := by decide +kernel
theorem dX12_lookAt_16 : decode cX12_lookAt 16 = .ok (.aload_n 0, 1) := by decide +kernel
theorem dX12_lookAt_17 : decode cX12_lookAt 17 = .ok (.getfield 40, 3) := by decide +kernel
theorem dX12_lookAt_20 : decode cX12_lookAt 20 = .ok (.aload_n 0, 1) := by decide +kernel
theorem dX12_lookAt_21 : decode cX12_lookAt 21 = .ok (.getfield 264, 3) := by decide +kernel
theorem dX12_lookAt_24 : decode cX12_lookAt 24 = .ok (.iaload, 1) := by decide +kernel
theorem dX12_lookAt_25 : decode cX12_lookAt 25 = .ok (.bipush 32, 2) := by decide +kernel
theorem dX12_lookAt_27 : decode cX12_lookAt 27 = .ok (.if_icmp .ne 16, 3) := by decide +kernel
theorem dX12_lookAt_30 : decode cX12_lookAt 30 = .ok (.aload_n 0, 1) := by decide +kernel
theorem dX12_lookAt_31 : decode cX12_lookAt 31 = .ok (.dup, 1) := by decide +kernel
theorem dX12_lookAt_32 : decode cX12_lookAt 32 = .ok (.getfield 264, 3) := by decide +kernel
theorem dX12_lookAt_35 : decode cX12_lookAt 35 = .ok (.iconst 1, 1) := by decide +kernel
theorem dX12_lookAt_36 : decode cX12_lookAt 36 = .ok (.iadd, 1) := by decide +kernel
theorem dX12_lookAt_37 : decode cX12_lookAt 37 = .ok (.putfield 264, 3) := by decide +kernel
theorem dX12_lookAt_40 : decode cX12_lookAt 40 = .ok (.goto (-35), 3) := by decide +kernel
theorem dX12_lookAt_43 : decode cX12_lookAt 43 = .ok (.aload_n 0, 1) := by decide +kernel
theorem dX12_lookAt_44 : decode cX12_lookAt 44 = .ok (.iconst 0, 1) := by decide +kernel
theorem dX12_lookAt_45 : decode cX12_lookAt 45 = .ok (.putfield 267, 3) := by decide +kernel
theorem dX12_lookAt_48 : decode cX12_lookAt 48 = .ok (.aload_n 0, 1) := by decide +kernel
theorem dX12_lookAt_49 : decode cX12_lookAt 49 = .ok (.iconst 0, 1) := by decide +kernel
theorem dX12_lookAt_50 : decode cX12_lookAt 50 = .ok (.putfield 270, 3) := by decide +kernel
theorem dX12_lookAt_53 : decode cX12_lookAt 53 = .ok (.aload_n 0, 1) := by decide +kernel
theorem dX12_lookAt_54 : decode cX12_lookAt 54 = .ok (.iconst 0, 1) := by decide +kernel
theorem dX12_lookAt_55 : decode cX12_lookAt 55 = .ok (.putfield 273, 3) := by decide +kernel
theorem dX12_lookAt_58 : decode cX12_lookAt 58 = .ok (.aload_n 0, 1) := by decide +kernel
theorem dX12_lookAt_59 : decode cX12_lookAt 59 = .ok (.getfield 264, 3) := by decide +kernel
theorem dX12_lookAt_62 : decode cX12_lookAt 62 = .ok (.aload_n 0, 1) := by decide +kernel
theorem dX12_lookAt_63 : decode cX12_lookAt 63 = .ok (.getfield 253, 3) := by decide +kernel
theorem dX12_lookAt_66 : decode cX12_lookAt 66 = .ok (.if_icmp .ne 4, 3) := by decide +kernel
theorem dX12_lookAt_70 : decode cX12_lookAt 70 = .ok (.aload_n 0, 1) := by decide +kernel
theorem dX12_lookAt_71 : decode cX12_lookAt 71 = .ok (.getfield 40, 3) := by decide +kernel
theorem dX12_lookAt_74 : decode cX12_lookAt 74 = .ok (.aload_n 0, 1) := by decide +kernel
theorem dX12_lookAt_75 : decode cX12_lookAt 75 = .ok (.getfield 264, 3) := by decide +kernel
theorem dX12_lookAt_78 : decode cX12_lookAt 78 = .ok (.iaload, 1) := by decide +kernel
theorem dX12_lookAt_79 : decode cX12_lookAt 79 = .ok (.istore_n 2, 1) := by decide +kernel
theorem dX12_lookAt_80 : decode cX12_lookAt 80 = .ok (.aload_n 0, 1) := by decide +kernel
theorem dX12_lookAt_81 : decode cX12_lookAt 81 = .ok (.iload_n 2, 1) := by decide +kernel
theorem dX12_lookAt_82 : decode cX12_lookAt 82 = .ok (.invokestatic 276, 3) := by decide +kernel
theorem dX12_lookAt_85 : decode cX12_lookAt 85 = .ok (.ifCond .eq 7, 3) := by decide +kernel
theorem dX12_lookAt_88 : decode cX12_lookAt 88 = .ok (.iconst 1, 1) := by decide +kernel
theorem dX12_lookAt_89 : decode cX12_lookAt 89 = .ok (.goto 25, 3) := by decide +kernel
theorem dX12_lookAt_114 : decode cX12_lookAt 114 = .ok (.putfield 270, 3) := by decide +kernel
theorem dX12_lookAt_117 : decode cX12_lookAt 117 = .ok (.aload_n 0, 1) := by decide +kernel
theorem dX12_lookAt_118 : decode cX12_lookAt 118 = .ok (.iconst 1, 1) := by decide +kernel
theorem dX12_lookAt_119 : decode cX12_lookAt 119 = .ok (.putfield 267, 3) := by decide +kernel
theorem dX12_lookAt_122 : decode cX12_lookAt 122 = .ok (.aload_n 0, 1) := by decide +kernel
theorem dX12_lookAt_123 : decode cX12_lookAt 123 = .ok (.getfield 270, 3) := by decide +kernel
theorem dX12_lookAt_126 : decode cX12_lookAt 126 = .ok (.iconst 3, 1) := by decide +kernel
theorem dX12_lookAt_127 : decode cX12_lookAt 127 = .ok (.if_icmp .ge 7, 3) := by decide +kernel
theorem dX12_lookAt_130 : decode cX12_lookAt 130 = .ok (.iconst 1, 1) := by decide +kernel
theorem dX12_lookAt_131 : decode cX12_lookAt 131 = .ok (.goto 4, 3) := by decide +kernel
theorem dX12_lookAt_135 : decode cX12_lookAt 135 = .ok (.istore_n 3, 1) := by decide +kernel
theorem dX12_lookAt_136 : decode cX12_lookAt 136 = .ok (.iload_n 3, 1) := by decide +kernel
theorem dX12_lookAt_137 : decode cX12_lookAt 137 = .ok (.ifCond .eq 78, 3) := by decide +kernel
theorem dX12_lookAt_140 : decode cX12_lookAt 140 = .ok (.aload_n 0, 1) := by decide +kernel
theorem dX12_lookAt_141 : decode cX12_lookAt 141 = .ok (.getfield 264, 3) := by decide +kernel
theorem dX12_lookAt_144 : decode cX12_lookAt 144 = .ok (.aload_n 0, 1) := by decide +kernel
theorem dX12_lookAt_145 : decode cX12_lookAt 145 = .ok (.getfield 267, 3) := by decide +kernel
theorem dX12_lookAt_148 : decode cX12_lookAt 148 = .ok (.iadd, 1) := by decide +kernel
theorem dX12_lookAt_149 : decode cX12_lookAt 149 = .ok (.aload_n 0, 1) := by decide +kernel
theorem dX12_lookAt_150 : decode cX12_lookAt 150 = .ok (.getfield 253, 3) := by decide +kernel
theorem dX12_lookAt_153 : decode cX12_lookAt 153 = .ok (.if_icmp .ge 62, 3) := by decide +kernel
theorem dX12_lookAt_156 : decode cX12_lookAt 156 = .ok (.aload_n 0, 1) := by decide +kernel
theorem dX12_lookAt_157 : decode cX12_lookAt 157 = .ok (.getfield 40, 3) := by decide +kernel
theorem dX12_lookAt_160 : decode cX12_lookAt 160 = .ok (.aload_n 0, 1) := by decide +kernel
theorem dX12_lookAt_161 : decode cX12_lookAt 161 = .ok (.getfield 264, 3) := by decide +kernel
theorem dX12_lookAt_164 : decode cX12_lookAt 164 = .ok (.aload_n 0, 1) := by decide +kernel
theorem dX12_lookAt_165 : decode cX12_lookAt 165 = .ok (.getfield 267, 3) := by decide +kernel
theorem dX12_lookAt_168 : decode cX12_lookAt 168 = .ok (.iadd, 1) := by decide +kernel
theorem dX12_lookAt_169 : decode cX12_lookAt 169 = .ok (.iaload, 1) := by decide +kernel
theorem dX12_lookAt_170 : decode cX12_lookAt 170 = .ok (.istore 4, 2) := by decide +kernel
theorem dX12_lookAt_172 : decode cX12_lookAt 172 = .ok (.aload_n 0, 1) := by decide +kernel
theorem dX12_lookAt_173 : decode cX12_lookAt 173 = .ok (.getfield 270, 3) := by decide +kernel
theorem dX12_lookAt_176 : decode cX12_lookAt 176 = .ok (.iconst 1, 1) := by decide +kernel
theorem dX12_lookAt_177 : decode cX12_lookAt 177 = .ok (.if_icmp .ne 11, 3) := by decide +kernel
theorem dX12_lookAt_180 : decode cX12_lookAt 180 = .ok (.iload 4, 2) := by decide +kernel
theorem dX12_lookAt_182 : decode cX12_lookAt 182 = .ok (.invokestatic 276, 3) := by decide +kernel
theorem dX12_lookAt_185 : decode cX12_lookAt 185 = .ok (.goto 8, 3) := by decide +kernel
theorem dX12_lookAt_193 : decode cX12_lookAt 193 = .ok (.istore_n 3, 1) := by decide +kernel
theorem dX12_lookAt_194 : decode cX12_lookAt 194 = .ok (.aload_n 0, 1) := by decide +kernel
theorem dX12_lookAt_195 : decode cX12_lookAt 195 = .ok (.dup, 1) := by decide +kernel
theorem dX12_lookAt_196 : decode cX12_lookAt 196 = .ok (.getfield 267, 3) := by decide +kernel
theorem dX12_lookAt_199 : decode cX12_lookAt 199 = .ok (.iload_n 3, 1) := by decide +kernel
theorem dX12_lookAt_200 : decode cX12_lookAt 200 = .ok (.ifCond .eq 7, 3) := by decide +kernel
theorem dX12_lookAt_203 : decode cX12_lookAt 203 = .ok (.iconst 1, 1) := by decide +kernel
theorem dX12_lookAt_204 : decode cX12_lookAt 204 = .ok (.goto 4, 3) := by decide +kernel
theorem dX12_lookAt_208 : decode cX12_lookAt 208 = .ok (.iadd, 1) := by decide +kernel
theorem dX12_lookAt_209 : decode cX12_lookAt 209 = .ok (.putfield 267, 3) := by decide +kernel
theorem dX12_lookAt_212 : decode cX12_lookAt 212 = .ok (.goto (-76), 3) := by decide +kernel
theorem dX12_lookAt_207 : decode cX12_lookAt 207 = .ok (.iconst 0, 1) := by decide +kernel
theorem dX12_lookAt_215 : decode cX12_lookAt 215 = .ok (.iconst 0, 1) := by decide +kernel
theorem dX12_lookAt_216 : decode cX12_lookAt 216 = .ok (.istore 4, 2) := by decide +kernel
theorem dX12_lookAt_218 : decode cX12_lookAt 218 = .ok (.iload 4, 2) := by decide +kernel
theorem dX12_lookAt_220 : decode cX12_lookAt 220 = .ok (.aload_n 0, 1) := by decide +kernel
theorem dX12_lookAt_221 : decode cX12_lookAt 221 = .ok (.getfield 267, 3) := by decide +kernel
theorem dX12_lookAt_224 : decode cX12_lookAt 224 = .ok (.if_icmp .ge 50, 3) := by decide +kernel
theorem dX12_lookAt_227 : decode cX12_lookAt 227 = .ok (.iload 4, 2) := by decide +kernel
theorem dX12_lookAt_229 : decode cX12_lookAt 229 = .ok (.iconst 3, 1) := by decide +kernel
theorem dX12_lookAt_230 : decode cX12_lookAt 230 = .ok (.if_icmp .ge 44, 3) := by decide +kernel
theorem dX12_lookAt_233 : decode cX12_lookAt 233 = .ok (.aload_n 0, 1) := by decide +kernel
theorem dX12_lookAt_234 : decode cX12_lookAt 234 = .ok (.getfield 270, 3) := by decide +kernel
theorem dX12_lookAt_237 : decode cX12_lookAt 237 = .ok (.iconst 2, 1) := by decide +kernel
theorem dX12_lookAt_238 : decode cX12_lookAt 238 = .ok (.if_icmp .ne 36, 3) := by decide +kernel
theorem dX12_lookAt_274 : decode cX12_lookAt 274 = .ok (.aload_n 0, 1) := by decide +kernel
theorem dX12_lookAt_275 : decode cX12_lookAt 275 = .ok (.aload_n 0, 1) := by decide +kernel
theorem dX12_lookAt_276 : decode cX12_lookAt 276 = .ok (.getfield 270, 3) := by decide +kernel
theorem dX12_lookAt_279 : decode cX12_lookAt 279 = .ok (.iconst 2, 1) := by decide +kernel
theorem dX12_lookAt_280 : decode cX12_lookAt 280 = .ok (.if_icmp .ne 15, 3) := by decide +kernel
theorem dX12_lookAt_295 : decode cX12_lookAt 295 = .ok (.aload_n 0, 1) := by decide +kernel
theorem dX12_lookAt_296 : decode cX12_lookAt 296 = .ok (.getfield 270, 3) := by decide +kernel
theorem dX12_lookAt_299 : decode cX12_lookAt 299 = .ok (.putfield 270, 3) := by decide +kernel
theorem dX12_lookAt_302 : decode cX12_lookAt 302 = .ok (.return_, 1) := by decide +kernel
theorem dX12_lookAt_92 : decode cX12_lookAt 92 = .ok (.iload_n 2, 1) := by decide +kernel
theorem dX12_lookAt_93 : decode cX12_lookAt 93 = .ok (.invokestatic 279, 3) := by decide +kernel
theorem dX12_lookAt_96 : decode cX12_lookAt 96 = .ok (.ifCond .eq 7, 3) := by decide +kernel
theorem dX12_lookAt_99 : decode cX12_lookAt 99 = .ok (.iconst 2, 1) := by decide +kernel
theorem dX12_lookAt_100 : decode cX12_lookAt 100 = .ok (.goto 14, 3) := by decide +kernel
theorem dX12_lookAt_188 : decode cX12_lookAt 188 = .ok (.iload 4, 2) := by decide +kernel
theorem dX12_lookAt_190 : decode cX12_lookAt 190 = .ok (.invokestatic 279, 3) := by decide +kernel
theorem dX12_lookAt_241 : decode cX12_lookAt 241 = .ok (.aload_n 0, 1) := by decide +kernel
theorem dX12_lookAt_242 : decode cX12_lookAt 242 = .ok (.bipush 10, 2) := by decide +kernel
theorem dX12_lookAt_244 : decode cX12_lookAt 244 = .ok (.aload_n 0, 1) := by decide +kernel
theorem dX12_lookAt_245 : decode cX12_lookAt 245 = .ok (.getfield 273, 3) := by decide +kernel
theorem dX12_lookAt_248 : decode cX12_lookAt 248 = .ok (.imul, 1) := by decide +kernel
theorem dX12_lookAt_249 : decode cX12_lookAt 249 = .ok (.aload_n 0, 1) := by decide +kernel
theorem dX12_lookAt_250 : decode cX12_lookAt 250 = .ok (.getfield 40, 3) := by decide +kernel
theorem dX12_lookAt_253 : decode cX12_lookAt 253 = .ok (.aload_n 0, 1) := by decide +kernel
theorem dX12_lookAt_254 : decode cX12_lookAt 254 = .ok (.getfield 264, 3) := by decide +kernel
theorem dX12_lookAt_257 : decode cX12_lookAt 257 = .ok (.iload 4, 2) := by decide +kernel
theorem dX12_lookAt_259 : decode cX12_lookAt 259 = .ok (.iadd, 1) := by decide +kernel
theorem dX12_lookAt_260 : decode cX12_lookAt 260 = .ok (.iaload, 1) := by decide +kernel
theorem dX12_lookAt_261 : decode cX12_lookAt 261 = .ok (.iadd, 1) := by decide +kernel
theorem dX12_lookAt_262 : decode cX12_lookAt 262 = .ok (.bipush 48, 2) := by decide +kernel
theorem dX12_lookAt_264 : decode cX12_lookAt 264 = .ok (.isub, 1) := by decide +kernel
theorem dX12_lookAt_265 : decode cX12_lookAt 265 = .ok (.putfield 273, 3) := by decide +kernel
theorem dX12_lookAt_268 : decode cX12_lookAt 268 = .ok (.iinc 4 1, 3) := by decide +kernel
theorem dX12_lookAt_271 : decode cX12_lookAt 271 = .ok (.goto (-53), 3) := by decide +kernel
theorem dX12_lookAt_283 : decode cX12_lookAt 283 = .ok (.aload_n 0, 1) := by decide +kernel
theorem dX12_lookAt_284 : decode cX12_lookAt 284 = .ok (.getfield 267, 3) := by decide +kernel
theorem dX12_lookAt_287 : decode cX12_lookAt 287 = .ok (.iconst 3, 1) := by decide +kernel
theorem dX12_lookAt_288 : decode cX12_lookAt 288 = .ok (.if_icmp .le 7, 3) := by decide +kernel
theorem dX12_lookAt_291 : decode cX12_lookAt 291 = .ok (.iconst 4, 1) := by decide +kernel
theorem dX12_lookAt_292 : decode cX12_lookAt 292 = .ok (.goto 7, 3) := by decide +kernel
theorem dX12_lookAt_103 : decode cX12_lookAt 103 = .ok (.iload_n 2, 1) := by decide +kernel
theorem dX12_lookAt_104 : decode cX12_lookAt 104 = .ok (.bipush 59, 2) := by decide +kernel
theorem dX12_lookAt_106 : decode cX12_lookAt 106 = .ok (.if_icmp .ne 7, 3) := by decide +kernel
theorem dX12_lookAt_113 : decode cX12_lookAt 113 = .ok (.iconst 4, 1) := by decide +kernel
theorem dX12_lookAt_134 : decode cX12_lookAt 134 = .ok (.iconst 0, 1) := by decide +kernel
theorem dX12_lookAt_109 : decode cX12_lookAt 109 = .ok (.iconst 3, 1) := by decide +kernel
theorem dX12_lookAt_110 : decode cX12_lookAt 110 = .ok (.goto 4, 3) := by decide +kernel
theorem dX12_lookAt_69 : decode cX12_lookAt 69 = .ok (.return_, 1) := by decide +kernel
set_option maxRecDepth 20000 in
theorem iw_m_lookAt_X12 : ∀ w ∈ wsX120, w ∈ wsX12_lookAt := by decide +kernel
set_option maxHeartbeats 4000000 in
set_option maxRecDepth 100000 in
theorem m_lookAt (l : Launch) (dC : Nat → ClassId) (dI : Nat → Nat → Nat) (mo : Nat) (nw : Nat) (kp : Nat) (ik : Nat) (mr : Nat) (la_ : Int64) (lb_ : Int64) (mw : Nat) (lc_ : Int64) (ti_ : Int32) (cb_ : Int32) (ld_ : Int64) (le_ : Int64) (mq : Nat) (mz : Nat) (my : Nat) (sm_ : Int32) (mb : Nat) (jb : Nat) (ta_ : Int32) (tl_ : Int32) (tk_ : Int32) (vl_ : Int32) (mx : Nat) (mv : Nat) (cb2_ : ClassId) (fy_ : Nat → Int32) (jf : Nat) (sz : Nat) (hjb : jb ≤ 150) (hjf : jf ≤ jb) : Met l yX12_lookAt wsX12_lookAt ({ frames := 2, cells := 0, slots := 0, locals := 45 }) (va_Pc [.ref mo, .int (nI jf)] (fun U => U.heap.size = sz ∧ va_P (dC, dI) vwCl [(mo, .inr (12, [.ref nw, .ref kp, .ref ik, .ref mr, .long la_, .long lb_, .ref mw, .long lc_, .int ti_, .int cb_, .long ld_, .long le_, .ref mq, .ref mz, .ref my, .int sm_, .ref mb, .int (nI jb), .int ta_, .int tl_, .int tk_, .int vl_, .ref mx, .ref mv])), (mb, .inl (cb2_, 150, .inl fy_))] U.heap ∧ va_K (dC, dI) vwCl [(cb2_, .int)] U ∧ va_D (fun _ => True) [(mo, .inr (12, [.ref nw, .ref kp, .ref ik, .ref mr, .long la_, .long lb_, .ref mw, .long lc_, .int ti_, .int cb_, .long ld_, .long le_, .ref mq, .ref mz, .ref my, .int sm_, .ref mb, .int (nI jb), .int ta_, .int tl_, .int tk_, .int vl_, .ref mx, .ref mv])), (mb, .inl (cb2_, 150, .inl fy_))])) (va_Qv (fun (_ : Unit) => True) (fun _ t => ∃ (h_token : Int32) (h_value : Int32) (ga : Nat) (gl : Nat), (jf ≤ ga) ∧ (ga + gl ≤ jb) ∧ (h_token = 3 → 1 ≤ gl) ∧ va_P (dC, dI) vwCl [(mo, .inr (12, [.ref nw, .ref kp, .ref ik, .ref mr, .long la_, .long lb_, .ref mw, .long lc_, .int ti_, .int cb_, .long ld_, .long le_, .ref mq, .ref mz, .ref my, .int sm_, .ref mb, .int (nI jb), .int (nI ga), .int (nI gl), .int h_token, .int h_value, .ref mx, .ref mv])), (mb, .inl (cb2_, 150, .inl fy_))] t.heap ∧ va_K (dC, dI) vwCl [(cb2_, .int)] t ∧ va_D (va_A [(mo, .inr (12, [.ref nw, .ref kp, .ref ik, .ref mr, .long la_, .long lb_, .ref mw, .long lc_, .int ti_, .int cb_, .long ld_, .long le_, .ref mq, .ref mz, .ref my, .int sm_, .ref mb, .int (nI jb), .int ta_, .int tl_, .int tk_, .int vl_, .ref mx, .ref mv])), (mb, .inl (cb2_, 150, .inl fy_))] sz) [(mo, .inr (12, [.ref nw, .ref kp, .ref ik, .ref mr, .long la_, .long lb_, .ref mw, .long lc_, .int ti_, .int cb_, .long ld_, .long le_, .ref mq, .ref mz, .ref my, .int sm_, .ref mb, .int (nI jb), .int (nI ga), .int (nI gl), .int h_token, .int h_value, .ref mx, .ref mv])), (mb, .inl (cb2_, 150, .inl fy_))]) (va_A [(mo, .inr (12, [.ref nw, .ref kp, .ref ik, .ref mr, .long la_, .long lb_, .ref mw, .long lc_, .int ti_, .int cb_, .long ld_, .long le_, .ref mq, .ref mz, .ref my, .int sm_, .ref mb, .int (nI jb), .int ta_, .int tl_, .int tk_, .int vl_, .ref mx, .ref mv])), (mb, .inl (cb2_, 150, .inl fy_))] sz)) 0 0 (va_A [(mo, .inr (12, [.ref nw, .ref kp, .ref ik, .ref mr, .long la_, .long lb_, .ref mw, .long lc_, .int ti_, .int cb_, .long ld_, .long le_, .ref mq, .ref mz, .ref my, .int sm_, .ref mb, .int (nI jb), .int ta_, .int tl_, .int tk_, .int vl_, .ref mx, .ref mv])), (mb, .inl (cb2_, 150, .inl fy_))] sz) := by
  refine Met.ofW (cc := cX12_lookAt) (maxL := 5) (ret := none) (by decide) rfl ?_
  intro p e s m args below meth c s₁ B hml hv
  obtain ⟨rfl, hsz, hP, hK, hD0⟩ := hv
  have hx := B.exec
  have hb := B.bytes
  have hr := B.returns
  have hts := atoms_spec (ws := wsX12_lookAt) B.pre
  have hown : s.vm.findClass RX12 = some m.cls := findClass_of_methodNamed B.named
  have hlocks := B.notSynchronized
  subst hsz
  have hD := hD0.self (sz := s.heap.size)
  generalize hAe : va_A [(mo, .inr (12, [.ref nw, .ref kp, .ref ik, .ref mr, .long la_, .long lb_, .ref mw, .long lc_, .int ti_, .int cb_, .long ld_, .long le_, .ref mq, .ref mz, .ref my, .int sm_, .ref mb, .int (nI jb), .int ta_, .int tl_, .int tk_, .int vl_, .ref mx, .ref mv])), (mb, .inl (cb2_, 150, .inl fy_))] s.heap.size = A at hD ⊢
  have hA : ∀ q : Nat, s.heap.size ≤ q → A q := fun q h => by rw [← hAe]; exact Or.inr h
  have hS : va_S A s.heap s.heap [] := va_S.rf
  have hP : va_P (dC, dI) vwCl [(mo, .inr (12, [.ref nw, .ref kp, .ref ik, .ref mr, .long la_, .long lb_, .ref mw, .long lc_, .int ti_, .int cb_, .long ld_, .long le_, .ref mq, .ref mz, .ref my, .int sm_, .ref mb, .int (nI jb), .int ta_, .int tl_, .int tk_, .int vl_, .ref mx, .ref mv])), (mb, .inl (cb2_, 150, .inl fy_))] s.heap := hP
  have hl := lv_entry ([.ref mo, .int (nI jf)]) (n := 5) (Nat.le_of_ble_eq_true rfl)
  rw [lg_entry_eq]
  generalize (lg_sl ([.ref mo, .int (nI jf)]) ++ List.replicate (5 - (lg_sl ([.ref mo, .int (nI jf)])).length) Slot.unset).toArray = ls at hl ⊢
  have hl : lv_has ls 5 [(0, .ref mo), (1, .int (nI jf))] := hl
  refine lv_aload_n hx hb dX12_lookAt_0 rfl (lv_at hl 0 rfl) ?_
  refine lv_iload_n hx hb dX12_lookAt_1 rfl (lv_at hl 1 rfl) ?_
  refine va_put (D := (dC, dI)) (ci := 12) (v := .int (nI jf)) (ty := .int) (C := RX12) (T := TX12) (N := 24) hx hb hts iw_m_lookAt_X12 tyX12 tyX12_ok nmX12 hown hK hP hD hS 0 rfl rfl 18 (by decide) (hts (.fieldLink RX12 264 "ThriceCountedModel" "tokenAt" "I") (by decide +kernel)) (fun _ h9 => h9) rfl (by decide +kernel) rfl rfl (Nat.le_of_ble_eq_true rfl) dX12_lookAt_2 (fun H locs hP hD hS => ?_)
  have hP : va_P (dC, dI) vwCl [(mo, .inr (12, [.ref nw, .ref kp, .ref ik, .ref mr, .long la_, .long lb_, .ref mw, .long lc_, .int ti_, .int cb_, .long ld_, .long le_, .ref mq, .ref mz, .ref my, .int sm_, .ref mb, .int (nI jb), .int (nI jf), .int tl_, .int tk_, .int vl_, .ref mx, .ref mv])), (mb, .inl (cb2_, 150, .inl fy_))] H := hP
  have hD : va_D A [(mo, .inr (12, [.ref nw, .ref kp, .ref ik, .ref mr, .long la_, .long lb_, .ref mw, .long lc_, .int ti_, .int cb_, .long ld_, .long le_, .ref mq, .ref mz, .ref my, .int sm_, .ref mb, .int (nI jb), .int (nI jf), .int tl_, .int tk_, .int vl_, .ref mx, .ref mv])), (mb, .inl (cb2_, 150, .inl fy_))] := hD
  refine tz_while (σ := Nat × Heap × List Loc × Array Slot) (fun x => W p l e _ s m _ below meth c x.2.1 x.2.2.1 _ _ _ (F0 m 5 x.2.2.2 [])) (fun x => jf ≤ x.1 ∧ x.1 ≤ jb ∧ va_P (dC, dI) vwCl [(mo, .inr (12, [.ref nw, .ref kp, .ref ik, .ref mr, .long la_, .long lb_, .ref mw, .long lc_, .int ti_, .int cb_, .long ld_, .long le_, .ref mq, .ref mz, .ref my, .int sm_, .ref mb, .int (nI jb), .int (nI x.1), .int tl_, .int tk_, .int vl_, .ref mx, .ref mv])), (mb, .inl (cb2_, 150, .inl fy_))] x.2.1 ∧ va_D A [(mo, .inr (12, [.ref nw, .ref kp, .ref ik, .ref mr, .long la_, .long lb_, .ref mw, .long lc_, .int ti_, .int cb_, .long ld_, .long le_, .ref mq, .ref mz, .ref my, .int sm_, .ref mb, .int (nI jb), .int (nI x.1), .int tl_, .int tk_, .int vl_, .ref mx, .ref mv])), (mb, .inl (cb2_, 150, .inl fy_))] ∧ va_S A s.heap x.2.1 x.2.2.1 ∧ lv_has x.2.2.2 5 [(0, .ref mo), (1, .int (nI jf))]) (fun x => jb - x.1) ?_ (jf, H, locs, ls) ⟨by (try dsimp only); omega, hjf, hP, hD, hS, hl⟩
  rintro ⟨z_1, H, locs, ls⟩ ⟨hi_7_0, hi_8_1, hP, hD, hS, hl⟩ ih_9
  dsimp only at hi_7_0 hi_8_1 hP hD hS hl ih_9 ⊢
  refine lv_aload_n hx hb dX12_lookAt_5 rfl (lv_at hl 0 rfl) ?_
  refine va_get (D := (dC, dI)) (ci := 12) (v := .int (nI z_1)) (C := RX12) (T := TX12) (N := 24) hx hb hts iw_m_lookAt_X12 hown hK hP 0 rfl rfl 18 (by decide) (hts (.fieldLink RX12 264 "ThriceCountedModel" "tokenAt" "I") (by decide +kernel)) (fun _ h9 => h9) rfl dX12_lookAt_6 ?_
  refine lv_aload_n hx hb dX12_lookAt_9 rfl (lv_at hl 0 rfl) ?_
  refine va_get (D := (dC, dI)) (ci := 12) (v := .int (nI jb)) (C := RX12) (T := TX12) (N := 24) hx hb hts iw_m_lookAt_X12 hown hK hP 0 rfl rfl 17 (by decide) (hts (.fieldLink RX12 253 "ThriceCountedModel" "bytesLong" "I") (by decide +kernel)) (fun _ h9 => h9) rfl dX12_lookAt_10 ?_
  refine lv_icmp_ge (tgt := 43) hx hb dX12_lookAt_13 (by decide) (fun c_10 => ?_) (fun c_10 => ?_)
  · have hn_11 : jb ≤ z_1 := (nI_leI (a := jb) (b := z_1) (by omega) (by omega)).mp c_10
    refine lv_aload_n hx hb dX12_lookAt_43 rfl (lv_at hl 0 rfl) ?_
    refine lv_iconst (v := 0) hx hb dX12_lookAt_44 (by decide) ?_
    refine va_put (D := (dC, dI)) (ci := 12) (v := .int 0) (ty := .int) (C := RX12) (T := TX12) (N := 24) hx hb hts iw_m_lookAt_X12 tyX12 tyX12_ok nmX12 hown hK hP hD hS 0 rfl rfl 19 (by decide) (hts (.fieldLink RX12 267 "ThriceCountedModel" "tokenLong" "I") (by decide +kernel)) (fun _ h9 => h9) rfl (by decide +kernel) rfl rfl (Nat.le_of_ble_eq_true rfl) dX12_lookAt_45 (fun H locs hP hD hS => ?_)
    have hP : va_P (dC, dI) vwCl [(mo, .inr (12, [.ref nw, .ref kp, .ref ik, .ref mr, .long la_, .long lb_, .ref mw, .long lc_, .int ti_, .int cb_, .long ld_, .long le_, .ref mq, .ref mz, .ref my, .int sm_, .ref mb, .int (nI jb), .int (nI z_1), .int 0, .int tk_, .int vl_, .ref mx, .ref mv])), (mb, .inl (cb2_, 150, .inl fy_))] H := hP
    have hD : va_D A [(mo, .inr (12, [.ref nw, .ref kp, .ref ik, .ref mr, .long la_, .long lb_, .ref mw, .long lc_, .int ti_, .int cb_, .long ld_, .long le_, .ref mq, .ref mz, .ref my, .int sm_, .ref mb, .int (nI jb), .int (nI z_1), .int 0, .int tk_, .int vl_, .ref mx, .ref mv])), (mb, .inl (cb2_, 150, .inl fy_))] := hD
    refine lv_aload_n hx hb dX12_lookAt_48 rfl (lv_at hl 0 rfl) ?_
    refine lv_iconst (v := 0) hx hb dX12_lookAt_49 (by decide) ?_
    refine va_put (D := (dC, dI)) (ci := 12) (v := .int 0) (ty := .int) (C := RX12) (T := TX12) (N := 24) hx hb hts iw_m_lookAt_X12 tyX12 tyX12_ok nmX12 hown hK hP hD hS 0 rfl rfl 20 (by decide) (hts (.fieldLink RX12 270 "ThriceCountedModel" "token" "I") (by decide +kernel)) (fun _ h9 => h9) rfl (by decide +kernel) rfl rfl (Nat.le_of_ble_eq_true rfl) dX12_lookAt_50 (fun H locs hP hD hS => ?_)
    have hP : va_P (dC, dI) vwCl [(mo, .inr (12, [.ref nw, .ref kp, .ref ik, .ref mr, .long la_, .long lb_, .ref mw, .long lc_, .int ti_, .int cb_, .long ld_, .long le_, .ref mq, .ref mz, .ref my, .int sm_, .ref mb, .int (nI jb), .int (nI z_1), .int 0, .int 0, .int vl_, .ref mx, .ref mv])), (mb, .inl (cb2_, 150, .inl fy_))] H := hP
    have hD : va_D A [(mo, .inr (12, [.ref nw, .ref kp, .ref ik, .ref mr, .long la_, .long lb_, .ref mw, .long lc_, .int ti_, .int cb_, .long ld_, .long le_, .ref mq, .ref mz, .ref my, .int sm_, .ref mb, .int (nI jb), .int (nI z_1), .int 0, .int 0, .int vl_, .ref mx, .ref mv])), (mb, .inl (cb2_, 150, .inl fy_))] := hD
    refine lv_aload_n hx hb dX12_lookAt_53 rfl (lv_at hl 0 rfl) ?_
    refine lv_iconst (v := 0) hx hb dX12_lookAt_54 (by decide) ?_
    refine va_put (D := (dC, dI)) (ci := 12) (v := .int 0) (ty := .int) (C := RX12) (T := TX12) (N := 24) hx hb hts iw_m_lookAt_X12 tyX12 tyX12_ok nmX12 hown hK hP hD hS 0 rfl rfl 21 (by decide) (hts (.fieldLink RX12 273 "ThriceCountedModel" "value" "I") (by decide +kernel)) (fun _ h9 => h9) rfl (by decide +kernel) rfl rfl (Nat.le_of_ble_eq_true rfl) dX12_lookAt_55 (fun H locs hP hD hS => ?_)
    have hP : va_P (dC, dI) vwCl [(mo, .inr (12, [.ref nw, .ref kp, .ref ik, .ref mr, .long la_, .long lb_, .ref mw, .long lc_, .int ti_, .int cb_, .long ld_, .long le_, .ref mq, .ref mz, .ref my, .int sm_, .ref mb, .int (nI jb), .int (nI z_1), .int 0, .int 0, .int 0, .ref mx, .ref mv])), (mb, .inl (cb2_, 150, .inl fy_))] H := hP
    have hD : va_D A [(mo, .inr (12, [.ref nw, .ref kp, .ref ik, .ref mr, .long la_, .long lb_, .ref mw, .long lc_, .int ti_, .int cb_, .long ld_, .long le_, .ref mq, .ref mz, .ref my, .int sm_, .ref mb, .int (nI jb), .int (nI z_1), .int 0, .int 0, .int 0, .ref mx, .ref mv])), (mb, .inl (cb2_, 150, .inl fy_))] := hD
    refine lv_aload_n hx hb dX12_lookAt_58 rfl (lv_at hl 0 rfl) ?_
    refine va_get (D := (dC, dI)) (ci := 12) (v := .int (nI z_1)) (C := RX12) (T := TX12) (N := 24) hx hb hts iw_m_lookAt_X12 hown hK hP 0 rfl rfl 18 (by decide) (hts (.fieldLink RX12 264 "ThriceCountedModel" "tokenAt" "I") (by decide +kernel)) (fun _ h9 => h9) rfl dX12_lookAt_59 ?_
    refine lv_aload_n hx hb dX12_lookAt_62 rfl (lv_at hl 0 rfl) ?_
    refine va_get (D := (dC, dI)) (ci := 12) (v := .int (nI jb)) (C := RX12) (T := TX12) (N := 24) hx hb hts iw_m_lookAt_X12 hown hK hP 0 rfl rfl 17 (by decide) (hts (.fieldLink RX12 253 "ThriceCountedModel" "bytesLong" "I") (by decide +kernel)) (fun _ h9 => h9) rfl dX12_lookAt_63 ?_
    refine lv_icmp_ne (tgt := 70) hx hb dX12_lookAt_66 (by decide) (fun c_12 => ?_) (fun c_12 => ?_)
    · have hn_13 : ¬ z_1 = jb := fun q => c_12 ((nI_eq (a := z_1) (b := jb) (by omega) (by omega)).mpr q)
      refine lv_aload_n hx hb dX12_lookAt_70 rfl (lv_at hl 0 rfl) ?_
      refine va_get (D := (dC, dI)) (ci := 12) (v := .ref mb) (C := RX12) (T := TX12) (N := 24) hx hb hts iw_m_lookAt_X12 hown hK hP 0 rfl rfl 16 (by decide) (hts (.fieldLink RX12 40 "ThriceCountedModel" "bytes" "[I") (by decide +kernel)) (fun _ h9 => h9) rfl dX12_lookAt_71 ?_
      refine lv_aload_n hx hb dX12_lookAt_74 rfl (lv_at hl 0 rfl) ?_
      refine va_get (D := (dC, dI)) (ci := 12) (v := .int (nI z_1)) (C := RX12) (T := TX12) (N := 24) hx hb hts iw_m_lookAt_X12 hown hK hP 0 rfl rfl 18 (by decide) (hts (.fieldLink RX12 264 "ThriceCountedModel" "tokenAt" "I") (by decide +kernel)) (fun _ h9 => h9) rfl dX12_lookAt_75 ?_
      refine va_iald hx hb hK hP 1 0 rfl rfl (vp_in_nI (n := z_1) (N := 150) (by omega) (by decide)) dX12_lookAt_78 ?_
      refine lv_topi (fun x_14 _ => ?_)
      refine lv_istore_n (lv' := [(2, .int x_14), (0, .ref mo), (1, .int (nI jf))]) hx hb dX12_lookAt_79 rfl hl (by decide) rfl (fun ls hl => ?_)
      refine lv_aload_n hx hb dX12_lookAt_80 rfl (lv_at hl 1 rfl) ?_
      refine lv_iload_n hx hb dX12_lookAt_81 rfl (lv_at hl 0 rfl) ?_
      refine vp_callSi (va_Run.run (va_runS (As := [.int x_14]) (rest := [.ref mo]) ⟨hx, hb, hml, hown, hts⟩ (m_isSmall l dC dI x_14) (va_cwS 1 hts gX12_lookAt_X12_isSmall rfl rfl rfl (by decide +kernel) ⟨Nat.le_of_ble_eq_true rfl, Nat.le_of_ble_eq_true rfl⟩) ⟨fun a U g mk q => ⟨q.1, trivial⟩, fun U hU hW => ⟨rfl, trivial⟩⟩ rfl rfl hl.1 rfl (lv_room (Nat.le_of_ble_eq_true rfl)) dX12_lookAt_82 ⟨Nat.le_of_ble_eq_true rfl, Nat.le_of_ble_eq_true rfl⟩)) (fun r_15 hw_16 => ?_)
      by_cases hc_17 : 97 ≤ x_14 ∧ x_14 ≤ 122
      · obtain rfl : 1 = r_15 := (hw_16.trans (if_pos hc_17)).symm
        refine lv_if_eq (tgt := 92) hx hb dX12_lookAt_85 (by decide) (fun c_18 => ?_) (fun c_18 => ?_)
        · exact absurd c_18 (by decide)
        · refine lv_iconst (v := 1) hx hb dX12_lookAt_88 (by decide) ?_
          refine lv_goto (tgt := 114) hx hb dX12_lookAt_89 (by decide) ?_
          refine va_put (D := (dC, dI)) (ci := 12) (v := .int 1) (ty := .int) (C := RX12) (T := TX12) (N := 24) hx hb hts iw_m_lookAt_X12 tyX12 tyX12_ok nmX12 hown hK hP hD hS 0 rfl rfl 20 (by decide) (hts (.fieldLink RX12 270 "ThriceCountedModel" "token" "I") (by decide +kernel)) (fun _ h9 => h9) rfl (by decide +kernel) rfl rfl (Nat.le_of_ble_eq_true rfl) dX12_lookAt_114 (fun H locs hP hD hS => ?_)
          have hP : va_P (dC, dI) vwCl [(mo, .inr (12, [.ref nw, .ref kp, .ref ik, .ref mr, .long la_, .long lb_, .ref mw, .long lc_, .int ti_, .int cb_, .long ld_, .long le_, .ref mq, .ref mz, .ref my, .int sm_, .ref mb, .int (nI jb), .int (nI z_1), .int 0, .int 1, .int 0, .ref mx, .ref mv])), (mb, .inl (cb2_, 150, .inl fy_))] H := hP
          have hD : va_D A [(mo, .inr (12, [.ref nw, .ref kp, .ref ik, .ref mr, .long la_, .long lb_, .ref mw, .long lc_, .int ti_, .int cb_, .long ld_, .long le_, .ref mq, .ref mz, .ref my, .int sm_, .ref mb, .int (nI jb), .int (nI z_1), .int 0, .int 1, .int 0, .ref mx, .ref mv])), (mb, .inl (cb2_, 150, .inl fy_))] := hD
          refine lv_aload_n hx hb dX12_lookAt_117 rfl (lv_at hl 1 rfl) ?_
          refine lv_iconst (v := 1) hx hb dX12_lookAt_118 (by decide) ?_
          refine va_put (D := (dC, dI)) (ci := 12) (v := .int 1) (ty := .int) (C := RX12) (T := TX12) (N := 24) hx hb hts iw_m_lookAt_X12 tyX12 tyX12_ok nmX12 hown hK hP hD hS 0 rfl rfl 19 (by decide) (hts (.fieldLink RX12 267 "ThriceCountedModel" "tokenLong" "I") (by decide +kernel)) (fun _ h9 => h9) rfl (by decide +kernel) rfl rfl (Nat.le_of_ble_eq_true rfl) dX12_lookAt_119 (fun H locs hP hD hS => ?_)
          have hP : va_P (dC, dI) vwCl [(mo, .inr (12, [.ref nw, .ref kp, .ref ik, .ref mr, .long la_, .long lb_, .ref mw, .long lc_, .int ti_, .int cb_, .long ld_, .long le_, .ref mq, .ref mz, .ref my, .int sm_, .ref mb, .int (nI jb), .int (nI z_1), .int 1, .int 1, .int 0, .ref mx, .ref mv])), (mb, .inl (cb2_, 150, .inl fy_))] H := hP
          have hD : va_D A [(mo, .inr (12, [.ref nw, .ref kp, .ref ik, .ref mr, .long la_, .long lb_, .ref mw, .long lc_, .int ti_, .int cb_, .long ld_, .long le_, .ref mq, .ref mz, .ref my, .int sm_, .ref mb, .int (nI jb), .int (nI z_1), .int 1, .int 1, .int 0, .ref mx, .ref mv])), (mb, .inl (cb2_, 150, .inl fy_))] := hD
          refine lv_aload_n hx hb dX12_lookAt_122 rfl (lv_at hl 1 rfl) ?_
          refine va_get (D := (dC, dI)) (ci := 12) (v := .int 1) (C := RX12) (T := TX12) (N := 24) hx hb hts iw_m_lookAt_X12 hown hK hP 0 rfl rfl 20 (by decide) (hts (.fieldLink RX12 270 "ThriceCountedModel" "token" "I") (by decide +kernel)) (fun _ h9 => h9) rfl dX12_lookAt_123 ?_
          refine lv_iconst (v := 3) hx hb dX12_lookAt_126 (by decide) ?_
          refine lv_icmp_ge (tgt := 134) hx hb dX12_lookAt_127 (by decide) (fun c_19 => ?_) (fun c_19 => ?_)
          · exact absurd c_19 (by decide)
          · refine lv_iconst (v := 1) hx hb dX12_lookAt_130 (by decide) ?_
            refine lv_goto (tgt := 135) hx hb dX12_lookAt_131 (by decide) ?_
            refine lv_istore_n (lv' := [(3, .int 1), (2, .int x_14), (0, .ref mo), (1, .int (nI jf))]) hx hb dX12_lookAt_135 rfl hl (by decide) rfl (fun ls hl => ?_)
            refine tz_while (σ := Nat × Int32 × Heap × List Loc × Array Slot) (fun x => W p l e _ s m _ below meth c x.2.2.1 x.2.2.2.1 _ _ _ (F0 m 136 x.2.2.2.2 [])) (fun x => 1 ≤ x.1 ∧ z_1 + x.1 ≤ jb ∧ va_P (dC, dI) vwCl [(mo, .inr (12, [.ref nw, .ref kp, .ref ik, .ref mr, .long la_, .long lb_, .ref mw, .long lc_, .int ti_, .int cb_, .long ld_, .long le_, .ref mq, .ref mz, .ref my, .int sm_, .ref mb, .int (nI jb), .int (nI z_1), .int (nI x.1), .int 1, .int 0, .ref mx, .ref mv])), (mb, .inl (cb2_, 150, .inl fy_))] x.2.2.1 ∧ va_D A [(mo, .inr (12, [.ref nw, .ref kp, .ref ik, .ref mr, .long la_, .long lb_, .ref mw, .long lc_, .int ti_, .int cb_, .long ld_, .long le_, .ref mq, .ref mz, .ref my, .int sm_, .ref mb, .int (nI jb), .int (nI z_1), .int (nI x.1), .int 1, .int 0, .ref mx, .ref mv])), (mb, .inl (cb2_, 150, .inl fy_))] ∧ va_S A s.heap x.2.2.1 x.2.2.2.1 ∧ lv_has x.2.2.2.2 5 [(3, .int x.2.1), (2, .int x_14), (0, .ref mo), (1, .int (nI jf))]) (fun x => 2 * (jb - x.1) + tz_fl x.2.1) ?_ (1, 1, H, locs, ls) ⟨by (try dsimp only); omega, by (try dsimp only); omega, hP, hD, hS, hl⟩
            rintro ⟨z_20, v_32, H, locs, ls⟩ ⟨hi_44_0, hi_45_1, hP, hD, hS, hl⟩ ih_46
            dsimp only at hi_44_0 hi_45_1 hP hD hS hl ih_46 ⊢
            refine lv_iload_n hx hb dX12_lookAt_136 rfl (lv_at hl 0 rfl) ?_
            refine lv_if_eq (tgt := 215) hx hb dX12_lookAt_137 (by decide) (fun c_47 => ?_) (fun c_47 => ?_)
            · refine lv_iconst (v := 0) hx hb dX12_lookAt_215 (by decide) ?_
              refine lv_istore (lv' := [(4, .int 0), (3, .int v_32), (2, .int x_14), (0, .ref mo), (1, .int (nI jf))]) hx hb dX12_lookAt_216 hl (by decide) rfl (fun ls hl => ?_)
              refine tz_while (σ := Nat × Array Slot) (fun x => W p l e _ s m _ below meth c _ _ _ _ _ (F0 m 218 x.2 [])) (fun x => x.1 ≤ z_20 ∧ lv_has x.2 5 [(4, .int (nI x.1)), (3, .int v_32), (2, .int x_14), (0, .ref mo), (1, .int (nI jf))]) (fun x => z_20 - x.1) ?_ (0, ls) ⟨by (try dsimp only); omega, hl⟩
              rintro ⟨k_48, ls⟩ ⟨hi_56_0, hl⟩ ih_57
              dsimp only at hi_56_0 hl ih_57 ⊢
              refine lv_iload hx hb dX12_lookAt_218 (lv_at hl 0 rfl) ?_
              refine lv_aload_n hx hb dX12_lookAt_220 rfl (lv_at hl 3 rfl) ?_
              refine va_get (D := (dC, dI)) (ci := 12) (v := .int (nI z_20)) (C := RX12) (T := TX12) (N := 24) hx hb hts iw_m_lookAt_X12 hown hK hP 0 rfl rfl 19 (by decide) (hts (.fieldLink RX12 267 "ThriceCountedModel" "tokenLong" "I") (by decide +kernel)) (fun _ h9 => h9) rfl dX12_lookAt_221 ?_
              refine lv_icmp_ge (tgt := 274) hx hb dX12_lookAt_224 (by decide) (fun c_58 => ?_) (fun c_58 => ?_)
              · have hn_59 : z_20 ≤ k_48 := (nI_leI (a := z_20) (b := k_48) (by omega) (by omega)).mp c_58
                refine lv_aload_n hx hb dX12_lookAt_274 rfl (lv_at hl 3 rfl) ?_
                refine lv_aload_n hx hb dX12_lookAt_275 rfl (lv_at hl 3 rfl) ?_
                refine va_get (D := (dC, dI)) (ci := 12) (v := .int 1) (C := RX12) (T := TX12) (N := 24) hx hb hts iw_m_lookAt_X12 hown hK hP 0 rfl rfl 20 (by decide) (hts (.fieldLink RX12 270 "ThriceCountedModel" "token" "I") (by decide +kernel)) (fun _ h9 => h9) rfl dX12_lookAt_276 ?_
                refine lv_iconst (v := 2) hx hb dX12_lookAt_279 (by decide) ?_
                refine lv_icmp_ne (tgt := 295) hx hb dX12_lookAt_280 (by decide) (fun c_60 => ?_) (fun c_60 => ?_)
                · refine lv_aload_n hx hb dX12_lookAt_295 rfl (lv_at hl 3 rfl) ?_
                  refine va_get (D := (dC, dI)) (ci := 12) (v := .int 1) (C := RX12) (T := TX12) (N := 24) hx hb hts iw_m_lookAt_X12 hown hK hP 0 rfl rfl 20 (by decide) (hts (.fieldLink RX12 270 "ThriceCountedModel" "token" "I") (by decide +kernel)) (fun _ h9 => h9) rfl dX12_lookAt_296 ?_
                  refine va_put (D := (dC, dI)) (ci := 12) (v := .int 1) (ty := .int) (C := RX12) (T := TX12) (N := 24) hx hb hts iw_m_lookAt_X12 tyX12 tyX12_ok nmX12 hown hK hP hD hS 0 rfl rfl 20 (by decide) (hts (.fieldLink RX12 270 "ThriceCountedModel" "token" "I") (by decide +kernel)) (fun _ h9 => h9) rfl (by decide +kernel) rfl rfl (Nat.le_of_ble_eq_true rfl) dX12_lookAt_299 (fun H locs hP hD hS => ?_)
                  have hP : va_P (dC, dI) vwCl [(mo, .inr (12, [.ref nw, .ref kp, .ref ik, .ref mr, .long la_, .long lb_, .ref mw, .long lc_, .int ti_, .int cb_, .long ld_, .long le_, .ref mq, .ref mz, .ref my, .int sm_, .ref mb, .int (nI jb), .int (nI z_1), .int (nI z_20), .int 1, .int 0, .ref mx, .ref mv])), (mb, .inl (cb2_, 150, .inl fy_))] H := hP
                  have hD : va_D A [(mo, .inr (12, [.ref nw, .ref kp, .ref ik, .ref mr, .long la_, .long lb_, .ref mw, .long lc_, .int ti_, .int cb_, .long ld_, .long le_, .ref mq, .ref mz, .ref my, .int sm_, .ref mb, .int (nI jb), .int (nI z_1), .int (nI z_20), .int 1, .int 0, .ref mx, .ref mv])), (mb, .inl (cb2_, 150, .inl fy_))] := hD
                  have hP9 := hP.sub (ws' := [(mo, .inr (12, [.ref nw, .ref kp, .ref ik, .ref mr, .long la_, .long lb_, .ref mw, .long lc_, .int ti_, .int cb_, .long ld_, .long le_, .ref mq, .ref mz, .ref my, .int sm_, .ref mb, .int (nI jb), .int (nI z_1), .int (nI z_20), .int 1, .int 0, .ref mx, .ref mv])), (mb, .inl (cb2_, 150, .inl fy_))]) [0, 1] rfl
                  have hD9 := hD.sub (ws' := [(mo, .inr (12, [.ref nw, .ref kp, .ref ik, .ref mr, .long la_, .long lb_, .ref mw, .long lc_, .int ti_, .int cb_, .long ld_, .long le_, .ref mq, .ref mz, .ref my, .int sm_, .ref mb, .int (nI jb), .int (nI z_1), .int (nI z_20), .int 1, .int 0, .ref mx, .ref mv])), (mb, .inl (cb2_, 150, .inl fy_))]) [0, 1] (by decide) rfl
                  have hK9 := hK.sub (tys' := [(cb2_, .int)]) [0] rfl
                  exact W.vret hx hb hr (fun t ht hW => ⟨⟨(), rfl, trivial, 1, 0, z_1, z_20, by omega, by omega, fun q => absurd q (by decide), by rw [ht]; exact hP9, va_K.moved hW.alike hK9, hD9⟩, hS.F ht⟩) hS.2.2 dX12_lookAt_302
                · exact absurd c_60 (by decide)
              · have hn_61 : ¬ z_20 ≤ k_48 := fun q => c_58 ((nI_leI (a := z_20) (b := k_48) (by omega) (by omega)).mpr q)
                refine lv_iload hx hb dX12_lookAt_227 (lv_at hl 0 rfl) ?_
                refine lv_iconst (v := 3) hx hb dX12_lookAt_229 (by decide) ?_
                refine lv_icmp_ge (tgt := 274) hx hb dX12_lookAt_230 (by decide) (fun c_62 => ?_) (fun c_62 => ?_)
                · have hn_63 : 3 ≤ k_48 := (nI_leI (a := 3) (b := k_48) (by omega) (by omega)).mp c_62
                  refine lv_aload_n hx hb dX12_lookAt_274 rfl (lv_at hl 3 rfl) ?_
                  refine lv_aload_n hx hb dX12_lookAt_275 rfl (lv_at hl 3 rfl) ?_
                  refine va_get (D := (dC, dI)) (ci := 12) (v := .int 1) (C := RX12) (T := TX12) (N := 24) hx hb hts iw_m_lookAt_X12 hown hK hP 0 rfl rfl 20 (by decide) (hts (.fieldLink RX12 270 "ThriceCountedModel" "token" "I") (by decide +kernel)) (fun _ h9 => h9) rfl dX12_lookAt_276 ?_
                  refine lv_iconst (v := 2) hx hb dX12_lookAt_279 (by decide) ?_
                  refine lv_icmp_ne (tgt := 295) hx hb dX12_lookAt_280 (by decide) (fun c_64 => ?_) (fun c_64 => ?_)
                  · refine lv_aload_n hx hb dX12_lookAt_295 rfl (lv_at hl 3 rfl) ?_
                    refine va_get (D := (dC, dI)) (ci := 12) (v := .int 1) (C := RX12) (T := TX12) (N := 24) hx hb hts iw_m_lookAt_X12 hown hK hP 0 rfl rfl 20 (by decide) (hts (.fieldLink RX12 270 "ThriceCountedModel" "token" "I") (by decide +kernel)) (fun _ h9 => h9) rfl dX12_lookAt_296 ?_
                    refine va_put (D := (dC, dI)) (ci := 12) (v := .int 1) (ty := .int) (C := RX12) (T := TX12) (N := 24) hx hb hts iw_m_lookAt_X12 tyX12 tyX12_ok nmX12 hown hK hP hD hS 0 rfl rfl 20 (by decide) (hts (.fieldLink RX12 270 "ThriceCountedModel" "token" "I") (by decide +kernel)) (fun _ h9 => h9) rfl (by decide +kernel) rfl rfl (Nat.le_of_ble_eq_true rfl) dX12_lookAt_299 (fun H locs hP hD hS => ?_)
                    have hP : va_P (dC, dI) vwCl [(mo, .inr (12, [.ref nw, .ref kp, .ref ik, .ref mr, .long la_, .long lb_, .ref mw, .long lc_, .int ti_, .int cb_, .long ld_, .long le_, .ref mq, .ref mz, .ref my, .int sm_, .ref mb, .int (nI jb), .int (nI z_1), .int (nI z_20), .int 1, .int 0, .ref mx, .ref mv])), (mb, .inl (cb2_, 150, .inl fy_))] H := hP
                    have hD : va_D A [(mo, .inr (12, [.ref nw, .ref kp, .ref ik, .ref mr, .long la_, .long lb_, .ref mw, .long lc_, .int ti_, .int cb_, .long ld_, .long le_, .ref mq, .ref mz, .ref my, .int sm_, .ref mb, .int (nI jb), .int (nI z_1), .int (nI z_20), .int 1, .int 0, .ref mx, .ref mv])), (mb, .inl (cb2_, 150, .inl fy_))] := hD
                    have hP9 := hP.sub (ws' := [(mo, .inr (12, [.ref nw, .ref kp, .ref ik, .ref mr, .long la_, .long lb_, .ref mw, .long lc_, .int ti_, .int cb_, .long ld_, .long le_, .ref mq, .ref mz, .ref my, .int sm_, .ref mb, .int (nI jb), .int (nI z_1), .int (nI z_20), .int 1, .int 0, .ref mx, .ref mv])), (mb, .inl (cb2_, 150, .inl fy_))]) [0, 1] rfl
                    have hD9 := hD.sub (ws' := [(mo, .inr (12, [.ref nw, .ref kp, .ref ik, .ref mr, .long la_, .long lb_, .ref mw, .long lc_, .int ti_, .int cb_, .long ld_, .long le_, .ref mq, .ref mz, .ref my, .int sm_, .ref mb, .int (nI jb), .int (nI z_1), .int (nI z_20), .int 1, .int 0, .ref mx, .ref mv])), (mb, .inl (cb2_, 150, .inl fy_))]) [0, 1] (by decide) rfl
                    have hK9 := hK.sub (tys' := [(cb2_, .int)]) [0] rfl
                    exact W.vret hx hb hr (fun t ht hW => ⟨⟨(), rfl, trivial, 1, 0, z_1, z_20, by omega, by omega, fun q => absurd q (by decide), by rw [ht]; exact hP9, va_K.moved hW.alike hK9, hD9⟩, hS.F ht⟩) hS.2.2 dX12_lookAt_302
                  · exact absurd c_64 (by decide)
                · have hn_65 : ¬ 3 ≤ k_48 := fun q => c_62 ((nI_leI (a := 3) (b := k_48) (by omega) (by omega)).mpr q)
                  refine lv_aload_n hx hb dX12_lookAt_233 rfl (lv_at hl 3 rfl) ?_
                  refine va_get (D := (dC, dI)) (ci := 12) (v := .int 1) (C := RX12) (T := TX12) (N := 24) hx hb hts iw_m_lookAt_X12 hown hK hP 0 rfl rfl 20 (by decide) (hts (.fieldLink RX12 270 "ThriceCountedModel" "token" "I") (by decide +kernel)) (fun _ h9 => h9) rfl dX12_lookAt_234 ?_
                  refine lv_iconst (v := 2) hx hb dX12_lookAt_237 (by decide) ?_
                  refine lv_icmp_ne (tgt := 274) hx hb dX12_lookAt_238 (by decide) (fun c_66 => ?_) (fun c_66 => ?_)
                  · refine lv_aload_n hx hb dX12_lookAt_274 rfl (lv_at hl 3 rfl) ?_
                    refine lv_aload_n hx hb dX12_lookAt_275 rfl (lv_at hl 3 rfl) ?_
                    refine va_get (D := (dC, dI)) (ci := 12) (v := .int 1) (C := RX12) (T := TX12) (N := 24) hx hb hts iw_m_lookAt_X12 hown hK hP 0 rfl rfl 20 (by decide) (hts (.fieldLink RX12 270 "ThriceCountedModel" "token" "I") (by decide +kernel)) (fun _ h9 => h9) rfl dX12_lookAt_276 ?_
                    refine lv_iconst (v := 2) hx hb dX12_lookAt_279 (by decide) ?_
                    refine lv_icmp_ne (tgt := 295) hx hb dX12_lookAt_280 (by decide) (fun c_67 => ?_) (fun c_67 => ?_)
                    · refine lv_aload_n hx hb dX12_lookAt_295 rfl (lv_at hl 3 rfl) ?_
                      refine va_get (D := (dC, dI)) (ci := 12) (v := .int 1) (C := RX12) (T := TX12) (N := 24) hx hb hts iw_m_lookAt_X12 hown hK hP 0 rfl rfl 20 (by decide) (hts (.fieldLink RX12 270 "ThriceCountedModel" "token" "I") (by decide +kernel)) (fun _ h9 => h9) rfl dX12_lookAt_296 ?_
                      refine va_put (D := (dC, dI)) (ci := 12) (v := .int 1) (ty := .int) (C := RX12) (T := TX12) (N := 24) hx hb hts iw_m_lookAt_X12 tyX12 tyX12_ok nmX12 hown hK hP hD hS 0 rfl rfl 20 (by decide) (hts (.fieldLink RX12 270 "ThriceCountedModel" "token" "I") (by decide +kernel)) (fun _ h9 => h9) rfl (by decide +kernel) rfl rfl (Nat.le_of_ble_eq_true rfl) dX12_lookAt_299 (fun H locs hP hD hS => ?_)
                      have hP : va_P (dC, dI) vwCl [(mo, .inr (12, [.ref nw, .ref kp, .ref ik, .ref mr, .long la_, .long lb_, .ref mw, .long lc_, .int ti_, .int cb_, .long ld_, .long le_, .ref mq, .ref mz, .ref my, .int sm_, .ref mb, .int (nI jb), .int (nI z_1), .int (nI z_20), .int 1, .int 0, .ref mx, .ref mv])), (mb, .inl (cb2_, 150, .inl fy_))] H := hP
                      have hD : va_D A [(mo, .inr (12, [.ref nw, .ref kp, .ref ik, .ref mr, .long la_, .long lb_, .ref mw, .long lc_, .int ti_, .int cb_, .long ld_, .long le_, .ref mq, .ref mz, .ref my, .int sm_, .ref mb, .int (nI jb), .int (nI z_1), .int (nI z_20), .int 1, .int 0, .ref mx, .ref mv])), (mb, .inl (cb2_, 150, .inl fy_))] := hD
                      have hP9 := hP.sub (ws' := [(mo, .inr (12, [.ref nw, .ref kp, .ref ik, .ref mr, .long la_, .long lb_, .ref mw, .long lc_, .int ti_, .int cb_, .long ld_, .long le_, .ref mq, .ref mz, .ref my, .int sm_, .ref mb, .int (nI jb), .int (nI z_1), .int (nI z_20), .int 1, .int 0, .ref mx, .ref mv])), (mb, .inl (cb2_, 150, .inl fy_))]) [0, 1] rfl
                      have hD9 := hD.sub (ws' := [(mo, .inr (12, [.ref nw, .ref kp, .ref ik, .ref mr, .long la_, .long lb_, .ref mw, .long lc_, .int ti_, .int cb_, .long ld_, .long le_, .ref mq, .ref mz, .ref my, .int sm_, .ref mb, .int (nI jb), .int (nI z_1), .int (nI z_20), .int 1, .int 0, .ref mx, .ref mv])), (mb, .inl (cb2_, 150, .inl fy_))]) [0, 1] (by decide) rfl
                      have hK9 := hK.sub (tys' := [(cb2_, .int)]) [0] rfl
                      exact W.vret hx hb hr (fun t ht hW => ⟨⟨(), rfl, trivial, 1, 0, z_1, z_20, by omega, by omega, fun q => absurd q (by decide), by rw [ht]; exact hP9, va_K.moved hW.alike hK9, hD9⟩, hS.F ht⟩) hS.2.2 dX12_lookAt_302
                    · exact absurd c_67 (by decide)
                  · exact absurd c_66 (by decide)
            · refine lv_aload_n hx hb dX12_lookAt_140 rfl (lv_at hl 2 rfl) ?_
              refine va_get (D := (dC, dI)) (ci := 12) (v := .int (nI z_1)) (C := RX12) (T := TX12) (N := 24) hx hb hts iw_m_lookAt_X12 hown hK hP 0 rfl rfl 18 (by decide) (hts (.fieldLink RX12 264 "ThriceCountedModel" "tokenAt" "I") (by decide +kernel)) (fun _ h9 => h9) rfl dX12_lookAt_141 ?_
              refine lv_aload_n hx hb dX12_lookAt_144 rfl (lv_at hl 2 rfl) ?_
              refine va_get (D := (dC, dI)) (ci := 12) (v := .int (nI z_20)) (C := RX12) (T := TX12) (N := 24) hx hb hts iw_m_lookAt_X12 hown hK hP 0 rfl rfl 19 (by decide) (hts (.fieldLink RX12 267 "ThriceCountedModel" "tokenLong" "I") (by decide +kernel)) (fun _ h9 => h9) rfl dX12_lookAt_145 ?_
              refine lv_iadd hx hb dX12_lookAt_148 ?_
              refine tz_i (nI (z_1 + z_20)) (nI_add z_1 z_20) ?_
              refine lv_aload_n hx hb dX12_lookAt_149 rfl (lv_at hl 2 rfl) ?_
              refine va_get (D := (dC, dI)) (ci := 12) (v := .int (nI jb)) (C := RX12) (T := TX12) (N := 24) hx hb hts iw_m_lookAt_X12 hown hK hP 0 rfl rfl 17 (by decide) (hts (.fieldLink RX12 253 "ThriceCountedModel" "bytesLong" "I") (by decide +kernel)) (fun _ h9 => h9) rfl dX12_lookAt_150 ?_
              refine lv_icmp_ge (tgt := 215) hx hb dX12_lookAt_153 (by decide) (fun c_68 => ?_) (fun c_68 => ?_)
              · have hn_69 : jb ≤ (z_1 + z_20) := (nI_leI (a := jb) (b := (z_1 + z_20)) (by omega) (by omega)).mp c_68
                refine lv_iconst (v := 0) hx hb dX12_lookAt_215 (by decide) ?_
                refine lv_istore (lv' := [(4, .int 0), (3, .int v_32), (2, .int x_14), (0, .ref mo), (1, .int (nI jf))]) hx hb dX12_lookAt_216 hl (by decide) rfl (fun ls hl => ?_)
                refine tz_while (σ := Nat × Array Slot) (fun x => W p l e _ s m _ below meth c _ _ _ _ _ (F0 m 218 x.2 [])) (fun x => x.1 ≤ z_20 ∧ lv_has x.2 5 [(4, .int (nI x.1)), (3, .int v_32), (2, .int x_14), (0, .ref mo), (1, .int (nI jf))]) (fun x => z_20 - x.1) ?_ (0, ls) ⟨by (try dsimp only); omega, hl⟩
                rintro ⟨k_70, ls⟩ ⟨hi_78_0, hl⟩ ih_79
                dsimp only at hi_78_0 hl ih_79 ⊢
                refine lv_iload hx hb dX12_lookAt_218 (lv_at hl 0 rfl) ?_
                refine lv_aload_n hx hb dX12_lookAt_220 rfl (lv_at hl 3 rfl) ?_
                refine va_get (D := (dC, dI)) (ci := 12) (v := .int (nI z_20)) (C := RX12) (T := TX12) (N := 24) hx hb hts iw_m_lookAt_X12 hown hK hP 0 rfl rfl 19 (by decide) (hts (.fieldLink RX12 267 "ThriceCountedModel" "tokenLong" "I") (by decide +kernel)) (fun _ h9 => h9) rfl dX12_lookAt_221 ?_
                refine lv_icmp_ge (tgt := 274) hx hb dX12_lookAt_224 (by decide) (fun c_80 => ?_) (fun c_80 => ?_)
                · have hn_81 : z_20 ≤ k_70 := (nI_leI (a := z_20) (b := k_70) (by omega) (by omega)).mp c_80
                  refine lv_aload_n hx hb dX12_lookAt_274 rfl (lv_at hl 3 rfl) ?_
                  refine lv_aload_n hx hb dX12_lookAt_275 rfl (lv_at hl 3 rfl) ?_
                  refine va_get (D := (dC, dI)) (ci := 12) (v := .int 1) (C := RX12) (T := TX12) (N := 24) hx hb hts iw_m_lookAt_X12 hown hK hP 0 rfl rfl 20 (by decide) (hts (.fieldLink RX12 270 "ThriceCountedModel" "token" "I") (by decide +kernel)) (fun _ h9 => h9) rfl dX12_lookAt_276 ?_
                  refine lv_iconst (v := 2) hx hb dX12_lookAt_279 (by decide) ?_
                  refine lv_icmp_ne (tgt := 295) hx hb dX12_lookAt_280 (by decide) (fun c_82 => ?_) (fun c_82 => ?_)
                  · refine lv_aload_n hx hb dX12_lookAt_295 rfl (lv_at hl 3 rfl) ?_
                    refine va_get (D := (dC, dI)) (ci := 12) (v := .int 1) (C := RX12) (T := TX12) (N := 24) hx hb hts iw_m_lookAt_X12 hown hK hP 0 rfl rfl 20 (by decide) (hts (.fieldLink RX12 270 "ThriceCountedModel" "token" "I") (by decide +kernel)) (fun _ h9 => h9) rfl dX12_lookAt_296 ?_
                    refine va_put (D := (dC, dI)) (ci := 12) (v := .int 1) (ty := .int) (C := RX12) (T := TX12) (N := 24) hx hb hts iw_m_lookAt_X12 tyX12 tyX12_ok nmX12 hown hK hP hD hS 0 rfl rfl 20 (by decide) (hts (.fieldLink RX12 270 "ThriceCountedModel" "token" "I") (by decide +kernel)) (fun _ h9 => h9) rfl (by decide +kernel) rfl rfl (Nat.le_of_ble_eq_true rfl) dX12_lookAt_299 (fun H locs hP hD hS => ?_)
                    have hP : va_P (dC, dI) vwCl [(mo, .inr (12, [.ref nw, .ref kp, .ref ik, .ref mr, .long la_, .long lb_, .ref mw, .long lc_, .int ti_, .int cb_, .long ld_, .long le_, .ref mq, .ref mz, .ref my, .int sm_, .ref mb, .int (nI jb), .int (nI z_1), .int (nI z_20), .int 1, .int 0, .ref mx, .ref mv])), (mb, .inl (cb2_, 150, .inl fy_))] H := hP
                    have hD : va_D A [(mo, .inr (12, [.ref nw, .ref kp, .ref ik, .ref mr, .long la_, .long lb_, .ref mw, .long lc_, .int ti_, .int cb_, .long ld_, .long le_, .ref mq, .ref mz, .ref my, .int sm_, .ref mb, .int (nI jb), .int (nI z_1), .int (nI z_20), .int 1, .int 0, .ref mx, .ref mv])), (mb, .inl (cb2_, 150, .inl fy_))] := hD
                    have hP9 := hP.sub (ws' := [(mo, .inr (12, [.ref nw, .ref kp, .ref ik, .ref mr, .long la_, .long lb_, .ref mw, .long lc_, .int ti_, .int cb_, .long ld_, .long le_, .ref mq, .ref mz, .ref my, .int sm_, .ref mb, .int (nI jb), .int (nI z_1), .int (nI z_20), .int 1, .int 0, .ref mx, .ref mv])), (mb, .inl (cb2_, 150, .inl fy_))]) [0, 1] rfl
                    have hD9 := hD.sub (ws' := [(mo, .inr (12, [.ref nw, .ref kp, .ref ik, .ref mr, .long la_, .long lb_, .ref mw, .long lc_, .int ti_, .int cb_, .long ld_, .long le_, .ref mq, .ref mz, .ref my, .int sm_, .ref mb, .int (nI jb), .int (nI z_1), .int (nI z_20), .int 1, .int 0, .ref mx, .ref mv])), (mb, .inl (cb2_, 150, .inl fy_))]) [0, 1] (by decide) rfl
                    have hK9 := hK.sub (tys' := [(cb2_, .int)]) [0] rfl
                    exact W.vret hx hb hr (fun t ht hW => ⟨⟨(), rfl, trivial, 1, 0, z_1, z_20, by omega, by omega, fun q => absurd q (by decide), by rw [ht]; exact hP9, va_K.moved hW.alike hK9, hD9⟩, hS.F ht⟩) hS.2.2 dX12_lookAt_302
                  · exact absurd c_82 (by decide)
                · have hn_83 : ¬ z_20 ≤ k_70 := fun q => c_80 ((nI_leI (a := z_20) (b := k_70) (by omega) (by omega)).mpr q)
                  refine lv_iload hx hb dX12_lookAt_227 (lv_at hl 0 rfl) ?_
                  refine lv_iconst (v := 3) hx hb dX12_lookAt_229 (by decide) ?_
                  refine lv_icmp_ge (tgt := 274) hx hb dX12_lookAt_230 (by decide) (fun c_84 => ?_) (fun c_84 => ?_)
                  · have hn_85 : 3 ≤ k_70 := (nI_leI (a := 3) (b := k_70) (by omega) (by omega)).mp c_84
                    refine lv_aload_n hx hb dX12_lookAt_274 rfl (lv_at hl 3 rfl) ?_
                    refine lv_aload_n hx hb dX12_lookAt_275 rfl (lv_at hl 3 rfl) ?_
                    refine va_get (D := (dC, dI)) (ci := 12) (v := .int 1) (C := RX12) (T := TX12) (N := 24) hx hb hts iw_m_lookAt_X12 hown hK hP 0 rfl rfl 20 (by decide) (hts (.fieldLink RX12 270 "ThriceCountedModel" "token" "I") (by decide +kernel)) (fun _ h9 => h9) rfl dX12_lookAt_276 ?_
                    refine lv_iconst (v := 2) hx hb dX12_lookAt_279 (by decide) ?_
                    refine lv_icmp_ne (tgt := 295) hx hb dX12_lookAt_280 (by decide) (fun c_86 => ?_) (fun c_86 => ?_)
                    · refine lv_aload_n hx hb dX12_lookAt_295 rfl (lv_at hl 3 rfl) ?_
                      refine va_get (D := (dC, dI)) (ci := 12) (v := .int 1) (C := RX12) (T := TX12) (N := 24) hx hb hts iw_m_lookAt_X12 hown hK hP 0 rfl rfl 20 (by decide) (hts (.fieldLink RX12 270 "ThriceCountedModel" "token" "I") (by decide +kernel)) (fun _ h9 => h9) rfl dX12_lookAt_296 ?_
                      refine va_put (D := (dC, dI)) (ci := 12) (v := .int 1) (ty := .int) (C := RX12) (T := TX12) (N := 24) hx hb hts iw_m_lookAt_X12 tyX12 tyX12_ok nmX12 hown hK hP hD hS 0 rfl rfl 20 (by decide) (hts (.fieldLink RX12 270 "ThriceCountedModel" "token" "I") (by decide +kernel)) (fun _ h9 => h9) rfl (by decide +kernel) rfl rfl (Nat.le_of_ble_eq_true rfl) dX12_lookAt_299 (fun H locs hP hD hS => ?_)
                      have hP : va_P (dC, dI) vwCl [(mo, .inr (12, [.ref nw, .ref kp, .ref ik, .ref mr, .long la_, .long lb_, .ref mw, .long lc_, .int ti_, .int cb_, .long ld_, .long le_, .ref mq, .ref mz, .ref my, .int sm_, .ref mb, .int (nI jb), .int (nI z_1), .int (nI z_20), .int 1, .int 0, .ref mx, .ref mv])), (mb, .inl (cb2_, 150, .inl fy_))] H := hP
                      have hD : va_D A [(mo, .inr (12, [.ref nw, .ref kp, .ref ik, .ref mr, .long la_, .long lb_, .ref mw, .long lc_, .int ti_, .int cb_, .long ld_, .long le_, .ref mq, .ref mz, .ref my, .int sm_, .ref mb, .int (nI jb), .int (nI z_1), .int (nI z_20), .int 1, .int 0, .ref mx, .ref mv])), (mb, .inl (cb2_, 150, .inl fy_))] := hD
                      have hP9 := hP.sub (ws' := [(mo, .inr (12, [.ref nw, .ref kp, .ref ik, .ref mr, .long la_, .long lb_, .ref mw, .long lc_, .int ti_, .int cb_, .long ld_, .long le_, .ref mq, .ref mz, .ref my, .int sm_, .ref mb, .int (nI jb), .int (nI z_1), .int (nI z_20), .int 1, .int 0, .ref mx, .ref mv])), (mb, .inl (cb2_, 150, .inl fy_))]) [0, 1] rfl
                      have hD9 := hD.sub (ws' := [(mo, .inr (12, [.ref nw, .ref kp, .ref ik, .ref mr, .long la_, .long lb_, .ref mw, .long lc_, .int ti_, .int cb_, .long ld_, .long le_, .ref mq, .ref mz, .ref my, .int sm_, .ref mb, .int (nI jb), .int (nI z_1), .int (nI z_20), .int 1, .int 0, .ref mx, .ref mv])), (mb, .inl (cb2_, 150, .inl fy_))]) [0, 1] (by decide) rfl
                      have hK9 := hK.sub (tys' := [(cb2_, .int)]) [0] rfl
                      exact W.vret hx hb hr (fun t ht hW => ⟨⟨(), rfl, trivial, 1, 0, z_1, z_20, by omega, by omega, fun q => absurd q (by decide), by rw [ht]; exact hP9, va_K.moved hW.alike hK9, hD9⟩, hS.F ht⟩) hS.2.2 dX12_lookAt_302
                    · exact absurd c_86 (by decide)
                  · have hn_87 : ¬ 3 ≤ k_70 := fun q => c_84 ((nI_leI (a := 3) (b := k_70) (by omega) (by omega)).mpr q)
                    refine lv_aload_n hx hb dX12_lookAt_233 rfl (lv_at hl 3 rfl) ?_
                    refine va_get (D := (dC, dI)) (ci := 12) (v := .int 1) (C := RX12) (T := TX12) (N := 24) hx hb hts iw_m_lookAt_X12 hown hK hP 0 rfl rfl 20 (by decide) (hts (.fieldLink RX12 270 "ThriceCountedModel" "token" "I") (by decide +kernel)) (fun _ h9 => h9) rfl dX12_lookAt_234 ?_
                    refine lv_iconst (v := 2) hx hb dX12_lookAt_237 (by decide) ?_
                    refine lv_icmp_ne (tgt := 274) hx hb dX12_lookAt_238 (by decide) (fun c_88 => ?_) (fun c_88 => ?_)
                    · refine lv_aload_n hx hb dX12_lookAt_274 rfl (lv_at hl 3 rfl) ?_
                      refine lv_aload_n hx hb dX12_lookAt_275 rfl (lv_at hl 3 rfl) ?_
                      refine va_get (D := (dC, dI)) (ci := 12) (v := .int 1) (C := RX12) (T := TX12) (N := 24) hx hb hts iw_m_lookAt_X12 hown hK hP 0 rfl rfl 20 (by decide) (hts (.fieldLink RX12 270 "ThriceCountedModel" "token" "I") (by decide +kernel)) (fun _ h9 => h9) rfl dX12_lookAt_276 ?_
                      refine lv_iconst (v := 2) hx hb dX12_lookAt_279 (by decide) ?_
                      refine lv_icmp_ne (tgt := 295) hx hb dX12_lookAt_280 (by decide) (fun c_89 => ?_) (fun c_89 => ?_)
                      · refine lv_aload_n hx hb dX12_lookAt_295 rfl (lv_at hl 3 rfl) ?_
                        refine va_get (D := (dC, dI)) (ci := 12) (v := .int 1) (C := RX12) (T := TX12) (N := 24) hx hb hts iw_m_lookAt_X12 hown hK hP 0 rfl rfl 20 (by decide) (hts (.fieldLink RX12 270 "ThriceCountedModel" "token" "I") (by decide +kernel)) (fun _ h9 => h9) rfl dX12_lookAt_296 ?_
                        refine va_put (D := (dC, dI)) (ci := 12) (v := .int 1) (ty := .int) (C := RX12) (T := TX12) (N := 24) hx hb hts iw_m_lookAt_X12 tyX12 tyX12_ok nmX12 hown hK hP hD hS 0 rfl rfl 20 (by decide) (hts (.fieldLink RX12 270 "ThriceCountedModel" "token" "I") (by decide +kernel)) (fun _ h9 => h9) rfl (by decide +kernel) rfl rfl (Nat.le_of_ble_eq_true rfl) dX12_lookAt_299 (fun H locs hP hD hS => ?_)
                        have hP : va_P (dC, dI) vwCl [(mo, .inr (12, [.ref nw, .ref kp, .ref ik, .ref mr, .long la_, .long lb_, .ref mw, .long lc_, .int ti_, .int cb_, .long ld_, .long le_, .ref mq, .ref mz, .ref my, .int sm_, .ref mb, .int (nI jb), .int (nI z_1), .int (nI z_20), .int 1, .int 0, .ref mx, .ref mv])), (mb, .inl (cb2_, 150, .inl fy_))] H := hP
                        have hD : va_D A [(mo, .inr (12, [.ref nw, .ref kp, .ref ik, .ref mr, .long la_, .long lb_, .ref mw, .long lc_, .int ti_, .int cb_, .long ld_, .long le_, .ref mq, .ref mz, .ref my, .int sm_, .ref mb, .int (nI jb), .int (nI z_1), .int (nI z_20), .int 1, .int 0, .ref mx, .ref mv])), (mb, .inl (cb2_, 150, .inl fy_))] := hD
                        have hP9 := hP.sub (ws' := [(mo, .inr (12, [.ref nw, .ref kp, .ref ik, .ref mr, .long la_, .long lb_, .ref mw, .long lc_, .int ti_, .int cb_, .long ld_, .long le_, .ref mq, .ref mz, .ref my, .int sm_, .ref mb, .int (nI jb), .int (nI z_1), .int (nI z_20), .int 1, .int 0, .ref mx, .ref mv])), (mb, .inl (cb2_, 150, .inl fy_))]) [0, 1] rfl
                        have hD9 := hD.sub (ws' := [(mo, .inr (12, [.ref nw, .ref kp, .ref ik, .ref mr, .long la_, .long lb_, .ref mw, .long lc_, .int ti_, .int cb_, .long ld_, .long le_, .ref mq, .ref mz, .ref my, .int sm_, .ref mb, .int (nI jb), .int (nI z_1), .int (nI z_20), .int 1, .int 0, .ref mx, .ref mv])), (mb, .inl (cb2_, 150, .inl fy_))]) [0, 1] (by decide) rfl
                        have hK9 := hK.sub (tys' := [(cb2_, .int)]) [0] rfl
                        exact W.vret hx hb hr (fun t ht hW => ⟨⟨(), rfl, trivial, 1, 0, z_1, z_20, by omega, by omega, fun q => absurd q (by decide), by rw [ht]; exact hP9, va_K.moved hW.alike hK9, hD9⟩, hS.F ht⟩) hS.2.2 dX12_lookAt_302
                      · exact absurd c_89 (by decide)
                    · exact absurd c_88 (by decide)
              · have hn_90 : ¬ jb ≤ (z_1 + z_20) := fun q => c_68 ((nI_leI (a := jb) (b := (z_1 + z_20)) (by omega) (by omega)).mpr q)
                refine lv_aload_n hx hb dX12_lookAt_156 rfl (lv_at hl 2 rfl) ?_
                refine va_get (D := (dC, dI)) (ci := 12) (v := .ref mb) (C := RX12) (T := TX12) (N := 24) hx hb hts iw_m_lookAt_X12 hown hK hP 0 rfl rfl 16 (by decide) (hts (.fieldLink RX12 40 "ThriceCountedModel" "bytes" "[I") (by decide +kernel)) (fun _ h9 => h9) rfl dX12_lookAt_157 ?_
                refine lv_aload_n hx hb dX12_lookAt_160 rfl (lv_at hl 2 rfl) ?_
                refine va_get (D := (dC, dI)) (ci := 12) (v := .int (nI z_1)) (C := RX12) (T := TX12) (N := 24) hx hb hts iw_m_lookAt_X12 hown hK hP 0 rfl rfl 18 (by decide) (hts (.fieldLink RX12 264 "ThriceCountedModel" "tokenAt" "I") (by decide +kernel)) (fun _ h9 => h9) rfl dX12_lookAt_161 ?_
                refine lv_aload_n hx hb dX12_lookAt_164 rfl (lv_at hl 2 rfl) ?_
                refine va_get (D := (dC, dI)) (ci := 12) (v := .int (nI z_20)) (C := RX12) (T := TX12) (N := 24) hx hb hts iw_m_lookAt_X12 hown hK hP 0 rfl rfl 19 (by decide) (hts (.fieldLink RX12 267 "ThriceCountedModel" "tokenLong" "I") (by decide +kernel)) (fun _ h9 => h9) rfl dX12_lookAt_165 ?_
                refine lv_iadd hx hb dX12_lookAt_168 ?_
                refine tz_i (nI (z_1 + z_20)) (nI_add z_1 z_20) ?_
                refine va_iald hx hb hK hP 1 0 rfl rfl (vp_in_nI (n := (z_1 + z_20)) (N := 150) (by omega) (by decide)) dX12_lookAt_169 ?_
                refine lv_topi (fun x_91 _ => ?_)
                refine lv_istore (lv' := [(4, .int x_91), (3, .int v_32), (2, .int x_14), (0, .ref mo), (1, .int (nI jf))]) hx hb dX12_lookAt_170 hl (by decide) rfl (fun ls hl => ?_)
                refine lv_aload_n hx hb dX12_lookAt_172 rfl (lv_at hl 3 rfl) ?_
                refine va_get (D := (dC, dI)) (ci := 12) (v := .int 1) (C := RX12) (T := TX12) (N := 24) hx hb hts iw_m_lookAt_X12 hown hK hP 0 rfl rfl 20 (by decide) (hts (.fieldLink RX12 270 "ThriceCountedModel" "token" "I") (by decide +kernel)) (fun _ h9 => h9) rfl dX12_lookAt_173 ?_
                refine lv_iconst (v := 1) hx hb dX12_lookAt_176 (by decide) ?_
                refine lv_icmp_ne (tgt := 188) hx hb dX12_lookAt_177 (by decide) (fun c_92 => ?_) (fun c_92 => ?_)
                · exact absurd c_92 (by decide)
                · refine lv_iload hx hb dX12_lookAt_180 (lv_at hl 0 rfl) ?_
                  refine vp_callSi (va_Run.run (va_runS (As := [.int x_91]) (rest := []) ⟨hx, hb, hml, hown, hts⟩ (m_isSmall l dC dI x_91) (va_cwS 1 hts gX12_lookAt_X12_isSmall rfl rfl rfl (by decide +kernel) ⟨Nat.le_of_ble_eq_true rfl, Nat.le_of_ble_eq_true rfl⟩) ⟨fun a U g mk q => ⟨q.1, trivial⟩, fun U hU hW => ⟨rfl, trivial⟩⟩ rfl rfl hl.1 rfl (lv_room (Nat.le_of_ble_eq_true rfl)) dX12_lookAt_182 ⟨Nat.le_of_ble_eq_true rfl, Nat.le_of_ble_eq_true rfl⟩)) (fun r_93 hw_94 => ?_)
                  by_cases hc_95 : 97 ≤ x_91 ∧ x_91 ≤ 122
                  · obtain rfl : 1 = r_93 := (hw_94.trans (if_pos hc_95)).symm
                    refine lv_goto (tgt := 193) hx hb dX12_lookAt_185 (by decide) ?_
                    refine lv_istore_n (lv' := [(3, .int 1), (4, .int x_91), (2, .int x_14), (0, .ref mo), (1, .int (nI jf))]) hx hb dX12_lookAt_193 rfl hl (by decide) rfl (fun ls hl => ?_)
                    refine lv_aload_n hx hb dX12_lookAt_194 rfl (lv_at hl 3 rfl) ?_
                    refine lv_dup hx hb dX12_lookAt_195 rfl ?_
                    refine va_get (D := (dC, dI)) (ci := 12) (v := .int (nI z_20)) (C := RX12) (T := TX12) (N := 24) hx hb hts iw_m_lookAt_X12 hown hK hP 0 rfl rfl 19 (by decide) (hts (.fieldLink RX12 267 "ThriceCountedModel" "tokenLong" "I") (by decide +kernel)) (fun _ h9 => h9) rfl dX12_lookAt_196 ?_
                    refine lv_iload_n hx hb dX12_lookAt_199 rfl (lv_at hl 0 rfl) ?_
                    refine lv_if_eq (tgt := 207) hx hb dX12_lookAt_200 (by decide) (fun c_96 => ?_) (fun c_96 => ?_)
                    · exact absurd c_96 (by decide)
                    · refine lv_iconst (v := 1) hx hb dX12_lookAt_203 (by decide) ?_
                      refine lv_goto (tgt := 208) hx hb dX12_lookAt_204 (by decide) ?_
                      refine lv_iadd hx hb dX12_lookAt_208 ?_
                      refine tz_i (nI (z_20 + 1)) (nI_add z_20 1) ?_
                      refine va_put (D := (dC, dI)) (ci := 12) (v := .int (nI (z_20 + 1))) (ty := .int) (C := RX12) (T := TX12) (N := 24) hx hb hts iw_m_lookAt_X12 tyX12 tyX12_ok nmX12 hown hK hP hD hS 0 rfl rfl 19 (by decide) (hts (.fieldLink RX12 267 "ThriceCountedModel" "tokenLong" "I") (by decide +kernel)) (fun _ h9 => h9) rfl (by decide +kernel) rfl rfl (Nat.le_of_ble_eq_true rfl) dX12_lookAt_209 (fun H locs hP hD hS => ?_)
                      have hP : va_P (dC, dI) vwCl [(mo, .inr (12, [.ref nw, .ref kp, .ref ik, .ref mr, .long la_, .long lb_, .ref mw, .long lc_, .int ti_, .int cb_, .long ld_, .long le_, .ref mq, .ref mz, .ref my, .int sm_, .ref mb, .int (nI jb), .int (nI z_1), .int (nI (z_20 + 1)), .int 1, .int 0, .ref mx, .ref mv])), (mb, .inl (cb2_, 150, .inl fy_))] H := hP
                      have hD : va_D A [(mo, .inr (12, [.ref nw, .ref kp, .ref ik, .ref mr, .long la_, .long lb_, .ref mw, .long lc_, .int ti_, .int cb_, .long ld_, .long le_, .ref mq, .ref mz, .ref my, .int sm_, .ref mb, .int (nI jb), .int (nI z_1), .int (nI (z_20 + 1)), .int 1, .int 0, .ref mx, .ref mv])), (mb, .inl (cb2_, 150, .inl fy_))] := hD
                      refine lv_goto (tgt := 136) hx hb dX12_lookAt_212 (by decide) ?_
                      exact ih_46 ((z_20 + 1), 1, H, locs, ls) ⟨by dsimp only; omega, by dsimp only; omega, hP, hD, hS, lv_sub hl [0, 2, 3, 4] rfl⟩ (tz_fl1 (by dsimp only; omega) c_47)
                  · obtain rfl : 0 = r_93 := (hw_94.trans (if_neg hc_95)).symm
                    refine lv_goto (tgt := 193) hx hb dX12_lookAt_185 (by decide) ?_
                    refine lv_istore_n (lv' := [(3, .int 0), (4, .int x_91), (2, .int x_14), (0, .ref mo), (1, .int (nI jf))]) hx hb dX12_lookAt_193 rfl hl (by decide) rfl (fun ls hl => ?_)
                    refine lv_aload_n hx hb dX12_lookAt_194 rfl (lv_at hl 3 rfl) ?_
                    refine lv_dup hx hb dX12_lookAt_195 rfl ?_
                    refine va_get (D := (dC, dI)) (ci := 12) (v := .int (nI z_20)) (C := RX12) (T := TX12) (N := 24) hx hb hts iw_m_lookAt_X12 hown hK hP 0 rfl rfl 19 (by decide) (hts (.fieldLink RX12 267 "ThriceCountedModel" "tokenLong" "I") (by decide +kernel)) (fun _ h9 => h9) rfl dX12_lookAt_196 ?_
                    refine lv_iload_n hx hb dX12_lookAt_199 rfl (lv_at hl 0 rfl) ?_
                    refine lv_if_eq (tgt := 207) hx hb dX12_lookAt_200 (by decide) (fun c_97 => ?_) (fun c_97 => ?_)
                    · refine lv_iconst (v := 0) hx hb dX12_lookAt_207 (by decide) ?_
                      refine lv_iadd hx hb dX12_lookAt_208 ?_
                      refine tz_i (nI (z_20 + 0)) (nI_add z_20 0) ?_
                      refine va_put (D := (dC, dI)) (ci := 12) (v := .int (nI (z_20 + 0))) (ty := .int) (C := RX12) (T := TX12) (N := 24) hx hb hts iw_m_lookAt_X12 tyX12 tyX12_ok nmX12 hown hK hP hD hS 0 rfl rfl 19 (by decide) (hts (.fieldLink RX12 267 "ThriceCountedModel" "tokenLong" "I") (by decide +kernel)) (fun _ h9 => h9) rfl (by decide +kernel) rfl rfl (Nat.le_of_ble_eq_true rfl) dX12_lookAt_209 (fun H locs hP hD hS => ?_)
                      have hP : va_P (dC, dI) vwCl [(mo, .inr (12, [.ref nw, .ref kp, .ref ik, .ref mr, .long la_, .long lb_, .ref mw, .long lc_, .int ti_, .int cb_, .long ld_, .long le_, .ref mq, .ref mz, .ref my, .int sm_, .ref mb, .int (nI jb), .int (nI z_1), .int (nI (z_20 + 0)), .int 1, .int 0, .ref mx, .ref mv])), (mb, .inl (cb2_, 150, .inl fy_))] H := hP
                      have hD : va_D A [(mo, .inr (12, [.ref nw, .ref kp, .ref ik, .ref mr, .long la_, .long lb_, .ref mw, .long lc_, .int ti_, .int cb_, .long ld_, .long le_, .ref mq, .ref mz, .ref my, .int sm_, .ref mb, .int (nI jb), .int (nI z_1), .int (nI (z_20 + 0)), .int 1, .int 0, .ref mx, .ref mv])), (mb, .inl (cb2_, 150, .inl fy_))] := hD
                      refine lv_goto (tgt := 136) hx hb dX12_lookAt_212 (by decide) ?_
                      exact ih_46 ((z_20 + 0), 0, H, locs, ls) ⟨by dsimp only; omega, by dsimp only; omega, hP, hD, hS, lv_sub hl [0, 2, 3, 4] rfl⟩ (tz_fl0 c_47)
                    · exact absurd c_97 (by decide)
      · obtain rfl : 0 = r_15 := (hw_16.trans (if_neg hc_17)).symm
        refine lv_if_eq (tgt := 92) hx hb dX12_lookAt_85 (by decide) (fun c_98 => ?_) (fun c_98 => ?_)
        · refine lv_iload_n hx hb dX12_lookAt_92 rfl (lv_at hl 0 rfl) ?_
          refine vp_callSi (va_Run.run (va_runS (As := [.int x_14]) (rest := [.ref mo]) ⟨hx, hb, hml, hown, hts⟩ (m_isFigure l dC dI x_14) (va_cwS 1 hts gX12_lookAt_X12_isFigure rfl rfl rfl (by decide +kernel) ⟨Nat.le_of_ble_eq_true rfl, Nat.le_of_ble_eq_true rfl⟩) ⟨fun a U g mk q => ⟨q.1, trivial⟩, fun U hU hW => ⟨rfl, trivial⟩⟩ rfl rfl hl.1 rfl (lv_room (Nat.le_of_ble_eq_true rfl)) dX12_lookAt_93 ⟨Nat.le_of_ble_eq_true rfl, Nat.le_of_ble_eq_true rfl⟩)) (fun r_99 hw_100 => ?_)
          by_cases hc_101 : 48 ≤ x_14 ∧ x_14 ≤ 57
          · obtain rfl : 1 = r_99 := (hw_100.trans (if_pos hc_101)).symm
            refine lv_if_eq (tgt := 103) hx hb dX12_lookAt_96 (by decide) (fun c_102 => ?_) (fun c_102 => ?_)
            · exact absurd c_102 (by decide)
            · refine lv_iconst (v := 2) hx hb dX12_lookAt_99 (by decide) ?_
              refine lv_goto (tgt := 114) hx hb dX12_lookAt_100 (by decide) ?_
              refine va_put (D := (dC, dI)) (ci := 12) (v := .int 2) (ty := .int) (C := RX12) (T := TX12) (N := 24) hx hb hts iw_m_lookAt_X12 tyX12 tyX12_ok nmX12 hown hK hP hD hS 0 rfl rfl 20 (by decide) (hts (.fieldLink RX12 270 "ThriceCountedModel" "token" "I") (by decide +kernel)) (fun _ h9 => h9) rfl (by decide +kernel) rfl rfl (Nat.le_of_ble_eq_true rfl) dX12_lookAt_114 (fun H locs hP hD hS => ?_)
              have hP : va_P (dC, dI) vwCl [(mo, .inr (12, [.ref nw, .ref kp, .ref ik, .ref mr, .long la_, .long lb_, .ref mw, .long lc_, .int ti_, .int cb_, .long ld_, .long le_, .ref mq, .ref mz, .ref my, .int sm_, .ref mb, .int (nI jb), .int (nI z_1), .int 0, .int 2, .int 0, .ref mx, .ref mv])), (mb, .inl (cb2_, 150, .inl fy_))] H := hP
              have hD : va_D A [(mo, .inr (12, [.ref nw, .ref kp, .ref ik, .ref mr, .long la_, .long lb_, .ref mw, .long lc_, .int ti_, .int cb_, .long ld_, .long le_, .ref mq, .ref mz, .ref my, .int sm_, .ref mb, .int (nI jb), .int (nI z_1), .int 0, .int 2, .int 0, .ref mx, .ref mv])), (mb, .inl (cb2_, 150, .inl fy_))] := hD
              refine lv_aload_n hx hb dX12_lookAt_117 rfl (lv_at hl 1 rfl) ?_
              refine lv_iconst (v := 1) hx hb dX12_lookAt_118 (by decide) ?_
              refine va_put (D := (dC, dI)) (ci := 12) (v := .int 1) (ty := .int) (C := RX12) (T := TX12) (N := 24) hx hb hts iw_m_lookAt_X12 tyX12 tyX12_ok nmX12 hown hK hP hD hS 0 rfl rfl 19 (by decide) (hts (.fieldLink RX12 267 "ThriceCountedModel" "tokenLong" "I") (by decide +kernel)) (fun _ h9 => h9) rfl (by decide +kernel) rfl rfl (Nat.le_of_ble_eq_true rfl) dX12_lookAt_119 (fun H locs hP hD hS => ?_)
              have hP : va_P (dC, dI) vwCl [(mo, .inr (12, [.ref nw, .ref kp, .ref ik, .ref mr, .long la_, .long lb_, .ref mw, .long lc_, .int ti_, .int cb_, .long ld_, .long le_, .ref mq, .ref mz, .ref my, .int sm_, .ref mb, .int (nI jb), .int (nI z_1), .int 1, .int 2, .int 0, .ref mx, .ref mv])), (mb, .inl (cb2_, 150, .inl fy_))] H := hP
              have hD : va_D A [(mo, .inr (12, [.ref nw, .ref kp, .ref ik, .ref mr, .long la_, .long lb_, .ref mw, .long lc_, .int ti_, .int cb_, .long ld_, .long le_, .ref mq, .ref mz, .ref my, .int sm_, .ref mb, .int (nI jb), .int (nI z_1), .int 1, .int 2, .int 0, .ref mx, .ref mv])), (mb, .inl (cb2_, 150, .inl fy_))] := hD
              refine lv_aload_n hx hb dX12_lookAt_122 rfl (lv_at hl 1 rfl) ?_
              refine va_get (D := (dC, dI)) (ci := 12) (v := .int 2) (C := RX12) (T := TX12) (N := 24) hx hb hts iw_m_lookAt_X12 hown hK hP 0 rfl rfl 20 (by decide) (hts (.fieldLink RX12 270 "ThriceCountedModel" "token" "I") (by decide +kernel)) (fun _ h9 => h9) rfl dX12_lookAt_123 ?_
              refine lv_iconst (v := 3) hx hb dX12_lookAt_126 (by decide) ?_
              refine lv_icmp_ge (tgt := 134) hx hb dX12_lookAt_127 (by decide) (fun c_103 => ?_) (fun c_103 => ?_)
              · exact absurd c_103 (by decide)
              · refine lv_iconst (v := 1) hx hb dX12_lookAt_130 (by decide) ?_
                refine lv_goto (tgt := 135) hx hb dX12_lookAt_131 (by decide) ?_
                refine lv_istore_n (lv' := [(3, .int 1), (2, .int x_14), (0, .ref mo), (1, .int (nI jf))]) hx hb dX12_lookAt_135 rfl hl (by decide) rfl (fun ls hl => ?_)
                refine tz_while (σ := Nat × Int32 × Heap × List Loc × Array Slot) (fun x => W p l e _ s m _ below meth c x.2.2.1 x.2.2.2.1 _ _ _ (F0 m 136 x.2.2.2.2 [])) (fun x => 1 ≤ x.1 ∧ z_1 + x.1 ≤ jb ∧ va_P (dC, dI) vwCl [(mo, .inr (12, [.ref nw, .ref kp, .ref ik, .ref mr, .long la_, .long lb_, .ref mw, .long lc_, .int ti_, .int cb_, .long ld_, .long le_, .ref mq, .ref mz, .ref my, .int sm_, .ref mb, .int (nI jb), .int (nI z_1), .int (nI x.1), .int 2, .int 0, .ref mx, .ref mv])), (mb, .inl (cb2_, 150, .inl fy_))] x.2.2.1 ∧ va_D A [(mo, .inr (12, [.ref nw, .ref kp, .ref ik, .ref mr, .long la_, .long lb_, .ref mw, .long lc_, .int ti_, .int cb_, .long ld_, .long le_, .ref mq, .ref mz, .ref my, .int sm_, .ref mb, .int (nI jb), .int (nI z_1), .int (nI x.1), .int 2, .int 0, .ref mx, .ref mv])), (mb, .inl (cb2_, 150, .inl fy_))] ∧ va_S A s.heap x.2.2.1 x.2.2.2.1 ∧ lv_has x.2.2.2.2 5 [(3, .int x.2.1), (2, .int x_14), (0, .ref mo), (1, .int (nI jf))]) (fun x => 2 * (jb - x.1) + tz_fl x.2.1) ?_ (1, 1, H, locs, ls) ⟨by (try dsimp only); omega, by (try dsimp only); omega, hP, hD, hS, hl⟩
                rintro ⟨z_104, v_116, H, locs, ls⟩ ⟨hi_128_0, hi_129_1, hP, hD, hS, hl⟩ ih_130
                dsimp only at hi_128_0 hi_129_1 hP hD hS hl ih_130 ⊢
                refine lv_iload_n hx hb dX12_lookAt_136 rfl (lv_at hl 0 rfl) ?_
                refine lv_if_eq (tgt := 215) hx hb dX12_lookAt_137 (by decide) (fun c_131 => ?_) (fun c_131 => ?_)
                · refine lv_iconst (v := 0) hx hb dX12_lookAt_215 (by decide) ?_
                  refine lv_istore (lv' := [(4, .int 0), (3, .int v_116), (2, .int x_14), (0, .ref mo), (1, .int (nI jf))]) hx hb dX12_lookAt_216 hl (by decide) rfl (fun ls hl => ?_)
                  refine tz_while (σ := Nat × Int32 × Heap × List Loc × Array Slot) (fun x => W p l e _ s m _ below meth c x.2.2.1 x.2.2.2.1 _ _ _ (F0 m 218 x.2.2.2.2 [])) (fun x => x.1 ≤ z_104 ∧ va_P (dC, dI) vwCl [(mo, .inr (12, [.ref nw, .ref kp, .ref ik, .ref mr, .long la_, .long lb_, .ref mw, .long lc_, .int ti_, .int cb_, .long ld_, .long le_, .ref mq, .ref mz, .ref my, .int sm_, .ref mb, .int (nI jb), .int (nI z_1), .int (nI z_104), .int 2, .int x.2.1, .ref mx, .ref mv])), (mb, .inl (cb2_, 150, .inl fy_))] x.2.2.1 ∧ va_D A [(mo, .inr (12, [.ref nw, .ref kp, .ref ik, .ref mr, .long la_, .long lb_, .ref mw, .long lc_, .int ti_, .int cb_, .long ld_, .long le_, .ref mq, .ref mz, .ref my, .int sm_, .ref mb, .int (nI jb), .int (nI z_1), .int (nI z_104), .int 2, .int x.2.1, .ref mx, .ref mv])), (mb, .inl (cb2_, 150, .inl fy_))] ∧ va_S A s.heap x.2.2.1 x.2.2.2.1 ∧ lv_has x.2.2.2.2 5 [(4, .int (nI x.1)), (3, .int v_116), (2, .int x_14), (0, .ref mo), (1, .int (nI jf))]) (fun x => z_104 - x.1) ?_ (0, 0, H, locs, ls) ⟨by (try dsimp only); omega, hP, hD, hS, hl⟩
                  rintro ⟨k_132, v_143, H, locs, ls⟩ ⟨hi_155_0, hP, hD, hS, hl⟩ ih_156
                  dsimp only at hi_155_0 hP hD hS hl ih_156 ⊢
                  refine lv_iload hx hb dX12_lookAt_218 (lv_at hl 0 rfl) ?_
                  refine lv_aload_n hx hb dX12_lookAt_220 rfl (lv_at hl 3 rfl) ?_
                  refine va_get (D := (dC, dI)) (ci := 12) (v := .int (nI z_104)) (C := RX12) (T := TX12) (N := 24) hx hb hts iw_m_lookAt_X12 hown hK hP 0 rfl rfl 19 (by decide) (hts (.fieldLink RX12 267 "ThriceCountedModel" "tokenLong" "I") (by decide +kernel)) (fun _ h9 => h9) rfl dX12_lookAt_221 ?_
                  refine lv_icmp_ge (tgt := 274) hx hb dX12_lookAt_224 (by decide) (fun c_157 => ?_) (fun c_157 => ?_)
                  · have hn_158 : z_104 ≤ k_132 := (nI_leI (a := z_104) (b := k_132) (by omega) (by omega)).mp c_157
                    refine lv_aload_n hx hb dX12_lookAt_274 rfl (lv_at hl 3 rfl) ?_
                    refine lv_aload_n hx hb dX12_lookAt_275 rfl (lv_at hl 3 rfl) ?_
                    refine va_get (D := (dC, dI)) (ci := 12) (v := .int 2) (C := RX12) (T := TX12) (N := 24) hx hb hts iw_m_lookAt_X12 hown hK hP 0 rfl rfl 20 (by decide) (hts (.fieldLink RX12 270 "ThriceCountedModel" "token" "I") (by decide +kernel)) (fun _ h9 => h9) rfl dX12_lookAt_276 ?_
                    refine lv_iconst (v := 2) hx hb dX12_lookAt_279 (by decide) ?_
                    refine lv_icmp_ne (tgt := 295) hx hb dX12_lookAt_280 (by decide) (fun c_159 => ?_) (fun c_159 => ?_)
                    · exact absurd c_159 (by decide)
                    · refine lv_aload_n hx hb dX12_lookAt_283 rfl (lv_at hl 3 rfl) ?_
                      refine va_get (D := (dC, dI)) (ci := 12) (v := .int (nI z_104)) (C := RX12) (T := TX12) (N := 24) hx hb hts iw_m_lookAt_X12 hown hK hP 0 rfl rfl 19 (by decide) (hts (.fieldLink RX12 267 "ThriceCountedModel" "tokenLong" "I") (by decide +kernel)) (fun _ h9 => h9) rfl dX12_lookAt_284 ?_
                      refine lv_iconst (v := 3) hx hb dX12_lookAt_287 (by decide) ?_
                      refine lv_icmp_le (tgt := 295) hx hb dX12_lookAt_288 (by decide) (fun c_160 => ?_) (fun c_160 => ?_)
                      · have hn_161 : z_104 ≤ 3 := (nI_leI (a := z_104) (b := 3) (by omega) (by omega)).mp c_160
                        refine lv_aload_n hx hb dX12_lookAt_295 rfl (lv_at hl 3 rfl) ?_
                        refine va_get (D := (dC, dI)) (ci := 12) (v := .int 2) (C := RX12) (T := TX12) (N := 24) hx hb hts iw_m_lookAt_X12 hown hK hP 0 rfl rfl 20 (by decide) (hts (.fieldLink RX12 270 "ThriceCountedModel" "token" "I") (by decide +kernel)) (fun _ h9 => h9) rfl dX12_lookAt_296 ?_
                        refine va_put (D := (dC, dI)) (ci := 12) (v := .int 2) (ty := .int) (C := RX12) (T := TX12) (N := 24) hx hb hts iw_m_lookAt_X12 tyX12 tyX12_ok nmX12 hown hK hP hD hS 0 rfl rfl 20 (by decide) (hts (.fieldLink RX12 270 "ThriceCountedModel" "token" "I") (by decide +kernel)) (fun _ h9 => h9) rfl (by decide +kernel) rfl rfl (Nat.le_of_ble_eq_true rfl) dX12_lookAt_299 (fun H locs hP hD hS => ?_)
                        have hP : va_P (dC, dI) vwCl [(mo, .inr (12, [.ref nw, .ref kp, .ref ik, .ref mr, .long la_, .long lb_, .ref mw, .long lc_, .int ti_, .int cb_, .long ld_, .long le_, .ref mq, .ref mz, .ref my, .int sm_, .ref mb, .int (nI jb), .int (nI z_1), .int (nI z_104), .int 2, .int v_143, .ref mx, .ref mv])), (mb, .inl (cb2_, 150, .inl fy_))] H := hP
                        have hD : va_D A [(mo, .inr (12, [.ref nw, .ref kp, .ref ik, .ref mr, .long la_, .long lb_, .ref mw, .long lc_, .int ti_, .int cb_, .long ld_, .long le_, .ref mq, .ref mz, .ref my, .int sm_, .ref mb, .int (nI jb), .int (nI z_1), .int (nI z_104), .int 2, .int v_143, .ref mx, .ref mv])), (mb, .inl (cb2_, 150, .inl fy_))] := hD
                        have hP9 := hP.sub (ws' := [(mo, .inr (12, [.ref nw, .ref kp, .ref ik, .ref mr, .long la_, .long lb_, .ref mw, .long lc_, .int ti_, .int cb_, .long ld_, .long le_, .ref mq, .ref mz, .ref my, .int sm_, .ref mb, .int (nI jb), .int (nI z_1), .int (nI z_104), .int 2, .int v_143, .ref mx, .ref mv])), (mb, .inl (cb2_, 150, .inl fy_))]) [0, 1] rfl
                        have hD9 := hD.sub (ws' := [(mo, .inr (12, [.ref nw, .ref kp, .ref ik, .ref mr, .long la_, .long lb_, .ref mw, .long lc_, .int ti_, .int cb_, .long ld_, .long le_, .ref mq, .ref mz, .ref my, .int sm_, .ref mb, .int (nI jb), .int (nI z_1), .int (nI z_104), .int 2, .int v_143, .ref mx, .ref mv])), (mb, .inl (cb2_, 150, .inl fy_))]) [0, 1] (by decide) rfl
                        have hK9 := hK.sub (tys' := [(cb2_, .int)]) [0] rfl
                        exact W.vret hx hb hr (fun t ht hW => ⟨⟨(), rfl, trivial, 2, v_143, z_1, z_104, by omega, by omega, fun q => absurd q (by decide), by rw [ht]; exact hP9, va_K.moved hW.alike hK9, hD9⟩, hS.F ht⟩) hS.2.2 dX12_lookAt_302
                      · have hn_162 : ¬ z_104 ≤ 3 := fun q => c_160 ((nI_leI (a := z_104) (b := 3) (by omega) (by omega)).mpr q)
                        refine lv_iconst (v := 4) hx hb dX12_lookAt_291 (by decide) ?_
                        refine lv_goto (tgt := 299) hx hb dX12_lookAt_292 (by decide) ?_
                        refine va_put (D := (dC, dI)) (ci := 12) (v := .int 4) (ty := .int) (C := RX12) (T := TX12) (N := 24) hx hb hts iw_m_lookAt_X12 tyX12 tyX12_ok nmX12 hown hK hP hD hS 0 rfl rfl 20 (by decide) (hts (.fieldLink RX12 270 "ThriceCountedModel" "token" "I") (by decide +kernel)) (fun _ h9 => h9) rfl (by decide +kernel) rfl rfl (Nat.le_of_ble_eq_true rfl) dX12_lookAt_299 (fun H locs hP hD hS => ?_)
                        have hP : va_P (dC, dI) vwCl [(mo, .inr (12, [.ref nw, .ref kp, .ref ik, .ref mr, .long la_, .long lb_, .ref mw, .long lc_, .int ti_, .int cb_, .long ld_, .long le_, .ref mq, .ref mz, .ref my, .int sm_, .ref mb, .int (nI jb), .int (nI z_1), .int (nI z_104), .int 4, .int v_143, .ref mx, .ref mv])), (mb, .inl (cb2_, 150, .inl fy_))] H := hP
                        have hD : va_D A [(mo, .inr (12, [.ref nw, .ref kp, .ref ik, .ref mr, .long la_, .long lb_, .ref mw, .long lc_, .int ti_, .int cb_, .long ld_, .long le_, .ref mq, .ref mz, .ref my, .int sm_, .ref mb, .int (nI jb), .int (nI z_1), .int (nI z_104), .int 4, .int v_143, .ref mx, .ref mv])), (mb, .inl (cb2_, 150, .inl fy_))] := hD
                        have hP9 := hP.sub (ws' := [(mo, .inr (12, [.ref nw, .ref kp, .ref ik, .ref mr, .long la_, .long lb_, .ref mw, .long lc_, .int ti_, .int cb_, .long ld_, .long le_, .ref mq, .ref mz, .ref my, .int sm_, .ref mb, .int (nI jb), .int (nI z_1), .int (nI z_104), .int 4, .int v_143, .ref mx, .ref mv])), (mb, .inl (cb2_, 150, .inl fy_))]) [0, 1] rfl
                        have hD9 := hD.sub (ws' := [(mo, .inr (12, [.ref nw, .ref kp, .ref ik, .ref mr, .long la_, .long lb_, .ref mw, .long lc_, .int ti_, .int cb_, .long ld_, .long le_, .ref mq, .ref mz, .ref my, .int sm_, .ref mb, .int (nI jb), .int (nI z_1), .int (nI z_104), .int 4, .int v_143, .ref mx, .ref mv])), (mb, .inl (cb2_, 150, .inl fy_))]) [0, 1] (by decide) rfl
                        have hK9 := hK.sub (tys' := [(cb2_, .int)]) [0] rfl
                        exact W.vret hx hb hr (fun t ht hW => ⟨⟨(), rfl, trivial, 4, v_143, z_1, z_104, by omega, by omega, fun q => absurd q (by decide), by rw [ht]; exact hP9, va_K.moved hW.alike hK9, hD9⟩, hS.F ht⟩) hS.2.2 dX12_lookAt_302
                  · have hn_163 : ¬ z_104 ≤ k_132 := fun q => c_157 ((nI_leI (a := z_104) (b := k_132) (by omega) (by omega)).mpr q)
                    refine lv_iload hx hb dX12_lookAt_227 (lv_at hl 0 rfl) ?_
                    refine lv_iconst (v := 3) hx hb dX12_lookAt_229 (by decide) ?_
                    refine lv_icmp_ge (tgt := 274) hx hb dX12_lookAt_230 (by decide) (fun c_164 => ?_) (fun c_164 => ?_)
                    · have hn_165 : 3 ≤ k_132 := (nI_leI (a := 3) (b := k_132) (by omega) (by omega)).mp c_164
                      refine lv_aload_n hx hb dX12_lookAt_274 rfl (lv_at hl 3 rfl) ?_
                      refine lv_aload_n hx hb dX12_lookAt_275 rfl (lv_at hl 3 rfl) ?_
                      refine va_get (D := (dC, dI)) (ci := 12) (v := .int 2) (C := RX12) (T := TX12) (N := 24) hx hb hts iw_m_lookAt_X12 hown hK hP 0 rfl rfl 20 (by decide) (hts (.fieldLink RX12 270 "ThriceCountedModel" "token" "I") (by decide +kernel)) (fun _ h9 => h9) rfl dX12_lookAt_276 ?_
                      refine lv_iconst (v := 2) hx hb dX12_lookAt_279 (by decide) ?_
                      refine lv_icmp_ne (tgt := 295) hx hb dX12_lookAt_280 (by decide) (fun c_166 => ?_) (fun c_166 => ?_)
                      · exact absurd c_166 (by decide)
                      · refine lv_aload_n hx hb dX12_lookAt_283 rfl (lv_at hl 3 rfl) ?_
                        refine va_get (D := (dC, dI)) (ci := 12) (v := .int (nI z_104)) (C := RX12) (T := TX12) (N := 24) hx hb hts iw_m_lookAt_X12 hown hK hP 0 rfl rfl 19 (by decide) (hts (.fieldLink RX12 267 "ThriceCountedModel" "tokenLong" "I") (by decide +kernel)) (fun _ h9 => h9) rfl dX12_lookAt_284 ?_
                        refine lv_iconst (v := 3) hx hb dX12_lookAt_287 (by decide) ?_
                        refine lv_icmp_le (tgt := 295) hx hb dX12_lookAt_288 (by decide) (fun c_167 => ?_) (fun c_167 => ?_)
                        · have hn_168 : z_104 ≤ 3 := (nI_leI (a := z_104) (b := 3) (by omega) (by omega)).mp c_167
                          refine lv_aload_n hx hb dX12_lookAt_295 rfl (lv_at hl 3 rfl) ?_
                          refine va_get (D := (dC, dI)) (ci := 12) (v := .int 2) (C := RX12) (T := TX12) (N := 24) hx hb hts iw_m_lookAt_X12 hown hK hP 0 rfl rfl 20 (by decide) (hts (.fieldLink RX12 270 "ThriceCountedModel" "token" "I") (by decide +kernel)) (fun _ h9 => h9) rfl dX12_lookAt_296 ?_
                          refine va_put (D := (dC, dI)) (ci := 12) (v := .int 2) (ty := .int) (C := RX12) (T := TX12) (N := 24) hx hb hts iw_m_lookAt_X12 tyX12 tyX12_ok nmX12 hown hK hP hD hS 0 rfl rfl 20 (by decide) (hts (.fieldLink RX12 270 "ThriceCountedModel" "token" "I") (by decide +kernel)) (fun _ h9 => h9) rfl (by decide +kernel) rfl rfl (Nat.le_of_ble_eq_true rfl) dX12_lookAt_299 (fun H locs hP hD hS => ?_)
                          have hP : va_P (dC, dI) vwCl [(mo, .inr (12, [.ref nw, .ref kp, .ref ik, .ref mr, .long la_, .long lb_, .ref mw, .long lc_, .int ti_, .int cb_, .long ld_, .long le_, .ref mq, .ref mz, .ref my, .int sm_, .ref mb, .int (nI jb), .int (nI z_1), .int (nI z_104), .int 2, .int v_143, .ref mx, .ref mv])), (mb, .inl (cb2_, 150, .inl fy_))] H := hP
                          have hD : va_D A [(mo, .inr (12, [.ref nw, .ref kp, .ref ik, .ref mr, .long la_, .long lb_, .ref mw, .long lc_, .int ti_, .int cb_, .long ld_, .long le_, .ref mq, .ref mz, .ref my, .int sm_, .ref mb, .int (nI jb), .int (nI z_1), .int (nI z_104), .int 2, .int v_143, .ref mx, .ref mv])), (mb, .inl (cb2_, 150, .inl fy_))] := hD
                          have hP9 := hP.sub (ws' := [(mo, .inr (12, [.ref nw, .ref kp, .ref ik, .ref mr, .long la_, .long lb_, .ref mw, .long lc_, .int ti_, .int cb_, .long ld_, .long le_, .ref mq, .ref mz, .ref my, .int sm_, .ref mb, .int (nI jb), .int (nI z_1), .int (nI z_104), .int 2, .int v_143, .ref mx, .ref mv])), (mb, .inl (cb2_, 150, .inl fy_))]) [0, 1] rfl
                          have hD9 := hD.sub (ws' := [(mo, .inr (12, [.ref nw, .ref kp, .ref ik, .ref mr, .long la_, .long lb_, .ref mw, .long lc_, .int ti_, .int cb_, .long ld_, .long le_, .ref mq, .ref mz, .ref my, .int sm_, .ref mb, .int (nI jb), .int (nI z_1), .int (nI z_104), .int 2, .int v_143, .ref mx, .ref mv])), (mb, .inl (cb2_, 150, .inl fy_))]) [0, 1] (by decide) rfl
                          have hK9 := hK.sub (tys' := [(cb2_, .int)]) [0] rfl
                          exact W.vret hx hb hr (fun t ht hW => ⟨⟨(), rfl, trivial, 2, v_143, z_1, z_104, by omega, by omega, fun q => absurd q (by decide), by rw [ht]; exact hP9, va_K.moved hW.alike hK9, hD9⟩, hS.F ht⟩) hS.2.2 dX12_lookAt_302
                        · have hn_169 : ¬ z_104 ≤ 3 := fun q => c_167 ((nI_leI (a := z_104) (b := 3) (by omega) (by omega)).mpr q)
                          refine lv_iconst (v := 4) hx hb dX12_lookAt_291 (by decide) ?_
                          refine lv_goto (tgt := 299) hx hb dX12_lookAt_292 (by decide) ?_
                          refine va_put (D := (dC, dI)) (ci := 12) (v := .int 4) (ty := .int) (C := RX12) (T := TX12) (N := 24) hx hb hts iw_m_lookAt_X12 tyX12 tyX12_ok nmX12 hown hK hP hD hS 0 rfl rfl 20 (by decide) (hts (.fieldLink RX12 270 "ThriceCountedModel" "token" "I") (by decide +kernel)) (fun _ h9 => h9) rfl (by decide +kernel) rfl rfl (Nat.le_of_ble_eq_true rfl) dX12_lookAt_299 (fun H locs hP hD hS => ?_)
                          have hP : va_P (dC, dI) vwCl [(mo, .inr (12, [.ref nw, .ref kp, .ref ik, .ref mr, .long la_, .long lb_, .ref mw, .long lc_, .int ti_, .int cb_, .long ld_, .long le_, .ref mq, .ref mz, .ref my, .int sm_, .ref mb, .int (nI jb), .int (nI z_1), .int (nI z_104), .int 4, .int v_143, .ref mx, .ref mv])), (mb, .inl (cb2_, 150, .inl fy_))] H := hP
                          have hD : va_D A [(mo, .inr (12, [.ref nw, .ref kp, .ref ik, .ref mr, .long la_, .long lb_, .ref mw, .long lc_, .int ti_, .int cb_, .long ld_, .long le_, .ref mq, .ref mz, .ref my, .int sm_, .ref mb, .int (nI jb), .int (nI z_1), .int (nI z_104), .int 4, .int v_143, .ref mx, .ref mv])), (mb, .inl (cb2_, 150, .inl fy_))] := hD
                          have hP9 := hP.sub (ws' := [(mo, .inr (12, [.ref nw, .ref kp, .ref ik, .ref mr, .long la_, .long lb_, .ref mw, .long lc_, .int ti_, .int cb_, .long ld_, .long le_, .ref mq, .ref mz, .ref my, .int sm_, .ref mb, .int (nI jb), .int (nI z_1), .int (nI z_104), .int 4, .int v_143, .ref mx, .ref mv])), (mb, .inl (cb2_, 150, .inl fy_))]) [0, 1] rfl
                          have hD9 := hD.sub (ws' := [(mo, .inr (12, [.ref nw, .ref kp, .ref ik, .ref mr, .long la_, .long lb_, .ref mw, .long lc_, .int ti_, .int cb_, .long ld_, .long le_, .ref mq, .ref mz, .ref my, .int sm_, .ref mb, .int (nI jb), .int (nI z_1), .int (nI z_104), .int 4, .int v_143, .ref mx, .ref mv])), (mb, .inl (cb2_, 150, .inl fy_))]) [0, 1] (by decide) rfl
                          have hK9 := hK.sub (tys' := [(cb2_, .int)]) [0] rfl
                          exact W.vret hx hb hr (fun t ht hW => ⟨⟨(), rfl, trivial, 4, v_143, z_1, z_104, by omega, by omega, fun q => absurd q (by decide), by rw [ht]; exact hP9, va_K.moved hW.alike hK9, hD9⟩, hS.F ht⟩) hS.2.2 dX12_lookAt_302
                    · have hn_170 : ¬ 3 ≤ k_132 := fun q => c_164 ((nI_leI (a := 3) (b := k_132) (by omega) (by omega)).mpr q)
                      refine lv_aload_n hx hb dX12_lookAt_233 rfl (lv_at hl 3 rfl) ?_
                      refine va_get (D := (dC, dI)) (ci := 12) (v := .int 2) (C := RX12) (T := TX12) (N := 24) hx hb hts iw_m_lookAt_X12 hown hK hP 0 rfl rfl 20 (by decide) (hts (.fieldLink RX12 270 "ThriceCountedModel" "token" "I") (by decide +kernel)) (fun _ h9 => h9) rfl dX12_lookAt_234 ?_
                      refine lv_iconst (v := 2) hx hb dX12_lookAt_237 (by decide) ?_
                      refine lv_icmp_ne (tgt := 274) hx hb dX12_lookAt_238 (by decide) (fun c_171 => ?_) (fun c_171 => ?_)
                      · exact absurd c_171 (by decide)
                      · refine lv_aload_n hx hb dX12_lookAt_241 rfl (lv_at hl 3 rfl) ?_
                        refine lv_bipush (v := 10) hx hb dX12_lookAt_242 (by decide) ?_
                        refine lv_aload_n hx hb dX12_lookAt_244 rfl (lv_at hl 3 rfl) ?_
                        refine va_get (D := (dC, dI)) (ci := 12) (v := .int v_143) (C := RX12) (T := TX12) (N := 24) hx hb hts iw_m_lookAt_X12 hown hK hP 0 rfl rfl 21 (by decide) (hts (.fieldLink RX12 273 "ThriceCountedModel" "value" "I") (by decide +kernel)) (fun _ h9 => h9) rfl dX12_lookAt_245 ?_
                        refine lv_imul hx hb dX12_lookAt_248 ?_
                        refine lv_topi (fun x_172 _ => ?_)
                        refine lv_aload_n hx hb dX12_lookAt_249 rfl (lv_at hl 3 rfl) ?_
                        refine va_get (D := (dC, dI)) (ci := 12) (v := .ref mb) (C := RX12) (T := TX12) (N := 24) hx hb hts iw_m_lookAt_X12 hown hK hP 0 rfl rfl 16 (by decide) (hts (.fieldLink RX12 40 "ThriceCountedModel" "bytes" "[I") (by decide +kernel)) (fun _ h9 => h9) rfl dX12_lookAt_250 ?_
                        refine lv_aload_n hx hb dX12_lookAt_253 rfl (lv_at hl 3 rfl) ?_
                        refine va_get (D := (dC, dI)) (ci := 12) (v := .int (nI z_1)) (C := RX12) (T := TX12) (N := 24) hx hb hts iw_m_lookAt_X12 hown hK hP 0 rfl rfl 18 (by decide) (hts (.fieldLink RX12 264 "ThriceCountedModel" "tokenAt" "I") (by decide +kernel)) (fun _ h9 => h9) rfl dX12_lookAt_254 ?_
                        refine lv_iload hx hb dX12_lookAt_257 (lv_at hl 0 rfl) ?_
                        refine lv_iadd hx hb dX12_lookAt_259 ?_
                        refine tz_i (nI (z_1 + k_132)) (nI_add z_1 k_132) ?_
                        refine va_iald hx hb hK hP 1 0 rfl rfl (vp_in_nI (n := (z_1 + k_132)) (N := 150) (by omega) (by decide)) dX12_lookAt_260 ?_
                        refine lv_topi (fun x_173 _ => ?_)
                        refine lv_iadd hx hb dX12_lookAt_261 ?_
                        refine lv_topi (fun x_174 _ => ?_)
                        refine lv_bipush (v := 48) hx hb dX12_lookAt_262 (by decide) ?_
                        refine lv_isub hx hb dX12_lookAt_264 ?_
                        refine lv_topi (fun x_175 _ => ?_)
                        refine va_put (D := (dC, dI)) (ci := 12) (v := .int x_175) (ty := .int) (C := RX12) (T := TX12) (N := 24) hx hb hts iw_m_lookAt_X12 tyX12 tyX12_ok nmX12 hown hK hP hD hS 0 rfl rfl 21 (by decide) (hts (.fieldLink RX12 273 "ThriceCountedModel" "value" "I") (by decide +kernel)) (fun _ h9 => h9) rfl (by decide +kernel) rfl rfl (Nat.le_of_ble_eq_true rfl) dX12_lookAt_265 (fun H locs hP hD hS => ?_)
                        have hP : va_P (dC, dI) vwCl [(mo, .inr (12, [.ref nw, .ref kp, .ref ik, .ref mr, .long la_, .long lb_, .ref mw, .long lc_, .int ti_, .int cb_, .long ld_, .long le_, .ref mq, .ref mz, .ref my, .int sm_, .ref mb, .int (nI jb), .int (nI z_1), .int (nI z_104), .int 2, .int x_175, .ref mx, .ref mv])), (mb, .inl (cb2_, 150, .inl fy_))] H := hP
                        have hD : va_D A [(mo, .inr (12, [.ref nw, .ref kp, .ref ik, .ref mr, .long la_, .long lb_, .ref mw, .long lc_, .int ti_, .int cb_, .long ld_, .long le_, .ref mq, .ref mz, .ref my, .int sm_, .ref mb, .int (nI jb), .int (nI z_1), .int (nI z_104), .int 2, .int x_175, .ref mx, .ref mv])), (mb, .inl (cb2_, 150, .inl fy_))] := hD
                        refine lv_iinc (v := (nI (k_132 + 1))) (lv' := [(4, .int (nI (k_132 + 1))), (3, .int v_116), (2, .int x_14), (0, .ref mo), (1, .int (nI jf))]) hx hb dX12_lookAt_268 hl (k := 0) rfl (nI_add k_132 1) (by decide) rfl (fun ls hl => ?_)
                        refine lv_goto (tgt := 218) hx hb dX12_lookAt_271 (by decide) ?_
                        exact ih_156 ((k_132 + 1), x_175, H, locs, ls) ⟨by dsimp only; omega, hP, hD, hS, lv_sub hl [0, 1, 2, 3, 4] rfl⟩ (by dsimp only; omega)
                · refine lv_aload_n hx hb dX12_lookAt_140 rfl (lv_at hl 2 rfl) ?_
                  refine va_get (D := (dC, dI)) (ci := 12) (v := .int (nI z_1)) (C := RX12) (T := TX12) (N := 24) hx hb hts iw_m_lookAt_X12 hown hK hP 0 rfl rfl 18 (by decide) (hts (.fieldLink RX12 264 "ThriceCountedModel" "tokenAt" "I") (by decide +kernel)) (fun _ h9 => h9) rfl dX12_lookAt_141 ?_
                  refine lv_aload_n hx hb dX12_lookAt_144 rfl (lv_at hl 2 rfl) ?_
                  refine va_get (D := (dC, dI)) (ci := 12) (v := .int (nI z_104)) (C := RX12) (T := TX12) (N := 24) hx hb hts iw_m_lookAt_X12 hown hK hP 0 rfl rfl 19 (by decide) (hts (.fieldLink RX12 267 "ThriceCountedModel" "tokenLong" "I") (by decide +kernel)) (fun _ h9 => h9) rfl dX12_lookAt_145 ?_
                  refine lv_iadd hx hb dX12_lookAt_148 ?_
                  refine tz_i (nI (z_1 + z_104)) (nI_add z_1 z_104) ?_
                  refine lv_aload_n hx hb dX12_lookAt_149 rfl (lv_at hl 2 rfl) ?_
                  refine va_get (D := (dC, dI)) (ci := 12) (v := .int (nI jb)) (C := RX12) (T := TX12) (N := 24) hx hb hts iw_m_lookAt_X12 hown hK hP 0 rfl rfl 17 (by decide) (hts (.fieldLink RX12 253 "ThriceCountedModel" "bytesLong" "I") (by decide +kernel)) (fun _ h9 => h9) rfl dX12_lookAt_150 ?_
                  refine lv_icmp_ge (tgt := 215) hx hb dX12_lookAt_153 (by decide) (fun c_176 => ?_) (fun c_176 => ?_)
                  · have hn_177 : jb ≤ (z_1 + z_104) := (nI_leI (a := jb) (b := (z_1 + z_104)) (by omega) (by omega)).mp c_176
                    refine lv_iconst (v := 0) hx hb dX12_lookAt_215 (by decide) ?_
                    refine lv_istore (lv' := [(4, .int 0), (3, .int v_116), (2, .int x_14), (0, .ref mo), (1, .int (nI jf))]) hx hb dX12_lookAt_216 hl (by decide) rfl (fun ls hl => ?_)
                    refine tz_while (σ := Nat × Int32 × Heap × List Loc × Array Slot) (fun x => W p l e _ s m _ below meth c x.2.2.1 x.2.2.2.1 _ _ _ (F0 m 218 x.2.2.2.2 [])) (fun x => x.1 ≤ z_104 ∧ va_P (dC, dI) vwCl [(mo, .inr (12, [.ref nw, .ref kp, .ref ik, .ref mr, .long la_, .long lb_, .ref mw, .long lc_, .int ti_, .int cb_, .long ld_, .long le_, .ref mq, .ref mz, .ref my, .int sm_, .ref mb, .int (nI jb), .int (nI z_1), .int (nI z_104), .int 2, .int x.2.1, .ref mx, .ref mv])), (mb, .inl (cb2_, 150, .inl fy_))] x.2.2.1 ∧ va_D A [(mo, .inr (12, [.ref nw, .ref kp, .ref ik, .ref mr, .long la_, .long lb_, .ref mw, .long lc_, .int ti_, .int cb_, .long ld_, .long le_, .ref mq, .ref mz, .ref my, .int sm_, .ref mb, .int (nI jb), .int (nI z_1), .int (nI z_104), .int 2, .int x.2.1, .ref mx, .ref mv])), (mb, .inl (cb2_, 150, .inl fy_))] ∧ va_S A s.heap x.2.2.1 x.2.2.2.1 ∧ lv_has x.2.2.2.2 5 [(4, .int (nI x.1)), (3, .int v_116), (2, .int x_14), (0, .ref mo), (1, .int (nI jf))]) (fun x => z_104 - x.1) ?_ (0, 0, H, locs, ls) ⟨by (try dsimp only); omega, hP, hD, hS, hl⟩
                    rintro ⟨k_178, v_189, H, locs, ls⟩ ⟨hi_201_0, hP, hD, hS, hl⟩ ih_202
                    dsimp only at hi_201_0 hP hD hS hl ih_202 ⊢
                    refine lv_iload hx hb dX12_lookAt_218 (lv_at hl 0 rfl) ?_
                    refine lv_aload_n hx hb dX12_lookAt_220 rfl (lv_at hl 3 rfl) ?_
                    refine va_get (D := (dC, dI)) (ci := 12) (v := .int (nI z_104)) (C := RX12) (T := TX12) (N := 24) hx hb hts iw_m_lookAt_X12 hown hK hP 0 rfl rfl 19 (by decide) (hts (.fieldLink RX12 267 "ThriceCountedModel" "tokenLong" "I") (by decide +kernel)) (fun _ h9 => h9) rfl dX12_lookAt_221 ?_
                    refine lv_icmp_ge (tgt := 274) hx hb dX12_lookAt_224 (by decide) (fun c_203 => ?_) (fun c_203 => ?_)
                    · have hn_204 : z_104 ≤ k_178 := (nI_leI (a := z_104) (b := k_178) (by omega) (by omega)).mp c_203
                      refine lv_aload_n hx hb dX12_lookAt_274 rfl (lv_at hl 3 rfl) ?_
                      refine lv_aload_n hx hb dX12_lookAt_275 rfl (lv_at hl 3 rfl) ?_
                      refine va_get (D := (dC, dI)) (ci := 12) (v := .int 2) (C := RX12) (T := TX12) (N := 24) hx hb hts iw_m_lookAt_X12 hown hK hP 0 rfl rfl 20 (by decide) (hts (.fieldLink RX12 270 "ThriceCountedModel" "token" "I") (by decide +kernel)) (fun _ h9 => h9) rfl dX12_lookAt_276 ?_
                      refine lv_iconst (v := 2) hx hb dX12_lookAt_279 (by decide) ?_
                      refine lv_icmp_ne (tgt := 295) hx hb dX12_lookAt_280 (by decide) (fun c_205 => ?_) (fun c_205 => ?_)
                      · exact absurd c_205 (by decide)
                      · refine lv_aload_n hx hb dX12_lookAt_283 rfl (lv_at hl 3 rfl) ?_
                        refine va_get (D := (dC, dI)) (ci := 12) (v := .int (nI z_104)) (C := RX12) (T := TX12) (N := 24) hx hb hts iw_m_lookAt_X12 hown hK hP 0 rfl rfl 19 (by decide) (hts (.fieldLink RX12 267 "ThriceCountedModel" "tokenLong" "I") (by decide +kernel)) (fun _ h9 => h9) rfl dX12_lookAt_284 ?_
                        refine lv_iconst (v := 3) hx hb dX12_lookAt_287 (by decide) ?_
                        refine lv_icmp_le (tgt := 295) hx hb dX12_lookAt_288 (by decide) (fun c_206 => ?_) (fun c_206 => ?_)
                        · have hn_207 : z_104 ≤ 3 := (nI_leI (a := z_104) (b := 3) (by omega) (by omega)).mp c_206
                          refine lv_aload_n hx hb dX12_lookAt_295 rfl (lv_at hl 3 rfl) ?_
                          refine va_get (D := (dC, dI)) (ci := 12) (v := .int 2) (C := RX12) (T := TX12) (N := 24) hx hb hts iw_m_lookAt_X12 hown hK hP 0 rfl rfl 20 (by decide) (hts (.fieldLink RX12 270 "ThriceCountedModel" "token" "I") (by decide +kernel)) (fun _ h9 => h9) rfl dX12_lookAt_296 ?_
                          refine va_put (D := (dC, dI)) (ci := 12) (v := .int 2) (ty := .int) (C := RX12) (T := TX12) (N := 24) hx hb hts iw_m_lookAt_X12 tyX12 tyX12_ok nmX12 hown hK hP hD hS 0 rfl rfl 20 (by decide) (hts (.fieldLink RX12 270 "ThriceCountedModel" "token" "I") (by decide +kernel)) (fun _ h9 => h9) rfl (by decide +kernel) rfl rfl (Nat.le_of_ble_eq_true rfl) dX12_lookAt_299 (fun H locs hP hD hS => ?_)
                          have hP : va_P (dC, dI) vwCl [(mo, .inr (12, [.ref nw, .ref kp, .ref ik, .ref mr, .long la_, .long lb_, .ref mw, .long lc_, .int ti_, .int cb_, .long ld_, .long le_, .ref mq, .ref mz, .ref my, .int sm_, .ref mb, .int (nI jb), .int (nI z_1), .int (nI z_104), .int 2, .int v_189, .ref mx, .ref mv])), (mb, .inl (cb2_, 150, .inl fy_))] H := hP
                          have hD : va_D A [(mo, .inr (12, [.ref nw, .ref kp, .ref ik, .ref mr, .long la_, .long lb_, .ref mw, .long lc_, .int ti_, .int cb_, .long ld_, .long le_, .ref mq, .ref mz, .ref my, .int sm_, .ref mb, .int (nI jb), .int (nI z_1), .int (nI z_104), .int 2, .int v_189, .ref mx, .ref mv])), (mb, .inl (cb2_, 150, .inl fy_))] := hD
                          have hP9 := hP.sub (ws' := [(mo, .inr (12, [.ref nw, .ref kp, .ref ik, .ref mr, .long la_, .long lb_, .ref mw, .long lc_, .int ti_, .int cb_, .long ld_, .long le_, .ref mq, .ref mz, .ref my, .int sm_, .ref mb, .int (nI jb), .int (nI z_1), .int (nI z_104), .int 2, .int v_189, .ref mx, .ref mv])), (mb, .inl (cb2_, 150, .inl fy_))]) [0, 1] rfl
                          have hD9 := hD.sub (ws' := [(mo, .inr (12, [.ref nw, .ref kp, .ref ik, .ref mr, .long la_, .long lb_, .ref mw, .long lc_, .int ti_, .int cb_, .long ld_, .long le_, .ref mq, .ref mz, .ref my, .int sm_, .ref mb, .int (nI jb), .int (nI z_1), .int (nI z_104), .int 2, .int v_189, .ref mx, .ref mv])), (mb, .inl (cb2_, 150, .inl fy_))]) [0, 1] (by decide) rfl
                          have hK9 := hK.sub (tys' := [(cb2_, .int)]) [0] rfl
                          exact W.vret hx hb hr (fun t ht hW => ⟨⟨(), rfl, trivial, 2, v_189, z_1, z_104, by omega, by omega, fun q => absurd q (by decide), by rw [ht]; exact hP9, va_K.moved hW.alike hK9, hD9⟩, hS.F ht⟩) hS.2.2 dX12_lookAt_302
                        · have hn_208 : ¬ z_104 ≤ 3 := fun q => c_206 ((nI_leI (a := z_104) (b := 3) (by omega) (by omega)).mpr q)
                          refine lv_iconst (v := 4) hx hb dX12_lookAt_291 (by decide) ?_
                          refine lv_goto (tgt := 299) hx hb dX12_lookAt_292 (by decide) ?_
                          refine va_put (D := (dC, dI)) (ci := 12) (v := .int 4) (ty := .int) (C := RX12) (T := TX12) (N := 24) hx hb hts iw_m_lookAt_X12 tyX12 tyX12_ok nmX12 hown hK hP hD hS 0 rfl rfl 20 (by decide) (hts (.fieldLink RX12 270 "ThriceCountedModel" "token" "I") (by decide +kernel)) (fun _ h9 => h9) rfl (by decide +kernel) rfl rfl (Nat.le_of_ble_eq_true rfl) dX12_lookAt_299 (fun H locs hP hD hS => ?_)
                          have hP : va_P (dC, dI) vwCl [(mo, .inr (12, [.ref nw, .ref kp, .ref ik, .ref mr, .long la_, .long lb_, .ref mw, .long lc_, .int ti_, .int cb_, .long ld_, .long le_, .ref mq, .ref mz, .ref my, .int sm_, .ref mb, .int (nI jb), .int (nI z_1), .int (nI z_104), .int 4, .int v_189, .ref mx, .ref mv])), (mb, .inl (cb2_, 150, .inl fy_))] H := hP
                          have hD : va_D A [(mo, .inr (12, [.ref nw, .ref kp, .ref ik, .ref mr, .long la_, .long lb_, .ref mw, .long lc_, .int ti_, .int cb_, .long ld_, .long le_, .ref mq, .ref mz, .ref my, .int sm_, .ref mb, .int (nI jb), .int (nI z_1), .int (nI z_104), .int 4, .int v_189, .ref mx, .ref mv])), (mb, .inl (cb2_, 150, .inl fy_))] := hD
                          have hP9 := hP.sub (ws' := [(mo, .inr (12, [.ref nw, .ref kp, .ref ik, .ref mr, .long la_, .long lb_, .ref mw, .long lc_, .int ti_, .int cb_, .long ld_, .long le_, .ref mq, .ref mz, .ref my, .int sm_, .ref mb, .int (nI jb), .int (nI z_1), .int (nI z_104), .int 4, .int v_189, .ref mx, .ref mv])), (mb, .inl (cb2_, 150, .inl fy_))]) [0, 1] rfl
                          have hD9 := hD.sub (ws' := [(mo, .inr (12, [.ref nw, .ref kp, .ref ik, .ref mr, .long la_, .long lb_, .ref mw, .long lc_, .int ti_, .int cb_, .long ld_, .long le_, .ref mq, .ref mz, .ref my, .int sm_, .ref mb, .int (nI jb), .int (nI z_1), .int (nI z_104), .int 4, .int v_189, .ref mx, .ref mv])), (mb, .inl (cb2_, 150, .inl fy_))]) [0, 1] (by decide) rfl
                          have hK9 := hK.sub (tys' := [(cb2_, .int)]) [0] rfl
                          exact W.vret hx hb hr (fun t ht hW => ⟨⟨(), rfl, trivial, 4, v_189, z_1, z_104, by omega, by omega, fun q => absurd q (by decide), by rw [ht]; exact hP9, va_K.moved hW.alike hK9, hD9⟩, hS.F ht⟩) hS.2.2 dX12_lookAt_302
                    · have hn_209 : ¬ z_104 ≤ k_178 := fun q => c_203 ((nI_leI (a := z_104) (b := k_178) (by omega) (by omega)).mpr q)
                      refine lv_iload hx hb dX12_lookAt_227 (lv_at hl 0 rfl) ?_
                      refine lv_iconst (v := 3) hx hb dX12_lookAt_229 (by decide) ?_
                      refine lv_icmp_ge (tgt := 274) hx hb dX12_lookAt_230 (by decide) (fun c_210 => ?_) (fun c_210 => ?_)
                      · have hn_211 : 3 ≤ k_178 := (nI_leI (a := 3) (b := k_178) (by omega) (by omega)).mp c_210
                        refine lv_aload_n hx hb dX12_lookAt_274 rfl (lv_at hl 3 rfl) ?_
                        refine lv_aload_n hx hb dX12_lookAt_275 rfl (lv_at hl 3 rfl) ?_
                        refine va_get (D := (dC, dI)) (ci := 12) (v := .int 2) (C := RX12) (T := TX12) (N := 24) hx hb hts iw_m_lookAt_X12 hown hK hP 0 rfl rfl 20 (by decide) (hts (.fieldLink RX12 270 "ThriceCountedModel" "token" "I") (by decide +kernel)) (fun _ h9 => h9) rfl dX12_lookAt_276 ?_
                        refine lv_iconst (v := 2) hx hb dX12_lookAt_279 (by decide) ?_
                        refine lv_icmp_ne (tgt := 295) hx hb dX12_lookAt_280 (by decide) (fun c_212 => ?_) (fun c_212 => ?_)
                        · exact absurd c_212 (by decide)
                        · refine lv_aload_n hx hb dX12_lookAt_283 rfl (lv_at hl 3 rfl) ?_
                          refine va_get (D := (dC, dI)) (ci := 12) (v := .int (nI z_104)) (C := RX12) (T := TX12) (N := 24) hx hb hts iw_m_lookAt_X12 hown hK hP 0 rfl rfl 19 (by decide) (hts (.fieldLink RX12 267 "ThriceCountedModel" "tokenLong" "I") (by decide +kernel)) (fun _ h9 => h9) rfl dX12_lookAt_284 ?_
                          refine lv_iconst (v := 3) hx hb dX12_lookAt_287 (by decide) ?_
                          refine lv_icmp_le (tgt := 295) hx hb dX12_lookAt_288 (by decide) (fun c_213 => ?_) (fun c_213 => ?_)
                          · have hn_214 : z_104 ≤ 3 := (nI_leI (a := z_104) (b := 3) (by omega) (by omega)).mp c_213
                            refine lv_aload_n hx hb dX12_lookAt_295 rfl (lv_at hl 3 rfl) ?_
                            refine va_get (D := (dC, dI)) (ci := 12) (v := .int 2) (C := RX12) (T := TX12) (N := 24) hx hb hts iw_m_lookAt_X12 hown hK hP 0 rfl rfl 20 (by decide) (hts (.fieldLink RX12 270 "ThriceCountedModel" "token" "I") (by decide +kernel)) (fun _ h9 => h9) rfl dX12_lookAt_296 ?_
                            refine va_put (D := (dC, dI)) (ci := 12) (v := .int 2) (ty := .int) (C := RX12) (T := TX12) (N := 24) hx hb hts iw_m_lookAt_X12 tyX12 tyX12_ok nmX12 hown hK hP hD hS 0 rfl rfl 20 (by decide) (hts (.fieldLink RX12 270 "ThriceCountedModel" "token" "I") (by decide +kernel)) (fun _ h9 => h9) rfl (by decide +kernel) rfl rfl (Nat.le_of_ble_eq_true rfl) dX12_lookAt_299 (fun H locs hP hD hS => ?_)
                            have hP : va_P (dC, dI) vwCl [(mo, .inr (12, [.ref nw, .ref kp, .ref ik, .ref mr, .long la_, .long lb_, .ref mw, .long lc_, .int ti_, .int cb_, .long ld_, .long le_, .ref mq, .ref mz, .ref my, .int sm_, .ref mb, .int (nI jb), .int (nI z_1), .int (nI z_104), .int 2, .int v_189, .ref mx, .ref mv])), (mb, .inl (cb2_, 150, .inl fy_))] H := hP
                            have hD : va_D A [(mo, .inr (12, [.ref nw, .ref kp, .ref ik, .ref mr, .long la_, .long lb_, .ref mw, .long lc_, .int ti_, .int cb_, .long ld_, .long le_, .ref mq, .ref mz, .ref my, .int sm_, .ref mb, .int (nI jb), .int (nI z_1), .int (nI z_104), .int 2, .int v_189, .ref mx, .ref mv])), (mb, .inl (cb2_, 150, .inl fy_))] := hD
                            have hP9 := hP.sub (ws' := [(mo, .inr (12, [.ref nw, .ref kp, .ref ik, .ref mr, .long la_, .long lb_, .ref mw, .long lc_, .int ti_, .int cb_, .long ld_, .long le_, .ref mq, .ref mz, .ref my, .int sm_, .ref mb, .int (nI jb), .int (nI z_1), .int (nI z_104), .int 2, .int v_189, .ref mx, .ref mv])), (mb, .inl (cb2_, 150, .inl fy_))]) [0, 1] rfl
                            have hD9 := hD.sub (ws' := [(mo, .inr (12, [.ref nw, .ref kp, .ref ik, .ref mr, .long la_, .long lb_, .ref mw, .long lc_, .int ti_, .int cb_, .long ld_, .long le_, .ref mq, .ref mz, .ref my, .int sm_, .ref mb, .int (nI jb), .int (nI z_1), .int (nI z_104), .int 2, .int v_189, .ref mx, .ref mv])), (mb, .inl (cb2_, 150, .inl fy_))]) [0, 1] (by decide) rfl
                            have hK9 := hK.sub (tys' := [(cb2_, .int)]) [0] rfl
                            exact W.vret hx hb hr (fun t ht hW => ⟨⟨(), rfl, trivial, 2, v_189, z_1, z_104, by omega, by omega, fun q => absurd q (by decide), by rw [ht]; exact hP9, va_K.moved hW.alike hK9, hD9⟩, hS.F ht⟩) hS.2.2 dX12_lookAt_302
                          · have hn_215 : ¬ z_104 ≤ 3 := fun q => c_213 ((nI_leI (a := z_104) (b := 3) (by omega) (by omega)).mpr q)
                            refine lv_iconst (v := 4) hx hb dX12_lookAt_291 (by decide) ?_
                            refine lv_goto (tgt := 299) hx hb dX12_lookAt_292 (by decide) ?_
                            refine va_put (D := (dC, dI)) (ci := 12) (v := .int 4) (ty := .int) (C := RX12) (T := TX12) (N := 24) hx hb hts iw_m_lookAt_X12 tyX12 tyX12_ok nmX12 hown hK hP hD hS 0 rfl rfl 20 (by decide) (hts (.fieldLink RX12 270 "ThriceCountedModel" "token" "I") (by decide +kernel)) (fun _ h9 => h9) rfl (by decide +kernel) rfl rfl (Nat.le_of_ble_eq_true rfl) dX12_lookAt_299 (fun H locs hP hD hS => ?_)
                            have hP : va_P (dC, dI) vwCl [(mo, .inr (12, [.ref nw, .ref kp, .ref ik, .ref mr, .long la_, .long lb_, .ref mw, .long lc_, .int ti_, .int cb_, .long ld_, .long le_, .ref mq, .ref mz, .ref my, .int sm_, .ref mb, .int (nI jb), .int (nI z_1), .int (nI z_104), .int 4, .int v_189, .ref mx, .ref mv])), (mb, .inl (cb2_, 150, .inl fy_))] H := hP
                            have hD : va_D A [(mo, .inr (12, [.ref nw, .ref kp, .ref ik, .ref mr, .long la_, .long lb_, .ref mw, .long lc_, .int ti_, .int cb_, .long ld_, .long le_, .ref mq, .ref mz, .ref my, .int sm_, .ref mb, .int (nI jb), .int (nI z_1), .int (nI z_104), .int 4, .int v_189, .ref mx, .ref mv])), (mb, .inl (cb2_, 150, .inl fy_))] := hD
                            have hP9 := hP.sub (ws' := [(mo, .inr (12, [.ref nw, .ref kp, .ref ik, .ref mr, .long la_, .long lb_, .ref mw, .long lc_, .int ti_, .int cb_, .long ld_, .long le_, .ref mq, .ref mz, .ref my, .int sm_, .ref mb, .int (nI jb), .int (nI z_1), .int (nI z_104), .int 4, .int v_189, .ref mx, .ref mv])), (mb, .inl (cb2_, 150, .inl fy_))]) [0, 1] rfl
                            have hD9 := hD.sub (ws' := [(mo, .inr (12, [.ref nw, .ref kp, .ref ik, .ref mr, .long la_, .long lb_, .ref mw, .long lc_, .int ti_, .int cb_, .long ld_, .long le_, .ref mq, .ref mz, .ref my, .int sm_, .ref mb, .int (nI jb), .int (nI z_1), .int (nI z_104), .int 4, .int v_189, .ref mx, .ref mv])), (mb, .inl (cb2_, 150, .inl fy_))]) [0, 1] (by decide) rfl
                            have hK9 := hK.sub (tys' := [(cb2_, .int)]) [0] rfl
                            exact W.vret hx hb hr (fun t ht hW => ⟨⟨(), rfl, trivial, 4, v_189, z_1, z_104, by omega, by omega, fun q => absurd q (by decide), by rw [ht]; exact hP9, va_K.moved hW.alike hK9, hD9⟩, hS.F ht⟩) hS.2.2 dX12_lookAt_302
                      · have hn_216 : ¬ 3 ≤ k_178 := fun q => c_210 ((nI_leI (a := 3) (b := k_178) (by omega) (by omega)).mpr q)
                        refine lv_aload_n hx hb dX12_lookAt_233 rfl (lv_at hl 3 rfl) ?_
                        refine va_get (D := (dC, dI)) (ci := 12) (v := .int 2) (C := RX12) (T := TX12) (N := 24) hx hb hts iw_m_lookAt_X12 hown hK hP 0 rfl rfl 20 (by decide) (hts (.fieldLink RX12 270 "ThriceCountedModel" "token" "I") (by decide +kernel)) (fun _ h9 => h9) rfl dX12_lookAt_234 ?_
                        refine lv_iconst (v := 2) hx hb dX12_lookAt_237 (by decide) ?_
                        refine lv_icmp_ne (tgt := 274) hx hb dX12_lookAt_238 (by decide) (fun c_217 => ?_) (fun c_217 => ?_)
                        · exact absurd c_217 (by decide)
                        · refine lv_aload_n hx hb dX12_lookAt_241 rfl (lv_at hl 3 rfl) ?_
                          refine lv_bipush (v := 10) hx hb dX12_lookAt_242 (by decide) ?_
                          refine lv_aload_n hx hb dX12_lookAt_244 rfl (lv_at hl 3 rfl) ?_
                          refine va_get (D := (dC, dI)) (ci := 12) (v := .int v_189) (C := RX12) (T := TX12) (N := 24) hx hb hts iw_m_lookAt_X12 hown hK hP 0 rfl rfl 21 (by decide) (hts (.fieldLink RX12 273 "ThriceCountedModel" "value" "I") (by decide +kernel)) (fun _ h9 => h9) rfl dX12_lookAt_245 ?_
                          refine lv_imul hx hb dX12_lookAt_248 ?_
                          refine lv_topi (fun x_218 _ => ?_)
                          refine lv_aload_n hx hb dX12_lookAt_249 rfl (lv_at hl 3 rfl) ?_
                          refine va_get (D := (dC, dI)) (ci := 12) (v := .ref mb) (C := RX12) (T := TX12) (N := 24) hx hb hts iw_m_lookAt_X12 hown hK hP 0 rfl rfl 16 (by decide) (hts (.fieldLink RX12 40 "ThriceCountedModel" "bytes" "[I") (by decide +kernel)) (fun _ h9 => h9) rfl dX12_lookAt_250 ?_
                          refine lv_aload_n hx hb dX12_lookAt_253 rfl (lv_at hl 3 rfl) ?_
                          refine va_get (D := (dC, dI)) (ci := 12) (v := .int (nI z_1)) (C := RX12) (T := TX12) (N := 24) hx hb hts iw_m_lookAt_X12 hown hK hP 0 rfl rfl 18 (by decide) (hts (.fieldLink RX12 264 "ThriceCountedModel" "tokenAt" "I") (by decide +kernel)) (fun _ h9 => h9) rfl dX12_lookAt_254 ?_
                          refine lv_iload hx hb dX12_lookAt_257 (lv_at hl 0 rfl) ?_
                          refine lv_iadd hx hb dX12_lookAt_259 ?_
                          refine tz_i (nI (z_1 + k_178)) (nI_add z_1 k_178) ?_
                          refine va_iald hx hb hK hP 1 0 rfl rfl (vp_in_nI (n := (z_1 + k_178)) (N := 150) (by omega) (by decide)) dX12_lookAt_260 ?_
                          refine lv_topi (fun x_219 _ => ?_)
                          refine lv_iadd hx hb dX12_lookAt_261 ?_
                          refine lv_topi (fun x_220 _ => ?_)
                          refine lv_bipush (v := 48) hx hb dX12_lookAt_262 (by decide) ?_
                          refine lv_isub hx hb dX12_lookAt_264 ?_
                          refine lv_topi (fun x_221 _ => ?_)
                          refine va_put (D := (dC, dI)) (ci := 12) (v := .int x_221) (ty := .int) (C := RX12) (T := TX12) (N := 24) hx hb hts iw_m_lookAt_X12 tyX12 tyX12_ok nmX12 hown hK hP hD hS 0 rfl rfl 21 (by decide) (hts (.fieldLink RX12 273 "ThriceCountedModel" "value" "I") (by decide +kernel)) (fun _ h9 => h9) rfl (by decide +kernel) rfl rfl (Nat.le_of_ble_eq_true rfl) dX12_lookAt_265 (fun H locs hP hD hS => ?_)
                          have hP : va_P (dC, dI) vwCl [(mo, .inr (12, [.ref nw, .ref kp, .ref ik, .ref mr, .long la_, .long lb_, .ref mw, .long lc_, .int ti_, .int cb_, .long ld_, .long le_, .ref mq, .ref mz, .ref my, .int sm_, .ref mb, .int (nI jb), .int (nI z_1), .int (nI z_104), .int 2, .int x_221, .ref mx, .ref mv])), (mb, .inl (cb2_, 150, .inl fy_))] H := hP
                          have hD : va_D A [(mo, .inr (12, [.ref nw, .ref kp, .ref ik, .ref mr, .long la_, .long lb_, .ref mw, .long lc_, .int ti_, .int cb_, .long ld_, .long le_, .ref mq, .ref mz, .ref my, .int sm_, .ref mb, .int (nI jb), .int (nI z_1), .int (nI z_104), .int 2, .int x_221, .ref mx, .ref mv])), (mb, .inl (cb2_, 150, .inl fy_))] := hD
                          refine lv_iinc (v := (nI (k_178 + 1))) (lv' := [(4, .int (nI (k_178 + 1))), (3, .int v_116), (2, .int x_14), (0, .ref mo), (1, .int (nI jf))]) hx hb dX12_lookAt_268 hl (k := 0) rfl (nI_add k_178 1) (by decide) rfl (fun ls hl => ?_)
                          refine lv_goto (tgt := 218) hx hb dX12_lookAt_271 (by decide) ?_
                          exact ih_202 ((k_178 + 1), x_221, H, locs, ls) ⟨by dsimp only; omega, hP, hD, hS, lv_sub hl [0, 1, 2, 3, 4] rfl⟩ (by dsimp only; omega)
                  · have hn_222 : ¬ jb ≤ (z_1 + z_104) := fun q => c_176 ((nI_leI (a := jb) (b := (z_1 + z_104)) (by omega) (by omega)).mpr q)
                    refine lv_aload_n hx hb dX12_lookAt_156 rfl (lv_at hl 2 rfl) ?_
                    refine va_get (D := (dC, dI)) (ci := 12) (v := .ref mb) (C := RX12) (T := TX12) (N := 24) hx hb hts iw_m_lookAt_X12 hown hK hP 0 rfl rfl 16 (by decide) (hts (.fieldLink RX12 40 "ThriceCountedModel" "bytes" "[I") (by decide +kernel)) (fun _ h9 => h9) rfl dX12_lookAt_157 ?_
                    refine lv_aload_n hx hb dX12_lookAt_160 rfl (lv_at hl 2 rfl) ?_
                    refine va_get (D := (dC, dI)) (ci := 12) (v := .int (nI z_1)) (C := RX12) (T := TX12) (N := 24) hx hb hts iw_m_lookAt_X12 hown hK hP 0 rfl rfl 18 (by decide) (hts (.fieldLink RX12 264 "ThriceCountedModel" "tokenAt" "I") (by decide +kernel)) (fun _ h9 => h9) rfl dX12_lookAt_161 ?_
                    refine lv_aload_n hx hb dX12_lookAt_164 rfl (lv_at hl 2 rfl) ?_
                    refine va_get (D := (dC, dI)) (ci := 12) (v := .int (nI z_104)) (C := RX12) (T := TX12) (N := 24) hx hb hts iw_m_lookAt_X12 hown hK hP 0 rfl rfl 19 (by decide) (hts (.fieldLink RX12 267 "ThriceCountedModel" "tokenLong" "I") (by decide +kernel)) (fun _ h9 => h9) rfl dX12_lookAt_165 ?_
                    refine lv_iadd hx hb dX12_lookAt_168 ?_
                    refine tz_i (nI (z_1 + z_104)) (nI_add z_1 z_104) ?_
                    refine va_iald hx hb hK hP 1 0 rfl rfl (vp_in_nI (n := (z_1 + z_104)) (N := 150) (by omega) (by decide)) dX12_lookAt_169 ?_
                    refine lv_topi (fun x_223 _ => ?_)
                    refine lv_istore (lv' := [(4, .int x_223), (3, .int v_116), (2, .int x_14), (0, .ref mo), (1, .int (nI jf))]) hx hb dX12_lookAt_170 hl (by decide) rfl (fun ls hl => ?_)
                    refine lv_aload_n hx hb dX12_lookAt_172 rfl (lv_at hl 3 rfl) ?_
                    refine va_get (D := (dC, dI)) (ci := 12) (v := .int 2) (C := RX12) (T := TX12) (N := 24) hx hb hts iw_m_lookAt_X12 hown hK hP 0 rfl rfl 20 (by decide) (hts (.fieldLink RX12 270 "ThriceCountedModel" "token" "I") (by decide +kernel)) (fun _ h9 => h9) rfl dX12_lookAt_173 ?_
                    refine lv_iconst (v := 1) hx hb dX12_lookAt_176 (by decide) ?_
                    refine lv_icmp_ne (tgt := 188) hx hb dX12_lookAt_177 (by decide) (fun c_224 => ?_) (fun c_224 => ?_)
                    · refine lv_iload hx hb dX12_lookAt_188 (lv_at hl 0 rfl) ?_
                      refine vp_callSi (va_Run.run (va_runS (As := [.int x_223]) (rest := []) ⟨hx, hb, hml, hown, hts⟩ (m_isFigure l dC dI x_223) (va_cwS 1 hts gX12_lookAt_X12_isFigure rfl rfl rfl (by decide +kernel) ⟨Nat.le_of_ble_eq_true rfl, Nat.le_of_ble_eq_true rfl⟩) ⟨fun a U g mk q => ⟨q.1, trivial⟩, fun U hU hW => ⟨rfl, trivial⟩⟩ rfl rfl hl.1 rfl (lv_room (Nat.le_of_ble_eq_true rfl)) dX12_lookAt_190 ⟨Nat.le_of_ble_eq_true rfl, Nat.le_of_ble_eq_true rfl⟩)) (fun r_225 hw_226 => ?_)
                      by_cases hc_227 : 48 ≤ x_223 ∧ x_223 ≤ 57
                      · obtain rfl : 1 = r_225 := (hw_226.trans (if_pos hc_227)).symm
                        refine lv_istore_n (lv' := [(3, .int 1), (4, .int x_223), (2, .int x_14), (0, .ref mo), (1, .int (nI jf))]) hx hb dX12_lookAt_193 rfl hl (by decide) rfl (fun ls hl => ?_)
                        refine lv_aload_n hx hb dX12_lookAt_194 rfl (lv_at hl 3 rfl) ?_
                        refine lv_dup hx hb dX12_lookAt_195 rfl ?_
                        refine va_get (D := (dC, dI)) (ci := 12) (v := .int (nI z_104)) (C := RX12) (T := TX12) (N := 24) hx hb hts iw_m_lookAt_X12 hown hK hP 0 rfl rfl 19 (by decide) (hts (.fieldLink RX12 267 "ThriceCountedModel" "tokenLong" "I") (by decide +kernel)) (fun _ h9 => h9) rfl dX12_lookAt_196 ?_
                        refine lv_iload_n hx hb dX12_lookAt_199 rfl (lv_at hl 0 rfl) ?_
                        refine lv_if_eq (tgt := 207) hx hb dX12_lookAt_200 (by decide) (fun c_228 => ?_) (fun c_228 => ?_)
                        · exact absurd c_228 (by decide)
                        · refine lv_iconst (v := 1) hx hb dX12_lookAt_203 (by decide) ?_
                          refine lv_goto (tgt := 208) hx hb dX12_lookAt_204 (by decide) ?_
                          refine lv_iadd hx hb dX12_lookAt_208 ?_
                          refine tz_i (nI (z_104 + 1)) (nI_add z_104 1) ?_
                          refine va_put (D := (dC, dI)) (ci := 12) (v := .int (nI (z_104 + 1))) (ty := .int) (C := RX12) (T := TX12) (N := 24) hx hb hts iw_m_lookAt_X12 tyX12 tyX12_ok nmX12 hown hK hP hD hS 0 rfl rfl 19 (by decide) (hts (.fieldLink RX12 267 "ThriceCountedModel" "tokenLong" "I") (by decide +kernel)) (fun _ h9 => h9) rfl (by decide +kernel) rfl rfl (Nat.le_of_ble_eq_true rfl) dX12_lookAt_209 (fun H locs hP hD hS => ?_)
                          have hP : va_P (dC, dI) vwCl [(mo, .inr (12, [.ref nw, .ref kp, .ref ik, .ref mr, .long la_, .long lb_, .ref mw, .long lc_, .int ti_, .int cb_, .long ld_, .long le_, .ref mq, .ref mz, .ref my, .int sm_, .ref mb, .int (nI jb), .int (nI z_1), .int (nI (z_104 + 1)), .int 2, .int 0, .ref mx, .ref mv])), (mb, .inl (cb2_, 150, .inl fy_))] H := hP
                          have hD : va_D A [(mo, .inr (12, [.ref nw, .ref kp, .ref ik, .ref mr, .long la_, .long lb_, .ref mw, .long lc_, .int ti_, .int cb_, .long ld_, .long le_, .ref mq, .ref mz, .ref my, .int sm_, .ref mb, .int (nI jb), .int (nI z_1), .int (nI (z_104 + 1)), .int 2, .int 0, .ref mx, .ref mv])), (mb, .inl (cb2_, 150, .inl fy_))] := hD
                          refine lv_goto (tgt := 136) hx hb dX12_lookAt_212 (by decide) ?_
                          exact ih_130 ((z_104 + 1), 1, H, locs, ls) ⟨by dsimp only; omega, by dsimp only; omega, hP, hD, hS, lv_sub hl [0, 2, 3, 4] rfl⟩ (tz_fl1 (by dsimp only; omega) c_131)
                      · obtain rfl : 0 = r_225 := (hw_226.trans (if_neg hc_227)).symm
                        refine lv_istore_n (lv' := [(3, .int 0), (4, .int x_223), (2, .int x_14), (0, .ref mo), (1, .int (nI jf))]) hx hb dX12_lookAt_193 rfl hl (by decide) rfl (fun ls hl => ?_)
                        refine lv_aload_n hx hb dX12_lookAt_194 rfl (lv_at hl 3 rfl) ?_
                        refine lv_dup hx hb dX12_lookAt_195 rfl ?_
                        refine va_get (D := (dC, dI)) (ci := 12) (v := .int (nI z_104)) (C := RX12) (T := TX12) (N := 24) hx hb hts iw_m_lookAt_X12 hown hK hP 0 rfl rfl 19 (by decide) (hts (.fieldLink RX12 267 "ThriceCountedModel" "tokenLong" "I") (by decide +kernel)) (fun _ h9 => h9) rfl dX12_lookAt_196 ?_
                        refine lv_iload_n hx hb dX12_lookAt_199 rfl (lv_at hl 0 rfl) ?_
                        refine lv_if_eq (tgt := 207) hx hb dX12_lookAt_200 (by decide) (fun c_229 => ?_) (fun c_229 => ?_)
                        · refine lv_iconst (v := 0) hx hb dX12_lookAt_207 (by decide) ?_
                          refine lv_iadd hx hb dX12_lookAt_208 ?_
                          refine tz_i (nI (z_104 + 0)) (nI_add z_104 0) ?_
                          refine va_put (D := (dC, dI)) (ci := 12) (v := .int (nI (z_104 + 0))) (ty := .int) (C := RX12) (T := TX12) (N := 24) hx hb hts iw_m_lookAt_X12 tyX12 tyX12_ok nmX12 hown hK hP hD hS 0 rfl rfl 19 (by decide) (hts (.fieldLink RX12 267 "ThriceCountedModel" "tokenLong" "I") (by decide +kernel)) (fun _ h9 => h9) rfl (by decide +kernel) rfl rfl (Nat.le_of_ble_eq_true rfl) dX12_lookAt_209 (fun H locs hP hD hS => ?_)
                          have hP : va_P (dC, dI) vwCl [(mo, .inr (12, [.ref nw, .ref kp, .ref ik, .ref mr, .long la_, .long lb_, .ref mw, .long lc_, .int ti_, .int cb_, .long ld_, .long le_, .ref mq, .ref mz, .ref my, .int sm_, .ref mb, .int (nI jb), .int (nI z_1), .int (nI (z_104 + 0)), .int 2, .int 0, .ref mx, .ref mv])), (mb, .inl (cb2_, 150, .inl fy_))] H := hP
                          have hD : va_D A [(mo, .inr (12, [.ref nw, .ref kp, .ref ik, .ref mr, .long la_, .long lb_, .ref mw, .long lc_, .int ti_, .int cb_, .long ld_, .long le_, .ref mq, .ref mz, .ref my, .int sm_, .ref mb, .int (nI jb), .int (nI z_1), .int (nI (z_104 + 0)), .int 2, .int 0, .ref mx, .ref mv])), (mb, .inl (cb2_, 150, .inl fy_))] := hD
                          refine lv_goto (tgt := 136) hx hb dX12_lookAt_212 (by decide) ?_
                          exact ih_130 ((z_104 + 0), 0, H, locs, ls) ⟨by dsimp only; omega, by dsimp only; omega, hP, hD, hS, lv_sub hl [0, 2, 3, 4] rfl⟩ (tz_fl0 c_131)
                        · exact absurd c_229 (by decide)
                    · exact absurd c_224 (by decide)
          · obtain rfl : 0 = r_99 := (hw_100.trans (if_neg hc_101)).symm
            refine lv_if_eq (tgt := 103) hx hb dX12_lookAt_96 (by decide) (fun c_230 => ?_) (fun c_230 => ?_)
            · refine lv_iload_n hx hb dX12_lookAt_103 rfl (lv_at hl 0 rfl) ?_
              refine lv_bipush (v := 59) hx hb dX12_lookAt_104 (by decide) ?_
              refine lv_icmp_ne (tgt := 113) hx hb dX12_lookAt_106 (by decide) (fun c_231 => ?_) (fun c_231 => ?_)
              · refine lv_iconst (v := 4) hx hb dX12_lookAt_113 (by decide) ?_
                refine va_put (D := (dC, dI)) (ci := 12) (v := .int 4) (ty := .int) (C := RX12) (T := TX12) (N := 24) hx hb hts iw_m_lookAt_X12 tyX12 tyX12_ok nmX12 hown hK hP hD hS 0 rfl rfl 20 (by decide) (hts (.fieldLink RX12 270 "ThriceCountedModel" "token" "I") (by decide +kernel)) (fun _ h9 => h9) rfl (by decide +kernel) rfl rfl (Nat.le_of_ble_eq_true rfl) dX12_lookAt_114 (fun H locs hP hD hS => ?_)
                have hP : va_P (dC, dI) vwCl [(mo, .inr (12, [.ref nw, .ref kp, .ref ik, .ref mr, .long la_, .long lb_, .ref mw, .long lc_, .int ti_, .int cb_, .long ld_, .long le_, .ref mq, .ref mz, .ref my, .int sm_, .ref mb, .int (nI jb), .int (nI z_1), .int 0, .int 4, .int 0, .ref mx, .ref mv])), (mb, .inl (cb2_, 150, .inl fy_))] H := hP
                have hD : va_D A [(mo, .inr (12, [.ref nw, .ref kp, .ref ik, .ref mr, .long la_, .long lb_, .ref mw, .long lc_, .int ti_, .int cb_, .long ld_, .long le_, .ref mq, .ref mz, .ref my, .int sm_, .ref mb, .int (nI jb), .int (nI z_1), .int 0, .int 4, .int 0, .ref mx, .ref mv])), (mb, .inl (cb2_, 150, .inl fy_))] := hD
                refine lv_aload_n hx hb dX12_lookAt_117 rfl (lv_at hl 1 rfl) ?_
                refine lv_iconst (v := 1) hx hb dX12_lookAt_118 (by decide) ?_
                refine va_put (D := (dC, dI)) (ci := 12) (v := .int 1) (ty := .int) (C := RX12) (T := TX12) (N := 24) hx hb hts iw_m_lookAt_X12 tyX12 tyX12_ok nmX12 hown hK hP hD hS 0 rfl rfl 19 (by decide) (hts (.fieldLink RX12 267 "ThriceCountedModel" "tokenLong" "I") (by decide +kernel)) (fun _ h9 => h9) rfl (by decide +kernel) rfl rfl (Nat.le_of_ble_eq_true rfl) dX12_lookAt_119 (fun H locs hP hD hS => ?_)
                have hP : va_P (dC, dI) vwCl [(mo, .inr (12, [.ref nw, .ref kp, .ref ik, .ref mr, .long la_, .long lb_, .ref mw, .long lc_, .int ti_, .int cb_, .long ld_, .long le_, .ref mq, .ref mz, .ref my, .int sm_, .ref mb, .int (nI jb), .int (nI z_1), .int 1, .int 4, .int 0, .ref mx, .ref mv])), (mb, .inl (cb2_, 150, .inl fy_))] H := hP
                have hD : va_D A [(mo, .inr (12, [.ref nw, .ref kp, .ref ik, .ref mr, .long la_, .long lb_, .ref mw, .long lc_, .int ti_, .int cb_, .long ld_, .long le_, .ref mq, .ref mz, .ref my, .int sm_, .ref mb, .int (nI jb), .int (nI z_1), .int 1, .int 4, .int 0, .ref mx, .ref mv])), (mb, .inl (cb2_, 150, .inl fy_))] := hD
                refine lv_aload_n hx hb dX12_lookAt_122 rfl (lv_at hl 1 rfl) ?_
                refine va_get (D := (dC, dI)) (ci := 12) (v := .int 4) (C := RX12) (T := TX12) (N := 24) hx hb hts iw_m_lookAt_X12 hown hK hP 0 rfl rfl 20 (by decide) (hts (.fieldLink RX12 270 "ThriceCountedModel" "token" "I") (by decide +kernel)) (fun _ h9 => h9) rfl dX12_lookAt_123 ?_
                refine lv_iconst (v := 3) hx hb dX12_lookAt_126 (by decide) ?_
                refine lv_icmp_ge (tgt := 134) hx hb dX12_lookAt_127 (by decide) (fun c_232 => ?_) (fun c_232 => ?_)
                · refine lv_iconst (v := 0) hx hb dX12_lookAt_134 (by decide) ?_
                  refine lv_istore_n (lv' := [(3, .int 0), (2, .int x_14), (0, .ref mo), (1, .int (nI jf))]) hx hb dX12_lookAt_135 rfl hl (by decide) rfl (fun ls hl => ?_)
                  refine tz_while (σ := Nat × Heap × List Loc × Array Slot) (fun x => W p l e _ s m _ below meth c x.2.1 x.2.2.1 _ _ _ (F0 m 136 x.2.2.2 [])) (fun x => 1 ≤ x.1 ∧ z_1 + x.1 ≤ jb ∧ va_P (dC, dI) vwCl [(mo, .inr (12, [.ref nw, .ref kp, .ref ik, .ref mr, .long la_, .long lb_, .ref mw, .long lc_, .int ti_, .int cb_, .long ld_, .long le_, .ref mq, .ref mz, .ref my, .int sm_, .ref mb, .int (nI jb), .int (nI z_1), .int (nI x.1), .int 4, .int 0, .ref mx, .ref mv])), (mb, .inl (cb2_, 150, .inl fy_))] x.2.1 ∧ va_D A [(mo, .inr (12, [.ref nw, .ref kp, .ref ik, .ref mr, .long la_, .long lb_, .ref mw, .long lc_, .int ti_, .int cb_, .long ld_, .long le_, .ref mq, .ref mz, .ref my, .int sm_, .ref mb, .int (nI jb), .int (nI z_1), .int (nI x.1), .int 4, .int 0, .ref mx, .ref mv])), (mb, .inl (cb2_, 150, .inl fy_))] ∧ va_S A s.heap x.2.1 x.2.2.1 ∧ lv_has x.2.2.2 5 [(3, .int 0), (2, .int x_14), (0, .ref mo), (1, .int (nI jf))]) (fun x => 0) ?_ (1, H, locs, ls) ⟨by (try dsimp only); omega, by (try dsimp only); omega, hP, hD, hS, hl⟩
                  rintro ⟨z_233, H, locs, ls⟩ ⟨hi_235_0, hi_236_1, hP, hD, hS, hl⟩ ih_237
                  dsimp only at hi_235_0 hi_236_1 hP hD hS hl ih_237 ⊢
                  refine lv_iload_n hx hb dX12_lookAt_136 rfl (lv_at hl 0 rfl) ?_
                  refine lv_if_eq (tgt := 215) hx hb dX12_lookAt_137 (by decide) (fun c_238 => ?_) (fun c_238 => ?_)
                  · refine lv_iconst (v := 0) hx hb dX12_lookAt_215 (by decide) ?_
                    refine lv_istore (lv' := [(4, .int 0), (3, .int 0), (2, .int x_14), (0, .ref mo), (1, .int (nI jf))]) hx hb dX12_lookAt_216 hl (by decide) rfl (fun ls hl => ?_)
                    refine tz_while (σ := Nat × Array Slot) (fun x => W p l e _ s m _ below meth c _ _ _ _ _ (F0 m 218 x.2 [])) (fun x => x.1 ≤ z_233 ∧ lv_has x.2 5 [(4, .int (nI x.1)), (3, .int 0), (2, .int x_14), (0, .ref mo), (1, .int (nI jf))]) (fun x => z_233 - x.1) ?_ (0, ls) ⟨by (try dsimp only); omega, hl⟩
                    rintro ⟨k_239, ls⟩ ⟨hi_247_0, hl⟩ ih_248
                    dsimp only at hi_247_0 hl ih_248 ⊢
                    refine lv_iload hx hb dX12_lookAt_218 (lv_at hl 0 rfl) ?_
                    refine lv_aload_n hx hb dX12_lookAt_220 rfl (lv_at hl 3 rfl) ?_
                    refine va_get (D := (dC, dI)) (ci := 12) (v := .int (nI z_233)) (C := RX12) (T := TX12) (N := 24) hx hb hts iw_m_lookAt_X12 hown hK hP 0 rfl rfl 19 (by decide) (hts (.fieldLink RX12 267 "ThriceCountedModel" "tokenLong" "I") (by decide +kernel)) (fun _ h9 => h9) rfl dX12_lookAt_221 ?_
                    refine lv_icmp_ge (tgt := 274) hx hb dX12_lookAt_224 (by decide) (fun c_249 => ?_) (fun c_249 => ?_)
                    · have hn_250 : z_233 ≤ k_239 := (nI_leI (a := z_233) (b := k_239) (by omega) (by omega)).mp c_249
                      refine lv_aload_n hx hb dX12_lookAt_274 rfl (lv_at hl 3 rfl) ?_
                      refine lv_aload_n hx hb dX12_lookAt_275 rfl (lv_at hl 3 rfl) ?_
                      refine va_get (D := (dC, dI)) (ci := 12) (v := .int 4) (C := RX12) (T := TX12) (N := 24) hx hb hts iw_m_lookAt_X12 hown hK hP 0 rfl rfl 20 (by decide) (hts (.fieldLink RX12 270 "ThriceCountedModel" "token" "I") (by decide +kernel)) (fun _ h9 => h9) rfl dX12_lookAt_276 ?_
                      refine lv_iconst (v := 2) hx hb dX12_lookAt_279 (by decide) ?_
                      refine lv_icmp_ne (tgt := 295) hx hb dX12_lookAt_280 (by decide) (fun c_251 => ?_) (fun c_251 => ?_)
                      · refine lv_aload_n hx hb dX12_lookAt_295 rfl (lv_at hl 3 rfl) ?_
                        refine va_get (D := (dC, dI)) (ci := 12) (v := .int 4) (C := RX12) (T := TX12) (N := 24) hx hb hts iw_m_lookAt_X12 hown hK hP 0 rfl rfl 20 (by decide) (hts (.fieldLink RX12 270 "ThriceCountedModel" "token" "I") (by decide +kernel)) (fun _ h9 => h9) rfl dX12_lookAt_296 ?_
                        refine va_put (D := (dC, dI)) (ci := 12) (v := .int 4) (ty := .int) (C := RX12) (T := TX12) (N := 24) hx hb hts iw_m_lookAt_X12 tyX12 tyX12_ok nmX12 hown hK hP hD hS 0 rfl rfl 20 (by decide) (hts (.fieldLink RX12 270 "ThriceCountedModel" "token" "I") (by decide +kernel)) (fun _ h9 => h9) rfl (by decide +kernel) rfl rfl (Nat.le_of_ble_eq_true rfl) dX12_lookAt_299 (fun H locs hP hD hS => ?_)
                        have hP : va_P (dC, dI) vwCl [(mo, .inr (12, [.ref nw, .ref kp, .ref ik, .ref mr, .long la_, .long lb_, .ref mw, .long lc_, .int ti_, .int cb_, .long ld_, .long le_, .ref mq, .ref mz, .ref my, .int sm_, .ref mb, .int (nI jb), .int (nI z_1), .int (nI z_233), .int 4, .int 0, .ref mx, .ref mv])), (mb, .inl (cb2_, 150, .inl fy_))] H := hP
                        have hD : va_D A [(mo, .inr (12, [.ref nw, .ref kp, .ref ik, .ref mr, .long la_, .long lb_, .ref mw, .long lc_, .int ti_, .int cb_, .long ld_, .long le_, .ref mq, .ref mz, .ref my, .int sm_, .ref mb, .int (nI jb), .int (nI z_1), .int (nI z_233), .int 4, .int 0, .ref mx, .ref mv])), (mb, .inl (cb2_, 150, .inl fy_))] := hD
                        have hP9 := hP.sub (ws' := [(mo, .inr (12, [.ref nw, .ref kp, .ref ik, .ref mr, .long la_, .long lb_, .ref mw, .long lc_, .int ti_, .int cb_, .long ld_, .long le_, .ref mq, .ref mz, .ref my, .int sm_, .ref mb, .int (nI jb), .int (nI z_1), .int (nI z_233), .int 4, .int 0, .ref mx, .ref mv])), (mb, .inl (cb2_, 150, .inl fy_))]) [0, 1] rfl
                        have hD9 := hD.sub (ws' := [(mo, .inr (12, [.ref nw, .ref kp, .ref ik, .ref mr, .long la_, .long lb_, .ref mw, .long lc_, .int ti_, .int cb_, .long ld_, .long le_, .ref mq, .ref mz, .ref my, .int sm_, .ref mb, .int (nI jb), .int (nI z_1), .int (nI z_233), .int 4, .int 0, .ref mx, .ref mv])), (mb, .inl (cb2_, 150, .inl fy_))]) [0, 1] (by decide) rfl
                        have hK9 := hK.sub (tys' := [(cb2_, .int)]) [0] rfl
                        exact W.vret hx hb hr (fun t ht hW => ⟨⟨(), rfl, trivial, 4, 0, z_1, z_233, by omega, by omega, fun q => absurd q (by decide), by rw [ht]; exact hP9, va_K.moved hW.alike hK9, hD9⟩, hS.F ht⟩) hS.2.2 dX12_lookAt_302
                      · exact absurd c_251 (by decide)
                    · have hn_252 : ¬ z_233 ≤ k_239 := fun q => c_249 ((nI_leI (a := z_233) (b := k_239) (by omega) (by omega)).mpr q)
                      refine lv_iload hx hb dX12_lookAt_227 (lv_at hl 0 rfl) ?_
                      refine lv_iconst (v := 3) hx hb dX12_lookAt_229 (by decide) ?_
                      refine lv_icmp_ge (tgt := 274) hx hb dX12_lookAt_230 (by decide) (fun c_253 => ?_) (fun c_253 => ?_)
                      · have hn_254 : 3 ≤ k_239 := (nI_leI (a := 3) (b := k_239) (by omega) (by omega)).mp c_253
                        refine lv_aload_n hx hb dX12_lookAt_274 rfl (lv_at hl 3 rfl) ?_
                        refine lv_aload_n hx hb dX12_lookAt_275 rfl (lv_at hl 3 rfl) ?_
                        refine va_get (D := (dC, dI)) (ci := 12) (v := .int 4) (C := RX12) (T := TX12) (N := 24) hx hb hts iw_m_lookAt_X12 hown hK hP 0 rfl rfl 20 (by decide) (hts (.fieldLink RX12 270 "ThriceCountedModel" "token" "I") (by decide +kernel)) (fun _ h9 => h9) rfl dX12_lookAt_276 ?_
                        refine lv_iconst (v := 2) hx hb dX12_lookAt_279 (by decide) ?_
                        refine lv_icmp_ne (tgt := 295) hx hb dX12_lookAt_280 (by decide) (fun c_255 => ?_) (fun c_255 => ?_)
                        · refine lv_aload_n hx hb dX12_lookAt_295 rfl (lv_at hl 3 rfl) ?_
                          refine va_get (D := (dC, dI)) (ci := 12) (v := .int 4) (C := RX12) (T := TX12) (N := 24) hx hb hts iw_m_lookAt_X12 hown hK hP 0 rfl rfl 20 (by decide) (hts (.fieldLink RX12 270 "ThriceCountedModel" "token" "I") (by decide +kernel)) (fun _ h9 => h9) rfl dX12_lookAt_296 ?_
                          refine va_put (D := (dC, dI)) (ci := 12) (v := .int 4) (ty := .int) (C := RX12) (T := TX12) (N := 24) hx hb hts iw_m_lookAt_X12 tyX12 tyX12_ok nmX12 hown hK hP hD hS 0 rfl rfl 20 (by decide) (hts (.fieldLink RX12 270 "ThriceCountedModel" "token" "I") (by decide +kernel)) (fun _ h9 => h9) rfl (by decide +kernel) rfl rfl (Nat.le_of_ble_eq_true rfl) dX12_lookAt_299 (fun H locs hP hD hS => ?_)
                          have hP : va_P (dC, dI) vwCl [(mo, .inr (12, [.ref nw, .ref kp, .ref ik, .ref mr, .long la_, .long lb_, .ref mw, .long lc_, .int ti_, .int cb_, .long ld_, .long le_, .ref mq, .ref mz, .ref my, .int sm_, .ref mb, .int (nI jb), .int (nI z_1), .int (nI z_233), .int 4, .int 0, .ref mx, .ref mv])), (mb, .inl (cb2_, 150, .inl fy_))] H := hP
                          have hD : va_D A [(mo, .inr (12, [.ref nw, .ref kp, .ref ik, .ref mr, .long la_, .long lb_, .ref mw, .long lc_, .int ti_, .int cb_, .long ld_, .long le_, .ref mq, .ref mz, .ref my, .int sm_, .ref mb, .int (nI jb), .int (nI z_1), .int (nI z_233), .int 4, .int 0, .ref mx, .ref mv])), (mb, .inl (cb2_, 150, .inl fy_))] := hD
                          have hP9 := hP.sub (ws' := [(mo, .inr (12, [.ref nw, .ref kp, .ref ik, .ref mr, .long la_, .long lb_, .ref mw, .long lc_, .int ti_, .int cb_, .long ld_, .long le_, .ref mq, .ref mz, .ref my, .int sm_, .ref mb, .int (nI jb), .int (nI z_1), .int (nI z_233), .int 4, .int 0, .ref mx, .ref mv])), (mb, .inl (cb2_, 150, .inl fy_))]) [0, 1] rfl
                          have hD9 := hD.sub (ws' := [(mo, .inr (12, [.ref nw, .ref kp, .ref ik, .ref mr, .long la_, .long lb_, .ref mw, .long lc_, .int ti_, .int cb_, .long ld_, .long le_, .ref mq, .ref mz, .ref my, .int sm_, .ref mb, .int (nI jb), .int (nI z_1), .int (nI z_233), .int 4, .int 0, .ref mx, .ref mv])), (mb, .inl (cb2_, 150, .inl fy_))]) [0, 1] (by decide) rfl
                          have hK9 := hK.sub (tys' := [(cb2_, .int)]) [0] rfl
                          exact W.vret hx hb hr (fun t ht hW => ⟨⟨(), rfl, trivial, 4, 0, z_1, z_233, by omega, by omega, fun q => absurd q (by decide), by rw [ht]; exact hP9, va_K.moved hW.alike hK9, hD9⟩, hS.F ht⟩) hS.2.2 dX12_lookAt_302
                        · exact absurd c_255 (by decide)
                      · have hn_256 : ¬ 3 ≤ k_239 := fun q => c_253 ((nI_leI (a := 3) (b := k_239) (by omega) (by omega)).mpr q)
                        refine lv_aload_n hx hb dX12_lookAt_233 rfl (lv_at hl 3 rfl) ?_
                        refine va_get (D := (dC, dI)) (ci := 12) (v := .int 4) (C := RX12) (T := TX12) (N := 24) hx hb hts iw_m_lookAt_X12 hown hK hP 0 rfl rfl 20 (by decide) (hts (.fieldLink RX12 270 "ThriceCountedModel" "token" "I") (by decide +kernel)) (fun _ h9 => h9) rfl dX12_lookAt_234 ?_
                        refine lv_iconst (v := 2) hx hb dX12_lookAt_237 (by decide) ?_
                        refine lv_icmp_ne (tgt := 274) hx hb dX12_lookAt_238 (by decide) (fun c_257 => ?_) (fun c_257 => ?_)
                        · refine lv_aload_n hx hb dX12_lookAt_274 rfl (lv_at hl 3 rfl) ?_
                          refine lv_aload_n hx hb dX12_lookAt_275 rfl (lv_at hl 3 rfl) ?_
                          refine va_get (D := (dC, dI)) (ci := 12) (v := .int 4) (C := RX12) (T := TX12) (N := 24) hx hb hts iw_m_lookAt_X12 hown hK hP 0 rfl rfl 20 (by decide) (hts (.fieldLink RX12 270 "ThriceCountedModel" "token" "I") (by decide +kernel)) (fun _ h9 => h9) rfl dX12_lookAt_276 ?_
                          refine lv_iconst (v := 2) hx hb dX12_lookAt_279 (by decide) ?_
                          refine lv_icmp_ne (tgt := 295) hx hb dX12_lookAt_280 (by decide) (fun c_258 => ?_) (fun c_258 => ?_)
                          · refine lv_aload_n hx hb dX12_lookAt_295 rfl (lv_at hl 3 rfl) ?_
                            refine va_get (D := (dC, dI)) (ci := 12) (v := .int 4) (C := RX12) (T := TX12) (N := 24) hx hb hts iw_m_lookAt_X12 hown hK hP 0 rfl rfl 20 (by decide) (hts (.fieldLink RX12 270 "ThriceCountedModel" "token" "I") (by decide +kernel)) (fun _ h9 => h9) rfl dX12_lookAt_296 ?_
                            refine va_put (D := (dC, dI)) (ci := 12) (v := .int 4) (ty := .int) (C := RX12) (T := TX12) (N := 24) hx hb hts iw_m_lookAt_X12 tyX12 tyX12_ok nmX12 hown hK hP hD hS 0 rfl rfl 20 (by decide) (hts (.fieldLink RX12 270 "ThriceCountedModel" "token" "I") (by decide +kernel)) (fun _ h9 => h9) rfl (by decide +kernel) rfl rfl (Nat.le_of_ble_eq_true rfl) dX12_lookAt_299 (fun H locs hP hD hS => ?_)
                            have hP : va_P (dC, dI) vwCl [(mo, .inr (12, [.ref nw, .ref kp, .ref ik, .ref mr, .long la_, .long lb_, .ref mw, .long lc_, .int ti_, .int cb_, .long ld_, .long le_, .ref mq, .ref mz, .ref my, .int sm_, .ref mb, .int (nI jb), .int (nI z_1), .int (nI z_233), .int 4, .int 0, .ref mx, .ref mv])), (mb, .inl (cb2_, 150, .inl fy_))] H := hP
                            have hD : va_D A [(mo, .inr (12, [.ref nw, .ref kp, .ref ik, .ref mr, .long la_, .long lb_, .ref mw, .long lc_, .int ti_, .int cb_, .long ld_, .long le_, .ref mq, .ref mz, .ref my, .int sm_, .ref mb, .int (nI jb), .int (nI z_1), .int (nI z_233), .int 4, .int 0, .ref mx, .ref mv])), (mb, .inl (cb2_, 150, .inl fy_))] := hD
                            have hP9 := hP.sub (ws' := [(mo, .inr (12, [.ref nw, .ref kp, .ref ik, .ref mr, .long la_, .long lb_, .ref mw, .long lc_, .int ti_, .int cb_, .long ld_, .long le_, .ref mq, .ref mz, .ref my, .int sm_, .ref mb, .int (nI jb), .int (nI z_1), .int (nI z_233), .int 4, .int 0, .ref mx, .ref mv])), (mb, .inl (cb2_, 150, .inl fy_))]) [0, 1] rfl
                            have hD9 := hD.sub (ws' := [(mo, .inr (12, [.ref nw, .ref kp, .ref ik, .ref mr, .long la_, .long lb_, .ref mw, .long lc_, .int ti_, .int cb_, .long ld_, .long le_, .ref mq, .ref mz, .ref my, .int sm_, .ref mb, .int (nI jb), .int (nI z_1), .int (nI z_233), .int 4, .int 0, .ref mx, .ref mv])), (mb, .inl (cb2_, 150, .inl fy_))]) [0, 1] (by decide) rfl
                            have hK9 := hK.sub (tys' := [(cb2_, .int)]) [0] rfl
                            exact W.vret hx hb hr (fun t ht hW => ⟨⟨(), rfl, trivial, 4, 0, z_1, z_233, by omega, by omega, fun q => absurd q (by decide), by rw [ht]; exact hP9, va_K.moved hW.alike hK9, hD9⟩, hS.F ht⟩) hS.2.2 dX12_lookAt_302
                          · exact absurd c_258 (by decide)
                        · exact absurd c_257 (by decide)
                  · exact absurd c_238 (by decide)
                · exact absurd c_232 (by decide)
              · refine lv_iconst (v := 3) hx hb dX12_lookAt_109 (by decide) ?_
                refine lv_goto (tgt := 114) hx hb dX12_lookAt_110 (by decide) ?_
                refine va_put (D := (dC, dI)) (ci := 12) (v := .int 3) (ty := .int) (C := RX12) (T := TX12) (N := 24) hx hb hts iw_m_lookAt_X12 tyX12 tyX12_ok nmX12 hown hK hP hD hS 0 rfl rfl 20 (by decide) (hts (.fieldLink RX12 270 "ThriceCountedModel" "token" "I") (by decide +kernel)) (fun _ h9 => h9) rfl (by decide +kernel) rfl rfl (Nat.le_of_ble_eq_true rfl) dX12_lookAt_114 (fun H locs hP hD hS => ?_)
                have hP : va_P (dC, dI) vwCl [(mo, .inr (12, [.ref nw, .ref kp, .ref ik, .ref mr, .long la_, .long lb_, .ref mw, .long lc_, .int ti_, .int cb_, .long ld_, .long le_, .ref mq, .ref mz, .ref my, .int sm_, .ref mb, .int (nI jb), .int (nI z_1), .int 0, .int 3, .int 0, .ref mx, .ref mv])), (mb, .inl (cb2_, 150, .inl fy_))] H := hP
                have hD : va_D A [(mo, .inr (12, [.ref nw, .ref kp, .ref ik, .ref mr, .long la_, .long lb_, .ref mw, .long lc_, .int ti_, .int cb_, .long ld_, .long le_, .ref mq, .ref mz, .ref my, .int sm_, .ref mb, .int (nI jb), .int (nI z_1), .int 0, .int 3, .int 0, .ref mx, .ref mv])), (mb, .inl (cb2_, 150, .inl fy_))] := hD
                refine lv_aload_n hx hb dX12_lookAt_117 rfl (lv_at hl 1 rfl) ?_
                refine lv_iconst (v := 1) hx hb dX12_lookAt_118 (by decide) ?_
                refine va_put (D := (dC, dI)) (ci := 12) (v := .int 1) (ty := .int) (C := RX12) (T := TX12) (N := 24) hx hb hts iw_m_lookAt_X12 tyX12 tyX12_ok nmX12 hown hK hP hD hS 0 rfl rfl 19 (by decide) (hts (.fieldLink RX12 267 "ThriceCountedModel" "tokenLong" "I") (by decide +kernel)) (fun _ h9 => h9) rfl (by decide +kernel) rfl rfl (Nat.le_of_ble_eq_true rfl) dX12_lookAt_119 (fun H locs hP hD hS => ?_)
                have hP : va_P (dC, dI) vwCl [(mo, .inr (12, [.ref nw, .ref kp, .ref ik, .ref mr, .long la_, .long lb_, .ref mw, .long lc_, .int ti_, .int cb_, .long ld_, .long le_, .ref mq, .ref mz, .ref my, .int sm_, .ref mb, .int (nI jb), .int (nI z_1), .int 1, .int 3, .int 0, .ref mx, .ref mv])), (mb, .inl (cb2_, 150, .inl fy_))] H := hP
                have hD : va_D A [(mo, .inr (12, [.ref nw, .ref kp, .ref ik, .ref mr, .long la_, .long lb_, .ref mw, .long lc_, .int ti_, .int cb_, .long ld_, .long le_, .ref mq, .ref mz, .ref my, .int sm_, .ref mb, .int (nI jb), .int (nI z_1), .int 1, .int 3, .int 0, .ref mx, .ref mv])), (mb, .inl (cb2_, 150, .inl fy_))] := hD
                refine lv_aload_n hx hb dX12_lookAt_122 rfl (lv_at hl 1 rfl) ?_
                refine va_get (D := (dC, dI)) (ci := 12) (v := .int 3) (C := RX12) (T := TX12) (N := 24) hx hb hts iw_m_lookAt_X12 hown hK hP 0 rfl rfl 20 (by decide) (hts (.fieldLink RX12 270 "ThriceCountedModel" "token" "I") (by decide +kernel)) (fun _ h9 => h9) rfl dX12_lookAt_123 ?_
                refine lv_iconst (v := 3) hx hb dX12_lookAt_126 (by decide) ?_
                refine lv_icmp_ge (tgt := 134) hx hb dX12_lookAt_127 (by decide) (fun c_259 => ?_) (fun c_259 => ?_)
                · refine lv_iconst (v := 0) hx hb dX12_lookAt_134 (by decide) ?_
                  refine lv_istore_n (lv' := [(3, .int 0), (2, .int x_14), (0, .ref mo), (1, .int (nI jf))]) hx hb dX12_lookAt_135 rfl hl (by decide) rfl (fun ls hl => ?_)
                  refine tz_while (σ := Nat × Heap × List Loc × Array Slot) (fun x => W p l e _ s m _ below meth c x.2.1 x.2.2.1 _ _ _ (F0 m 136 x.2.2.2 [])) (fun x => 1 ≤ x.1 ∧ z_1 + x.1 ≤ jb ∧ va_P (dC, dI) vwCl [(mo, .inr (12, [.ref nw, .ref kp, .ref ik, .ref mr, .long la_, .long lb_, .ref mw, .long lc_, .int ti_, .int cb_, .long ld_, .long le_, .ref mq, .ref mz, .ref my, .int sm_, .ref mb, .int (nI jb), .int (nI z_1), .int (nI x.1), .int 3, .int 0, .ref mx, .ref mv])), (mb, .inl (cb2_, 150, .inl fy_))] x.2.1 ∧ va_D A [(mo, .inr (12, [.ref nw, .ref kp, .ref ik, .ref mr, .long la_, .long lb_, .ref mw, .long lc_, .int ti_, .int cb_, .long ld_, .long le_, .ref mq, .ref mz, .ref my, .int sm_, .ref mb, .int (nI jb), .int (nI z_1), .int (nI x.1), .int 3, .int 0, .ref mx, .ref mv])), (mb, .inl (cb2_, 150, .inl fy_))] ∧ va_S A s.heap x.2.1 x.2.2.1 ∧ lv_has x.2.2.2 5 [(3, .int 0), (2, .int x_14), (0, .ref mo), (1, .int (nI jf))]) (fun x => 0) ?_ (1, H, locs, ls) ⟨by (try dsimp only); omega, by (try dsimp only); omega, hP, hD, hS, hl⟩
                  rintro ⟨z_260, H, locs, ls⟩ ⟨hi_262_0, hi_263_1, hP, hD, hS, hl⟩ ih_264
                  dsimp only at hi_262_0 hi_263_1 hP hD hS hl ih_264 ⊢
                  refine lv_iload_n hx hb dX12_lookAt_136 rfl (lv_at hl 0 rfl) ?_
                  refine lv_if_eq (tgt := 215) hx hb dX12_lookAt_137 (by decide) (fun c_265 => ?_) (fun c_265 => ?_)
                  · refine lv_iconst (v := 0) hx hb dX12_lookAt_215 (by decide) ?_
                    refine lv_istore (lv' := [(4, .int 0), (3, .int 0), (2, .int x_14), (0, .ref mo), (1, .int (nI jf))]) hx hb dX12_lookAt_216 hl (by decide) rfl (fun ls hl => ?_)
                    refine tz_while (σ := Nat × Array Slot) (fun x => W p l e _ s m _ below meth c _ _ _ _ _ (F0 m 218 x.2 [])) (fun x => x.1 ≤ z_260 ∧ lv_has x.2 5 [(4, .int (nI x.1)), (3, .int 0), (2, .int x_14), (0, .ref mo), (1, .int (nI jf))]) (fun x => z_260 - x.1) ?_ (0, ls) ⟨by (try dsimp only); omega, hl⟩
                    rintro ⟨k_266, ls⟩ ⟨hi_274_0, hl⟩ ih_275
                    dsimp only at hi_274_0 hl ih_275 ⊢
                    refine lv_iload hx hb dX12_lookAt_218 (lv_at hl 0 rfl) ?_
                    refine lv_aload_n hx hb dX12_lookAt_220 rfl (lv_at hl 3 rfl) ?_
                    refine va_get (D := (dC, dI)) (ci := 12) (v := .int (nI z_260)) (C := RX12) (T := TX12) (N := 24) hx hb hts iw_m_lookAt_X12 hown hK hP 0 rfl rfl 19 (by decide) (hts (.fieldLink RX12 267 "ThriceCountedModel" "tokenLong" "I") (by decide +kernel)) (fun _ h9 => h9) rfl dX12_lookAt_221 ?_
                    refine lv_icmp_ge (tgt := 274) hx hb dX12_lookAt_224 (by decide) (fun c_276 => ?_) (fun c_276 => ?_)
                    · have hn_277 : z_260 ≤ k_266 := (nI_leI (a := z_260) (b := k_266) (by omega) (by omega)).mp c_276
                      refine lv_aload_n hx hb dX12_lookAt_274 rfl (lv_at hl 3 rfl) ?_
                      refine lv_aload_n hx hb dX12_lookAt_275 rfl (lv_at hl 3 rfl) ?_
                      refine va_get (D := (dC, dI)) (ci := 12) (v := .int 3) (C := RX12) (T := TX12) (N := 24) hx hb hts iw_m_lookAt_X12 hown hK hP 0 rfl rfl 20 (by decide) (hts (.fieldLink RX12 270 "ThriceCountedModel" "token" "I") (by decide +kernel)) (fun _ h9 => h9) rfl dX12_lookAt_276 ?_
                      refine lv_iconst (v := 2) hx hb dX12_lookAt_279 (by decide) ?_
                      refine lv_icmp_ne (tgt := 295) hx hb dX12_lookAt_280 (by decide) (fun c_278 => ?_) (fun c_278 => ?_)
                      · refine lv_aload_n hx hb dX12_lookAt_295 rfl (lv_at hl 3 rfl) ?_
                        refine va_get (D := (dC, dI)) (ci := 12) (v := .int 3) (C := RX12) (T := TX12) (N := 24) hx hb hts iw_m_lookAt_X12 hown hK hP 0 rfl rfl 20 (by decide) (hts (.fieldLink RX12 270 "ThriceCountedModel" "token" "I") (by decide +kernel)) (fun _ h9 => h9) rfl dX12_lookAt_296 ?_
                        refine va_put (D := (dC, dI)) (ci := 12) (v := .int 3) (ty := .int) (C := RX12) (T := TX12) (N := 24) hx hb hts iw_m_lookAt_X12 tyX12 tyX12_ok nmX12 hown hK hP hD hS 0 rfl rfl 20 (by decide) (hts (.fieldLink RX12 270 "ThriceCountedModel" "token" "I") (by decide +kernel)) (fun _ h9 => h9) rfl (by decide +kernel) rfl rfl (Nat.le_of_ble_eq_true rfl) dX12_lookAt_299 (fun H locs hP hD hS => ?_)
                        have hP : va_P (dC, dI) vwCl [(mo, .inr (12, [.ref nw, .ref kp, .ref ik, .ref mr, .long la_, .long lb_, .ref mw, .long lc_, .int ti_, .int cb_, .long ld_, .long le_, .ref mq, .ref mz, .ref my, .int sm_, .ref mb, .int (nI jb), .int (nI z_1), .int (nI z_260), .int 3, .int 0, .ref mx, .ref mv])), (mb, .inl (cb2_, 150, .inl fy_))] H := hP
                        have hD : va_D A [(mo, .inr (12, [.ref nw, .ref kp, .ref ik, .ref mr, .long la_, .long lb_, .ref mw, .long lc_, .int ti_, .int cb_, .long ld_, .long le_, .ref mq, .ref mz, .ref my, .int sm_, .ref mb, .int (nI jb), .int (nI z_1), .int (nI z_260), .int 3, .int 0, .ref mx, .ref mv])), (mb, .inl (cb2_, 150, .inl fy_))] := hD
                        have hP9 := hP.sub (ws' := [(mo, .inr (12, [.ref nw, .ref kp, .ref ik, .ref mr, .long la_, .long lb_, .ref mw, .long lc_, .int ti_, .int cb_, .long ld_, .long le_, .ref mq, .ref mz, .ref my, .int sm_, .ref mb, .int (nI jb), .int (nI z_1), .int (nI z_260), .int 3, .int 0, .ref mx, .ref mv])), (mb, .inl (cb2_, 150, .inl fy_))]) [0, 1] rfl
                        have hD9 := hD.sub (ws' := [(mo, .inr (12, [.ref nw, .ref kp, .ref ik, .ref mr, .long la_, .long lb_, .ref mw, .long lc_, .int ti_, .int cb_, .long ld_, .long le_, .ref mq, .ref mz, .ref my, .int sm_, .ref mb, .int (nI jb), .int (nI z_1), .int (nI z_260), .int 3, .int 0, .ref mx, .ref mv])), (mb, .inl (cb2_, 150, .inl fy_))]) [0, 1] (by decide) rfl
                        have hK9 := hK.sub (tys' := [(cb2_, .int)]) [0] rfl
                        exact W.vret hx hb hr (fun t ht hW => ⟨⟨(), rfl, trivial, 3, 0, z_1, z_260, by omega, by omega, fun _ => by omega, by rw [ht]; exact hP9, va_K.moved hW.alike hK9, hD9⟩, hS.F ht⟩) hS.2.2 dX12_lookAt_302
                      · exact absurd c_278 (by decide)
                    · have hn_279 : ¬ z_260 ≤ k_266 := fun q => c_276 ((nI_leI (a := z_260) (b := k_266) (by omega) (by omega)).mpr q)
                      refine lv_iload hx hb dX12_lookAt_227 (lv_at hl 0 rfl) ?_
                      refine lv_iconst (v := 3) hx hb dX12_lookAt_229 (by decide) ?_
                      refine lv_icmp_ge (tgt := 274) hx hb dX12_lookAt_230 (by decide) (fun c_280 => ?_) (fun c_280 => ?_)
                      · have hn_281 : 3 ≤ k_266 := (nI_leI (a := 3) (b := k_266) (by omega) (by omega)).mp c_280
                        refine lv_aload_n hx hb dX12_lookAt_274 rfl (lv_at hl 3 rfl) ?_
                        refine lv_aload_n hx hb dX12_lookAt_275 rfl (lv_at hl 3 rfl) ?_
                        refine va_get (D := (dC, dI)) (ci := 12) (v := .int 3) (C := RX12) (T := TX12) (N := 24) hx hb hts iw_m_lookAt_X12 hown hK hP 0 rfl rfl 20 (by decide) (hts (.fieldLink RX12 270 "ThriceCountedModel" "token" "I") (by decide +kernel)) (fun _ h9 => h9) rfl dX12_lookAt_276 ?_
                        refine lv_iconst (v := 2) hx hb dX12_lookAt_279 (by decide) ?_
                        refine lv_icmp_ne (tgt := 295) hx hb dX12_lookAt_280 (by decide) (fun c_282 => ?_) (fun c_282 => ?_)
                        · refine lv_aload_n hx hb dX12_lookAt_295 rfl (lv_at hl 3 rfl) ?_
                          refine va_get (D := (dC, dI)) (ci := 12) (v := .int 3) (C := RX12) (T := TX12) (N := 24) hx hb hts iw_m_lookAt_X12 hown hK hP 0 rfl rfl 20 (by decide) (hts (.fieldLink RX12 270 "ThriceCountedModel" "token" "I") (by decide +kernel)) (fun _ h9 => h9) rfl dX12_lookAt_296 ?_
                          refine va_put (D := (dC, dI)) (ci := 12) (v := .int 3) (ty := .int) (C := RX12) (T := TX12) (N := 24) hx hb hts iw_m_lookAt_X12 tyX12 tyX12_ok nmX12 hown hK hP hD hS 0 rfl rfl 20 (by decide) (hts (.fieldLink RX12 270 "ThriceCountedModel" "token" "I") (by decide +kernel)) (fun _ h9 => h9) rfl (by decide +kernel) rfl rfl (Nat.le_of_ble_eq_true rfl) dX12_lookAt_299 (fun H locs hP hD hS => ?_)
                          have hP : va_P (dC, dI) vwCl [(mo, .inr (12, [.ref nw, .ref kp, .ref ik, .ref mr, .long la_, .long lb_, .ref mw, .long lc_, .int ti_, .int cb_, .long ld_, .long le_, .ref mq, .ref mz, .ref my, .int sm_, .ref mb, .int (nI jb), .int (nI z_1), .int (nI z_260), .int 3, .int 0, .ref mx, .ref mv])), (mb, .inl (cb2_, 150, .inl fy_))] H := hP
                          have hD : va_D A [(mo, .inr (12, [.ref nw, .ref kp, .ref ik, .ref mr, .long la_, .long lb_, .ref mw, .long lc_, .int ti_, .int cb_, .long ld_, .long le_, .ref mq, .ref mz, .ref my, .int sm_, .ref mb, .int (nI jb), .int (nI z_1), .int (nI z_260), .int 3, .int 0, .ref mx, .ref mv])), (mb, .inl (cb2_, 150, .inl fy_))] := hD
                          have hP9 := hP.sub (ws' := [(mo, .inr (12, [.ref nw, .ref kp, .ref ik, .ref mr, .long la_, .long lb_, .ref mw, .long lc_, .int ti_, .int cb_, .long ld_, .long le_, .ref mq, .ref mz, .ref my, .int sm_, .ref mb, .int (nI jb), .int (nI z_1), .int (nI z_260), .int 3, .int 0, .ref mx, .ref mv])), (mb, .inl (cb2_, 150, .inl fy_))]) [0, 1] rfl
                          have hD9 := hD.sub (ws' := [(mo, .inr (12, [.ref nw, .ref kp, .ref ik, .ref mr, .long la_, .long lb_, .ref mw, .long lc_, .int ti_, .int cb_, .long ld_, .long le_, .ref mq, .ref mz, .ref my, .int sm_, .ref mb, .int (nI jb), .int (nI z_1), .int (nI z_260), .int 3, .int 0, .ref mx, .ref mv])), (mb, .inl (cb2_, 150, .inl fy_))]) [0, 1] (by decide) rfl
                          have hK9 := hK.sub (tys' := [(cb2_, .int)]) [0] rfl
                          exact W.vret hx hb hr (fun t ht hW => ⟨⟨(), rfl, trivial, 3, 0, z_1, z_260, by omega, by omega, fun _ => by omega, by rw [ht]; exact hP9, va_K.moved hW.alike hK9, hD9⟩, hS.F ht⟩) hS.2.2 dX12_lookAt_302
                        · exact absurd c_282 (by decide)
                      · have hn_283 : ¬ 3 ≤ k_266 := fun q => c_280 ((nI_leI (a := 3) (b := k_266) (by omega) (by omega)).mpr q)
                        refine lv_aload_n hx hb dX12_lookAt_233 rfl (lv_at hl 3 rfl) ?_
                        refine va_get (D := (dC, dI)) (ci := 12) (v := .int 3) (C := RX12) (T := TX12) (N := 24) hx hb hts iw_m_lookAt_X12 hown hK hP 0 rfl rfl 20 (by decide) (hts (.fieldLink RX12 270 "ThriceCountedModel" "token" "I") (by decide +kernel)) (fun _ h9 => h9) rfl dX12_lookAt_234 ?_
                        refine lv_iconst (v := 2) hx hb dX12_lookAt_237 (by decide) ?_
                        refine lv_icmp_ne (tgt := 274) hx hb dX12_lookAt_238 (by decide) (fun c_284 => ?_) (fun c_284 => ?_)
                        · refine lv_aload_n hx hb dX12_lookAt_274 rfl (lv_at hl 3 rfl) ?_
                          refine lv_aload_n hx hb dX12_lookAt_275 rfl (lv_at hl 3 rfl) ?_
                          refine va_get (D := (dC, dI)) (ci := 12) (v := .int 3) (C := RX12) (T := TX12) (N := 24) hx hb hts iw_m_lookAt_X12 hown hK hP 0 rfl rfl 20 (by decide) (hts (.fieldLink RX12 270 "ThriceCountedModel" "token" "I") (by decide +kernel)) (fun _ h9 => h9) rfl dX12_lookAt_276 ?_
                          refine lv_iconst (v := 2) hx hb dX12_lookAt_279 (by decide) ?_
                          refine lv_icmp_ne (tgt := 295) hx hb dX12_lookAt_280 (by decide) (fun c_285 => ?_) (fun c_285 => ?_)
                          · refine lv_aload_n hx hb dX12_lookAt_295 rfl (lv_at hl 3 rfl) ?_
                            refine va_get (D := (dC, dI)) (ci := 12) (v := .int 3) (C := RX12) (T := TX12) (N := 24) hx hb hts iw_m_lookAt_X12 hown hK hP 0 rfl rfl 20 (by decide) (hts (.fieldLink RX12 270 "ThriceCountedModel" "token" "I") (by decide +kernel)) (fun _ h9 => h9) rfl dX12_lookAt_296 ?_
                            refine va_put (D := (dC, dI)) (ci := 12) (v := .int 3) (ty := .int) (C := RX12) (T := TX12) (N := 24) hx hb hts iw_m_lookAt_X12 tyX12 tyX12_ok nmX12 hown hK hP hD hS 0 rfl rfl 20 (by decide) (hts (.fieldLink RX12 270 "ThriceCountedModel" "token" "I") (by decide +kernel)) (fun _ h9 => h9) rfl (by decide +kernel) rfl rfl (Nat.le_of_ble_eq_true rfl) dX12_lookAt_299 (fun H locs hP hD hS => ?_)
                            have hP : va_P (dC, dI) vwCl [(mo, .inr (12, [.ref nw, .ref kp, .ref ik, .ref mr, .long la_, .long lb_, .ref mw, .long lc_, .int ti_, .int cb_, .long ld_, .long le_, .ref mq, .ref mz, .ref my, .int sm_, .ref mb, .int (nI jb), .int (nI z_1), .int (nI z_260), .int 3, .int 0, .ref mx, .ref mv])), (mb, .inl (cb2_, 150, .inl fy_))] H := hP
                            have hD : va_D A [(mo, .inr (12, [.ref nw, .ref kp, .ref ik, .ref mr, .long la_, .long lb_, .ref mw, .long lc_, .int ti_, .int cb_, .long ld_, .long le_, .ref mq, .ref mz, .ref my, .int sm_, .ref mb, .int (nI jb), .int (nI z_1), .int (nI z_260), .int 3, .int 0, .ref mx, .ref mv])), (mb, .inl (cb2_, 150, .inl fy_))] := hD
                            have hP9 := hP.sub (ws' := [(mo, .inr (12, [.ref nw, .ref kp, .ref ik, .ref mr, .long la_, .long lb_, .ref mw, .long lc_, .int ti_, .int cb_, .long ld_, .long le_, .ref mq, .ref mz, .ref my, .int sm_, .ref mb, .int (nI jb), .int (nI z_1), .int (nI z_260), .int 3, .int 0, .ref mx, .ref mv])), (mb, .inl (cb2_, 150, .inl fy_))]) [0, 1] rfl
                            have hD9 := hD.sub (ws' := [(mo, .inr (12, [.ref nw, .ref kp, .ref ik, .ref mr, .long la_, .long lb_, .ref mw, .long lc_, .int ti_, .int cb_, .long ld_, .long le_, .ref mq, .ref mz, .ref my, .int sm_, .ref mb, .int (nI jb), .int (nI z_1), .int (nI z_260), .int 3, .int 0, .ref mx, .ref mv])), (mb, .inl (cb2_, 150, .inl fy_))]) [0, 1] (by decide) rfl
                            have hK9 := hK.sub (tys' := [(cb2_, .int)]) [0] rfl
                            exact W.vret hx hb hr (fun t ht hW => ⟨⟨(), rfl, trivial, 3, 0, z_1, z_260, by omega, by omega, fun _ => by omega, by rw [ht]; exact hP9, va_K.moved hW.alike hK9, hD9⟩, hS.F ht⟩) hS.2.2 dX12_lookAt_302
                          · exact absurd c_285 (by decide)
                        · exact absurd c_284 (by decide)
                  · exact absurd c_265 (by decide)
                · exact absurd c_259 (by decide)
            · exact absurd c_230 (by decide)
        · exact absurd c_98 (by decide)
    · have hn_286 : z_1 = jb := (nI_eq (a := z_1) (b := jb) (by omega) (by omega)).mp c_12
      have hP9 := hP.sub (ws' := [(mo, .inr (12, [.ref nw, .ref kp, .ref ik, .ref mr, .long la_, .long lb_, .ref mw, .long lc_, .int ti_, .int cb_, .long ld_, .long le_, .ref mq, .ref mz, .ref my, .int sm_, .ref mb, .int (nI jb), .int (nI z_1), .int (nI 0), .int 0, .int 0, .ref mx, .ref mv])), (mb, .inl (cb2_, 150, .inl fy_))]) [0, 1] rfl
      have hD9 := hD.sub (ws' := [(mo, .inr (12, [.ref nw, .ref kp, .ref ik, .ref mr, .long la_, .long lb_, .ref mw, .long lc_, .int ti_, .int cb_, .long ld_, .long le_, .ref mq, .ref mz, .ref my, .int sm_, .ref mb, .int (nI jb), .int (nI z_1), .int (nI 0), .int 0, .int 0, .ref mx, .ref mv])), (mb, .inl (cb2_, 150, .inl fy_))]) [0, 1] (by decide) rfl
      have hK9 := hK.sub (tys' := [(cb2_, .int)]) [0] rfl
      exact W.vret hx hb hr (fun t ht hW => ⟨⟨(), rfl, trivial, 0, 0, z_1, 0, by omega, by omega, fun q => absurd q (by decide), by rw [ht]; exact hP9, va_K.moved hW.alike hK9, hD9⟩, hS.F ht⟩) hS.2.2 dX12_lookAt_69
  · have hn_287 : ¬ jb ≤ z_1 := fun q => c_10 ((nI_leI (a := jb) (b := z_1) (by omega) (by omega)).mpr q)
    refine lv_aload_n hx hb dX12_lookAt_16 rfl (lv_at hl 0 rfl) ?_
    refine va_get (D := (dC, dI)) (ci := 12) (v := .ref mb) (C := RX12) (T := TX12) (N := 24) hx hb hts iw_m_lookAt_X12 hown hK hP 0 rfl rfl 16 (by decide) (hts (.fieldLink RX12 40 "ThriceCountedModel" "bytes" "[I") (by decide +kernel)) (fun _ h9 => h9) rfl dX12_lookAt_17 ?_
    refine lv_aload_n hx hb dX12_lookAt_20 rfl (lv_at hl 0 rfl) ?_
    refine va_get (D := (dC, dI)) (ci := 12) (v := .int (nI z_1)) (C := RX12) (T := TX12) (N := 24) hx hb hts iw_m_lookAt_X12 hown hK hP 0 rfl rfl 18 (by decide) (hts (.fieldLink RX12 264 "ThriceCountedModel" "tokenAt" "I") (by decide +kernel)) (fun _ h9 => h9) rfl dX12_lookAt_21 ?_
    refine va_iald hx hb hK hP 1 0 rfl rfl (vp_in_nI (n := z_1) (N := 150) (by omega) (by decide)) dX12_lookAt_24 ?_
    refine lv_topi (fun x_288 _ => ?_)
    refine lv_bipush (v := 32) hx hb dX12_lookAt_25 (by decide) ?_
    refine lv_icmp_ne (tgt := 43) hx hb dX12_lookAt_27 (by decide) (fun c_289 => ?_) (fun c_289 => ?_)
    · refine lv_aload_n hx hb dX12_lookAt_43 rfl (lv_at hl 0 rfl) ?_
      refine lv_iconst (v := 0) hx hb dX12_lookAt_44 (by decide) ?_
      refine va_put (D := (dC, dI)) (ci := 12) (v := .int 0) (ty := .int) (C := RX12) (T := TX12) (N := 24) hx hb hts iw_m_lookAt_X12 tyX12 tyX12_ok nmX12 hown hK hP hD hS 0 rfl rfl 19 (by decide) (hts (.fieldLink RX12 267 "ThriceCountedModel" "tokenLong" "I") (by decide +kernel)) (fun _ h9 => h9) rfl (by decide +kernel) rfl rfl (Nat.le_of_ble_eq_true rfl) dX12_lookAt_45 (fun H locs hP hD hS => ?_)
      have hP : va_P (dC, dI) vwCl [(mo, .inr (12, [.ref nw, .ref kp, .ref ik, .ref mr, .long la_, .long lb_, .ref mw, .long lc_, .int ti_, .int cb_, .long ld_, .long le_, .ref mq, .ref mz, .ref my, .int sm_, .ref mb, .int (nI jb), .int (nI z_1), .int 0, .int tk_, .int vl_, .ref mx, .ref mv])), (mb, .inl (cb2_, 150, .inl fy_))] H := hP
      have hD : va_D A [(mo, .inr (12, [.ref nw, .ref kp, .ref ik, .ref mr, .long la_, .long lb_, .ref mw, .long lc_, .int ti_, .int cb_, .long ld_, .long le_, .ref mq, .ref mz, .ref my, .int sm_, .ref mb, .int (nI jb), .int (nI z_1), .int 0, .int tk_, .int vl_, .ref mx, .ref mv])), (mb, .inl (cb2_, 150, .inl fy_))] := hD
      refine lv_aload_n hx hb dX12_lookAt_48 rfl (lv_at hl 0 rfl) ?_
      refine lv_iconst (v := 0) hx hb dX12_lookAt_49 (by decide) ?_
      refine va_put (D := (dC, dI)) (ci := 12) (v := .int 0) (ty := .int) (C := RX12) (T := TX12) (N := 24) hx hb hts iw_m_lookAt_X12 tyX12 tyX12_ok nmX12 hown hK hP hD hS 0 rfl rfl 20 (by decide) (hts (.fieldLink RX12 270 "ThriceCountedModel" "token" "I") (by decide +kernel)) (fun _ h9 => h9) rfl (by decide +kernel) rfl rfl (Nat.le_of_ble_eq_true rfl) dX12_lookAt_50 (fun H locs hP hD hS => ?_)
      have hP : va_P (dC, dI) vwCl [(mo, .inr (12, [.ref nw, .ref kp, .ref ik, .ref mr, .long la_, .long lb_, .ref mw, .long lc_, .int ti_, .int cb_, .long ld_, .long le_, .ref mq, .ref mz, .ref my, .int sm_, .ref mb, .int (nI jb), .int (nI z_1), .int 0, .int 0, .int vl_, .ref mx, .ref mv])), (mb, .inl (cb2_, 150, .inl fy_))] H := hP
      have hD : va_D A [(mo, .inr (12, [.ref nw, .ref kp, .ref ik, .ref mr, .long la_, .long lb_, .ref mw, .long lc_, .int ti_, .int cb_, .long ld_, .long le_, .ref mq, .ref mz, .ref my, .int sm_, .ref mb, .int (nI jb), .int (nI z_1), .int 0, .int 0, .int vl_, .ref mx, .ref mv])), (mb, .inl (cb2_, 150, .inl fy_))] := hD
      refine lv_aload_n hx hb dX12_lookAt_53 rfl (lv_at hl 0 rfl) ?_
      refine lv_iconst (v := 0) hx hb dX12_lookAt_54 (by decide) ?_
      refine va_put (D := (dC, dI)) (ci := 12) (v := .int 0) (ty := .int) (C := RX12) (T := TX12) (N := 24) hx hb hts iw_m_lookAt_X12 tyX12 tyX12_ok nmX12 hown hK hP hD hS 0 rfl rfl 21 (by decide) (hts (.fieldLink RX12 273 "ThriceCountedModel" "value" "I") (by decide +kernel)) (fun _ h9 => h9) rfl (by decide +kernel) rfl rfl (Nat.le_of_ble_eq_true rfl) dX12_lookAt_55 (fun H locs hP hD hS => ?_)
      have hP : va_P (dC, dI) vwCl [(mo, .inr (12, [.ref nw, .ref kp, .ref ik, .ref mr, .long la_, .long lb_, .ref mw, .long lc_, .int ti_, .int cb_, .long ld_, .long le_, .ref mq, .ref mz, .ref my, .int sm_, .ref mb, .int (nI jb), .int (nI z_1), .int 0, .int 0, .int 0, .ref mx, .ref mv])), (mb, .inl (cb2_, 150, .inl fy_))] H := hP
      have hD : va_D A [(mo, .inr (12, [.ref nw, .ref kp, .ref ik, .ref mr, .long la_, .long lb_, .ref mw, .long lc_, .int ti_, .int cb_, .long ld_, .long le_, .ref mq, .ref mz, .ref my, .int sm_, .ref mb, .int (nI jb), .int (nI z_1), .int 0, .int 0, .int 0, .ref mx, .ref mv])), (mb, .inl (cb2_, 150, .inl fy_))] := hD
      refine lv_aload_n hx hb dX12_lookAt_58 rfl (lv_at hl 0 rfl) ?_
      refine va_get (D := (dC, dI)) (ci := 12) (v := .int (nI z_1)) (C := RX12) (T := TX12) (N := 24) hx hb hts iw_m_lookAt_X12 hown hK hP 0 rfl rfl 18 (by decide) (hts (.fieldLink RX12 264 "ThriceCountedModel" "tokenAt" "I") (by decide +kernel)) (fun _ h9 => h9) rfl dX12_lookAt_59 ?_
      refine lv_aload_n hx hb dX12_lookAt_62 rfl (lv_at hl 0 rfl) ?_
      refine va_get (D := (dC, dI)) (ci := 12) (v := .int (nI jb)) (C := RX12) (T := TX12) (N := 24) hx hb hts iw_m_lookAt_X12 hown hK hP 0 rfl rfl 17 (by decide) (hts (.fieldLink RX12 253 "ThriceCountedModel" "bytesLong" "I") (by decide +kernel)) (fun _ h9 => h9) rfl dX12_lookAt_63 ?_
      refine lv_icmp_ne (tgt := 70) hx hb dX12_lookAt_66 (by decide) (fun c_290 => ?_) (fun c_290 => ?_)
      · have hn_291 : ¬ z_1 = jb := fun q => c_290 ((nI_eq (a := z_1) (b := jb) (by omega) (by omega)).mpr q)
        refine lv_aload_n hx hb dX12_lookAt_70 rfl (lv_at hl 0 rfl) ?_
        refine va_get (D := (dC, dI)) (ci := 12) (v := .ref mb) (C := RX12) (T := TX12) (N := 24) hx hb hts iw_m_lookAt_X12 hown hK hP 0 rfl rfl 16 (by decide) (hts (.fieldLink RX12 40 "ThriceCountedModel" "bytes" "[I") (by decide +kernel)) (fun _ h9 => h9) rfl dX12_lookAt_71 ?_
        refine lv_aload_n hx hb dX12_lookAt_74 rfl (lv_at hl 0 rfl) ?_
        refine va_get (D := (dC, dI)) (ci := 12) (v := .int (nI z_1)) (C := RX12) (T := TX12) (N := 24) hx hb hts iw_m_lookAt_X12 hown hK hP 0 rfl rfl 18 (by decide) (hts (.fieldLink RX12 264 "ThriceCountedModel" "tokenAt" "I") (by decide +kernel)) (fun _ h9 => h9) rfl dX12_lookAt_75 ?_
        refine va_iald hx hb hK hP 1 0 rfl rfl (vp_in_nI (n := z_1) (N := 150) (by omega) (by decide)) dX12_lookAt_78 ?_
        refine lv_topi (fun x_292 _ => ?_)
        refine lv_istore_n (lv' := [(2, .int x_292), (0, .ref mo), (1, .int (nI jf))]) hx hb dX12_lookAt_79 rfl hl (by decide) rfl (fun ls hl => ?_)
        refine lv_aload_n hx hb dX12_lookAt_80 rfl (lv_at hl 1 rfl) ?_
        refine lv_iload_n hx hb dX12_lookAt_81 rfl (lv_at hl 0 rfl) ?_
        refine vp_callSi (va_Run.run (va_runS (As := [.int x_292]) (rest := [.ref mo]) ⟨hx, hb, hml, hown, hts⟩ (m_isSmall l dC dI x_292) (va_cwS 1 hts gX12_lookAt_X12_isSmall rfl rfl rfl (by decide +kernel) ⟨Nat.le_of_ble_eq_true rfl, Nat.le_of_ble_eq_true rfl⟩) ⟨fun a U g mk q => ⟨q.1, trivial⟩, fun U hU hW => ⟨rfl, trivial⟩⟩ rfl rfl hl.1 rfl (lv_room (Nat.le_of_ble_eq_true rfl)) dX12_lookAt_82 ⟨Nat.le_of_ble_eq_true rfl, Nat.le_of_ble_eq_true rfl⟩)) (fun r_293 hw_294 => ?_)
        by_cases hc_295 : 97 ≤ x_292 ∧ x_292 ≤ 122
        · obtain rfl : 1 = r_293 := (hw_294.trans (if_pos hc_295)).symm
          refine lv_if_eq (tgt := 92) hx hb dX12_lookAt_85 (by decide) (fun c_296 => ?_) (fun c_296 => ?_)
          · exact absurd c_296 (by decide)
          · refine lv_iconst (v := 1) hx hb dX12_lookAt_88 (by decide) ?_
            refine lv_goto (tgt := 114) hx hb dX12_lookAt_89 (by decide) ?_
            refine va_put (D := (dC, dI)) (ci := 12) (v := .int 1) (ty := .int) (C := RX12) (T := TX12) (N := 24) hx hb hts iw_m_lookAt_X12 tyX12 tyX12_ok nmX12 hown hK hP hD hS 0 rfl rfl 20 (by decide) (hts (.fieldLink RX12 270 "ThriceCountedModel" "token" "I") (by decide +kernel)) (fun _ h9 => h9) rfl (by decide +kernel) rfl rfl (Nat.le_of_ble_eq_true rfl) dX12_lookAt_114 (fun H locs hP hD hS => ?_)
            have hP : va_P (dC, dI) vwCl [(mo, .inr (12, [.ref nw, .ref kp, .ref ik, .ref mr, .long la_, .long lb_, .ref mw, .long lc_, .int ti_, .int cb_, .long ld_, .long le_, .ref mq, .ref mz, .ref my, .int sm_, .ref mb, .int (nI jb), .int (nI z_1), .int 0, .int 1, .int 0, .ref mx, .ref mv])), (mb, .inl (cb2_, 150, .inl fy_))] H := hP
            have hD : va_D A [(mo, .inr (12, [.ref nw, .ref kp, .ref ik, .ref mr, .long la_, .long lb_, .ref mw, .long lc_, .int ti_, .int cb_, .long ld_, .long le_, .ref mq, .ref mz, .ref my, .int sm_, .ref mb, .int (nI jb), .int (nI z_1), .int 0, .int 1, .int 0, .ref mx, .ref mv])), (mb, .inl (cb2_, 150, .inl fy_))] := hD
            refine lv_aload_n hx hb dX12_lookAt_117 rfl (lv_at hl 1 rfl) ?_
            refine lv_iconst (v := 1) hx hb dX12_lookAt_118 (by decide) ?_
            refine va_put (D := (dC, dI)) (ci := 12) (v := .int 1) (ty := .int) (C := RX12) (T := TX12) (N := 24) hx hb hts iw_m_lookAt_X12 tyX12 tyX12_ok nmX12 hown hK hP hD hS 0 rfl rfl 19 (by decide) (hts (.fieldLink RX12 267 "ThriceCountedModel" "tokenLong" "I") (by decide +kernel)) (fun _ h9 => h9) rfl (by decide +kernel) rfl rfl (Nat.le_of_ble_eq_true rfl) dX12_lookAt_119 (fun H locs hP hD hS => ?_)
            have hP : va_P (dC, dI) vwCl [(mo, .inr (12, [.ref nw, .ref kp, .ref ik, .ref mr, .long la_, .long lb_, .ref mw, .long lc_, .int ti_, .int cb_, .long ld_, .long le_, .ref mq, .ref mz, .ref my, .int sm_, .ref mb, .int (nI jb), .int (nI z_1), .int 1, .int 1, .int 0, .ref mx, .ref mv])), (mb, .inl (cb2_, 150, .inl fy_))] H := hP
            have hD : va_D A [(mo, .inr (12, [.ref nw, .ref kp, .ref ik, .ref mr, .long la_, .long lb_, .ref mw, .long lc_, .int ti_, .int cb_, .long ld_, .long le_, .ref mq, .ref mz, .ref my, .int sm_, .ref mb, .int (nI jb), .int (nI z_1), .int 1, .int 1, .int 0, .ref mx, .ref mv])), (mb, .inl (cb2_, 150, .inl fy_))] := hD
            refine lv_aload_n hx hb dX12_lookAt_122 rfl (lv_at hl 1 rfl) ?_
            refine va_get (D := (dC, dI)) (ci := 12) (v := .int 1) (C := RX12) (T := TX12) (N := 24) hx hb hts iw_m_lookAt_X12 hown hK hP 0 rfl rfl 20 (by decide) (hts (.fieldLink RX12 270 "ThriceCountedModel" "token" "I") (by decide +kernel)) (fun _ h9 => h9) rfl dX12_lookAt_123 ?_
            refine lv_iconst (v := 3) hx hb dX12_lookAt_126 (by decide) ?_
            refine lv_icmp_ge (tgt := 134) hx hb dX12_lookAt_127 (by decide) (fun c_297 => ?_) (fun c_297 => ?_)
            · exact absurd c_297 (by decide)
            · refine lv_iconst (v := 1) hx hb dX12_lookAt_130 (by decide) ?_
              refine lv_goto (tgt := 135) hx hb dX12_lookAt_131 (by decide) ?_
              refine lv_istore_n (lv' := [(3, .int 1), (2, .int x_292), (0, .ref mo), (1, .int (nI jf))]) hx hb dX12_lookAt_135 rfl hl (by decide) rfl (fun ls hl => ?_)
              refine tz_while (σ := Nat × Int32 × Heap × List Loc × Array Slot) (fun x => W p l e _ s m _ below meth c x.2.2.1 x.2.2.2.1 _ _ _ (F0 m 136 x.2.2.2.2 [])) (fun x => 1 ≤ x.1 ∧ z_1 + x.1 ≤ jb ∧ va_P (dC, dI) vwCl [(mo, .inr (12, [.ref nw, .ref kp, .ref ik, .ref mr, .long la_, .long lb_, .ref mw, .long lc_, .int ti_, .int cb_, .long ld_, .long le_, .ref mq, .ref mz, .ref my, .int sm_, .ref mb, .int (nI jb), .int (nI z_1), .int (nI x.1), .int 1, .int 0, .ref mx, .ref mv])), (mb, .inl (cb2_, 150, .inl fy_))] x.2.2.1 ∧ va_D A [(mo, .inr (12, [.ref nw, .ref kp, .ref ik, .ref mr, .long la_, .long lb_, .ref mw, .long lc_, .int ti_, .int cb_, .long ld_, .long le_, .ref mq, .ref mz, .ref my, .int sm_, .ref mb, .int (nI jb), .int (nI z_1), .int (nI x.1), .int 1, .int 0, .ref mx, .ref mv])), (mb, .inl (cb2_, 150, .inl fy_))] ∧ va_S A s.heap x.2.2.1 x.2.2.2.1 ∧ lv_has x.2.2.2.2 5 [(3, .int x.2.1), (2, .int x_292), (0, .ref mo), (1, .int (nI jf))]) (fun x => 2 * (jb - x.1) + tz_fl x.2.1) ?_ (1, 1, H, locs, ls) ⟨by (try dsimp only); omega, by (try dsimp only); omega, hP, hD, hS, hl⟩
              rintro ⟨z_298, v_310, H, locs, ls⟩ ⟨hi_322_0, hi_323_1, hP, hD, hS, hl⟩ ih_324
              dsimp only at hi_322_0 hi_323_1 hP hD hS hl ih_324 ⊢
              refine lv_iload_n hx hb dX12_lookAt_136 rfl (lv_at hl 0 rfl) ?_
              refine lv_if_eq (tgt := 215) hx hb dX12_lookAt_137 (by decide) (fun c_325 => ?_) (fun c_325 => ?_)
              · refine lv_iconst (v := 0) hx hb dX12_lookAt_215 (by decide) ?_
                refine lv_istore (lv' := [(4, .int 0), (3, .int v_310), (2, .int x_292), (0, .ref mo), (1, .int (nI jf))]) hx hb dX12_lookAt_216 hl (by decide) rfl (fun ls hl => ?_)
                refine tz_while (σ := Nat × Array Slot) (fun x => W p l e _ s m _ below meth c _ _ _ _ _ (F0 m 218 x.2 [])) (fun x => x.1 ≤ z_298 ∧ lv_has x.2 5 [(4, .int (nI x.1)), (3, .int v_310), (2, .int x_292), (0, .ref mo), (1, .int (nI jf))]) (fun x => z_298 - x.1) ?_ (0, ls) ⟨by (try dsimp only); omega, hl⟩
                rintro ⟨k_326, ls⟩ ⟨hi_334_0, hl⟩ ih_335
                dsimp only at hi_334_0 hl ih_335 ⊢
                refine lv_iload hx hb dX12_lookAt_218 (lv_at hl 0 rfl) ?_
                refine lv_aload_n hx hb dX12_lookAt_220 rfl (lv_at hl 3 rfl) ?_
                refine va_get (D := (dC, dI)) (ci := 12) (v := .int (nI z_298)) (C := RX12) (T := TX12) (N := 24) hx hb hts iw_m_lookAt_X12 hown hK hP 0 rfl rfl 19 (by decide) (hts (.fieldLink RX12 267 "ThriceCountedModel" "tokenLong" "I") (by decide +kernel)) (fun _ h9 => h9) rfl dX12_lookAt_221 ?_
                refine lv_icmp_ge (tgt := 274) hx hb dX12_lookAt_224 (by decide) (fun c_336 => ?_) (fun c_336 => ?_)
                · have hn_337 : z_298 ≤ k_326 := (nI_leI (a := z_298) (b := k_326) (by omega) (by omega)).mp c_336
                  refine lv_aload_n hx hb dX12_lookAt_274 rfl (lv_at hl 3 rfl) ?_
                  refine lv_aload_n hx hb dX12_lookAt_275 rfl (lv_at hl 3 rfl) ?_
                  refine va_get (D := (dC, dI)) (ci := 12) (v := .int 1) (C := RX12) (T := TX12) (N := 24) hx hb hts iw_m_lookAt_X12 hown hK hP 0 rfl rfl 20 (by decide) (hts (.fieldLink RX12 270 "ThriceCountedModel" "token" "I") (by decide +kernel)) (fun _ h9 => h9) rfl dX12_lookAt_276 ?_
                  refine lv_iconst (v := 2) hx hb dX12_lookAt_279 (by decide) ?_
                  refine lv_icmp_ne (tgt := 295) hx hb dX12_lookAt_280 (by decide) (fun c_338 => ?_) (fun c_338 => ?_)
                  · refine lv_aload_n hx hb dX12_lookAt_295 rfl (lv_at hl 3 rfl) ?_
                    refine va_get (D := (dC, dI)) (ci := 12) (v := .int 1) (C := RX12) (T := TX12) (N := 24) hx hb hts iw_m_lookAt_X12 hown hK hP 0 rfl rfl 20 (by decide) (hts (.fieldLink RX12 270 "ThriceCountedModel" "token" "I") (by decide +kernel)) (fun _ h9 => h9) rfl dX12_lookAt_296 ?_
                    refine va_put (D := (dC, dI)) (ci := 12) (v := .int 1) (ty := .int) (C := RX12) (T := TX12) (N := 24) hx hb hts iw_m_lookAt_X12 tyX12 tyX12_ok nmX12 hown hK hP hD hS 0 rfl rfl 20 (by decide) (hts (.fieldLink RX12 270 "ThriceCountedModel" "token" "I") (by decide +kernel)) (fun _ h9 => h9) rfl (by decide +kernel) rfl rfl (Nat.le_of_ble_eq_true rfl) dX12_lookAt_299 (fun H locs hP hD hS => ?_)
                    have hP : va_P (dC, dI) vwCl [(mo, .inr (12, [.ref nw, .ref kp, .ref ik, .ref mr, .long la_, .long lb_, .ref mw, .long lc_, .int ti_, .int cb_, .long ld_, .long le_, .ref mq, .ref mz, .ref my, .int sm_, .ref mb, .int (nI jb), .int (nI z_1), .int (nI z_298), .int 1, .int 0, .ref mx, .ref mv])), (mb, .inl (cb2_, 150, .inl fy_))] H := hP
                    have hD : va_D A [(mo, .inr (12, [.ref nw, .ref kp, .ref ik, .ref mr, .long la_, .long lb_, .ref mw, .long lc_, .int ti_, .int cb_, .long ld_, .long le_, .ref mq, .ref mz, .ref my, .int sm_, .ref mb, .int (nI jb), .int (nI z_1), .int (nI z_298), .int 1, .int 0, .ref mx, .ref mv])), (mb, .inl (cb2_, 150, .inl fy_))] := hD
                    have hP9 := hP.sub (ws' := [(mo, .inr (12, [.ref nw, .ref kp, .ref ik, .ref mr, .long la_, .long lb_, .ref mw, .long lc_, .int ti_, .int cb_, .long ld_, .long le_, .ref mq, .ref mz, .ref my, .int sm_, .ref mb, .int (nI jb), .int (nI z_1), .int (nI z_298), .int 1, .int 0, .ref mx, .ref mv])), (mb, .inl (cb2_, 150, .inl fy_))]) [0, 1] rfl
                    have hD9 := hD.sub (ws' := [(mo, .inr (12, [.ref nw, .ref kp, .ref ik, .ref mr, .long la_, .long lb_, .ref mw, .long lc_, .int ti_, .int cb_, .long ld_, .long le_, .ref mq, .ref mz, .ref my, .int sm_, .ref mb, .int (nI jb), .int (nI z_1), .int (nI z_298), .int 1, .int 0, .ref mx, .ref mv])), (mb, .inl (cb2_, 150, .inl fy_))]) [0, 1] (by decide) rfl
                    have hK9 := hK.sub (tys' := [(cb2_, .int)]) [0] rfl
                    exact W.vret hx hb hr (fun t ht hW => ⟨⟨(), rfl, trivial, 1, 0, z_1, z_298, by omega, by omega, fun q => absurd q (by decide), by rw [ht]; exact hP9, va_K.moved hW.alike hK9, hD9⟩, hS.F ht⟩) hS.2.2 dX12_lookAt_302
                  · exact absurd c_338 (by decide)
                · have hn_339 : ¬ z_298 ≤ k_326 := fun q => c_336 ((nI_leI (a := z_298) (b := k_326) (by omega) (by omega)).mpr q)
                  refine lv_iload hx hb dX12_lookAt_227 (lv_at hl 0 rfl) ?_
                  refine lv_iconst (v := 3) hx hb dX12_lookAt_229 (by decide) ?_
                  refine lv_icmp_ge (tgt := 274) hx hb dX12_lookAt_230 (by decide) (fun c_340 => ?_) (fun c_340 => ?_)
                  · have hn_341 : 3 ≤ k_326 := (nI_leI (a := 3) (b := k_326) (by omega) (by omega)).mp c_340
                    refine lv_aload_n hx hb dX12_lookAt_274 rfl (lv_at hl 3 rfl) ?_
                    refine lv_aload_n hx hb dX12_lookAt_275 rfl (lv_at hl 3 rfl) ?_
                    refine va_get (D := (dC, dI)) (ci := 12) (v := .int 1) (C := RX12) (T := TX12) (N := 24) hx hb hts iw_m_lookAt_X12 hown hK hP 0 rfl rfl 20 (by decide) (hts (.fieldLink RX12 270 "ThriceCountedModel" "token" "I") (by decide +kernel)) (fun _ h9 => h9) rfl dX12_lookAt_276 ?_
                    refine lv_iconst (v := 2) hx hb dX12_lookAt_279 (by decide) ?_
                    refine lv_icmp_ne (tgt := 295) hx hb dX12_lookAt_280 (by decide) (fun c_342 => ?_) (fun c_342 => ?_)
                    · refine lv_aload_n hx hb dX12_lookAt_295 rfl (lv_at hl 3 rfl) ?_
                      refine va_get (D := (dC, dI)) (ci := 12) (v := .int 1) (C := RX12) (T := TX12) (N := 24) hx hb hts iw_m_lookAt_X12 hown hK hP 0 rfl rfl 20 (by decide) (hts (.fieldLink RX12 270 "ThriceCountedModel" "token" "I") (by decide +kernel)) (fun _ h9 => h9) rfl dX12_lookAt_296 ?_
                      refine va_put (D := (dC, dI)) (ci := 12) (v := .int 1) (ty := .int) (C := RX12) (T := TX12) (N := 24) hx hb hts iw_m_lookAt_X12 tyX12 tyX12_ok nmX12 hown hK hP hD hS 0 rfl rfl 20 (by decide) (hts (.fieldLink RX12 270 "ThriceCountedModel" "token" "I") (by decide +kernel)) (fun _ h9 => h9) rfl (by decide +kernel) rfl rfl (Nat.le_of_ble_eq_true rfl) dX12_lookAt_299 (fun H locs hP hD hS => ?_)
                      have hP : va_P (dC, dI) vwCl [(mo, .inr (12, [.ref nw, .ref kp, .ref ik, .ref mr, .long la_, .long lb_, .ref mw, .long lc_, .int ti_, .int cb_, .long ld_, .long le_, .ref mq, .ref mz, .ref my, .int sm_, .ref mb, .int (nI jb), .int (nI z_1), .int (nI z_298), .int 1, .int 0, .ref mx, .ref mv])), (mb, .inl (cb2_, 150, .inl fy_))] H := hP
                      have hD : va_D A [(mo, .inr (12, [.ref nw, .ref kp, .ref ik, .ref mr, .long la_, .long lb_, .ref mw, .long lc_, .int ti_, .int cb_, .long ld_, .long le_, .ref mq, .ref mz, .ref my, .int sm_, .ref mb, .int (nI jb), .int (nI z_1), .int (nI z_298), .int 1, .int 0, .ref mx, .ref mv])), (mb, .inl (cb2_, 150, .inl fy_))] := hD
                      have hP9 := hP.sub (ws' := [(mo, .inr (12, [.ref nw, .ref kp, .ref ik, .ref mr, .long la_, .long lb_, .ref mw, .long lc_, .int ti_, .int cb_, .long ld_, .long le_, .ref mq, .ref mz, .ref my, .int sm_, .ref mb, .int (nI jb), .int (nI z_1), .int (nI z_298), .int 1, .int 0, .ref mx, .ref mv])), (mb, .inl (cb2_, 150, .inl fy_))]) [0, 1] rfl
                      have hD9 := hD.sub (ws' := [(mo, .inr (12, [.ref nw, .ref kp, .ref ik, .ref mr, .long la_, .long lb_, .ref mw, .long lc_, .int ti_, .int cb_, .long ld_, .long le_, .ref mq, .ref mz, .ref my, .int sm_, .ref mb, .int (nI jb), .int (nI z_1), .int (nI z_298), .int 1, .int 0, .ref mx, .ref mv])), (mb, .inl (cb2_, 150, .inl fy_))]) [0, 1] (by decide) rfl
                      have hK9 := hK.sub (tys' := [(cb2_, .int)]) [0] rfl
                      exact W.vret hx hb hr (fun t ht hW => ⟨⟨(), rfl, trivial, 1, 0, z_1, z_298, by omega, by omega, fun q => absurd q (by decide), by rw [ht]; exact hP9, va_K.moved hW.alike hK9, hD9⟩, hS.F ht⟩) hS.2.2 dX12_lookAt_302
                    · exact absurd c_342 (by decide)
                  · have hn_343 : ¬ 3 ≤ k_326 := fun q => c_340 ((nI_leI (a := 3) (b := k_326) (by omega) (by omega)).mpr q)
                    refine lv_aload_n hx hb dX12_lookAt_233 rfl (lv_at hl 3 rfl) ?_
                    refine va_get (D := (dC, dI)) (ci := 12) (v := .int 1) (C := RX12) (T := TX12) (N := 24) hx hb hts iw_m_lookAt_X12 hown hK hP 0 rfl rfl 20 (by decide) (hts (.fieldLink RX12 270 "ThriceCountedModel" "token" "I") (by decide +kernel)) (fun _ h9 => h9) rfl dX12_lookAt_234 ?_
                    refine lv_iconst (v := 2) hx hb dX12_lookAt_237 (by decide) ?_
                    refine lv_icmp_ne (tgt := 274) hx hb dX12_lookAt_238 (by decide) (fun c_344 => ?_) (fun c_344 => ?_)
                    · refine lv_aload_n hx hb dX12_lookAt_274 rfl (lv_at hl 3 rfl) ?_
                      refine lv_aload_n hx hb dX12_lookAt_275 rfl (lv_at hl 3 rfl) ?_
                      refine va_get (D := (dC, dI)) (ci := 12) (v := .int 1) (C := RX12) (T := TX12) (N := 24) hx hb hts iw_m_lookAt_X12 hown hK hP 0 rfl rfl 20 (by decide) (hts (.fieldLink RX12 270 "ThriceCountedModel" "token" "I") (by decide +kernel)) (fun _ h9 => h9) rfl dX12_lookAt_276 ?_
                      refine lv_iconst (v := 2) hx hb dX12_lookAt_279 (by decide) ?_
                      refine lv_icmp_ne (tgt := 295) hx hb dX12_lookAt_280 (by decide) (fun c_345 => ?_) (fun c_345 => ?_)
                      · refine lv_aload_n hx hb dX12_lookAt_295 rfl (lv_at hl 3 rfl) ?_
                        refine va_get (D := (dC, dI)) (ci := 12) (v := .int 1) (C := RX12) (T := TX12) (N := 24) hx hb hts iw_m_lookAt_X12 hown hK hP 0 rfl rfl 20 (by decide) (hts (.fieldLink RX12 270 "ThriceCountedModel" "token" "I") (by decide +kernel)) (fun _ h9 => h9) rfl dX12_lookAt_296 ?_
                        refine va_put (D := (dC, dI)) (ci := 12) (v := .int 1) (ty := .int) (C := RX12) (T := TX12) (N := 24) hx hb hts iw_m_lookAt_X12 tyX12 tyX12_ok nmX12 hown hK hP hD hS 0 rfl rfl 20 (by decide) (hts (.fieldLink RX12 270 "ThriceCountedModel" "token" "I") (by decide +kernel)) (fun _ h9 => h9) rfl (by decide +kernel) rfl rfl (Nat.le_of_ble_eq_true rfl) dX12_lookAt_299 (fun H locs hP hD hS => ?_)
                        have hP : va_P (dC, dI) vwCl [(mo, .inr (12, [.ref nw, .ref kp, .ref ik, .ref mr, .long la_, .long lb_, .ref mw, .long lc_, .int ti_, .int cb_, .long ld_, .long le_, .ref mq, .ref mz, .ref my, .int sm_, .ref mb, .int (nI jb), .int (nI z_1), .int (nI z_298), .int 1, .int 0, .ref mx, .ref mv])), (mb, .inl (cb2_, 150, .inl fy_))] H := hP
                        have hD : va_D A [(mo, .inr (12, [.ref nw, .ref kp, .ref ik, .ref mr, .long la_, .long lb_, .ref mw, .long lc_, .int ti_, .int cb_, .long ld_, .long le_, .ref mq, .ref mz, .ref my, .int sm_, .ref mb, .int (nI jb), .int (nI z_1), .int (nI z_298), .int 1, .int 0, .ref mx, .ref mv])), (mb, .inl (cb2_, 150, .inl fy_))] := hD
                        have hP9 := hP.sub (ws' := [(mo, .inr (12, [.ref nw, .ref kp, .ref ik, .ref mr, .long la_, .long lb_, .ref mw, .long lc_, .int ti_, .int cb_, .long ld_, .long le_, .ref mq, .ref mz, .ref my, .int sm_, .ref mb, .int (nI jb), .int (nI z_1), .int (nI z_298), .int 1, .int 0, .ref mx, .ref mv])), (mb, .inl (cb2_, 150, .inl fy_))]) [0, 1] rfl
                        have hD9 := hD.sub (ws' := [(mo, .inr (12, [.ref nw, .ref kp, .ref ik, .ref mr, .long la_, .long lb_, .ref mw, .long lc_, .int ti_, .int cb_, .long ld_, .long le_, .ref mq, .ref mz, .ref my, .int sm_, .ref mb, .int (nI jb), .int (nI z_1), .int (nI z_298), .int 1, .int 0, .ref mx, .ref mv])), (mb, .inl (cb2_, 150, .inl fy_))]) [0, 1] (by decide) rfl
                        have hK9 := hK.sub (tys' := [(cb2_, .int)]) [0] rfl
                        exact W.vret hx hb hr (fun t ht hW => ⟨⟨(), rfl, trivial, 1, 0, z_1, z_298, by omega, by omega, fun q => absurd q (by decide), by rw [ht]; exact hP9, va_K.moved hW.alike hK9, hD9⟩, hS.F ht⟩) hS.2.2 dX12_lookAt_302
                      · exact absurd c_345 (by decide)
                    · exact absurd c_344 (by decide)
              · refine lv_aload_n hx hb dX12_lookAt_140 rfl (lv_at hl 2 rfl) ?_
                refine va_get (D := (dC, dI)) (ci := 12) (v := .int (nI z_1)) (C := RX12) (T := TX12) (N := 24) hx hb hts iw_m_lookAt_X12 hown hK hP 0 rfl rfl 18 (by decide) (hts (.fieldLink RX12 264 "ThriceCountedModel" "tokenAt" "I") (by decide +kernel)) (fun _ h9 => h9) rfl dX12_lookAt_141 ?_
                refine lv_aload_n hx hb dX12_lookAt_144 rfl (lv_at hl 2 rfl) ?_
                refine va_get (D := (dC, dI)) (ci := 12) (v := .int (nI z_298)) (C := RX12) (T := TX12) (N := 24) hx hb hts iw_m_lookAt_X12 hown hK hP 0 rfl rfl 19 (by decide) (hts (.fieldLink RX12 267 "ThriceCountedModel" "tokenLong" "I") (by decide +kernel)) (fun _ h9 => h9) rfl dX12_lookAt_145 ?_
                refine lv_iadd hx hb dX12_lookAt_148 ?_
                refine tz_i (nI (z_1 + z_298)) (nI_add z_1 z_298) ?_
                refine lv_aload_n hx hb dX12_lookAt_149 rfl (lv_at hl 2 rfl) ?_
                refine va_get (D := (dC, dI)) (ci := 12) (v := .int (nI jb)) (C := RX12) (T := TX12) (N := 24) hx hb hts iw_m_lookAt_X12 hown hK hP 0 rfl rfl 17 (by decide) (hts (.fieldLink RX12 253 "ThriceCountedModel" "bytesLong" "I") (by decide +kernel)) (fun _ h9 => h9) rfl dX12_lookAt_150 ?_
                refine lv_icmp_ge (tgt := 215) hx hb dX12_lookAt_153 (by decide) (fun c_346 => ?_) (fun c_346 => ?_)
                · have hn_347 : jb ≤ (z_1 + z_298) := (nI_leI (a := jb) (b := (z_1 + z_298)) (by omega) (by omega)).mp c_346
                  refine lv_iconst (v := 0) hx hb dX12_lookAt_215 (by decide) ?_
                  refine lv_istore (lv' := [(4, .int 0), (3, .int v_310), (2, .int x_292), (0, .ref mo), (1, .int (nI jf))]) hx hb dX12_lookAt_216 hl (by decide) rfl (fun ls hl => ?_)
                  refine tz_while (σ := Nat × Array Slot) (fun x => W p l e _ s m _ below meth c _ _ _ _ _ (F0 m 218 x.2 [])) (fun x => x.1 ≤ z_298 ∧ lv_has x.2 5 [(4, .int (nI x.1)), (3, .int v_310), (2, .int x_292), (0, .ref mo), (1, .int (nI jf))]) (fun x => z_298 - x.1) ?_ (0, ls) ⟨by (try dsimp only); omega, hl⟩
                  rintro ⟨k_348, ls⟩ ⟨hi_356_0, hl⟩ ih_357
                  dsimp only at hi_356_0 hl ih_357 ⊢
                  refine lv_iload hx hb dX12_lookAt_218 (lv_at hl 0 rfl) ?_
                  refine lv_aload_n hx hb dX12_lookAt_220 rfl (lv_at hl 3 rfl) ?_
                  refine va_get (D := (dC, dI)) (ci := 12) (v := .int (nI z_298)) (C := RX12) (T := TX12) (N := 24) hx hb hts iw_m_lookAt_X12 hown hK hP 0 rfl rfl 19 (by decide) (hts (.fieldLink RX12 267 "ThriceCountedModel" "tokenLong" "I") (by decide +kernel)) (fun _ h9 => h9) rfl dX12_lookAt_221 ?_
                  refine lv_icmp_ge (tgt := 274) hx hb dX12_lookAt_224 (by decide) (fun c_358 => ?_) (fun c_358 => ?_)
                  · have hn_359 : z_298 ≤ k_348 := (nI_leI (a := z_298) (b := k_348) (by omega) (by omega)).mp c_358
                    refine lv_aload_n hx hb dX12_lookAt_274 rfl (lv_at hl 3 rfl) ?_
                    refine lv_aload_n hx hb dX12_lookAt_275 rfl (lv_at hl 3 rfl) ?_
                    refine va_get (D := (dC, dI)) (ci := 12) (v := .int 1) (C := RX12) (T := TX12) (N := 24) hx hb hts iw_m_lookAt_X12 hown hK hP 0 rfl rfl 20 (by decide) (hts (.fieldLink RX12 270 "ThriceCountedModel" "token" "I") (by decide +kernel)) (fun _ h9 => h9) rfl dX12_lookAt_276 ?_
                    refine lv_iconst (v := 2) hx hb dX12_lookAt_279 (by decide) ?_
                    refine lv_icmp_ne (tgt := 295) hx hb dX12_lookAt_280 (by decide) (fun c_360 => ?_) (fun c_360 => ?_)
                    · refine lv_aload_n hx hb dX12_lookAt_295 rfl (lv_at hl 3 rfl) ?_
                      refine va_get (D := (dC, dI)) (ci := 12) (v := .int 1) (C := RX12) (T := TX12) (N := 24) hx hb hts iw_m_lookAt_X12 hown hK hP 0 rfl rfl 20 (by decide) (hts (.fieldLink RX12 270 "ThriceCountedModel" "token" "I") (by decide +kernel)) (fun _ h9 => h9) rfl dX12_lookAt_296 ?_
                      refine va_put (D := (dC, dI)) (ci := 12) (v := .int 1) (ty := .int) (C := RX12) (T := TX12) (N := 24) hx hb hts iw_m_lookAt_X12 tyX12 tyX12_ok nmX12 hown hK hP hD hS 0 rfl rfl 20 (by decide) (hts (.fieldLink RX12 270 "ThriceCountedModel" "token" "I") (by decide +kernel)) (fun _ h9 => h9) rfl (by decide +kernel) rfl rfl (Nat.le_of_ble_eq_true rfl) dX12_lookAt_299 (fun H locs hP hD hS => ?_)
                      have hP : va_P (dC, dI) vwCl [(mo, .inr (12, [.ref nw, .ref kp, .ref ik, .ref mr, .long la_, .long lb_, .ref mw, .long lc_, .int ti_, .int cb_, .long ld_, .long le_, .ref mq, .ref mz, .ref my, .int sm_, .ref mb, .int (nI jb), .int (nI z_1), .int (nI z_298), .int 1, .int 0, .ref mx, .ref mv])), (mb, .inl (cb2_, 150, .inl fy_))] H := hP
                      have hD : va_D A [(mo, .inr (12, [.ref nw, .ref kp, .ref ik, .ref mr, .long la_, .long lb_, .ref mw, .long lc_, .int ti_, .int cb_, .long ld_, .long le_, .ref mq, .ref mz, .ref my, .int sm_, .ref mb, .int (nI jb), .int (nI z_1), .int (nI z_298), .int 1, .int 0, .ref mx, .ref mv])), (mb, .inl (cb2_, 150, .inl fy_))] := hD
                      have hP9 := hP.sub (ws' := [(mo, .inr (12, [.ref nw, .ref kp, .ref ik, .ref mr, .long la_, .long lb_, .ref mw, .long lc_, .int ti_, .int cb_, .long ld_, .long le_, .ref mq, .ref mz, .ref my, .int sm_, .ref mb, .int (nI jb), .int (nI z_1), .int (nI z_298), .int 1, .int 0, .ref mx, .ref mv])), (mb, .inl (cb2_, 150, .inl fy_))]) [0, 1] rfl
                      have hD9 := hD.sub (ws' := [(mo, .inr (12, [.ref nw, .ref kp, .ref ik, .ref mr, .long la_, .long lb_, .ref mw, .long lc_, .int ti_, .int cb_, .long ld_, .long le_, .ref mq, .ref mz, .ref my, .int sm_, .ref mb, .int (nI jb), .int (nI z_1), .int (nI z_298), .int 1, .int 0, .ref mx, .ref mv])), (mb, .inl (cb2_, 150, .inl fy_))]) [0, 1] (by decide) rfl
                      have hK9 := hK.sub (tys' := [(cb2_, .int)]) [0] rfl
                      exact W.vret hx hb hr (fun t ht hW => ⟨⟨(), rfl, trivial, 1, 0, z_1, z_298, by omega, by omega, fun q => absurd q (by decide), by rw [ht]; exact hP9, va_K.moved hW.alike hK9, hD9⟩, hS.F ht⟩) hS.2.2 dX12_lookAt_302
                    · exact absurd c_360 (by decide)
                  · have hn_361 : ¬ z_298 ≤ k_348 := fun q => c_358 ((nI_leI (a := z_298) (b := k_348) (by omega) (by omega)).mpr q)
                    refine lv_iload hx hb dX12_lookAt_227 (lv_at hl 0 rfl) ?_
                    refine lv_iconst (v := 3) hx hb dX12_lookAt_229 (by decide) ?_
                    refine lv_icmp_ge (tgt := 274) hx hb dX12_lookAt_230 (by decide) (fun c_362 => ?_) (fun c_362 => ?_)
                    · have hn_363 : 3 ≤ k_348 := (nI_leI (a := 3) (b := k_348) (by omega) (by omega)).mp c_362
                      refine lv_aload_n hx hb dX12_lookAt_274 rfl (lv_at hl 3 rfl) ?_
                      refine lv_aload_n hx hb dX12_lookAt_275 rfl (lv_at hl 3 rfl) ?_
                      refine va_get (D := (dC, dI)) (ci := 12) (v := .int 1) (C := RX12) (T := TX12) (N := 24) hx hb hts iw_m_lookAt_X12 hown hK hP 0 rfl rfl 20 (by decide) (hts (.fieldLink RX12 270 "ThriceCountedModel" "token" "I") (by decide +kernel)) (fun _ h9 => h9) rfl dX12_lookAt_276 ?_
                      refine lv_iconst (v := 2) hx hb dX12_lookAt_279 (by decide) ?_
                      refine lv_icmp_ne (tgt := 295) hx hb dX12_lookAt_280 (by decide) (fun c_364 => ?_) (fun c_364 => ?_)
                      · refine lv_aload_n hx hb dX12_lookAt_295 rfl (lv_at hl 3 rfl) ?_
                        refine va_get (D := (dC, dI)) (ci := 12) (v := .int 1) (C := RX12) (T := TX12) (N := 24) hx hb hts iw_m_lookAt_X12 hown hK hP 0 rfl rfl 20 (by decide) (hts (.fieldLink RX12 270 "ThriceCountedModel" "token" "I") (by decide +kernel)) (fun _ h9 => h9) rfl dX12_lookAt_296 ?_
                        refine va_put (D := (dC, dI)) (ci := 12) (v := .int 1) (ty := .int) (C := RX12) (T := TX12) (N := 24) hx hb hts iw_m_lookAt_X12 tyX12 tyX12_ok nmX12 hown hK hP hD hS 0 rfl rfl 20 (by decide) (hts (.fieldLink RX12 270 "ThriceCountedModel" "token" "I") (by decide +kernel)) (fun _ h9 => h9) rfl (by decide +kernel) rfl rfl (Nat.le_of_ble_eq_true rfl) dX12_lookAt_299 (fun H locs hP hD hS => ?_)
                        have hP : va_P (dC, dI) vwCl [(mo, .inr (12, [.ref nw, .ref kp, .ref ik, .ref mr, .long la_, .long lb_, .ref mw, .long lc_, .int ti_, .int cb_, .long ld_, .long le_, .ref mq, .ref mz, .ref my, .int sm_, .ref mb, .int (nI jb), .int (nI z_1), .int (nI z_298), .int 1, .int 0, .ref mx, .ref mv])), (mb, .inl (cb2_, 150, .inl fy_))] H := hP
                        have hD : va_D A [(mo, .inr (12, [.ref nw, .ref kp, .ref ik, .ref mr, .long la_, .long lb_, .ref mw, .long lc_, .int ti_, .int cb_, .long ld_, .long le_, .ref mq, .ref mz, .ref my, .int sm_, .ref mb, .int (nI jb), .int (nI z_1), .int (nI z_298), .int 1, .int 0, .ref mx, .ref mv])), (mb, .inl (cb2_, 150, .inl fy_))] := hD
                        have hP9 := hP.sub (ws' := [(mo, .inr (12, [.ref nw, .ref kp, .ref ik, .ref mr, .long la_, .long lb_, .ref mw, .long lc_, .int ti_, .int cb_, .long ld_, .long le_, .ref mq, .ref mz, .ref my, .int sm_, .ref mb, .int (nI jb), .int (nI z_1), .int (nI z_298), .int 1, .int 0, .ref mx, .ref mv])), (mb, .inl (cb2_, 150, .inl fy_))]) [0, 1] rfl
                        have hD9 := hD.sub (ws' := [(mo, .inr (12, [.ref nw, .ref kp, .ref ik, .ref mr, .long la_, .long lb_, .ref mw, .long lc_, .int ti_, .int cb_, .long ld_, .long le_, .ref mq, .ref mz, .ref my, .int sm_, .ref mb, .int (nI jb), .int (nI z_1), .int (nI z_298), .int 1, .int 0, .ref mx, .ref mv])), (mb, .inl (cb2_, 150, .inl fy_))]) [0, 1] (by decide) rfl
                        have hK9 := hK.sub (tys' := [(cb2_, .int)]) [0] rfl
                        exact W.vret hx hb hr (fun t ht hW => ⟨⟨(), rfl, trivial, 1, 0, z_1, z_298, by omega, by omega, fun q => absurd q (by decide), by rw [ht]; exact hP9, va_K.moved hW.alike hK9, hD9⟩, hS.F ht⟩) hS.2.2 dX12_lookAt_302
                      · exact absurd c_364 (by decide)
                    · have hn_365 : ¬ 3 ≤ k_348 := fun q => c_362 ((nI_leI (a := 3) (b := k_348) (by omega) (by omega)).mpr q)
                      refine lv_aload_n hx hb dX12_lookAt_233 rfl (lv_at hl 3 rfl) ?_
                      refine va_get (D := (dC, dI)) (ci := 12) (v := .int 1) (C := RX12) (T := TX12) (N := 24) hx hb hts iw_m_lookAt_X12 hown hK hP 0 rfl rfl 20 (by decide) (hts (.fieldLink RX12 270 "ThriceCountedModel" "token" "I") (by decide +kernel)) (fun _ h9 => h9) rfl dX12_lookAt_234 ?_
                      refine lv_iconst (v := 2) hx hb dX12_lookAt_237 (by decide) ?_
                      refine lv_icmp_ne (tgt := 274) hx hb dX12_lookAt_238 (by decide) (fun c_366 => ?_) (fun c_366 => ?_)
                      · refine lv_aload_n hx hb dX12_lookAt_274 rfl (lv_at hl 3 rfl) ?_
                        refine lv_aload_n hx hb dX12_lookAt_275 rfl (lv_at hl 3 rfl) ?_
                        refine va_get (D := (dC, dI)) (ci := 12) (v := .int 1) (C := RX12) (T := TX12) (N := 24) hx hb hts iw_m_lookAt_X12 hown hK hP 0 rfl rfl 20 (by decide) (hts (.fieldLink RX12 270 "ThriceCountedModel" "token" "I") (by decide +kernel)) (fun _ h9 => h9) rfl dX12_lookAt_276 ?_
                        refine lv_iconst (v := 2) hx hb dX12_lookAt_279 (by decide) ?_
                        refine lv_icmp_ne (tgt := 295) hx hb dX12_lookAt_280 (by decide) (fun c_367 => ?_) (fun c_367 => ?_)
                        · refine lv_aload_n hx hb dX12_lookAt_295 rfl (lv_at hl 3 rfl) ?_
                          refine va_get (D := (dC, dI)) (ci := 12) (v := .int 1) (C := RX12) (T := TX12) (N := 24) hx hb hts iw_m_lookAt_X12 hown hK hP 0 rfl rfl 20 (by decide) (hts (.fieldLink RX12 270 "ThriceCountedModel" "token" "I") (by decide +kernel)) (fun _ h9 => h9) rfl dX12_lookAt_296 ?_
                          refine va_put (D := (dC, dI)) (ci := 12) (v := .int 1) (ty := .int) (C := RX12) (T := TX12) (N := 24) hx hb hts iw_m_lookAt_X12 tyX12 tyX12_ok nmX12 hown hK hP hD hS 0 rfl rfl 20 (by decide) (hts (.fieldLink RX12 270 "ThriceCountedModel" "token" "I") (by decide +kernel)) (fun _ h9 => h9) rfl (by decide +kernel) rfl rfl (Nat.le_of_ble_eq_true rfl) dX12_lookAt_299 (fun H locs hP hD hS => ?_)
                          have hP : va_P (dC, dI) vwCl [(mo, .inr (12, [.ref nw, .ref kp, .ref ik, .ref mr, .long la_, .long lb_, .ref mw, .long lc_, .int ti_, .int cb_, .long ld_, .long le_, .ref mq, .ref mz, .ref my, .int sm_, .ref mb, .int (nI jb), .int (nI z_1), .int (nI z_298), .int 1, .int 0, .ref mx, .ref mv])), (mb, .inl (cb2_, 150, .inl fy_))] H := hP
                          have hD : va_D A [(mo, .inr (12, [.ref nw, .ref kp, .ref ik, .ref mr, .long la_, .long lb_, .ref mw, .long lc_, .int ti_, .int cb_, .long ld_, .long le_, .ref mq, .ref mz, .ref my, .int sm_, .ref mb, .int (nI jb), .int (nI z_1), .int (nI z_298), .int 1, .int 0, .ref mx, .ref mv])), (mb, .inl (cb2_, 150, .inl fy_))] := hD
                          have hP9 := hP.sub (ws' := [(mo, .inr (12, [.ref nw, .ref kp, .ref ik, .ref mr, .long la_, .long lb_, .ref mw, .long lc_, .int ti_, .int cb_, .long ld_, .long le_, .ref mq, .ref mz, .ref my, .int sm_, .ref mb, .int (nI jb), .int (nI z_1), .int (nI z_298), .int 1, .int 0, .ref mx, .ref mv])), (mb, .inl (cb2_, 150, .inl fy_))]) [0, 1] rfl
                          have hD9 := hD.sub (ws' := [(mo, .inr (12, [.ref nw, .ref kp, .ref ik, .ref mr, .long la_, .long lb_, .ref mw, .long lc_, .int ti_, .int cb_, .long ld_, .long le_, .ref mq, .ref mz, .ref my, .int sm_, .ref mb, .int (nI jb), .int (nI z_1), .int (nI z_298), .int 1, .int 0, .ref mx, .ref mv])), (mb, .inl (cb2_, 150, .inl fy_))]) [0, 1] (by decide) rfl
                          have hK9 := hK.sub (tys' := [(cb2_, .int)]) [0] rfl
                          exact W.vret hx hb hr (fun t ht hW => ⟨⟨(), rfl, trivial, 1, 0, z_1, z_298, by omega, by omega, fun q => absurd q (by decide), by rw [ht]; exact hP9, va_K.moved hW.alike hK9, hD9⟩, hS.F ht⟩) hS.2.2 dX12_lookAt_302
                        · exact absurd c_367 (by decide)
                      · exact absurd c_366 (by decide)
                · have hn_368 : ¬ jb ≤ (z_1 + z_298) := fun q => c_346 ((nI_leI (a := jb) (b := (z_1 + z_298)) (by omega) (by omega)).mpr q)
                  refine lv_aload_n hx hb dX12_lookAt_156 rfl (lv_at hl 2 rfl) ?_
                  refine va_get (D := (dC, dI)) (ci := 12) (v := .ref mb) (C := RX12) (T := TX12) (N := 24) hx hb hts iw_m_lookAt_X12 hown hK hP 0 rfl rfl 16 (by decide) (hts (.fieldLink RX12 40 "ThriceCountedModel" "bytes" "[I") (by decide +kernel)) (fun _ h9 => h9) rfl dX12_lookAt_157 ?_
                  refine lv_aload_n hx hb dX12_lookAt_160 rfl (lv_at hl 2 rfl) ?_
                  refine va_get (D := (dC, dI)) (ci := 12) (v := .int (nI z_1)) (C := RX12) (T := TX12) (N := 24) hx hb hts iw_m_lookAt_X12 hown hK hP 0 rfl rfl 18 (by decide) (hts (.fieldLink RX12 264 "ThriceCountedModel" "tokenAt" "I") (by decide +kernel)) (fun _ h9 => h9) rfl dX12_lookAt_161 ?_
                  refine lv_aload_n hx hb dX12_lookAt_164 rfl (lv_at hl 2 rfl) ?_
                  refine va_get (D := (dC, dI)) (ci := 12) (v := .int (nI z_298)) (C := RX12) (T := TX12) (N := 24) hx hb hts iw_m_lookAt_X12 hown hK hP 0 rfl rfl 19 (by decide) (hts (.fieldLink RX12 267 "ThriceCountedModel" "tokenLong" "I") (by decide +kernel)) (fun _ h9 => h9) rfl dX12_lookAt_165 ?_
                  refine lv_iadd hx hb dX12_lookAt_168 ?_
                  refine tz_i (nI (z_1 + z_298)) (nI_add z_1 z_298) ?_
                  refine va_iald hx hb hK hP 1 0 rfl rfl (vp_in_nI (n := (z_1 + z_298)) (N := 150) (by omega) (by decide)) dX12_lookAt_169 ?_
                  refine lv_topi (fun x_369 _ => ?_)
                  refine lv_istore (lv' := [(4, .int x_369), (3, .int v_310), (2, .int x_292), (0, .ref mo), (1, .int (nI jf))]) hx hb dX12_lookAt_170 hl (by decide) rfl (fun ls hl => ?_)
                  refine lv_aload_n hx hb dX12_lookAt_172 rfl (lv_at hl 3 rfl) ?_
                  refine va_get (D := (dC, dI)) (ci := 12) (v := .int 1) (C := RX12) (T := TX12) (N := 24) hx hb hts iw_m_lookAt_X12 hown hK hP 0 rfl rfl 20 (by decide) (hts (.fieldLink RX12 270 "ThriceCountedModel" "token" "I") (by decide +kernel)) (fun _ h9 => h9) rfl dX12_lookAt_173 ?_
                  refine lv_iconst (v := 1) hx hb dX12_lookAt_176 (by decide) ?_
                  refine lv_icmp_ne (tgt := 188) hx hb dX12_lookAt_177 (by decide) (fun c_370 => ?_) (fun c_370 => ?_)
                  · exact absurd c_370 (by decide)
                  · refine lv_iload hx hb dX12_lookAt_180 (lv_at hl 0 rfl) ?_
                    refine vp_callSi (va_Run.run (va_runS (As := [.int x_369]) (rest := []) ⟨hx, hb, hml, hown, hts⟩ (m_isSmall l dC dI x_369) (va_cwS 1 hts gX12_lookAt_X12_isSmall rfl rfl rfl (by decide +kernel) ⟨Nat.le_of_ble_eq_true rfl, Nat.le_of_ble_eq_true rfl⟩) ⟨fun a U g mk q => ⟨q.1, trivial⟩, fun U hU hW => ⟨rfl, trivial⟩⟩ rfl rfl hl.1 rfl (lv_room (Nat.le_of_ble_eq_true rfl)) dX12_lookAt_182 ⟨Nat.le_of_ble_eq_true rfl, Nat.le_of_ble_eq_true rfl⟩)) (fun r_371 hw_372 => ?_)
                    by_cases hc_373 : 97 ≤ x_369 ∧ x_369 ≤ 122
                    · obtain rfl : 1 = r_371 := (hw_372.trans (if_pos hc_373)).symm
                      refine lv_goto (tgt := 193) hx hb dX12_lookAt_185 (by decide) ?_
                      refine lv_istore_n (lv' := [(3, .int 1), (4, .int x_369), (2, .int x_292), (0, .ref mo), (1, .int (nI jf))]) hx hb dX12_lookAt_193 rfl hl (by decide) rfl (fun ls hl => ?_)
                      refine lv_aload_n hx hb dX12_lookAt_194 rfl (lv_at hl 3 rfl) ?_
                      refine lv_dup hx hb dX12_lookAt_195 rfl ?_
                      refine va_get (D := (dC, dI)) (ci := 12) (v := .int (nI z_298)) (C := RX12) (T := TX12) (N := 24) hx hb hts iw_m_lookAt_X12 hown hK hP 0 rfl rfl 19 (by decide) (hts (.fieldLink RX12 267 "ThriceCountedModel" "tokenLong" "I") (by decide +kernel)) (fun _ h9 => h9) rfl dX12_lookAt_196 ?_
                      refine lv_iload_n hx hb dX12_lookAt_199 rfl (lv_at hl 0 rfl) ?_
                      refine lv_if_eq (tgt := 207) hx hb dX12_lookAt_200 (by decide) (fun c_374 => ?_) (fun c_374 => ?_)
                      · exact absurd c_374 (by decide)
                      · refine lv_iconst (v := 1) hx hb dX12_lookAt_203 (by decide) ?_
                        refine lv_goto (tgt := 208) hx hb dX12_lookAt_204 (by decide) ?_
                        refine lv_iadd hx hb dX12_lookAt_208 ?_
                        refine tz_i (nI (z_298 + 1)) (nI_add z_298 1) ?_
                        refine va_put (D := (dC, dI)) (ci := 12) (v := .int (nI (z_298 + 1))) (ty := .int) (C := RX12) (T := TX12) (N := 24) hx hb hts iw_m_lookAt_X12 tyX12 tyX12_ok nmX12 hown hK hP hD hS 0 rfl rfl 19 (by decide) (hts (.fieldLink RX12 267 "ThriceCountedModel" "tokenLong" "I") (by decide +kernel)) (fun _ h9 => h9) rfl (by decide +kernel) rfl rfl (Nat.le_of_ble_eq_true rfl) dX12_lookAt_209 (fun H locs hP hD hS => ?_)
                        have hP : va_P (dC, dI) vwCl [(mo, .inr (12, [.ref nw, .ref kp, .ref ik, .ref mr, .long la_, .long lb_, .ref mw, .long lc_, .int ti_, .int cb_, .long ld_, .long le_, .ref mq, .ref mz, .ref my, .int sm_, .ref mb, .int (nI jb), .int (nI z_1), .int (nI (z_298 + 1)), .int 1, .int 0, .ref mx, .ref mv])), (mb, .inl (cb2_, 150, .inl fy_))] H := hP
                        have hD : va_D A [(mo, .inr (12, [.ref nw, .ref kp, .ref ik, .ref mr, .long la_, .long lb_, .ref mw, .long lc_, .int ti_, .int cb_, .long ld_, .long le_, .ref mq, .ref mz, .ref my, .int sm_, .ref mb, .int (nI jb), .int (nI z_1), .int (nI (z_298 + 1)), .int 1, .int 0, .ref mx, .ref mv])), (mb, .inl (cb2_, 150, .inl fy_))] := hD
                        refine lv_goto (tgt := 136) hx hb dX12_lookAt_212 (by decide) ?_
                        exact ih_324 ((z_298 + 1), 1, H, locs, ls) ⟨by dsimp only; omega, by dsimp only; omega, hP, hD, hS, lv_sub hl [0, 2, 3, 4] rfl⟩ (tz_fl1 (by dsimp only; omega) c_325)
                    · obtain rfl : 0 = r_371 := (hw_372.trans (if_neg hc_373)).symm
                      refine lv_goto (tgt := 193) hx hb dX12_lookAt_185 (by decide) ?_
                      refine lv_istore_n (lv' := [(3, .int 0), (4, .int x_369), (2, .int x_292), (0, .ref mo), (1, .int (nI jf))]) hx hb dX12_lookAt_193 rfl hl (by decide) rfl (fun ls hl => ?_)
                      refine lv_aload_n hx hb dX12_lookAt_194 rfl (lv_at hl 3 rfl) ?_
                      refine lv_dup hx hb dX12_lookAt_195 rfl ?_
                      refine va_get (D := (dC, dI)) (ci := 12) (v := .int (nI z_298)) (C := RX12) (T := TX12) (N := 24) hx hb hts iw_m_lookAt_X12 hown hK hP 0 rfl rfl 19 (by decide) (hts (.fieldLink RX12 267 "ThriceCountedModel" "tokenLong" "I") (by decide +kernel)) (fun _ h9 => h9) rfl dX12_lookAt_196 ?_
                      refine lv_iload_n hx hb dX12_lookAt_199 rfl (lv_at hl 0 rfl) ?_
                      refine lv_if_eq (tgt := 207) hx hb dX12_lookAt_200 (by decide) (fun c_375 => ?_) (fun c_375 => ?_)
                      · refine lv_iconst (v := 0) hx hb dX12_lookAt_207 (by decide) ?_
                        refine lv_iadd hx hb dX12_lookAt_208 ?_
                        refine tz_i (nI (z_298 + 0)) (nI_add z_298 0) ?_
                        refine va_put (D := (dC, dI)) (ci := 12) (v := .int (nI (z_298 + 0))) (ty := .int) (C := RX12) (T := TX12) (N := 24) hx hb hts iw_m_lookAt_X12 tyX12 tyX12_ok nmX12 hown hK hP hD hS 0 rfl rfl 19 (by decide) (hts (.fieldLink RX12 267 "ThriceCountedModel" "tokenLong" "I") (by decide +kernel)) (fun _ h9 => h9) rfl (by decide +kernel) rfl rfl (Nat.le_of_ble_eq_true rfl) dX12_lookAt_209 (fun H locs hP hD hS => ?_)
                        have hP : va_P (dC, dI) vwCl [(mo, .inr (12, [.ref nw, .ref kp, .ref ik, .ref mr, .long la_, .long lb_, .ref mw, .long lc_, .int ti_, .int cb_, .long ld_, .long le_, .ref mq, .ref mz, .ref my, .int sm_, .ref mb, .int (nI jb), .int (nI z_1), .int (nI (z_298 + 0)), .int 1, .int 0, .ref mx, .ref mv])), (mb, .inl (cb2_, 150, .inl fy_))] H := hP
                        have hD : va_D A [(mo, .inr (12, [.ref nw, .ref kp, .ref ik, .ref mr, .long la_, .long lb_, .ref mw, .long lc_, .int ti_, .int cb_, .long ld_, .long le_, .ref mq, .ref mz, .ref my, .int sm_, .ref mb, .int (nI jb), .int (nI z_1), .int (nI (z_298 + 0)), .int 1, .int 0, .ref mx, .ref mv])), (mb, .inl (cb2_, 150, .inl fy_))] := hD
                        refine lv_goto (tgt := 136) hx hb dX12_lookAt_212 (by decide) ?_
                        exact ih_324 ((z_298 + 0), 0, H, locs, ls) ⟨by dsimp only; omega, by dsimp only; omega, hP, hD, hS, lv_sub hl [0, 2, 3, 4] rfl⟩ (tz_fl0 c_325)
                      · exact absurd c_375 (by decide)
        · obtain rfl : 0 = r_293 := (hw_294.trans (if_neg hc_295)).symm
          refine lv_if_eq (tgt := 92) hx hb dX12_lookAt_85 (by decide) (fun c_376 => ?_) (fun c_376 => ?_)
          · refine lv_iload_n hx hb dX12_lookAt_92 rfl (lv_at hl 0 rfl) ?_
            refine vp_callSi (va_Run.run (va_runS (As := [.int x_292]) (rest := [.ref mo]) ⟨hx, hb, hml, hown, hts⟩ (m_isFigure l dC dI x_292) (va_cwS 1 hts gX12_lookAt_X12_isFigure rfl rfl rfl (by decide +kernel) ⟨Nat.le_of_ble_eq_true rfl, Nat.le_of_ble_eq_true rfl⟩) ⟨fun a U g mk q => ⟨q.1, trivial⟩, fun U hU hW => ⟨rfl, trivial⟩⟩ rfl rfl hl.1 rfl (lv_room (Nat.le_of_ble_eq_true rfl)) dX12_lookAt_93 ⟨Nat.le_of_ble_eq_true rfl, Nat.le_of_ble_eq_true rfl⟩)) (fun r_377 hw_378 => ?_)
            by_cases hc_379 : 48 ≤ x_292 ∧ x_292 ≤ 57
            · obtain rfl : 1 = r_377 := (hw_378.trans (if_pos hc_379)).symm
              refine lv_if_eq (tgt := 103) hx hb dX12_lookAt_96 (by decide) (fun c_380 => ?_) (fun c_380 => ?_)
              · exact absurd c_380 (by decide)
              · refine lv_iconst (v := 2) hx hb dX12_lookAt_99 (by decide) ?_
                refine lv_goto (tgt := 114) hx hb dX12_lookAt_100 (by decide) ?_
                refine va_put (D := (dC, dI)) (ci := 12) (v := .int 2) (ty := .int) (C := RX12) (T := TX12) (N := 24) hx hb hts iw_m_lookAt_X12 tyX12 tyX12_ok nmX12 hown hK hP hD hS 0 rfl rfl 20 (by decide) (hts (.fieldLink RX12 270 "ThriceCountedModel" "token" "I") (by decide +kernel)) (fun _ h9 => h9) rfl (by decide +kernel) rfl rfl (Nat.le_of_ble_eq_true rfl) dX12_lookAt_114 (fun H locs hP hD hS => ?_)
                have hP : va_P (dC, dI) vwCl [(mo, .inr (12, [.ref nw, .ref kp, .ref ik, .ref mr, .long la_, .long lb_, .ref mw, .long lc_, .int ti_, .int cb_, .long ld_, .long le_, .ref mq, .ref mz, .ref my, .int sm_, .ref mb, .int (nI jb), .int (nI z_1), .int 0, .int 2, .int 0, .ref mx, .ref mv])), (mb, .inl (cb2_, 150, .inl fy_))] H := hP
                have hD : va_D A [(mo, .inr (12, [.ref nw, .ref kp, .ref ik, .ref mr, .long la_, .long lb_, .ref mw, .long lc_, .int ti_, .int cb_, .long ld_, .long le_, .ref mq, .ref mz, .ref my, .int sm_, .ref mb, .int (nI jb), .int (nI z_1), .int 0, .int 2, .int 0, .ref mx, .ref mv])), (mb, .inl (cb2_, 150, .inl fy_))] := hD
                refine lv_aload_n hx hb dX12_lookAt_117 rfl (lv_at hl 1 rfl) ?_
                refine lv_iconst (v := 1) hx hb dX12_lookAt_118 (by decide) ?_
                refine va_put (D := (dC, dI)) (ci := 12) (v := .int 1) (ty := .int) (C := RX12) (T := TX12) (N := 24) hx hb hts iw_m_lookAt_X12 tyX12 tyX12_ok nmX12 hown hK hP hD hS 0 rfl rfl 19 (by decide) (hts (.fieldLink RX12 267 "ThriceCountedModel" "tokenLong" "I") (by decide +kernel)) (fun _ h9 => h9) rfl (by decide +kernel) rfl rfl (Nat.le_of_ble_eq_true rfl) dX12_lookAt_119 (fun H locs hP hD hS => ?_)
                have hP : va_P (dC, dI) vwCl [(mo, .inr (12, [.ref nw, .ref kp, .ref ik, .ref mr, .long la_, .long lb_, .ref mw, .long lc_, .int ti_, .int cb_, .long ld_, .long le_, .ref mq, .ref mz, .ref my, .int sm_, .ref mb, .int (nI jb), .int (nI z_1), .int 1, .int 2, .int 0, .ref mx, .ref mv])), (mb, .inl (cb2_, 150, .inl fy_))] H := hP
                have hD : va_D A [(mo, .inr (12, [.ref nw, .ref kp, .ref ik, .ref mr, .long la_, .long lb_, .ref mw, .long lc_, .int ti_, .int cb_, .long ld_, .long le_, .ref mq, .ref mz, .ref my, .int sm_, .ref mb, .int (nI jb), .int (nI z_1), .int 1, .int 2, .int 0, .ref mx, .ref mv])), (mb, .inl (cb2_, 150, .inl fy_))] := hD
                refine lv_aload_n hx hb dX12_lookAt_122 rfl (lv_at hl 1 rfl) ?_
                refine va_get (D := (dC, dI)) (ci := 12) (v := .int 2) (C := RX12) (T := TX12) (N := 24) hx hb hts iw_m_lookAt_X12 hown hK hP 0 rfl rfl 20 (by decide) (hts (.fieldLink RX12 270 "ThriceCountedModel" "token" "I") (by decide +kernel)) (fun _ h9 => h9) rfl dX12_lookAt_123 ?_
                refine lv_iconst (v := 3) hx hb dX12_lookAt_126 (by decide) ?_
                refine lv_icmp_ge (tgt := 134) hx hb dX12_lookAt_127 (by decide) (fun c_381 => ?_) (fun c_381 => ?_)
                · exact absurd c_381 (by decide)
                · refine lv_iconst (v := 1) hx hb dX12_lookAt_130 (by decide) ?_
                  refine lv_goto (tgt := 135) hx hb dX12_lookAt_131 (by decide) ?_
                  refine lv_istore_n (lv' := [(3, .int 1), (2, .int x_292), (0, .ref mo), (1, .int (nI jf))]) hx hb dX12_lookAt_135 rfl hl (by decide) rfl (fun ls hl => ?_)
                  refine tz_while (σ := Nat × Int32 × Heap × List Loc × Array Slot) (fun x => W p l e _ s m _ below meth c x.2.2.1 x.2.2.2.1 _ _ _ (F0 m 136 x.2.2.2.2 [])) (fun x => 1 ≤ x.1 ∧ z_1 + x.1 ≤ jb ∧ va_P (dC, dI) vwCl [(mo, .inr (12, [.ref nw, .ref kp, .ref ik, .ref mr, .long la_, .long lb_, .ref mw, .long lc_, .int ti_, .int cb_, .long ld_, .long le_, .ref mq, .ref mz, .ref my, .int sm_, .ref mb, .int (nI jb), .int (nI z_1), .int (nI x.1), .int 2, .int 0, .ref mx, .ref mv])), (mb, .inl (cb2_, 150, .inl fy_))] x.2.2.1 ∧ va_D A [(mo, .inr (12, [.ref nw, .ref kp, .ref ik, .ref mr, .long la_, .long lb_, .ref mw, .long lc_, .int ti_, .int cb_, .long ld_, .long le_, .ref mq, .ref mz, .ref my, .int sm_, .ref mb, .int (nI jb), .int (nI z_1), .int (nI x.1), .int 2, .int 0, .ref mx, .ref mv])), (mb, .inl (cb2_, 150, .inl fy_))] ∧ va_S A s.heap x.2.2.1 x.2.2.2.1 ∧ lv_has x.2.2.2.2 5 [(3, .int x.2.1), (2, .int x_292), (0, .ref mo), (1, .int (nI jf))]) (fun x => 2 * (jb - x.1) + tz_fl x.2.1) ?_ (1, 1, H, locs, ls) ⟨by (try dsimp only); omega, by (try dsimp only); omega, hP, hD, hS, hl⟩
                  rintro ⟨z_382, v_394, H, locs, ls⟩ ⟨hi_406_0, hi_407_1, hP, hD, hS, hl⟩ ih_408
                  dsimp only at hi_406_0 hi_407_1 hP hD hS hl ih_408 ⊢
                  refine lv_iload_n hx hb dX12_lookAt_136 rfl (lv_at hl 0 rfl) ?_
                  refine lv_if_eq (tgt := 215) hx hb dX12_lookAt_137 (by decide) (fun c_409 => ?_) (fun c_409 => ?_)
                  · refine lv_iconst (v := 0) hx hb dX12_lookAt_215 (by decide) ?_
                    refine lv_istore (lv' := [(4, .int 0), (3, .int v_394), (2, .int x_292), (0, .ref mo), (1, .int (nI jf))]) hx hb dX12_lookAt_216 hl (by decide) rfl (fun ls hl => ?_)
                    refine tz_while (σ := Nat × Int32 × Heap × List Loc × Array Slot) (fun x => W p l e _ s m _ below meth c x.2.2.1 x.2.2.2.1 _ _ _ (F0 m 218 x.2.2.2.2 [])) (fun x => x.1 ≤ z_382 ∧ va_P (dC, dI) vwCl [(mo, .inr (12, [.ref nw, .ref kp, .ref ik, .ref mr, .long la_, .long lb_, .ref mw, .long lc_, .int ti_, .int cb_, .long ld_, .long le_, .ref mq, .ref mz, .ref my, .int sm_, .ref mb, .int (nI jb), .int (nI z_1), .int (nI z_382), .int 2, .int x.2.1, .ref mx, .ref mv])), (mb, .inl (cb2_, 150, .inl fy_))] x.2.2.1 ∧ va_D A [(mo, .inr (12, [.ref nw, .ref kp, .ref ik, .ref mr, .long la_, .long lb_, .ref mw, .long lc_, .int ti_, .int cb_, .long ld_, .long le_, .ref mq, .ref mz, .ref my, .int sm_, .ref mb, .int (nI jb), .int (nI z_1), .int (nI z_382), .int 2, .int x.2.1, .ref mx, .ref mv])), (mb, .inl (cb2_, 150, .inl fy_))] ∧ va_S A s.heap x.2.2.1 x.2.2.2.1 ∧ lv_has x.2.2.2.2 5 [(4, .int (nI x.1)), (3, .int v_394), (2, .int x_292), (0, .ref mo), (1, .int (nI jf))]) (fun x => z_382 - x.1) ?_ (0, 0, H, locs, ls) ⟨by (try dsimp only); omega, hP, hD, hS, hl⟩
                    rintro ⟨k_410, v_421, H, locs, ls⟩ ⟨hi_433_0, hP, hD, hS, hl⟩ ih_434
                    dsimp only at hi_433_0 hP hD hS hl ih_434 ⊢
                    refine lv_iload hx hb dX12_lookAt_218 (lv_at hl 0 rfl) ?_
                    refine lv_aload_n hx hb dX12_lookAt_220 rfl (lv_at hl 3 rfl) ?_
                    refine va_get (D := (dC, dI)) (ci := 12) (v := .int (nI z_382)) (C := RX12) (T := TX12) (N := 24) hx hb hts iw_m_lookAt_X12 hown hK hP 0 rfl rfl 19 (by decide) (hts (.fieldLink RX12 267 "ThriceCountedModel" "tokenLong" "I") (by decide +kernel)) (fun _ h9 => h9) rfl dX12_lookAt_221 ?_
                    refine lv_icmp_ge (tgt := 274) hx hb dX12_lookAt_224 (by decide) (fun c_435 => ?_) (fun c_435 => ?_)
                    · have hn_436 : z_382 ≤ k_410 := (nI_leI (a := z_382) (b := k_410) (by omega) (by omega)).mp c_435
                      refine lv_aload_n hx hb dX12_lookAt_274 rfl (lv_at hl 3 rfl) ?_
                      refine lv_aload_n hx hb dX12_lookAt_275 rfl (lv_at hl 3 rfl) ?_
                      refine va_get (D := (dC, dI)) (ci := 12) (v := .int 2) (C := RX12) (T := TX12) (N := 24) hx hb hts iw_m_lookAt_X12 hown hK hP 0 rfl rfl 20 (by decide) (hts (.fieldLink RX12 270 "ThriceCountedModel" "token" "I") (by decide +kernel)) (fun _ h9 => h9) rfl dX12_lookAt_276 ?_
                      refine lv_iconst (v := 2) hx hb dX12_lookAt_279 (by decide) ?_
                      refine lv_icmp_ne (tgt := 295) hx hb dX12_lookAt_280 (by decide) (fun c_437 => ?_) (fun c_437 => ?_)
                      · exact absurd c_437 (by decide)
                      · refine lv_aload_n hx hb dX12_lookAt_283 rfl (lv_at hl 3 rfl) ?_
                        refine va_get (D := (dC, dI)) (ci := 12) (v := .int (nI z_382)) (C := RX12) (T := TX12) (N := 24) hx hb hts iw_m_lookAt_X12 hown hK hP 0 rfl rfl 19 (by decide) (hts (.fieldLink RX12 267 "ThriceCountedModel" "tokenLong" "I") (by decide +kernel)) (fun _ h9 => h9) rfl dX12_lookAt_284 ?_
                        refine lv_iconst (v := 3) hx hb dX12_lookAt_287 (by decide) ?_
                        refine lv_icmp_le (tgt := 295) hx hb dX12_lookAt_288 (by decide) (fun c_438 => ?_) (fun c_438 => ?_)
                        · have hn_439 : z_382 ≤ 3 := (nI_leI (a := z_382) (b := 3) (by omega) (by omega)).mp c_438
                          refine lv_aload_n hx hb dX12_lookAt_295 rfl (lv_at hl 3 rfl) ?_
                          refine va_get (D := (dC, dI)) (ci := 12) (v := .int 2) (C := RX12) (T := TX12) (N := 24) hx hb hts iw_m_lookAt_X12 hown hK hP 0 rfl rfl 20 (by decide) (hts (.fieldLink RX12 270 "ThriceCountedModel" "token" "I") (by decide +kernel)) (fun _ h9 => h9) rfl dX12_lookAt_296 ?_
                          refine va_put (D := (dC, dI)) (ci := 12) (v := .int 2) (ty := .int) (C := RX12) (T := TX12) (N := 24) hx hb hts iw_m_lookAt_X12 tyX12 tyX12_ok nmX12 hown hK hP hD hS 0 rfl rfl 20 (by decide) (hts (.fieldLink RX12 270 "ThriceCountedModel" "token" "I") (by decide +kernel)) (fun _ h9 => h9) rfl (by decide +kernel) rfl rfl (Nat.le_of_ble_eq_true rfl) dX12_lookAt_299 (fun H locs hP hD hS => ?_)
                          have hP : va_P (dC, dI) vwCl [(mo, .inr (12, [.ref nw, .ref kp, .ref ik, .ref mr, .long la_, .long lb_, .ref mw, .long lc_, .int ti_, .int cb_, .long ld_, .long le_, .ref mq, .ref mz, .ref my, .int sm_, .ref mb, .int (nI jb), .int (nI z_1), .int (nI z_382), .int 2, .int v_421, .ref mx, .ref mv])), (mb, .inl (cb2_, 150, .inl fy_))] H := hP
                          have hD : va_D A [(mo, .inr (12, [.ref nw, .ref kp, .ref ik, .ref mr, .long la_, .long lb_, .ref mw, .long lc_, .int ti_, .int cb_, .long ld_, .long le_, .ref mq, .ref mz, .ref my, .int sm_, .ref mb, .int (nI jb), .int (nI z_1), .int (nI z_382), .int 2, .int v_421, .ref mx, .ref mv])), (mb, .inl (cb2_, 150, .inl fy_))] := hD
                          have hP9 := hP.sub (ws' := [(mo, .inr (12, [.ref nw, .ref kp, .ref ik, .ref mr, .long la_, .long lb_, .ref mw, .long lc_, .int ti_, .int cb_, .long ld_, .long le_, .ref mq, .ref mz, .ref my, .int sm_, .ref mb, .int (nI jb), .int (nI z_1), .int (nI z_382), .int 2, .int v_421, .ref mx, .ref mv])), (mb, .inl (cb2_, 150, .inl fy_))]) [0, 1] rfl
                          have hD9 := hD.sub (ws' := [(mo, .inr (12, [.ref nw, .ref kp, .ref ik, .ref mr, .long la_, .long lb_, .ref mw, .long lc_, .int ti_, .int cb_, .long ld_, .long le_, .ref mq, .ref mz, .ref my, .int sm_, .ref mb, .int (nI jb), .int (nI z_1), .int (nI z_382), .int 2, .int v_421, .ref mx, .ref mv])), (mb, .inl (cb2_, 150, .inl fy_))]) [0, 1] (by decide) rfl
                          have hK9 := hK.sub (tys' := [(cb2_, .int)]) [0] rfl
                          exact W.vret hx hb hr (fun t ht hW => ⟨⟨(), rfl, trivial, 2, v_421, z_1, z_382, by omega, by omega, fun q => absurd q (by decide), by rw [ht]; exact hP9, va_K.moved hW.alike hK9, hD9⟩, hS.F ht⟩) hS.2.2 dX12_lookAt_302
                        · have hn_440 : ¬ z_382 ≤ 3 := fun q => c_438 ((nI_leI (a := z_382) (b := 3) (by omega) (by omega)).mpr q)
                          refine lv_iconst (v := 4) hx hb dX12_lookAt_291 (by decide) ?_
                          refine lv_goto (tgt := 299) hx hb dX12_lookAt_292 (by decide) ?_
                          refine va_put (D := (dC, dI)) (ci := 12) (v := .int 4) (ty := .int) (C := RX12) (T := TX12) (N := 24) hx hb hts iw_m_lookAt_X12 tyX12 tyX12_ok nmX12 hown hK hP hD hS 0 rfl rfl 20 (by decide) (hts (.fieldLink RX12 270 "ThriceCountedModel" "token" "I") (by decide +kernel)) (fun _ h9 => h9) rfl (by decide +kernel) rfl rfl (Nat.le_of_ble_eq_true rfl) dX12_lookAt_299 (fun H locs hP hD hS => ?_)
                          have hP : va_P (dC, dI) vwCl [(mo, .inr (12, [.ref nw, .ref kp, .ref ik, .ref mr, .long la_, .long lb_, .ref mw, .long lc_, .int ti_, .int cb_, .long ld_, .long le_, .ref mq, .ref mz, .ref my, .int sm_, .ref mb, .int (nI jb), .int (nI z_1), .int (nI z_382), .int 4, .int v_421, .ref mx, .ref mv])), (mb, .inl (cb2_, 150, .inl fy_))] H := hP
                          have hD : va_D A [(mo, .inr (12, [.ref nw, .ref kp, .ref ik, .ref mr, .long la_, .long lb_, .ref mw, .long lc_, .int ti_, .int cb_, .long ld_, .long le_, .ref mq, .ref mz, .ref my, .int sm_, .ref mb, .int (nI jb), .int (nI z_1), .int (nI z_382), .int 4, .int v_421, .ref mx, .ref mv])), (mb, .inl (cb2_, 150, .inl fy_))] := hD
                          have hP9 := hP.sub (ws' := [(mo, .inr (12, [.ref nw, .ref kp, .ref ik, .ref mr, .long la_, .long lb_, .ref mw, .long lc_, .int ti_, .int cb_, .long ld_, .long le_, .ref mq, .ref mz, .ref my, .int sm_, .ref mb, .int (nI jb), .int (nI z_1), .int (nI z_382), .int 4, .int v_421, .ref mx, .ref mv])), (mb, .inl (cb2_, 150, .inl fy_))]) [0, 1] rfl
                          have hD9 := hD.sub (ws' := [(mo, .inr (12, [.ref nw, .ref kp, .ref ik, .ref mr, .long la_, .long lb_, .ref mw, .long lc_, .int ti_, .int cb_, .long ld_, .long le_, .ref mq, .ref mz, .ref my, .int sm_, .ref mb, .int (nI jb), .int (nI z_1), .int (nI z_382), .int 4, .int v_421, .ref mx, .ref mv])), (mb, .inl (cb2_, 150, .inl fy_))]) [0, 1] (by decide) rfl
                          have hK9 := hK.sub (tys' := [(cb2_, .int)]) [0] rfl
                          exact W.vret hx hb hr (fun t ht hW => ⟨⟨(), rfl, trivial, 4, v_421, z_1, z_382, by omega, by omega, fun q => absurd q (by decide), by rw [ht]; exact hP9, va_K.moved hW.alike hK9, hD9⟩, hS.F ht⟩) hS.2.2 dX12_lookAt_302
                    · have hn_441 : ¬ z_382 ≤ k_410 := fun q => c_435 ((nI_leI (a := z_382) (b := k_410) (by omega) (by omega)).mpr q)
                      refine lv_iload hx hb dX12_lookAt_227 (lv_at hl 0 rfl) ?_
                      refine lv_iconst (v := 3) hx hb dX12_lookAt_229 (by decide) ?_
                      refine lv_icmp_ge (tgt := 274) hx hb dX12_lookAt_230 (by decide) (fun c_442 => ?_) (fun c_442 => ?_)
                      · have hn_443 : 3 ≤ k_410 := (nI_leI (a := 3) (b := k_410) (by omega) (by omega)).mp c_442
                        refine lv_aload_n hx hb dX12_lookAt_274 rfl (lv_at hl 3 rfl) ?_
                        refine lv_aload_n hx hb dX12_lookAt_275 rfl (lv_at hl 3 rfl) ?_
                        refine va_get (D := (dC, dI)) (ci := 12) (v := .int 2) (C := RX12) (T := TX12) (N := 24) hx hb hts iw_m_lookAt_X12 hown hK hP 0 rfl rfl 20 (by decide) (hts (.fieldLink RX12 270 "ThriceCountedModel" "token" "I") (by decide +kernel)) (fun _ h9 => h9) rfl dX12_lookAt_276 ?_
                        refine lv_iconst (v := 2) hx hb dX12_lookAt_279 (by decide) ?_
                        refine lv_icmp_ne (tgt := 295) hx hb dX12_lookAt_280 (by decide) (fun c_444 => ?_) (fun c_444 => ?_)
                        · exact absurd c_444 (by decide)
                        · refine lv_aload_n hx hb dX12_lookAt_283 rfl (lv_at hl 3 rfl) ?_
                          refine va_get (D := (dC, dI)) (ci := 12) (v := .int (nI z_382)) (C := RX12) (T := TX12) (N := 24) hx hb hts iw_m_lookAt_X12 hown hK hP 0 rfl rfl 19 (by decide) (hts (.fieldLink RX12 267 "ThriceCountedModel" "tokenLong" "I") (by decide +kernel)) (fun _ h9 => h9) rfl dX12_lookAt_284 ?_
                          refine lv_iconst (v := 3) hx hb dX12_lookAt_287 (by decide) ?_
                          refine lv_icmp_le (tgt := 295) hx hb dX12_lookAt_288 (by decide) (fun c_445 => ?_) (fun c_445 => ?_)
                          · have hn_446 : z_382 ≤ 3 := (nI_leI (a := z_382) (b := 3) (by omega) (by omega)).mp c_445
                            refine lv_aload_n hx hb dX12_lookAt_295 rfl (lv_at hl 3 rfl) ?_
                            refine va_get (D := (dC, dI)) (ci := 12) (v := .int 2) (C := RX12) (T := TX12) (N := 24) hx hb hts iw_m_lookAt_X12 hown hK hP 0 rfl rfl 20 (by decide) (hts (.fieldLink RX12 270 "ThriceCountedModel" "token" "I") (by decide +kernel)) (fun _ h9 => h9) rfl dX12_lookAt_296 ?_
                            refine va_put (D := (dC, dI)) (ci := 12) (v := .int 2) (ty := .int) (C := RX12) (T := TX12) (N := 24) hx hb hts iw_m_lookAt_X12 tyX12 tyX12_ok nmX12 hown hK hP hD hS 0 rfl rfl 20 (by decide) (hts (.fieldLink RX12 270 "ThriceCountedModel" "token" "I") (by decide +kernel)) (fun _ h9 => h9) rfl (by decide +kernel) rfl rfl (Nat.le_of_ble_eq_true rfl) dX12_lookAt_299 (fun H locs hP hD hS => ?_)
                            have hP : va_P (dC, dI) vwCl [(mo, .inr (12, [.ref nw, .ref kp, .ref ik, .ref mr, .long la_, .long lb_, .ref mw, .long lc_, .int ti_, .int cb_, .long ld_, .long le_, .ref mq, .ref mz, .ref my, .int sm_, .ref mb, .int (nI jb), .int (nI z_1), .int (nI z_382), .int 2, .int v_421, .ref mx, .ref mv])), (mb, .inl (cb2_, 150, .inl fy_))] H := hP
                            have hD : va_D A [(mo, .inr (12, [.ref nw, .ref kp, .ref ik, .ref mr, .long la_, .long lb_, .ref mw, .long lc_, .int ti_, .int cb_, .long ld_, .long le_, .ref mq, .ref mz, .ref my, .int sm_, .ref mb, .int (nI jb), .int (nI z_1), .int (nI z_382), .int 2, .int v_421, .ref mx, .ref mv])), (mb, .inl (cb2_, 150, .inl fy_))] := hD
                            have hP9 := hP.sub (ws' := [(mo, .inr (12, [.ref nw, .ref kp, .ref ik, .ref mr, .long la_, .long lb_, .ref mw, .long lc_, .int ti_, .int cb_, .long ld_, .long le_, .ref mq, .ref mz, .ref my, .int sm_, .ref mb, .int (nI jb), .int (nI z_1), .int (nI z_382), .int 2, .int v_421, .ref mx, .ref mv])), (mb, .inl (cb2_, 150, .inl fy_))]) [0, 1] rfl
                            have hD9 := hD.sub (ws' := [(mo, .inr (12, [.ref nw, .ref kp, .ref ik, .ref mr, .long la_, .long lb_, .ref mw, .long lc_, .int ti_, .int cb_, .long ld_, .long le_, .ref mq, .ref mz, .ref my, .int sm_, .ref mb, .int (nI jb), .int (nI z_1), .int (nI z_382), .int 2, .int v_421, .ref mx, .ref mv])), (mb, .inl (cb2_, 150, .inl fy_))]) [0, 1] (by decide) rfl
                            have hK9 := hK.sub (tys' := [(cb2_, .int)]) [0] rfl
                            exact W.vret hx hb hr (fun t ht hW => ⟨⟨(), rfl, trivial, 2, v_421, z_1, z_382, by omega, by omega, fun q => absurd q (by decide), by rw [ht]; exact hP9, va_K.moved hW.alike hK9, hD9⟩, hS.F ht⟩) hS.2.2 dX12_lookAt_302
                          · have hn_447 : ¬ z_382 ≤ 3 := fun q => c_445 ((nI_leI (a := z_382) (b := 3) (by omega) (by omega)).mpr q)
                            refine lv_iconst (v := 4) hx hb dX12_lookAt_291 (by decide) ?_
                            refine lv_goto (tgt := 299) hx hb dX12_lookAt_292 (by decide) ?_
                            refine va_put (D := (dC, dI)) (ci := 12) (v := .int 4) (ty := .int) (C := RX12) (T := TX12) (N := 24) hx hb hts iw_m_lookAt_X12 tyX12 tyX12_ok nmX12 hown hK hP hD hS 0 rfl rfl 20 (by decide) (hts (.fieldLink RX12 270 "ThriceCountedModel" "token" "I") (by decide +kernel)) (fun _ h9 => h9) rfl (by decide +kernel) rfl rfl (Nat.le_of_ble_eq_true rfl) dX12_lookAt_299 (fun H locs hP hD hS => ?_)
                            have hP : va_P (dC, dI) vwCl [(mo, .inr (12, [.ref nw, .ref kp, .ref ik, .ref mr, .long la_, .long lb_, .ref mw, .long lc_, .int ti_, .int cb_, .long ld_, .long le_, .ref mq, .ref mz, .ref my, .int sm_, .ref mb, .int (nI jb), .int (nI z_1), .int (nI z_382), .int 4, .int v_421, .ref mx, .ref mv])), (mb, .inl (cb2_, 150, .inl fy_))] H := hP
                            have hD : va_D A [(mo, .inr (12, [.ref nw, .ref kp, .ref ik, .ref mr, .long la_, .long lb_, .ref mw, .long lc_, .int ti_, .int cb_, .long ld_, .long le_, .ref mq, .ref mz, .ref my, .int sm_, .ref mb, .int (nI jb), .int (nI z_1), .int (nI z_382), .int 4, .int v_421, .ref mx, .ref mv])), (mb, .inl (cb2_, 150, .inl fy_))] := hD
                            have hP9 := hP.sub (ws' := [(mo, .inr (12, [.ref nw, .ref kp, .ref ik, .ref mr, .long la_, .long lb_, .ref mw, .long lc_, .int ti_, .int cb_, .long ld_, .long le_, .ref mq, .ref mz, .ref my, .int sm_, .ref mb, .int (nI jb), .int (nI z_1), .int (nI z_382), .int 4, .int v_421, .ref mx, .ref mv])), (mb, .inl (cb2_, 150, .inl fy_))]) [0, 1] rfl
                            have hD9 := hD.sub (ws' := [(mo, .inr (12, [.ref nw, .ref kp, .ref ik, .ref mr, .long la_, .long lb_, .ref mw, .long lc_, .int ti_, .int cb_, .long ld_, .long le_, .ref mq, .ref mz, .ref my, .int sm_, .ref mb, .int (nI jb), .int (nI z_1), .int (nI z_382), .int 4, .int v_421, .ref mx, .ref mv])), (mb, .inl (cb2_, 150, .inl fy_))]) [0, 1] (by decide) rfl
                            have hK9 := hK.sub (tys' := [(cb2_, .int)]) [0] rfl
                            exact W.vret hx hb hr (fun t ht hW => ⟨⟨(), rfl, trivial, 4, v_421, z_1, z_382, by omega, by omega, fun q => absurd q (by decide), by rw [ht]; exact hP9, va_K.moved hW.alike hK9, hD9⟩, hS.F ht⟩) hS.2.2 dX12_lookAt_302
                      · have hn_448 : ¬ 3 ≤ k_410 := fun q => c_442 ((nI_leI (a := 3) (b := k_410) (by omega) (by omega)).mpr q)
                        refine lv_aload_n hx hb dX12_lookAt_233 rfl (lv_at hl 3 rfl) ?_
                        refine va_get (D := (dC, dI)) (ci := 12) (v := .int 2) (C := RX12) (T := TX12) (N := 24) hx hb hts iw_m_lookAt_X12 hown hK hP 0 rfl rfl 20 (by decide) (hts (.fieldLink RX12 270 "ThriceCountedModel" "token" "I") (by decide +kernel)) (fun _ h9 => h9) rfl dX12_lookAt_234 ?_
                        refine lv_iconst (v := 2) hx hb dX12_lookAt_237 (by decide) ?_
                        refine lv_icmp_ne (tgt := 274) hx hb dX12_lookAt_238 (by decide) (fun c_449 => ?_) (fun c_449 => ?_)
                        · exact absurd c_449 (by decide)
                        · refine lv_aload_n hx hb dX12_lookAt_241 rfl (lv_at hl 3 rfl) ?_
                          refine lv_bipush (v := 10) hx hb dX12_lookAt_242 (by decide) ?_
                          refine lv_aload_n hx hb dX12_lookAt_244 rfl (lv_at hl 3 rfl) ?_
                          refine va_get (D := (dC, dI)) (ci := 12) (v := .int v_421) (C := RX12) (T := TX12) (N := 24) hx hb hts iw_m_lookAt_X12 hown hK hP 0 rfl rfl 21 (by decide) (hts (.fieldLink RX12 273 "ThriceCountedModel" "value" "I") (by decide +kernel)) (fun _ h9 => h9) rfl dX12_lookAt_245 ?_
                          refine lv_imul hx hb dX12_lookAt_248 ?_
                          refine lv_topi (fun x_450 _ => ?_)
                          refine lv_aload_n hx hb dX12_lookAt_249 rfl (lv_at hl 3 rfl) ?_
                          refine va_get (D := (dC, dI)) (ci := 12) (v := .ref mb) (C := RX12) (T := TX12) (N := 24) hx hb hts iw_m_lookAt_X12 hown hK hP 0 rfl rfl 16 (by decide) (hts (.fieldLink RX12 40 "ThriceCountedModel" "bytes" "[I") (by decide +kernel)) (fun _ h9 => h9) rfl dX12_lookAt_250 ?_
                          refine lv_aload_n hx hb dX12_lookAt_253 rfl (lv_at hl 3 rfl) ?_
                          refine va_get (D := (dC, dI)) (ci := 12) (v := .int (nI z_1)) (C := RX12) (T := TX12) (N := 24) hx hb hts iw_m_lookAt_X12 hown hK hP 0 rfl rfl 18 (by decide) (hts (.fieldLink RX12 264 "ThriceCountedModel" "tokenAt" "I") (by decide +kernel)) (fun _ h9 => h9) rfl dX12_lookAt_254 ?_
                          refine lv_iload hx hb dX12_lookAt_257 (lv_at hl 0 rfl) ?_
                          refine lv_iadd hx hb dX12_lookAt_259 ?_
                          refine tz_i (nI (z_1 + k_410)) (nI_add z_1 k_410) ?_
                          refine va_iald hx hb hK hP 1 0 rfl rfl (vp_in_nI (n := (z_1 + k_410)) (N := 150) (by omega) (by decide)) dX12_lookAt_260 ?_
                          refine lv_topi (fun x_451 _ => ?_)
                          refine lv_iadd hx hb dX12_lookAt_261 ?_
                          refine lv_topi (fun x_452 _ => ?_)
                          refine lv_bipush (v := 48) hx hb dX12_lookAt_262 (by decide) ?_
                          refine lv_isub hx hb dX12_lookAt_264 ?_
                          refine lv_topi (fun x_453 _ => ?_)
                          refine va_put (D := (dC, dI)) (ci := 12) (v := .int x_453) (ty := .int) (C := RX12) (T := TX12) (N := 24) hx hb hts iw_m_lookAt_X12 tyX12 tyX12_ok nmX12 hown hK hP hD hS 0 rfl rfl 21 (by decide) (hts (.fieldLink RX12 273 "ThriceCountedModel" "value" "I") (by decide +kernel)) (fun _ h9 => h9) rfl (by decide +kernel) rfl rfl (Nat.le_of_ble_eq_true rfl) dX12_lookAt_265 (fun H locs hP hD hS => ?_)
                          have hP : va_P (dC, dI) vwCl [(mo, .inr (12, [.ref nw, .ref kp, .ref ik, .ref mr, .long la_, .long lb_, .ref mw, .long lc_, .int ti_, .int cb_, .long ld_, .long le_, .ref mq, .ref mz, .ref my, .int sm_, .ref mb, .int (nI jb), .int (nI z_1), .int (nI z_382), .int 2, .int x_453, .ref mx, .ref mv])), (mb, .inl (cb2_, 150, .inl fy_))] H := hP
                          have hD : va_D A [(mo, .inr (12, [.ref nw, .ref kp, .ref ik, .ref mr, .long la_, .long lb_, .ref mw, .long lc_, .int ti_, .int cb_, .long ld_, .long le_, .ref mq, .ref mz, .ref my, .int sm_, .ref mb, .int (nI jb), .int (nI z_1), .int (nI z_382), .int 2, .int x_453, .ref mx, .ref mv])), (mb, .inl (cb2_, 150, .inl fy_))] := hD
                          refine lv_iinc (v := (nI (k_410 + 1))) (lv' := [(4, .int (nI (k_410 + 1))), (3, .int v_394), (2, .int x_292), (0, .ref mo), (1, .int (nI jf))]) hx hb dX12_lookAt_268 hl (k := 0) rfl (nI_add k_410 1) (by decide) rfl (fun ls hl => ?_)
                          refine lv_goto (tgt := 218) hx hb dX12_lookAt_271 (by decide) ?_
                          exact ih_434 ((k_410 + 1), x_453, H, locs, ls) ⟨by dsimp only; omega, hP, hD, hS, lv_sub hl [0, 1, 2, 3, 4] rfl⟩ (by dsimp only; omega)
                  · refine lv_aload_n hx hb dX12_lookAt_140 rfl (lv_at hl 2 rfl) ?_
                    refine va_get (D := (dC, dI)) (ci := 12) (v := .int (nI z_1)) (C := RX12) (T := TX12) (N := 24) hx hb hts iw_m_lookAt_X12 hown hK hP 0 rfl rfl 18 (by decide) (hts (.fieldLink RX12 264 "ThriceCountedModel" "tokenAt" "I") (by decide +kernel)) (fun _ h9 => h9) rfl dX12_lookAt_141 ?_
                    refine lv_aload_n hx hb dX12_lookAt_144 rfl (lv_at hl 2 rfl) ?_
                    refine va_get (D := (dC, dI)) (ci := 12) (v := .int (nI z_382)) (C := RX12) (T := TX12) (N := 24) hx hb hts iw_m_lookAt_X12 hown hK hP 0 rfl rfl 19 (by decide) (hts (.fieldLink RX12 267 "ThriceCountedModel" "tokenLong" "I") (by decide +kernel)) (fun _ h9 => h9) rfl dX12_lookAt_145 ?_
                    refine lv_iadd hx hb dX12_lookAt_148 ?_
                    refine tz_i (nI (z_1 + z_382)) (nI_add z_1 z_382) ?_
                    refine lv_aload_n hx hb dX12_lookAt_149 rfl (lv_at hl 2 rfl) ?_
                    refine va_get (D := (dC, dI)) (ci := 12) (v := .int (nI jb)) (C := RX12) (T := TX12) (N := 24) hx hb hts iw_m_lookAt_X12 hown hK hP 0 rfl rfl 17 (by decide) (hts (.fieldLink RX12 253 "ThriceCountedModel" "bytesLong" "I") (by decide +kernel)) (fun _ h9 => h9) rfl dX12_lookAt_150 ?_
                    refine lv_icmp_ge (tgt := 215) hx hb dX12_lookAt_153 (by decide) (fun c_454 => ?_) (fun c_454 => ?_)
                    · have hn_455 : jb ≤ (z_1 + z_382) := (nI_leI (a := jb) (b := (z_1 + z_382)) (by omega) (by omega)).mp c_454
                      refine lv_iconst (v := 0) hx hb dX12_lookAt_215 (by decide) ?_
                      refine lv_istore (lv' := [(4, .int 0), (3, .int v_394), (2, .int x_292), (0, .ref mo), (1, .int (nI jf))]) hx hb dX12_lookAt_216 hl (by decide) rfl (fun ls hl => ?_)
                      refine tz_while (σ := Nat × Int32 × Heap × List Loc × Array Slot) (fun x => W p l e _ s m _ below meth c x.2.2.1 x.2.2.2.1 _ _ _ (F0 m 218 x.2.2.2.2 [])) (fun x => x.1 ≤ z_382 ∧ va_P (dC, dI) vwCl [(mo, .inr (12, [.ref nw, .ref kp, .ref ik, .ref mr, .long la_, .long lb_, .ref mw, .long lc_, .int ti_, .int cb_, .long ld_, .long le_, .ref mq, .ref mz, .ref my, .int sm_, .ref mb, .int (nI jb), .int (nI z_1), .int (nI z_382), .int 2, .int x.2.1, .ref mx, .ref mv])), (mb, .inl (cb2_, 150, .inl fy_))] x.2.2.1 ∧ va_D A [(mo, .inr (12, [.ref nw, .ref kp, .ref ik, .ref mr, .long la_, .long lb_, .ref mw, .long lc_, .int ti_, .int cb_, .long ld_, .long le_, .ref mq, .ref mz, .ref my, .int sm_, .ref mb, .int (nI jb), .int (nI z_1), .int (nI z_382), .int 2, .int x.2.1, .ref mx, .ref mv])), (mb, .inl (cb2_, 150, .inl fy_))] ∧ va_S A s.heap x.2.2.1 x.2.2.2.1 ∧ lv_has x.2.2.2.2 5 [(4, .int (nI x.1)), (3, .int v_394), (2, .int x_292), (0, .ref mo), (1, .int (nI jf))]) (fun x => z_382 - x.1) ?_ (0, 0, H, locs, ls) ⟨by (try dsimp only); omega, hP, hD, hS, hl⟩
                      rintro ⟨k_456, v_467, H, locs, ls⟩ ⟨hi_479_0, hP, hD, hS, hl⟩ ih_480
                      dsimp only at hi_479_0 hP hD hS hl ih_480 ⊢
                      refine lv_iload hx hb dX12_lookAt_218 (lv_at hl 0 rfl) ?_
                      refine lv_aload_n hx hb dX12_lookAt_220 rfl (lv_at hl 3 rfl) ?_
                      refine va_get (D := (dC, dI)) (ci := 12) (v := .int (nI z_382)) (C := RX12) (T := TX12) (N := 24) hx hb hts iw_m_lookAt_X12 hown hK hP 0 rfl rfl 19 (by decide) (hts (.fieldLink RX12 267 "ThriceCountedModel" "tokenLong" "I") (by decide +kernel)) (fun _ h9 => h9) rfl dX12_lookAt_221 ?_
                      refine lv_icmp_ge (tgt := 274) hx hb dX12_lookAt_224 (by decide) (fun c_481 => ?_) (fun c_481 => ?_)
                      · have hn_482 : z_382 ≤ k_456 := (nI_leI (a := z_382) (b := k_456) (by omega) (by omega)).mp c_481
                        refine lv_aload_n hx hb dX12_lookAt_274 rfl (lv_at hl 3 rfl) ?_
                        refine lv_aload_n hx hb dX12_lookAt_275 rfl (lv_at hl 3 rfl) ?_
                        refine va_get (D := (dC, dI)) (ci := 12) (v := .int 2) (C := RX12) (T := TX12) (N := 24) hx hb hts iw_m_lookAt_X12 hown hK hP 0 rfl rfl 20 (by decide) (hts (.fieldLink RX12 270 "ThriceCountedModel" "token" "I") (by decide +kernel)) (fun _ h9 => h9) rfl dX12_lookAt_276 ?_
                        refine lv_iconst (v := 2) hx hb dX12_lookAt_279 (by decide) ?_
                        refine lv_icmp_ne (tgt := 295) hx hb dX12_lookAt_280 (by decide) (fun c_483 => ?_) (fun c_483 => ?_)
                        · exact absurd c_483 (by decide)
                        · refine lv_aload_n hx hb dX12_lookAt_283 rfl (lv_at hl 3 rfl) ?_
                          refine va_get (D := (dC, dI)) (ci := 12) (v := .int (nI z_382)) (C := RX12) (T := TX12) (N := 24) hx hb hts iw_m_lookAt_X12 hown hK hP 0 rfl rfl 19 (by decide) (hts (.fieldLink RX12 267 "ThriceCountedModel" "tokenLong" "I") (by decide +kernel)) (fun _ h9 => h9) rfl dX12_lookAt_284 ?_
                          refine lv_iconst (v := 3) hx hb dX12_lookAt_287 (by decide) ?_
                          refine lv_icmp_le (tgt := 295) hx hb dX12_lookAt_288 (by decide) (fun c_484 => ?_) (fun c_484 => ?_)
                          · have hn_485 : z_382 ≤ 3 := (nI_leI (a := z_382) (b := 3) (by omega) (by omega)).mp c_484
                            refine lv_aload_n hx hb dX12_lookAt_295 rfl (lv_at hl 3 rfl) ?_
                            refine va_get (D := (dC, dI)) (ci := 12) (v := .int 2) (C := RX12) (T := TX12) (N := 24) hx hb hts iw_m_lookAt_X12 hown hK hP 0 rfl rfl 20 (by decide) (hts (.fieldLink RX12 270 "ThriceCountedModel" "token" "I") (by decide +kernel)) (fun _ h9 => h9) rfl dX12_lookAt_296 ?_
                            refine va_put (D := (dC, dI)) (ci := 12) (v := .int 2) (ty := .int) (C := RX12) (T := TX12) (N := 24) hx hb hts iw_m_lookAt_X12 tyX12 tyX12_ok nmX12 hown hK hP hD hS 0 rfl rfl 20 (by decide) (hts (.fieldLink RX12 270 "ThriceCountedModel" "token" "I") (by decide +kernel)) (fun _ h9 => h9) rfl (by decide +kernel) rfl rfl (Nat.le_of_ble_eq_true rfl) dX12_lookAt_299 (fun H locs hP hD hS => ?_)
                            have hP : va_P (dC, dI) vwCl [(mo, .inr (12, [.ref nw, .ref kp, .ref ik, .ref mr, .long la_, .long lb_, .ref mw, .long lc_, .int ti_, .int cb_, .long ld_, .long le_, .ref mq, .ref mz, .ref my, .int sm_, .ref mb, .int (nI jb), .int (nI z_1), .int (nI z_382), .int 2, .int v_467, .ref mx, .ref mv])), (mb, .inl (cb2_, 150, .inl fy_))] H := hP
                            have hD : va_D A [(mo, .inr (12, [.ref nw, .ref kp, .ref ik, .ref mr, .long la_, .long lb_, .ref mw, .long lc_, .int ti_, .int cb_, .long ld_, .long le_, .ref mq, .ref mz, .ref my, .int sm_, .ref mb, .int (nI jb), .int (nI z_1), .int (nI z_382), .int 2, .int v_467, .ref mx, .ref mv])), (mb, .inl (cb2_, 150, .inl fy_))] := hD
                            have hP9 := hP.sub (ws' := [(mo, .inr (12, [.ref nw, .ref kp, .ref ik, .ref mr, .long la_, .long lb_, .ref mw, .long lc_, .int ti_, .int cb_, .long ld_, .long le_, .ref mq, .ref mz, .ref my, .int sm_, .ref mb, .int (nI jb), .int (nI z_1), .int (nI z_382), .int 2, .int v_467, .ref mx, .ref mv])), (mb, .inl (cb2_, 150, .inl fy_))]) [0, 1] rfl
                            have hD9 := hD.sub (ws' := [(mo, .inr (12, [.ref nw, .ref kp, .ref ik, .ref mr, .long la_, .long lb_, .ref mw, .long lc_, .int ti_, .int cb_, .long ld_, .long le_, .ref mq, .ref mz, .ref my, .int sm_, .ref mb, .int (nI jb), .int (nI z_1), .int (nI z_382), .int 2, .int v_467, .ref mx, .ref mv])), (mb, .inl (cb2_, 150, .inl fy_))]) [0, 1] (by decide) rfl
                            have hK9 := hK.sub (tys' := [(cb2_, .int)]) [0] rfl
                            exact W.vret hx hb hr (fun t ht hW => ⟨⟨(), rfl, trivial, 2, v_467, z_1, z_382, by omega, by omega, fun q => absurd q (by decide), by rw [ht]; exact hP9, va_K.moved hW.alike hK9, hD9⟩, hS.F ht⟩) hS.2.2 dX12_lookAt_302
                          · have hn_486 : ¬ z_382 ≤ 3 := fun q => c_484 ((nI_leI (a := z_382) (b := 3) (by omega) (by omega)).mpr q)
                            refine lv_iconst (v := 4) hx hb dX12_lookAt_291 (by decide) ?_
                            refine lv_goto (tgt := 299) hx hb dX12_lookAt_292 (by decide) ?_
                            refine va_put (D := (dC, dI)) (ci := 12) (v := .int 4) (ty := .int) (C := RX12) (T := TX12) (N := 24) hx hb hts iw_m_lookAt_X12 tyX12 tyX12_ok nmX12 hown hK hP hD hS 0 rfl rfl 20 (by decide) (hts (.fieldLink RX12 270 "ThriceCountedModel" "token" "I") (by decide +kernel)) (fun _ h9 => h9) rfl (by decide +kernel) rfl rfl (Nat.le_of_ble_eq_true rfl) dX12_lookAt_299 (fun H locs hP hD hS => ?_)
                            have hP : va_P (dC, dI) vwCl [(mo, .inr (12, [.ref nw, .ref kp, .ref ik, .ref mr, .long la_, .long lb_, .ref mw, .long lc_, .int ti_, .int cb_, .long ld_, .long le_, .ref mq, .ref mz, .ref my, .int sm_, .ref mb, .int (nI jb), .int (nI z_1), .int (nI z_382), .int 4, .int v_467, .ref mx, .ref mv])), (mb, .inl (cb2_, 150, .inl fy_))] H := hP
                            have hD : va_D A [(mo, .inr (12, [.ref nw, .ref kp, .ref ik, .ref mr, .long la_, .long lb_, .ref mw, .long lc_, .int ti_, .int cb_, .long ld_, .long le_, .ref mq, .ref mz, .ref my, .int sm_, .ref mb, .int (nI jb), .int (nI z_1), .int (nI z_382), .int 4, .int v_467, .ref mx, .ref mv])), (mb, .inl (cb2_, 150, .inl fy_))] := hD
                            have hP9 := hP.sub (ws' := [(mo, .inr (12, [.ref nw, .ref kp, .ref ik, .ref mr, .long la_, .long lb_, .ref mw, .long lc_, .int ti_, .int cb_, .long ld_, .long le_, .ref mq, .ref mz, .ref my, .int sm_, .ref mb, .int (nI jb), .int (nI z_1), .int (nI z_382), .int 4, .int v_467, .ref mx, .ref mv])), (mb, .inl (cb2_, 150, .inl fy_))]) [0, 1] rfl
                            have hD9 := hD.sub (ws' := [(mo, .inr (12, [.ref nw, .ref kp, .ref ik, .ref mr, .long la_, .long lb_, .ref mw, .long lc_, .int ti_, .int cb_, .long ld_, .long le_, .ref mq, .ref mz, .ref my, .int sm_, .ref mb, .int (nI jb), .int (nI z_1), .int (nI z_382), .int 4, .int v_467, .ref mx, .ref mv])), (mb, .inl (cb2_, 150, .inl fy_))]) [0, 1] (by decide) rfl
                            have hK9 := hK.sub (tys' := [(cb2_, .int)]) [0] rfl
                            exact W.vret hx hb hr (fun t ht hW => ⟨⟨(), rfl, trivial, 4, v_467, z_1, z_382, by omega, by omega, fun q => absurd q (by decide), by rw [ht]; exact hP9, va_K.moved hW.alike hK9, hD9⟩, hS.F ht⟩) hS.2.2 dX12_lookAt_302
                      · have hn_487 : ¬ z_382 ≤ k_456 := fun q => c_481 ((nI_leI (a := z_382) (b := k_456) (by omega) (by omega)).mpr q)
                        refine lv_iload hx hb dX12_lookAt_227 (lv_at hl 0 rfl) ?_
                        refine lv_iconst (v := 3) hx hb dX12_lookAt_229 (by decide) ?_
                        refine lv_icmp_ge (tgt := 274) hx hb dX12_lookAt_230 (by decide) (fun c_488 => ?_) (fun c_488 => ?_)
                        · have hn_489 : 3 ≤ k_456 := (nI_leI (a := 3) (b := k_456) (by omega) (by omega)).mp c_488
                          refine lv_aload_n hx hb dX12_lookAt_274 rfl (lv_at hl 3 rfl) ?_
                          refine lv_aload_n hx hb dX12_lookAt_275 rfl (lv_at hl 3 rfl) ?_
                          refine va_get (D := (dC, dI)) (ci := 12) (v := .int 2) (C := RX12) (T := TX12) (N := 24) hx hb hts iw_m_lookAt_X12 hown hK hP 0 rfl rfl 20 (by decide) (hts (.fieldLink RX12 270 "ThriceCountedModel" "token" "I") (by decide +kernel)) (fun _ h9 => h9) rfl dX12_lookAt_276 ?_
                          refine lv_iconst (v := 2) hx hb dX12_lookAt_279 (by decide) ?_
                          refine lv_icmp_ne (tgt := 295) hx hb dX12_lookAt_280 (by decide) (fun c_490 => ?_) (fun c_490 => ?_)
                          · exact absurd c_490 (by decide)
                          · refine lv_aload_n hx hb dX12_lookAt_283 rfl (lv_at hl 3 rfl) ?_
                            refine va_get (D := (dC, dI)) (ci := 12) (v := .int (nI z_382)) (C := RX12) (T := TX12) (N := 24) hx hb hts iw_m_lookAt_X12 hown hK hP 0 rfl rfl 19 (by decide) (hts (.fieldLink RX12 267 "ThriceCountedModel" "tokenLong" "I") (by decide +kernel)) (fun _ h9 => h9) rfl dX12_lookAt_284 ?_
                            refine lv_iconst (v := 3) hx hb dX12_lookAt_287 (by decide) ?_
                            refine lv_icmp_le (tgt := 295) hx hb dX12_lookAt_288 (by decide) (fun c_491 => ?_) (fun c_491 => ?_)
                            · have hn_492 : z_382 ≤ 3 := (nI_leI (a := z_382) (b := 3) (by omega) (by omega)).mp c_491
                              refine lv_aload_n hx hb dX12_lookAt_295 rfl (lv_at hl 3 rfl) ?_
                              refine va_get (D := (dC, dI)) (ci := 12) (v := .int 2) (C := RX12) (T := TX12) (N := 24) hx hb hts iw_m_lookAt_X12 hown hK hP 0 rfl rfl 20 (by decide) (hts (.fieldLink RX12 270 "ThriceCountedModel" "token" "I") (by decide +kernel)) (fun _ h9 => h9) rfl dX12_lookAt_296 ?_
                              refine va_put (D := (dC, dI)) (ci := 12) (v := .int 2) (ty := .int) (C := RX12) (T := TX12) (N := 24) hx hb hts iw_m_lookAt_X12 tyX12 tyX12_ok nmX12 hown hK hP hD hS 0 rfl rfl 20 (by decide) (hts (.fieldLink RX12 270 "ThriceCountedModel" "token" "I") (by decide +kernel)) (fun _ h9 => h9) rfl (by decide +kernel) rfl rfl (Nat.le_of_ble_eq_true rfl) dX12_lookAt_299 (fun H locs hP hD hS => ?_)
                              have hP : va_P (dC, dI) vwCl [(mo, .inr (12, [.ref nw, .ref kp, .ref ik, .ref mr, .long la_, .long lb_, .ref mw, .long lc_, .int ti_, .int cb_, .long ld_, .long le_, .ref mq, .ref mz, .ref my, .int sm_, .ref mb, .int (nI jb), .int (nI z_1), .int (nI z_382), .int 2, .int v_467, .ref mx, .ref mv])), (mb, .inl (cb2_, 150, .inl fy_))] H := hP
                              have hD : va_D A [(mo, .inr (12, [.ref nw, .ref kp, .ref ik, .ref mr, .long la_, .long lb_, .ref mw, .long lc_, .int ti_, .int cb_, .long ld_, .long le_, .ref mq, .ref mz, .ref my, .int sm_, .ref mb, .int (nI jb), .int (nI z_1), .int (nI z_382), .int 2, .int v_467, .ref mx, .ref mv])), (mb, .inl (cb2_, 150, .inl fy_))] := hD
                              have hP9 := hP.sub (ws' := [(mo, .inr (12, [.ref nw, .ref kp, .ref ik, .ref mr, .long la_, .long lb_, .ref mw, .long lc_, .int ti_, .int cb_, .long ld_, .long le_, .ref mq, .ref mz, .ref my, .int sm_, .ref mb, .int (nI jb), .int (nI z_1), .int (nI z_382), .int 2, .int v_467, .ref mx, .ref mv])), (mb, .inl (cb2_, 150, .inl fy_))]) [0, 1] rfl
                              have hD9 := hD.sub (ws' := [(mo, .inr (12, [.ref nw, .ref kp, .ref ik, .ref mr, .long la_, .long lb_, .ref mw, .long lc_, .int ti_, .int cb_, .long ld_, .long le_, .ref mq, .ref mz, .ref my, .int sm_, .ref mb, .int (nI jb), .int (nI z_1), .int (nI z_382), .int 2, .int v_467, .ref mx, .ref mv])), (mb, .inl (cb2_, 150, .inl fy_))]) [0, 1] (by decide) rfl
                              have hK9 := hK.sub (tys' := [(cb2_, .int)]) [0] rfl
                              exact W.vret hx hb hr (fun t ht hW => ⟨⟨(), rfl, trivial, 2, v_467, z_1, z_382, by omega, by omega, fun q => absurd q (by decide), by rw [ht]; exact hP9, va_K.moved hW.alike hK9, hD9⟩, hS.F ht⟩) hS.2.2 dX12_lookAt_302
                            · have hn_493 : ¬ z_382 ≤ 3 := fun q => c_491 ((nI_leI (a := z_382) (b := 3) (by omega) (by omega)).mpr q)
                              refine lv_iconst (v := 4) hx hb dX12_lookAt_291 (by decide) ?_
                              refine lv_goto (tgt := 299) hx hb dX12_lookAt_292 (by decide) ?_
                              refine va_put (D := (dC, dI)) (ci := 12) (v := .int 4) (ty := .int) (C := RX12) (T := TX12) (N := 24) hx hb hts iw_m_lookAt_X12 tyX12 tyX12_ok nmX12 hown hK hP hD hS 0 rfl rfl 20 (by decide) (hts (.fieldLink RX12 270 "ThriceCountedModel" "token" "I") (by decide +kernel)) (fun _ h9 => h9) rfl (by decide +kernel) rfl rfl (Nat.le_of_ble_eq_true rfl) dX12_lookAt_299 (fun H locs hP hD hS => ?_)
                              have hP : va_P (dC, dI) vwCl [(mo, .inr (12, [.ref nw, .ref kp, .ref ik, .ref mr, .long la_, .long lb_, .ref mw, .long lc_, .int ti_, .int cb_, .long ld_, .long le_, .ref mq, .ref mz, .ref my, .int sm_, .ref mb, .int (nI jb), .int (nI z_1), .int (nI z_382), .int 4, .int v_467, .ref mx, .ref mv])), (mb, .inl (cb2_, 150, .inl fy_))] H := hP
                              have hD : va_D A [(mo, .inr (12, [.ref nw, .ref kp, .ref ik, .ref mr, .long la_, .long lb_, .ref mw, .long lc_, .int ti_, .int cb_, .long ld_, .long le_, .ref mq, .ref mz, .ref my, .int sm_, .ref mb, .int (nI jb), .int (nI z_1), .int (nI z_382), .int 4, .int v_467, .ref mx, .ref mv])), (mb, .inl (cb2_, 150, .inl fy_))] := hD
                              have hP9 := hP.sub (ws' := [(mo, .inr (12, [.ref nw, .ref kp, .ref ik, .ref mr, .long la_, .long lb_, .ref mw, .long lc_, .int ti_, .int cb_, .long ld_, .long le_, .ref mq, .ref mz, .ref my, .int sm_, .ref mb, .int (nI jb), .int (nI z_1), .int (nI z_382), .int 4, .int v_467, .ref mx, .ref mv])), (mb, .inl (cb2_, 150, .inl fy_))]) [0, 1] rfl
                              have hD9 := hD.sub (ws' := [(mo, .inr (12, [.ref nw, .ref kp, .ref ik, .ref mr, .long la_, .long lb_, .ref mw, .long lc_, .int ti_, .int cb_, .long ld_, .long le_, .ref mq, .ref mz, .ref my, .int sm_, .ref mb, .int (nI jb), .int (nI z_1), .int (nI z_382), .int 4, .int v_467, .ref mx, .ref mv])), (mb, .inl (cb2_, 150, .inl fy_))]) [0, 1] (by decide) rfl
                              have hK9 := hK.sub (tys' := [(cb2_, .int)]) [0] rfl
                              exact W.vret hx hb hr (fun t ht hW => ⟨⟨(), rfl, trivial, 4, v_467, z_1, z_382, by omega, by omega, fun q => absurd q (by decide), by rw [ht]; exact hP9, va_K.moved hW.alike hK9, hD9⟩, hS.F ht⟩) hS.2.2 dX12_lookAt_302
                        · have hn_494 : ¬ 3 ≤ k_456 := fun q => c_488 ((nI_leI (a := 3) (b := k_456) (by omega) (by omega)).mpr q)
                          refine lv_aload_n hx hb dX12_lookAt_233 rfl (lv_at hl 3 rfl) ?_
                          refine va_get (D := (dC, dI)) (ci := 12) (v := .int 2) (C := RX12) (T := TX12) (N := 24) hx hb hts iw_m_lookAt_X12 hown hK hP 0 rfl rfl 20 (by decide) (hts (.fieldLink RX12 270 "ThriceCountedModel" "token" "I") (by decide +kernel)) (fun _ h9 => h9) rfl dX12_lookAt_234 ?_
                          refine lv_iconst (v := 2) hx hb dX12_lookAt_237 (by decide) ?_
                          refine lv_icmp_ne (tgt := 274) hx hb dX12_lookAt_238 (by decide) (fun c_495 => ?_) (fun c_495 => ?_)
                          · exact absurd c_495 (by decide)
                          · refine lv_aload_n hx hb dX12_lookAt_241 rfl (lv_at hl 3 rfl) ?_
                            refine lv_bipush (v := 10) hx hb dX12_lookAt_242 (by decide) ?_
                            refine lv_aload_n hx hb dX12_lookAt_244 rfl (lv_at hl 3 rfl) ?_
                            refine va_get (D := (dC, dI)) (ci := 12) (v := .int v_467) (C := RX12) (T := TX12) (N := 24) hx hb hts iw_m_lookAt_X12 hown hK hP 0 rfl rfl 21 (by decide) (hts (.fieldLink RX12 273 "ThriceCountedModel" "value" "I") (by decide +kernel)) (fun _ h9 => h9) rfl dX12_lookAt_245 ?_
                            refine lv_imul hx hb dX12_lookAt_248 ?_
                            refine lv_topi (fun x_496 _ => ?_)
                            refine lv_aload_n hx hb dX12_lookAt_249 rfl (lv_at hl 3 rfl) ?_
                            refine va_get (D := (dC, dI)) (ci := 12) (v := .ref mb) (C := RX12) (T := TX12) (N := 24) hx hb hts iw_m_lookAt_X12 hown hK hP 0 rfl rfl 16 (by decide) (hts (.fieldLink RX12 40 "ThriceCountedModel" "bytes" "[I") (by decide +kernel)) (fun _ h9 => h9) rfl dX12_lookAt_250 ?_
                            refine lv_aload_n hx hb dX12_lookAt_253 rfl (lv_at hl 3 rfl) ?_
                            refine va_get (D := (dC, dI)) (ci := 12) (v := .int (nI z_1)) (C := RX12) (T := TX12) (N := 24) hx hb hts iw_m_lookAt_X12 hown hK hP 0 rfl rfl 18 (by decide) (hts (.fieldLink RX12 264 "ThriceCountedModel" "tokenAt" "I") (by decide +kernel)) (fun _ h9 => h9) rfl dX12_lookAt_254 ?_
                            refine lv_iload hx hb dX12_lookAt_257 (lv_at hl 0 rfl) ?_
                            refine lv_iadd hx hb dX12_lookAt_259 ?_
                            refine tz_i (nI (z_1 + k_456)) (nI_add z_1 k_456) ?_
                            refine va_iald hx hb hK hP 1 0 rfl rfl (vp_in_nI (n := (z_1 + k_456)) (N := 150) (by omega) (by decide)) dX12_lookAt_260 ?_
                            refine lv_topi (fun x_497 _ => ?_)
                            refine lv_iadd hx hb dX12_lookAt_261 ?_
                            refine lv_topi (fun x_498 _ => ?_)
                            refine lv_bipush (v := 48) hx hb dX12_lookAt_262 (by decide) ?_
                            refine lv_isub hx hb dX12_lookAt_264 ?_
                            refine lv_topi (fun x_499 _ => ?_)
                            refine va_put (D := (dC, dI)) (ci := 12) (v := .int x_499) (ty := .int) (C := RX12) (T := TX12) (N := 24) hx hb hts iw_m_lookAt_X12 tyX12 tyX12_ok nmX12 hown hK hP hD hS 0 rfl rfl 21 (by decide) (hts (.fieldLink RX12 273 "ThriceCountedModel" "value" "I") (by decide +kernel)) (fun _ h9 => h9) rfl (by decide +kernel) rfl rfl (Nat.le_of_ble_eq_true rfl) dX12_lookAt_265 (fun H locs hP hD hS => ?_)
                            have hP : va_P (dC, dI) vwCl [(mo, .inr (12, [.ref nw, .ref kp, .ref ik, .ref mr, .long la_, .long lb_, .ref mw, .long lc_, .int ti_, .int cb_, .long ld_, .long le_, .ref mq, .ref mz, .ref my, .int sm_, .ref mb, .int (nI jb), .int (nI z_1), .int (nI z_382), .int 2, .int x_499, .ref mx, .ref mv])), (mb, .inl (cb2_, 150, .inl fy_))] H := hP
                            have hD : va_D A [(mo, .inr (12, [.ref nw, .ref kp, .ref ik, .ref mr, .long la_, .long lb_, .ref mw, .long lc_, .int ti_, .int cb_, .long ld_, .long le_, .ref mq, .ref mz, .ref my, .int sm_, .ref mb, .int (nI jb), .int (nI z_1), .int (nI z_382), .int 2, .int x_499, .ref mx, .ref mv])), (mb, .inl (cb2_, 150, .inl fy_))] := hD
                            refine lv_iinc (v := (nI (k_456 + 1))) (lv' := [(4, .int (nI (k_456 + 1))), (3, .int v_394), (2, .int x_292), (0, .ref mo), (1, .int (nI jf))]) hx hb dX12_lookAt_268 hl (k := 0) rfl (nI_add k_456 1) (by decide) rfl (fun ls hl => ?_)
                            refine lv_goto (tgt := 218) hx hb dX12_lookAt_271 (by decide) ?_
                            exact ih_480 ((k_456 + 1), x_499, H, locs, ls) ⟨by dsimp only; omega, hP, hD, hS, lv_sub hl [0, 1, 2, 3, 4] rfl⟩ (by dsimp only; omega)
                    · have hn_500 : ¬ jb ≤ (z_1 + z_382) := fun q => c_454 ((nI_leI (a := jb) (b := (z_1 + z_382)) (by omega) (by omega)).mpr q)
                      refine lv_aload_n hx hb dX12_lookAt_156 rfl (lv_at hl 2 rfl) ?_
                      refine va_get (D := (dC, dI)) (ci := 12) (v := .ref mb) (C := RX12) (T := TX12) (N := 24) hx hb hts iw_m_lookAt_X12 hown hK hP 0 rfl rfl 16 (by decide) (hts (.fieldLink RX12 40 "ThriceCountedModel" "bytes" "[I") (by decide +kernel)) (fun _ h9 => h9) rfl dX12_lookAt_157 ?_
                      refine lv_aload_n hx hb dX12_lookAt_160 rfl (lv_at hl 2 rfl) ?_
                      refine va_get (D := (dC, dI)) (ci := 12) (v := .int (nI z_1)) (C := RX12) (T := TX12) (N := 24) hx hb hts iw_m_lookAt_X12 hown hK hP 0 rfl rfl 18 (by decide) (hts (.fieldLink RX12 264 "ThriceCountedModel" "tokenAt" "I") (by decide +kernel)) (fun _ h9 => h9) rfl dX12_lookAt_161 ?_
                      refine lv_aload_n hx hb dX12_lookAt_164 rfl (lv_at hl 2 rfl) ?_
                      refine va_get (D := (dC, dI)) (ci := 12) (v := .int (nI z_382)) (C := RX12) (T := TX12) (N := 24) hx hb hts iw_m_lookAt_X12 hown hK hP 0 rfl rfl 19 (by decide) (hts (.fieldLink RX12 267 "ThriceCountedModel" "tokenLong" "I") (by decide +kernel)) (fun _ h9 => h9) rfl dX12_lookAt_165 ?_
                      refine lv_iadd hx hb dX12_lookAt_168 ?_
                      refine tz_i (nI (z_1 + z_382)) (nI_add z_1 z_382) ?_
                      refine va_iald hx hb hK hP 1 0 rfl rfl (vp_in_nI (n := (z_1 + z_382)) (N := 150) (by omega) (by decide)) dX12_lookAt_169 ?_
                      refine lv_topi (fun x_501 _ => ?_)
                      refine lv_istore (lv' := [(4, .int x_501), (3, .int v_394), (2, .int x_292), (0, .ref mo), (1, .int (nI jf))]) hx hb dX12_lookAt_170 hl (by decide) rfl (fun ls hl => ?_)
                      refine lv_aload_n hx hb dX12_lookAt_172 rfl (lv_at hl 3 rfl) ?_
                      refine va_get (D := (dC, dI)) (ci := 12) (v := .int 2) (C := RX12) (T := TX12) (N := 24) hx hb hts iw_m_lookAt_X12 hown hK hP 0 rfl rfl 20 (by decide) (hts (.fieldLink RX12 270 "ThriceCountedModel" "token" "I") (by decide +kernel)) (fun _ h9 => h9) rfl dX12_lookAt_173 ?_
                      refine lv_iconst (v := 1) hx hb dX12_lookAt_176 (by decide) ?_
                      refine lv_icmp_ne (tgt := 188) hx hb dX12_lookAt_177 (by decide) (fun c_502 => ?_) (fun c_502 => ?_)
                      · refine lv_iload hx hb dX12_lookAt_188 (lv_at hl 0 rfl) ?_
                        refine vp_callSi (va_Run.run (va_runS (As := [.int x_501]) (rest := []) ⟨hx, hb, hml, hown, hts⟩ (m_isFigure l dC dI x_501) (va_cwS 1 hts gX12_lookAt_X12_isFigure rfl rfl rfl (by decide +kernel) ⟨Nat.le_of_ble_eq_true rfl, Nat.le_of_ble_eq_true rfl⟩) ⟨fun a U g mk q => ⟨q.1, trivial⟩, fun U hU hW => ⟨rfl, trivial⟩⟩ rfl rfl hl.1 rfl (lv_room (Nat.le_of_ble_eq_true rfl)) dX12_lookAt_190 ⟨Nat.le_of_ble_eq_true rfl, Nat.le_of_ble_eq_true rfl⟩)) (fun r_503 hw_504 => ?_)
                        by_cases hc_505 : 48 ≤ x_501 ∧ x_501 ≤ 57
                        · obtain rfl : 1 = r_503 := (hw_504.trans (if_pos hc_505)).symm
                          refine lv_istore_n (lv' := [(3, .int 1), (4, .int x_501), (2, .int x_292), (0, .ref mo), (1, .int (nI jf))]) hx hb dX12_lookAt_193 rfl hl (by decide) rfl (fun ls hl => ?_)
                          refine lv_aload_n hx hb dX12_lookAt_194 rfl (lv_at hl 3 rfl) ?_
                          refine lv_dup hx hb dX12_lookAt_195 rfl ?_
                          refine va_get (D := (dC, dI)) (ci := 12) (v := .int (nI z_382)) (C := RX12) (T := TX12) (N := 24) hx hb hts iw_m_lookAt_X12 hown hK hP 0 rfl rfl 19 (by decide) (hts (.fieldLink RX12 267 "ThriceCountedModel" "tokenLong" "I") (by decide +kernel)) (fun _ h9 => h9) rfl dX12_lookAt_196 ?_
                          refine lv_iload_n hx hb dX12_lookAt_199 rfl (lv_at hl 0 rfl) ?_
                          refine lv_if_eq (tgt := 207) hx hb dX12_lookAt_200 (by decide) (fun c_506 => ?_) (fun c_506 => ?_)
                          · exact absurd c_506 (by decide)
                          · refine lv_iconst (v := 1) hx hb dX12_lookAt_203 (by decide) ?_
                            refine lv_goto (tgt := 208) hx hb dX12_lookAt_204 (by decide) ?_
                            refine lv_iadd hx hb dX12_lookAt_208 ?_
                            refine tz_i (nI (z_382 + 1)) (nI_add z_382 1) ?_
                            refine va_put (D := (dC, dI)) (ci := 12) (v := .int (nI (z_382 + 1))) (ty := .int) (C := RX12) (T := TX12) (N := 24) hx hb hts iw_m_lookAt_X12 tyX12 tyX12_ok nmX12 hown hK hP hD hS 0 rfl rfl 19 (by decide) (hts (.fieldLink RX12 267 "ThriceCountedModel" "tokenLong" "I") (by decide +kernel)) (fun _ h9 => h9) rfl (by decide +kernel) rfl rfl (Nat.le_of_ble_eq_true rfl) dX12_lookAt_209 (fun H locs hP hD hS => ?_)
                            have hP : va_P (dC, dI) vwCl [(mo, .inr (12, [.ref nw, .ref kp, .ref ik, .ref mr, .long la_, .long lb_, .ref mw, .long lc_, .int ti_, .int cb_, .long ld_, .long le_, .ref mq, .ref mz, .ref my, .int sm_, .ref mb, .int (nI jb), .int (nI z_1), .int (nI (z_382 + 1)), .int 2, .int 0, .ref mx, .ref mv])), (mb, .inl (cb2_, 150, .inl fy_))] H := hP
                            have hD : va_D A [(mo, .inr (12, [.ref nw, .ref kp, .ref ik, .ref mr, .long la_, .long lb_, .ref mw, .long lc_, .int ti_, .int cb_, .long ld_, .long le_, .ref mq, .ref mz, .ref my, .int sm_, .ref mb, .int (nI jb), .int (nI z_1), .int (nI (z_382 + 1)), .int 2, .int 0, .ref mx, .ref mv])), (mb, .inl (cb2_, 150, .inl fy_))] := hD
                            refine lv_goto (tgt := 136) hx hb dX12_lookAt_212 (by decide) ?_
                            exact ih_408 ((z_382 + 1), 1, H, locs, ls) ⟨by dsimp only; omega, by dsimp only; omega, hP, hD, hS, lv_sub hl [0, 2, 3, 4] rfl⟩ (tz_fl1 (by dsimp only; omega) c_409)
                        · obtain rfl : 0 = r_503 := (hw_504.trans (if_neg hc_505)).symm
                          refine lv_istore_n (lv' := [(3, .int 0), (4, .int x_501), (2, .int x_292), (0, .ref mo), (1, .int (nI jf))]) hx hb dX12_lookAt_193 rfl hl (by decide) rfl (fun ls hl => ?_)
                          refine lv_aload_n hx hb dX12_lookAt_194 rfl (lv_at hl 3 rfl) ?_
                          refine lv_dup hx hb dX12_lookAt_195 rfl ?_
                          refine va_get (D := (dC, dI)) (ci := 12) (v := .int (nI z_382)) (C := RX12) (T := TX12) (N := 24) hx hb hts iw_m_lookAt_X12 hown hK hP 0 rfl rfl 19 (by decide) (hts (.fieldLink RX12 267 "ThriceCountedModel" "tokenLong" "I") (by decide +kernel)) (fun _ h9 => h9) rfl dX12_lookAt_196 ?_
                          refine lv_iload_n hx hb dX12_lookAt_199 rfl (lv_at hl 0 rfl) ?_
                          refine lv_if_eq (tgt := 207) hx hb dX12_lookAt_200 (by decide) (fun c_507 => ?_) (fun c_507 => ?_)
                          · refine lv_iconst (v := 0) hx hb dX12_lookAt_207 (by decide) ?_
                            refine lv_iadd hx hb dX12_lookAt_208 ?_
                            refine tz_i (nI (z_382 + 0)) (nI_add z_382 0) ?_
                            refine va_put (D := (dC, dI)) (ci := 12) (v := .int (nI (z_382 + 0))) (ty := .int) (C := RX12) (T := TX12) (N := 24) hx hb hts iw_m_lookAt_X12 tyX12 tyX12_ok nmX12 hown hK hP hD hS 0 rfl rfl 19 (by decide) (hts (.fieldLink RX12 267 "ThriceCountedModel" "tokenLong" "I") (by decide +kernel)) (fun _ h9 => h9) rfl (by decide +kernel) rfl rfl (Nat.le_of_ble_eq_true rfl) dX12_lookAt_209 (fun H locs hP hD hS => ?_)
                            have hP : va_P (dC, dI) vwCl [(mo, .inr (12, [.ref nw, .ref kp, .ref ik, .ref mr, .long la_, .long lb_, .ref mw, .long lc_, .int ti_, .int cb_, .long ld_, .long le_, .ref mq, .ref mz, .ref my, .int sm_, .ref mb, .int (nI jb), .int (nI z_1), .int (nI (z_382 + 0)), .int 2, .int 0, .ref mx, .ref mv])), (mb, .inl (cb2_, 150, .inl fy_))] H := hP
                            have hD : va_D A [(mo, .inr (12, [.ref nw, .ref kp, .ref ik, .ref mr, .long la_, .long lb_, .ref mw, .long lc_, .int ti_, .int cb_, .long ld_, .long le_, .ref mq, .ref mz, .ref my, .int sm_, .ref mb, .int (nI jb), .int (nI z_1), .int (nI (z_382 + 0)), .int 2, .int 0, .ref mx, .ref mv])), (mb, .inl (cb2_, 150, .inl fy_))] := hD
                            refine lv_goto (tgt := 136) hx hb dX12_lookAt_212 (by decide) ?_
                            exact ih_408 ((z_382 + 0), 0, H, locs, ls) ⟨by dsimp only; omega, by dsimp only; omega, hP, hD, hS, lv_sub hl [0, 2, 3, 4] rfl⟩ (tz_fl0 c_409)
                          · exact absurd c_507 (by decide)
                      · exact absurd c_502 (by decide)
            · obtain rfl : 0 = r_377 := (hw_378.trans (if_neg hc_379)).symm
              refine lv_if_eq (tgt := 103) hx hb dX12_lookAt_96 (by decide) (fun c_508 => ?_) (fun c_508 => ?_)
              · refine lv_iload_n hx hb dX12_lookAt_103 rfl (lv_at hl 0 rfl) ?_
                refine lv_bipush (v := 59) hx hb dX12_lookAt_104 (by decide) ?_
                refine lv_icmp_ne (tgt := 113) hx hb dX12_lookAt_106 (by decide) (fun c_509 => ?_) (fun c_509 => ?_)
                · refine lv_iconst (v := 4) hx hb dX12_lookAt_113 (by decide) ?_
                  refine va_put (D := (dC, dI)) (ci := 12) (v := .int 4) (ty := .int) (C := RX12) (T := TX12) (N := 24) hx hb hts iw_m_lookAt_X12 tyX12 tyX12_ok nmX12 hown hK hP hD hS 0 rfl rfl 20 (by decide) (hts (.fieldLink RX12 270 "ThriceCountedModel" "token" "I") (by decide +kernel)) (fun _ h9 => h9) rfl (by decide +kernel) rfl rfl (Nat.le_of_ble_eq_true rfl) dX12_lookAt_114 (fun H locs hP hD hS => ?_)
                  have hP : va_P (dC, dI) vwCl [(mo, .inr (12, [.ref nw, .ref kp, .ref ik, .ref mr, .long la_, .long lb_, .ref mw, .long lc_, .int ti_, .int cb_, .long ld_, .long le_, .ref mq, .ref mz, .ref my, .int sm_, .ref mb, .int (nI jb), .int (nI z_1), .int 0, .int 4, .int 0, .ref mx, .ref mv])), (mb, .inl (cb2_, 150, .inl fy_))] H := hP
                  have hD : va_D A [(mo, .inr (12, [.ref nw, .ref kp, .ref ik, .ref mr, .long la_, .long lb_, .ref mw, .long lc_, .int ti_, .int cb_, .long ld_, .long le_, .ref mq, .ref mz, .ref my, .int sm_, .ref mb, .int (nI jb), .int (nI z_1), .int 0, .int 4, .int 0, .ref mx, .ref mv])), (mb, .inl (cb2_, 150, .inl fy_))] := hD
                  refine lv_aload_n hx hb dX12_lookAt_117 rfl (lv_at hl 1 rfl) ?_
                  refine lv_iconst (v := 1) hx hb dX12_lookAt_118 (by decide) ?_
                  refine va_put (D := (dC, dI)) (ci := 12) (v := .int 1) (ty := .int) (C := RX12) (T := TX12) (N := 24) hx hb hts iw_m_lookAt_X12 tyX12 tyX12_ok nmX12 hown hK hP hD hS 0 rfl rfl 19 (by decide) (hts (.fieldLink RX12 267 "ThriceCountedModel" "tokenLong" "I") (by decide +kernel)) (fun _ h9 => h9) rfl (by decide +kernel) rfl rfl (Nat.le_of_ble_eq_true rfl) dX12_lookAt_119 (fun H locs hP hD hS => ?_)
                  have hP : va_P (dC, dI) vwCl [(mo, .inr (12, [.ref nw, .ref kp, .ref ik, .ref mr, .long la_, .long lb_, .ref mw, .long lc_, .int ti_, .int cb_, .long ld_, .long le_, .ref mq, .ref mz, .ref my, .int sm_, .ref mb, .int (nI jb), .int (nI z_1), .int 1, .int 4, .int 0, .ref mx, .ref mv])), (mb, .inl (cb2_, 150, .inl fy_))] H := hP
                  have hD : va_D A [(mo, .inr (12, [.ref nw, .ref kp, .ref ik, .ref mr, .long la_, .long lb_, .ref mw, .long lc_, .int ti_, .int cb_, .long ld_, .long le_, .ref mq, .ref mz, .ref my, .int sm_, .ref mb, .int (nI jb), .int (nI z_1), .int 1, .int 4, .int 0, .ref mx, .ref mv])), (mb, .inl (cb2_, 150, .inl fy_))] := hD
                  refine lv_aload_n hx hb dX12_lookAt_122 rfl (lv_at hl 1 rfl) ?_
                  refine va_get (D := (dC, dI)) (ci := 12) (v := .int 4) (C := RX12) (T := TX12) (N := 24) hx hb hts iw_m_lookAt_X12 hown hK hP 0 rfl rfl 20 (by decide) (hts (.fieldLink RX12 270 "ThriceCountedModel" "token" "I") (by decide +kernel)) (fun _ h9 => h9) rfl dX12_lookAt_123 ?_
                  refine lv_iconst (v := 3) hx hb dX12_lookAt_126 (by decide) ?_
                  refine lv_icmp_ge (tgt := 134) hx hb dX12_lookAt_127 (by decide) (fun c_510 => ?_) (fun c_510 => ?_)
                  · refine lv_iconst (v := 0) hx hb dX12_lookAt_134 (by decide) ?_
                    refine lv_istore_n (lv' := [(3, .int 0), (2, .int x_292), (0, .ref mo), (1, .int (nI jf))]) hx hb dX12_lookAt_135 rfl hl (by decide) rfl (fun ls hl => ?_)
                    refine tz_while (σ := Nat × Heap × List Loc × Array Slot) (fun x => W p l e _ s m _ below meth c x.2.1 x.2.2.1 _ _ _ (F0 m 136 x.2.2.2 [])) (fun x => 1 ≤ x.1 ∧ z_1 + x.1 ≤ jb ∧ va_P (dC, dI) vwCl [(mo, .inr (12, [.ref nw, .ref kp, .ref ik, .ref mr, .long la_, .long lb_, .ref mw, .long lc_, .int ti_, .int cb_, .long ld_, .long le_, .ref mq, .ref mz, .ref my, .int sm_, .ref mb, .int (nI jb), .int (nI z_1), .int (nI x.1), .int 4, .int 0, .ref mx, .ref mv])), (mb, .inl (cb2_, 150, .inl fy_))] x.2.1 ∧ va_D A [(mo, .inr (12, [.ref nw, .ref kp, .ref ik, .ref mr, .long la_, .long lb_, .ref mw, .long lc_, .int ti_, .int cb_, .long ld_, .long le_, .ref mq, .ref mz, .ref my, .int sm_, .ref mb, .int (nI jb), .int (nI z_1), .int (nI x.1), .int 4, .int 0, .ref mx, .ref mv])), (mb, .inl (cb2_, 150, .inl fy_))] ∧ va_S A s.heap x.2.1 x.2.2.1 ∧ lv_has x.2.2.2 5 [(3, .int 0), (2, .int x_292), (0, .ref mo), (1, .int (nI jf))]) (fun x => 0) ?_ (1, H, locs, ls) ⟨by (try dsimp only); omega, by (try dsimp only); omega, hP, hD, hS, hl⟩
                    rintro ⟨z_511, H, locs, ls⟩ ⟨hi_513_0, hi_514_1, hP, hD, hS, hl⟩ ih_515
                    dsimp only at hi_513_0 hi_514_1 hP hD hS hl ih_515 ⊢
                    refine lv_iload_n hx hb dX12_lookAt_136 rfl (lv_at hl 0 rfl) ?_
                    refine lv_if_eq (tgt := 215) hx hb dX12_lookAt_137 (by decide) (fun c_516 => ?_) (fun c_516 => ?_)
                    · refine lv_iconst (v := 0) hx hb dX12_lookAt_215 (by decide) ?_
                      refine lv_istore (lv' := [(4, .int 0), (3, .int 0), (2, .int x_292), (0, .ref mo), (1, .int (nI jf))]) hx hb dX12_lookAt_216 hl (by decide) rfl (fun ls hl => ?_)
                      refine tz_while (σ := Nat × Array Slot) (fun x => W p l e _ s m _ below meth c _ _ _ _ _ (F0 m 218 x.2 [])) (fun x => x.1 ≤ z_511 ∧ lv_has x.2 5 [(4, .int (nI x.1)), (3, .int 0), (2, .int x_292), (0, .ref mo), (1, .int (nI jf))]) (fun x => z_511 - x.1) ?_ (0, ls) ⟨by (try dsimp only); omega, hl⟩
                      rintro ⟨k_517, ls⟩ ⟨hi_525_0, hl⟩ ih_526
                      dsimp only at hi_525_0 hl ih_526 ⊢
                      refine lv_iload hx hb dX12_lookAt_218 (lv_at hl 0 rfl) ?_
                      refine lv_aload_n hx hb dX12_lookAt_220 rfl (lv_at hl 3 rfl) ?_
                      refine va_get (D := (dC, dI)) (ci := 12) (v := .int (nI z_511)) (C := RX12) (T := TX12) (N := 24) hx hb hts iw_m_lookAt_X12 hown hK hP 0 rfl rfl 19 (by decide) (hts (.fieldLink RX12 267 "ThriceCountedModel" "tokenLong" "I") (by decide +kernel)) (fun _ h9 => h9) rfl dX12_lookAt_221 ?_
                      refine lv_icmp_ge (tgt := 274) hx hb dX12_lookAt_224 (by decide) (fun c_527 => ?_) (fun c_527 => ?_)
                      · have hn_528 : z_511 ≤ k_517 := (nI_leI (a := z_511) (b := k_517) (by omega) (by omega)).mp c_527
                        refine lv_aload_n hx hb dX12_lookAt_274 rfl (lv_at hl 3 rfl) ?_
                        refine lv_aload_n hx hb dX12_lookAt_275 rfl (lv_at hl 3 rfl) ?_
                        refine va_get (D := (dC, dI)) (ci := 12) (v := .int 4) (C := RX12) (T := TX12) (N := 24) hx hb hts iw_m_lookAt_X12 hown hK hP 0 rfl rfl 20 (by decide) (hts (.fieldLink RX12 270 "ThriceCountedModel" "token" "I") (by decide +kernel)) (fun _ h9 => h9) rfl dX12_lookAt_276 ?_
                        refine lv_iconst (v := 2) hx hb dX12_lookAt_279 (by decide) ?_
                        refine lv_icmp_ne (tgt := 295) hx hb dX12_lookAt_280 (by decide) (fun c_529 => ?_) (fun c_529 => ?_)
                        · refine lv_aload_n hx hb dX12_lookAt_295 rfl (lv_at hl 3 rfl) ?_
                          refine va_get (D := (dC, dI)) (ci := 12) (v := .int 4) (C := RX12) (T := TX12) (N := 24) hx hb hts iw_m_lookAt_X12 hown hK hP 0 rfl rfl 20 (by decide) (hts (.fieldLink RX12 270 "ThriceCountedModel" "token" "I") (by decide +kernel)) (fun _ h9 => h9) rfl dX12_lookAt_296 ?_
                          refine va_put (D := (dC, dI)) (ci := 12) (v := .int 4) (ty := .int) (C := RX12) (T := TX12) (N := 24) hx hb hts iw_m_lookAt_X12 tyX12 tyX12_ok nmX12 hown hK hP hD hS 0 rfl rfl 20 (by decide) (hts (.fieldLink RX12 270 "ThriceCountedModel" "token" "I") (by decide +kernel)) (fun _ h9 => h9) rfl (by decide +kernel) rfl rfl (Nat.le_of_ble_eq_true rfl) dX12_lookAt_299 (fun H locs hP hD hS => ?_)
                          have hP : va_P (dC, dI) vwCl [(mo, .inr (12, [.ref nw, .ref kp, .ref ik, .ref mr, .long la_, .long lb_, .ref mw, .long lc_, .int ti_, .int cb_, .long ld_, .long le_, .ref mq, .ref mz, .ref my, .int sm_, .ref mb, .int (nI jb), .int (nI z_1), .int (nI z_511), .int 4, .int 0, .ref mx, .ref mv])), (mb, .inl (cb2_, 150, .inl fy_))] H := hP
                          have hD : va_D A [(mo, .inr (12, [.ref nw, .ref kp, .ref ik, .ref mr, .long la_, .long lb_, .ref mw, .long lc_, .int ti_, .int cb_, .long ld_, .long le_, .ref mq, .ref mz, .ref my, .int sm_, .ref mb, .int (nI jb), .int (nI z_1), .int (nI z_511), .int 4, .int 0, .ref mx, .ref mv])), (mb, .inl (cb2_, 150, .inl fy_))] := hD
                          have hP9 := hP.sub (ws' := [(mo, .inr (12, [.ref nw, .ref kp, .ref ik, .ref mr, .long la_, .long lb_, .ref mw, .long lc_, .int ti_, .int cb_, .long ld_, .long le_, .ref mq, .ref mz, .ref my, .int sm_, .ref mb, .int (nI jb), .int (nI z_1), .int (nI z_511), .int 4, .int 0, .ref mx, .ref mv])), (mb, .inl (cb2_, 150, .inl fy_))]) [0, 1] rfl
                          have hD9 := hD.sub (ws' := [(mo, .inr (12, [.ref nw, .ref kp, .ref ik, .ref mr, .long la_, .long lb_, .ref mw, .long lc_, .int ti_, .int cb_, .long ld_, .long le_, .ref mq, .ref mz, .ref my, .int sm_, .ref mb, .int (nI jb), .int (nI z_1), .int (nI z_511), .int 4, .int 0, .ref mx, .ref mv])), (mb, .inl (cb2_, 150, .inl fy_))]) [0, 1] (by decide) rfl
                          have hK9 := hK.sub (tys' := [(cb2_, .int)]) [0] rfl
                          exact W.vret hx hb hr (fun t ht hW => ⟨⟨(), rfl, trivial, 4, 0, z_1, z_511, by omega, by omega, fun q => absurd q (by decide), by rw [ht]; exact hP9, va_K.moved hW.alike hK9, hD9⟩, hS.F ht⟩) hS.2.2 dX12_lookAt_302
                        · exact absurd c_529 (by decide)
                      · have hn_530 : ¬ z_511 ≤ k_517 := fun q => c_527 ((nI_leI (a := z_511) (b := k_517) (by omega) (by omega)).mpr q)
                        refine lv_iload hx hb dX12_lookAt_227 (lv_at hl 0 rfl) ?_
                        refine lv_iconst (v := 3) hx hb dX12_lookAt_229 (by decide) ?_
                        refine lv_icmp_ge (tgt := 274) hx hb dX12_lookAt_230 (by decide) (fun c_531 => ?_) (fun c_531 => ?_)
                        · have hn_532 : 3 ≤ k_517 := (nI_leI (a := 3) (b := k_517) (by omega) (by omega)).mp c_531
                          refine lv_aload_n hx hb dX12_lookAt_274 rfl (lv_at hl 3 rfl) ?_
                          refine lv_aload_n hx hb dX12_lookAt_275 rfl (lv_at hl 3 rfl) ?_
                          refine va_get (D := (dC, dI)) (ci := 12) (v := .int 4) (C := RX12) (T := TX12) (N := 24) hx hb hts iw_m_lookAt_X12 hown hK hP 0 rfl rfl 20 (by decide) (hts (.fieldLink RX12 270 "ThriceCountedModel" "token" "I") (by decide +kernel)) (fun _ h9 => h9) rfl dX12_lookAt_276 ?_
                          refine lv_iconst (v := 2) hx hb dX12_lookAt_279 (by decide) ?_
                          refine lv_icmp_ne (tgt := 295) hx hb dX12_lookAt_280 (by decide) (fun c_533 => ?_) (fun c_533 => ?_)
                          · refine lv_aload_n hx hb dX12_lookAt_295 rfl (lv_at hl 3 rfl) ?_
                            refine va_get (D := (dC, dI)) (ci := 12) (v := .int 4) (C := RX12) (T := TX12) (N := 24) hx hb hts iw_m_lookAt_X12 hown hK hP 0 rfl rfl 20 (by decide) (hts (.fieldLink RX12 270 "ThriceCountedModel" "token" "I") (by decide +kernel)) (fun _ h9 => h9) rfl dX12_lookAt_296 ?_
                            refine va_put (D := (dC, dI)) (ci := 12) (v := .int 4) (ty := .int) (C := RX12) (T := TX12) (N := 24) hx hb hts iw_m_lookAt_X12 tyX12 tyX12_ok nmX12 hown hK hP hD hS 0 rfl rfl 20 (by decide) (hts (.fieldLink RX12 270 "ThriceCountedModel" "token" "I") (by decide +kernel)) (fun _ h9 => h9) rfl (by decide +kernel) rfl rfl (Nat.le_of_ble_eq_true rfl) dX12_lookAt_299 (fun H locs hP hD hS => ?_)
                            have hP : va_P (dC, dI) vwCl [(mo, .inr (12, [.ref nw, .ref kp, .ref ik, .ref mr, .long la_, .long lb_, .ref mw, .long lc_, .int ti_, .int cb_, .long ld_, .long le_, .ref mq, .ref mz, .ref my, .int sm_, .ref mb, .int (nI jb), .int (nI z_1), .int (nI z_511), .int 4, .int 0, .ref mx, .ref mv])), (mb, .inl (cb2_, 150, .inl fy_))] H := hP
                            have hD : va_D A [(mo, .inr (12, [.ref nw, .ref kp, .ref ik, .ref mr, .long la_, .long lb_, .ref mw, .long lc_, .int ti_, .int cb_, .long ld_, .long le_, .ref mq, .ref mz, .ref my, .int sm_, .ref mb, .int (nI jb), .int (nI z_1), .int (nI z_511), .int 4, .int 0, .ref mx, .ref mv])), (mb, .inl (cb2_, 150, .inl fy_))] := hD
                            have hP9 := hP.sub (ws' := [(mo, .inr (12, [.ref nw, .ref kp, .ref ik, .ref mr, .long la_, .long lb_, .ref mw, .long lc_, .int ti_, .int cb_, .long ld_, .long le_, .ref mq, .ref mz, .ref my, .int sm_, .ref mb, .int (nI jb), .int (nI z_1), .int (nI z_511), .int 4, .int 0, .ref mx, .ref mv])), (mb, .inl (cb2_, 150, .inl fy_))]) [0, 1] rfl
                            have hD9 := hD.sub (ws' := [(mo, .inr (12, [.ref nw, .ref kp, .ref ik, .ref mr, .long la_, .long lb_, .ref mw, .long lc_, .int ti_, .int cb_, .long ld_, .long le_, .ref mq, .ref mz, .ref my, .int sm_, .ref mb, .int (nI jb), .int (nI z_1), .int (nI z_511), .int 4, .int 0, .ref mx, .ref mv])), (mb, .inl (cb2_, 150, .inl fy_))]) [0, 1] (by decide) rfl
                            have hK9 := hK.sub (tys' := [(cb2_, .int)]) [0] rfl
                            exact W.vret hx hb hr (fun t ht hW => ⟨⟨(), rfl, trivial, 4, 0, z_1, z_511, by omega, by omega, fun q => absurd q (by decide), by rw [ht]; exact hP9, va_K.moved hW.alike hK9, hD9⟩, hS.F ht⟩) hS.2.2 dX12_lookAt_302
                          · exact absurd c_533 (by decide)
                        · have hn_534 : ¬ 3 ≤ k_517 := fun q => c_531 ((nI_leI (a := 3) (b := k_517) (by omega) (by omega)).mpr q)
                          refine lv_aload_n hx hb dX12_lookAt_233 rfl (lv_at hl 3 rfl) ?_
                          refine va_get (D := (dC, dI)) (ci := 12) (v := .int 4) (C := RX12) (T := TX12) (N := 24) hx hb hts iw_m_lookAt_X12 hown hK hP 0 rfl rfl 20 (by decide) (hts (.fieldLink RX12 270 "ThriceCountedModel" "token" "I") (by decide +kernel)) (fun _ h9 => h9) rfl dX12_lookAt_234 ?_
                          refine lv_iconst (v := 2) hx hb dX12_lookAt_237 (by decide) ?_
                          refine lv_icmp_ne (tgt := 274) hx hb dX12_lookAt_238 (by decide) (fun c_535 => ?_) (fun c_535 => ?_)
                          · refine lv_aload_n hx hb dX12_lookAt_274 rfl (lv_at hl 3 rfl) ?_
                            refine lv_aload_n hx hb dX12_lookAt_275 rfl (lv_at hl 3 rfl) ?_
                            refine va_get (D := (dC, dI)) (ci := 12) (v := .int 4) (C := RX12) (T := TX12) (N := 24) hx hb hts iw_m_lookAt_X12 hown hK hP 0 rfl rfl 20 (by decide) (hts (.fieldLink RX12 270 "ThriceCountedModel" "token" "I") (by decide +kernel)) (fun _ h9 => h9) rfl dX12_lookAt_276 ?_
                            refine lv_iconst (v := 2) hx hb dX12_lookAt_279 (by decide) ?_
                            refine lv_icmp_ne (tgt := 295) hx hb dX12_lookAt_280 (by decide) (fun c_536 => ?_) (fun c_536 => ?_)
                            · refine lv_aload_n hx hb dX12_lookAt_295 rfl (lv_at hl 3 rfl) ?_
                              refine va_get (D := (dC, dI)) (ci := 12) (v := .int 4) (C := RX12) (T := TX12) (N := 24) hx hb hts iw_m_lookAt_X12 hown hK hP 0 rfl rfl 20 (by decide) (hts (.fieldLink RX12 270 "ThriceCountedModel" "token" "I") (by decide +kernel)) (fun _ h9 => h9) rfl dX12_lookAt_296 ?_
                              refine va_put (D := (dC, dI)) (ci := 12) (v := .int 4) (ty := .int) (C := RX12) (T := TX12) (N := 24) hx hb hts iw_m_lookAt_X12 tyX12 tyX12_ok nmX12 hown hK hP hD hS 0 rfl rfl 20 (by decide) (hts (.fieldLink RX12 270 "ThriceCountedModel" "token" "I") (by decide +kernel)) (fun _ h9 => h9) rfl (by decide +kernel) rfl rfl (Nat.le_of_ble_eq_true rfl) dX12_lookAt_299 (fun H locs hP hD hS => ?_)
                              have hP : va_P (dC, dI) vwCl [(mo, .inr (12, [.ref nw, .ref kp, .ref ik, .ref mr, .long la_, .long lb_, .ref mw, .long lc_, .int ti_, .int cb_, .long ld_, .long le_, .ref mq, .ref mz, .ref my, .int sm_, .ref mb, .int (nI jb), .int (nI z_1), .int (nI z_511), .int 4, .int 0, .ref mx, .ref mv])), (mb, .inl (cb2_, 150, .inl fy_))] H := hP
                              have hD : va_D A [(mo, .inr (12, [.ref nw, .ref kp, .ref ik, .ref mr, .long la_, .long lb_, .ref mw, .long lc_, .int ti_, .int cb_, .long ld_, .long le_, .ref mq, .ref mz, .ref my, .int sm_, .ref mb, .int (nI jb), .int (nI z_1), .int (nI z_511), .int 4, .int 0, .ref mx, .ref mv])), (mb, .inl (cb2_, 150, .inl fy_))] := hD
                              have hP9 := hP.sub (ws' := [(mo, .inr (12, [.ref nw, .ref kp, .ref ik, .ref mr, .long la_, .long lb_, .ref mw, .long lc_, .int ti_, .int cb_, .long ld_, .long le_, .ref mq, .ref mz, .ref my, .int sm_, .ref mb, .int (nI jb), .int (nI z_1), .int (nI z_511), .int 4, .int 0, .ref mx, .ref mv])), (mb, .inl (cb2_, 150, .inl fy_))]) [0, 1] rfl
                              have hD9 := hD.sub (ws' := [(mo, .inr (12, [.ref nw, .ref kp, .ref ik, .ref mr, .long la_, .long lb_, .ref mw, .long lc_, .int ti_, .int cb_, .long ld_, .long le_, .ref mq, .ref mz, .ref my, .int sm_, .ref mb, .int (nI jb), .int (nI z_1), .int (nI z_511), .int 4, .int 0, .ref mx, .ref mv])), (mb, .inl (cb2_, 150, .inl fy_))]) [0, 1] (by decide) rfl
                              have hK9 := hK.sub (tys' := [(cb2_, .int)]) [0] rfl
                              exact W.vret hx hb hr (fun t ht hW => ⟨⟨(), rfl, trivial, 4, 0, z_1, z_511, by omega, by omega, fun q => absurd q (by decide), by rw [ht]; exact hP9, va_K.moved hW.alike hK9, hD9⟩, hS.F ht⟩) hS.2.2 dX12_lookAt_302
                            · exact absurd c_536 (by decide)
                          · exact absurd c_535 (by decide)
                    · exact absurd c_516 (by decide)
                  · exact absurd c_510 (by decide)
                · refine lv_iconst (v := 3) hx hb dX12_lookAt_109 (by decide) ?_
                  refine lv_goto (tgt := 114) hx hb dX12_lookAt_110 (by decide) ?_
                  refine va_put (D := (dC, dI)) (ci := 12) (v := .int 3) (ty := .int) (C := RX12) (T := TX12) (N := 24) hx hb hts iw_m_lookAt_X12 tyX12 tyX12_ok nmX12 hown hK hP hD hS 0 rfl rfl 20 (by decide) (hts (.fieldLink RX12 270 "ThriceCountedModel" "token" "I") (by decide +kernel)) (fun _ h9 => h9) rfl (by decide +kernel) rfl rfl (Nat.le_of_ble_eq_true rfl) dX12_lookAt_114 (fun H locs hP hD hS => ?_)
                  have hP : va_P (dC, dI) vwCl [(mo, .inr (12, [.ref nw, .ref kp, .ref ik, .ref mr, .long la_, .long lb_, .ref mw, .long lc_, .int ti_, .int cb_, .long ld_, .long le_, .ref mq, .ref mz, .ref my, .int sm_, .ref mb, .int (nI jb), .int (nI z_1), .int 0, .int 3, .int 0, .ref mx, .ref mv])), (mb, .inl (cb2_, 150, .inl fy_))] H := hP
                  have hD : va_D A [(mo, .inr (12, [.ref nw, .ref kp, .ref ik, .ref mr, .long la_, .long lb_, .ref mw, .long lc_, .int ti_, .int cb_, .long ld_, .long le_, .ref mq, .ref mz, .ref my, .int sm_, .ref mb, .int (nI jb), .int (nI z_1), .int 0, .int 3, .int 0, .ref mx, .ref mv])), (mb, .inl (cb2_, 150, .inl fy_))] := hD
                  refine lv_aload_n hx hb dX12_lookAt_117 rfl (lv_at hl 1 rfl) ?_
                  refine lv_iconst (v := 1) hx hb dX12_lookAt_118 (by decide) ?_
                  refine va_put (D := (dC, dI)) (ci := 12) (v := .int 1) (ty := .int) (C := RX12) (T := TX12) (N := 24) hx hb hts iw_m_lookAt_X12 tyX12 tyX12_ok nmX12 hown hK hP hD hS 0 rfl rfl 19 (by decide) (hts (.fieldLink RX12 267 "ThriceCountedModel" "tokenLong" "I") (by decide +kernel)) (fun _ h9 => h9) rfl (by decide +kernel) rfl rfl (Nat.le_of_ble_eq_true rfl) dX12_lookAt_119 (fun H locs hP hD hS => ?_)
                  have hP : va_P (dC, dI) vwCl [(mo, .inr (12, [.ref nw, .ref kp, .ref ik, .ref mr, .long la_, .long lb_, .ref mw, .long lc_, .int ti_, .int cb_, .long ld_, .long le_, .ref mq, .ref mz, .ref my, .int sm_, .ref mb, .int (nI jb), .int (nI z_1), .int 1, .int 3, .int 0, .ref mx, .ref mv])), (mb, .inl (cb2_, 150, .inl fy_))] H := hP
                  have hD : va_D A [(mo, .inr (12, [.ref nw, .ref kp, .ref ik, .ref mr, .long la_, .long lb_, .ref mw, .long lc_, .int ti_, .int cb_, .long ld_, .long le_, .ref mq, .ref mz, .ref my, .int sm_, .ref mb, .int (nI jb), .int (nI z_1), .int 1, .int 3, .int 0, .ref mx, .ref mv])), (mb, .inl (cb2_, 150, .inl fy_))] := hD
                  refine lv_aload_n hx hb dX12_lookAt_122 rfl (lv_at hl 1 rfl) ?_
                  refine va_get (D := (dC, dI)) (ci := 12) (v := .int 3) (C := RX12) (T := TX12) (N := 24) hx hb hts iw_m_lookAt_X12 hown hK hP 0 rfl rfl 20 (by decide) (hts (.fieldLink RX12 270 "ThriceCountedModel" "token" "I") (by decide +kernel)) (fun _ h9 => h9) rfl dX12_lookAt_123 ?_
                  refine lv_iconst (v := 3) hx hb dX12_lookAt_126 (by decide) ?_
                  refine lv_icmp_ge (tgt := 134) hx hb dX12_lookAt_127 (by decide) (fun c_537 => ?_) (fun c_537 => ?_)
                  · refine lv_iconst (v := 0) hx hb dX12_lookAt_134 (by decide) ?_
                    refine lv_istore_n (lv' := [(3, .int 0), (2, .int x_292), (0, .ref mo), (1, .int (nI jf))]) hx hb dX12_lookAt_135 rfl hl (by decide) rfl (fun ls hl => ?_)
                    refine tz_while (σ := Nat × Heap × List Loc × Array Slot) (fun x => W p l e _ s m _ below meth c x.2.1 x.2.2.1 _ _ _ (F0 m 136 x.2.2.2 [])) (fun x => 1 ≤ x.1 ∧ z_1 + x.1 ≤ jb ∧ va_P (dC, dI) vwCl [(mo, .inr (12, [.ref nw, .ref kp, .ref ik, .ref mr, .long la_, .long lb_, .ref mw, .long lc_, .int ti_, .int cb_, .long ld_, .long le_, .ref mq, .ref mz, .ref my, .int sm_, .ref mb, .int (nI jb), .int (nI z_1), .int (nI x.1), .int 3, .int 0, .ref mx, .ref mv])), (mb, .inl (cb2_, 150, .inl fy_))] x.2.1 ∧ va_D A [(mo, .inr (12, [.ref nw, .ref kp, .ref ik, .ref mr, .long la_, .long lb_, .ref mw, .long lc_, .int ti_, .int cb_, .long ld_, .long le_, .ref mq, .ref mz, .ref my, .int sm_, .ref mb, .int (nI jb), .int (nI z_1), .int (nI x.1), .int 3, .int 0, .ref mx, .ref mv])), (mb, .inl (cb2_, 150, .inl fy_))] ∧ va_S A s.heap x.2.1 x.2.2.1 ∧ lv_has x.2.2.2 5 [(3, .int 0), (2, .int x_292), (0, .ref mo), (1, .int (nI jf))]) (fun x => 0) ?_ (1, H, locs, ls) ⟨by (try dsimp only); omega, by (try dsimp only); omega, hP, hD, hS, hl⟩
                    rintro ⟨z_538, H, locs, ls⟩ ⟨hi_540_0, hi_541_1, hP, hD, hS, hl⟩ ih_542
                    dsimp only at hi_540_0 hi_541_1 hP hD hS hl ih_542 ⊢
                    refine lv_iload_n hx hb dX12_lookAt_136 rfl (lv_at hl 0 rfl) ?_
                    refine lv_if_eq (tgt := 215) hx hb dX12_lookAt_137 (by decide) (fun c_543 => ?_) (fun c_543 => ?_)
                    · refine lv_iconst (v := 0) hx hb dX12_lookAt_215 (by decide) ?_
                      refine lv_istore (lv' := [(4, .int 0), (3, .int 0), (2, .int x_292), (0, .ref mo), (1, .int (nI jf))]) hx hb dX12_lookAt_216 hl (by decide) rfl (fun ls hl => ?_)
                      refine tz_while (σ := Nat × Array Slot) (fun x => W p l e _ s m _ below meth c _ _ _ _ _ (F0 m 218 x.2 [])) (fun x => x.1 ≤ z_538 ∧ lv_has x.2 5 [(4, .int (nI x.1)), (3, .int 0), (2, .int x_292), (0, .ref mo), (1, .int (nI jf))]) (fun x => z_538 - x.1) ?_ (0, ls) ⟨by (try dsimp only); omega, hl⟩
                      rintro ⟨k_544, ls⟩ ⟨hi_552_0, hl⟩ ih_553
                      dsimp only at hi_552_0 hl ih_553 ⊢
                      refine lv_iload hx hb dX12_lookAt_218 (lv_at hl 0 rfl) ?_
                      refine lv_aload_n hx hb dX12_lookAt_220 rfl (lv_at hl 3 rfl) ?_
                      refine va_get (D := (dC, dI)) (ci := 12) (v := .int (nI z_538)) (C := RX12) (T := TX12) (N := 24) hx hb hts iw_m_lookAt_X12 hown hK hP 0 rfl rfl 19 (by decide) (hts (.fieldLink RX12 267 "ThriceCountedModel" "tokenLong" "I") (by decide +kernel)) (fun _ h9 => h9) rfl dX12_lookAt_221 ?_
                      refine lv_icmp_ge (tgt := 274) hx hb dX12_lookAt_224 (by decide) (fun c_554 => ?_) (fun c_554 => ?_)
                      · have hn_555 : z_538 ≤ k_544 := (nI_leI (a := z_538) (b := k_544) (by omega) (by omega)).mp c_554
                        refine lv_aload_n hx hb dX12_lookAt_274 rfl (lv_at hl 3 rfl) ?_
                        refine lv_aload_n hx hb dX12_lookAt_275 rfl (lv_at hl 3 rfl) ?_
                        refine va_get (D := (dC, dI)) (ci := 12) (v := .int 3) (C := RX12) (T := TX12) (N := 24) hx hb hts iw_m_lookAt_X12 hown hK hP 0 rfl rfl 20 (by decide) (hts (.fieldLink RX12 270 "ThriceCountedModel" "token" "I") (by decide +kernel)) (fun _ h9 => h9) rfl dX12_lookAt_276 ?_
                        refine lv_iconst (v := 2) hx hb dX12_lookAt_279 (by decide) ?_
                        refine lv_icmp_ne (tgt := 295) hx hb dX12_lookAt_280 (by decide) (fun c_556 => ?_) (fun c_556 => ?_)
                        · refine lv_aload_n hx hb dX12_lookAt_295 rfl (lv_at hl 3 rfl) ?_
                          refine va_get (D := (dC, dI)) (ci := 12) (v := .int 3) (C := RX12) (T := TX12) (N := 24) hx hb hts iw_m_lookAt_X12 hown hK hP 0 rfl rfl 20 (by decide) (hts (.fieldLink RX12 270 "ThriceCountedModel" "token" "I") (by decide +kernel)) (fun _ h9 => h9) rfl dX12_lookAt_296 ?_
                          refine va_put (D := (dC, dI)) (ci := 12) (v := .int 3) (ty := .int) (C := RX12) (T := TX12) (N := 24) hx hb hts iw_m_lookAt_X12 tyX12 tyX12_ok nmX12 hown hK hP hD hS 0 rfl rfl 20 (by decide) (hts (.fieldLink RX12 270 "ThriceCountedModel" "token" "I") (by decide +kernel)) (fun _ h9 => h9) rfl (by decide +kernel) rfl rfl (Nat.le_of_ble_eq_true rfl) dX12_lookAt_299 (fun H locs hP hD hS => ?_)
                          have hP : va_P (dC, dI) vwCl [(mo, .inr (12, [.ref nw, .ref kp, .ref ik, .ref mr, .long la_, .long lb_, .ref mw, .long lc_, .int ti_, .int cb_, .long ld_, .long le_, .ref mq, .ref mz, .ref my, .int sm_, .ref mb, .int (nI jb), .int (nI z_1), .int (nI z_538), .int 3, .int 0, .ref mx, .ref mv])), (mb, .inl (cb2_, 150, .inl fy_))] H := hP
                          have hD : va_D A [(mo, .inr (12, [.ref nw, .ref kp, .ref ik, .ref mr, .long la_, .long lb_, .ref mw, .long lc_, .int ti_, .int cb_, .long ld_, .long le_, .ref mq, .ref mz, .ref my, .int sm_, .ref mb, .int (nI jb), .int (nI z_1), .int (nI z_538), .int 3, .int 0, .ref mx, .ref mv])), (mb, .inl (cb2_, 150, .inl fy_))] := hD
                          have hP9 := hP.sub (ws' := [(mo, .inr (12, [.ref nw, .ref kp, .ref ik, .ref mr, .long la_, .long lb_, .ref mw, .long lc_, .int ti_, .int cb_, .long ld_, .long le_, .ref mq, .ref mz, .ref my, .int sm_, .ref mb, .int (nI jb), .int (nI z_1), .int (nI z_538), .int 3, .int 0, .ref mx, .ref mv])), (mb, .inl (cb2_, 150, .inl fy_))]) [0, 1] rfl
                          have hD9 := hD.sub (ws' := [(mo, .inr (12, [.ref nw, .ref kp, .ref ik, .ref mr, .long la_, .long lb_, .ref mw, .long lc_, .int ti_, .int cb_, .long ld_, .long le_, .ref mq, .ref mz, .ref my, .int sm_, .ref mb, .int (nI jb), .int (nI z_1), .int (nI z_538), .int 3, .int 0, .ref mx, .ref mv])), (mb, .inl (cb2_, 150, .inl fy_))]) [0, 1] (by decide) rfl
                          have hK9 := hK.sub (tys' := [(cb2_, .int)]) [0] rfl
                          exact W.vret hx hb hr (fun t ht hW => ⟨⟨(), rfl, trivial, 3, 0, z_1, z_538, by omega, by omega, fun _ => by omega, by rw [ht]; exact hP9, va_K.moved hW.alike hK9, hD9⟩, hS.F ht⟩) hS.2.2 dX12_lookAt_302
                        · exact absurd c_556 (by decide)
                      · have hn_557 : ¬ z_538 ≤ k_544 := fun q => c_554 ((nI_leI (a := z_538) (b := k_544) (by omega) (by omega)).mpr q)
                        refine lv_iload hx hb dX12_lookAt_227 (lv_at hl 0 rfl) ?_
                        refine lv_iconst (v := 3) hx hb dX12_lookAt_229 (by decide) ?_
                        refine lv_icmp_ge (tgt := 274) hx hb dX12_lookAt_230 (by decide) (fun c_558 => ?_) (fun c_558 => ?_)
                        · have hn_559 : 3 ≤ k_544 := (nI_leI (a := 3) (b := k_544) (by omega) (by omega)).mp c_558
                          refine lv_aload_n hx hb dX12_lookAt_274 rfl (lv_at hl 3 rfl) ?_
                          refine lv_aload_n hx hb dX12_lookAt_275 rfl (lv_at hl 3 rfl) ?_
                          refine va_get (D := (dC, dI)) (ci := 12) (v := .int 3) (C := RX12) (T := TX12) (N := 24) hx hb hts iw_m_lookAt_X12 hown hK hP 0 rfl rfl 20 (by decide) (hts (.fieldLink RX12 270 "ThriceCountedModel" "token" "I") (by decide +kernel)) (fun _ h9 => h9) rfl dX12_lookAt_276 ?_
                          refine lv_iconst (v := 2) hx hb dX12_lookAt_279 (by decide) ?_
                          refine lv_icmp_ne (tgt := 295) hx hb dX12_lookAt_280 (by decide) (fun c_560 => ?_) (fun c_560 => ?_)
                          · refine lv_aload_n hx hb dX12_lookAt_295 rfl (lv_at hl 3 rfl) ?_
                            refine va_get (D := (dC, dI)) (ci := 12) (v := .int 3) (C := RX12) (T := TX12) (N := 24) hx hb hts iw_m_lookAt_X12 hown hK hP 0 rfl rfl 20 (by decide) (hts (.fieldLink RX12 270 "ThriceCountedModel" "token" "I") (by decide +kernel)) (fun _ h9 => h9) rfl dX12_lookAt_296 ?_
                            refine va_put (D := (dC, dI)) (ci := 12) (v := .int 3) (ty := .int) (C := RX12) (T := TX12) (N := 24) hx hb hts iw_m_lookAt_X12 tyX12 tyX12_ok nmX12 hown hK hP hD hS 0 rfl rfl 20 (by decide) (hts (.fieldLink RX12 270 "ThriceCountedModel" "token" "I") (by decide +kernel)) (fun _ h9 => h9) rfl (by decide +kernel) rfl rfl (Nat.le_of_ble_eq_true rfl) dX12_lookAt_299 (fun H locs hP hD hS => ?_)
                            have hP : va_P (dC, dI) vwCl [(mo, .inr (12, [.ref nw, .ref kp, .ref ik, .ref mr, .long la_, .long lb_, .ref mw, .long lc_, .int ti_, .int cb_, .long ld_, .long le_, .ref mq, .ref mz, .ref my, .int sm_, .ref mb, .int (nI jb), .int (nI z_1), .int (nI z_538), .int 3, .int 0, .ref mx, .ref mv])), (mb, .inl (cb2_, 150, .inl fy_))] H := hP
                            have hD : va_D A [(mo, .inr (12, [.ref nw, .ref kp, .ref ik, .ref mr, .long la_, .long lb_, .ref mw, .long lc_, .int ti_, .int cb_, .long ld_, .long le_, .ref mq, .ref mz, .ref my, .int sm_, .ref mb, .int (nI jb), .int (nI z_1), .int (nI z_538), .int 3, .int 0, .ref mx, .ref mv])), (mb, .inl (cb2_, 150, .inl fy_))] := hD
                            have hP9 := hP.sub (ws' := [(mo, .inr (12, [.ref nw, .ref kp, .ref ik, .ref mr, .long la_, .long lb_, .ref mw, .long lc_, .int ti_, .int cb_, .long ld_, .long le_, .ref mq, .ref mz, .ref my, .int sm_, .ref mb, .int (nI jb), .int (nI z_1), .int (nI z_538), .int 3, .int 0, .ref mx, .ref mv])), (mb, .inl (cb2_, 150, .inl fy_))]) [0, 1] rfl
                            have hD9 := hD.sub (ws' := [(mo, .inr (12, [.ref nw, .ref kp, .ref ik, .ref mr, .long la_, .long lb_, .ref mw, .long lc_, .int ti_, .int cb_, .long ld_, .long le_, .ref mq, .ref mz, .ref my, .int sm_, .ref mb, .int (nI jb), .int (nI z_1), .int (nI z_538), .int 3, .int 0, .ref mx, .ref mv])), (mb, .inl (cb2_, 150, .inl fy_))]) [0, 1] (by decide) rfl
                            have hK9 := hK.sub (tys' := [(cb2_, .int)]) [0] rfl
                            exact W.vret hx hb hr (fun t ht hW => ⟨⟨(), rfl, trivial, 3, 0, z_1, z_538, by omega, by omega, fun _ => by omega, by rw [ht]; exact hP9, va_K.moved hW.alike hK9, hD9⟩, hS.F ht⟩) hS.2.2 dX12_lookAt_302
                          · exact absurd c_560 (by decide)
                        · have hn_561 : ¬ 3 ≤ k_544 := fun q => c_558 ((nI_leI (a := 3) (b := k_544) (by omega) (by omega)).mpr q)
                          refine lv_aload_n hx hb dX12_lookAt_233 rfl (lv_at hl 3 rfl) ?_
                          refine va_get (D := (dC, dI)) (ci := 12) (v := .int 3) (C := RX12) (T := TX12) (N := 24) hx hb hts iw_m_lookAt_X12 hown hK hP 0 rfl rfl 20 (by decide) (hts (.fieldLink RX12 270 "ThriceCountedModel" "token" "I") (by decide +kernel)) (fun _ h9 => h9) rfl dX12_lookAt_234 ?_
                          refine lv_iconst (v := 2) hx hb dX12_lookAt_237 (by decide) ?_
                          refine lv_icmp_ne (tgt := 274) hx hb dX12_lookAt_238 (by decide) (fun c_562 => ?_) (fun c_562 => ?_)
                          · refine lv_aload_n hx hb dX12_lookAt_274 rfl (lv_at hl 3 rfl) ?_
                            refine lv_aload_n hx hb dX12_lookAt_275 rfl (lv_at hl 3 rfl) ?_
                            refine va_get (D := (dC, dI)) (ci := 12) (v := .int 3) (C := RX12) (T := TX12) (N := 24) hx hb hts iw_m_lookAt_X12 hown hK hP 0 rfl rfl 20 (by decide) (hts (.fieldLink RX12 270 "ThriceCountedModel" "token" "I") (by decide +kernel)) (fun _ h9 => h9) rfl dX12_lookAt_276 ?_
                            refine lv_iconst (v := 2) hx hb dX12_lookAt_279 (by decide) ?_
                            refine lv_icmp_ne (tgt := 295) hx hb dX12_lookAt_280 (by decide) (fun c_563 => ?_) (fun c_563 => ?_)
                            · refine lv_aload_n hx hb dX12_lookAt_295 rfl (lv_at hl 3 rfl) ?_
                              refine va_get (D := (dC, dI)) (ci := 12) (v := .int 3) (C := RX12) (T := TX12) (N := 24) hx hb hts iw_m_lookAt_X12 hown hK hP 0 rfl rfl 20 (by decide) (hts (.fieldLink RX12 270 "ThriceCountedModel" "token" "I") (by decide +kernel)) (fun _ h9 => h9) rfl dX12_lookAt_296 ?_
                              refine va_put (D := (dC, dI)) (ci := 12) (v := .int 3) (ty := .int) (C := RX12) (T := TX12) (N := 24) hx hb hts iw_m_lookAt_X12 tyX12 tyX12_ok nmX12 hown hK hP hD hS 0 rfl rfl 20 (by decide) (hts (.fieldLink RX12 270 "ThriceCountedModel" "token" "I") (by decide +kernel)) (fun _ h9 => h9) rfl (by decide +kernel) rfl rfl (Nat.le_of_ble_eq_true rfl) dX12_lookAt_299 (fun H locs hP hD hS => ?_)
                              have hP : va_P (dC, dI) vwCl [(mo, .inr (12, [.ref nw, .ref kp, .ref ik, .ref mr, .long la_, .long lb_, .ref mw, .long lc_, .int ti_, .int cb_, .long ld_, .long le_, .ref mq, .ref mz, .ref my, .int sm_, .ref mb, .int (nI jb), .int (nI z_1), .int (nI z_538), .int 3, .int 0, .ref mx, .ref mv])), (mb, .inl (cb2_, 150, .inl fy_))] H := hP
                              have hD : va_D A [(mo, .inr (12, [.ref nw, .ref kp, .ref ik, .ref mr, .long la_, .long lb_, .ref mw, .long lc_, .int ti_, .int cb_, .long ld_, .long le_, .ref mq, .ref mz, .ref my, .int sm_, .ref mb, .int (nI jb), .int (nI z_1), .int (nI z_538), .int 3, .int 0, .ref mx, .ref mv])), (mb, .inl (cb2_, 150, .inl fy_))] := hD
                              have hP9 := hP.sub (ws' := [(mo, .inr (12, [.ref nw, .ref kp, .ref ik, .ref mr, .long la_, .long lb_, .ref mw, .long lc_, .int ti_, .int cb_, .long ld_, .long le_, .ref mq, .ref mz, .ref my, .int sm_, .ref mb, .int (nI jb), .int (nI z_1), .int (nI z_538), .int 3, .int 0, .ref mx, .ref mv])), (mb, .inl (cb2_, 150, .inl fy_))]) [0, 1] rfl
                              have hD9 := hD.sub (ws' := [(mo, .inr (12, [.ref nw, .ref kp, .ref ik, .ref mr, .long la_, .long lb_, .ref mw, .long lc_, .int ti_, .int cb_, .long ld_, .long le_, .ref mq, .ref mz, .ref my, .int sm_, .ref mb, .int (nI jb), .int (nI z_1), .int (nI z_538), .int 3, .int 0, .ref mx, .ref mv])), (mb, .inl (cb2_, 150, .inl fy_))]) [0, 1] (by decide) rfl
                              have hK9 := hK.sub (tys' := [(cb2_, .int)]) [0] rfl
                              exact W.vret hx hb hr (fun t ht hW => ⟨⟨(), rfl, trivial, 3, 0, z_1, z_538, by omega, by omega, fun _ => by omega, by rw [ht]; exact hP9, va_K.moved hW.alike hK9, hD9⟩, hS.F ht⟩) hS.2.2 dX12_lookAt_302
                            · exact absurd c_563 (by decide)
                          · exact absurd c_562 (by decide)
                    · exact absurd c_543 (by decide)
                  · exact absurd c_537 (by decide)
              · exact absurd c_508 (by decide)
          · exact absurd c_376 (by decide)
      · have hn_564 : z_1 = jb := (nI_eq (a := z_1) (b := jb) (by omega) (by omega)).mp c_290
        have hP9 := hP.sub (ws' := [(mo, .inr (12, [.ref nw, .ref kp, .ref ik, .ref mr, .long la_, .long lb_, .ref mw, .long lc_, .int ti_, .int cb_, .long ld_, .long le_, .ref mq, .ref mz, .ref my, .int sm_, .ref mb, .int (nI jb), .int (nI z_1), .int (nI 0), .int 0, .int 0, .ref mx, .ref mv])), (mb, .inl (cb2_, 150, .inl fy_))]) [0, 1] rfl
        have hD9 := hD.sub (ws' := [(mo, .inr (12, [.ref nw, .ref kp, .ref ik, .ref mr, .long la_, .long lb_, .ref mw, .long lc_, .int ti_, .int cb_, .long ld_, .long le_, .ref mq, .ref mz, .ref my, .int sm_, .ref mb, .int (nI jb), .int (nI z_1), .int (nI 0), .int 0, .int 0, .ref mx, .ref mv])), (mb, .inl (cb2_, 150, .inl fy_))]) [0, 1] (by decide) rfl
        have hK9 := hK.sub (tys' := [(cb2_, .int)]) [0] rfl
        exact W.vret hx hb hr (fun t ht hW => ⟨⟨(), rfl, trivial, 0, 0, z_1, 0, by omega, by omega, fun q => absurd q (by decide), by rw [ht]; exact hP9, va_K.moved hW.alike hK9, hD9⟩, hS.F ht⟩) hS.2.2 dX12_lookAt_69
    · refine lv_aload_n hx hb dX12_lookAt_30 rfl (lv_at hl 0 rfl) ?_
      refine lv_dup hx hb dX12_lookAt_31 rfl ?_
      refine va_get (D := (dC, dI)) (ci := 12) (v := .int (nI z_1)) (C := RX12) (T := TX12) (N := 24) hx hb hts iw_m_lookAt_X12 hown hK hP 0 rfl rfl 18 (by decide) (hts (.fieldLink RX12 264 "ThriceCountedModel" "tokenAt" "I") (by decide +kernel)) (fun _ h9 => h9) rfl dX12_lookAt_32 ?_
      refine lv_iconst (v := 1) hx hb dX12_lookAt_35 (by decide) ?_
      refine lv_iadd hx hb dX12_lookAt_36 ?_
      refine tz_i (nI (z_1 + 1)) (nI_add z_1 1) ?_
      refine va_put (D := (dC, dI)) (ci := 12) (v := .int (nI (z_1 + 1))) (ty := .int) (C := RX12) (T := TX12) (N := 24) hx hb hts iw_m_lookAt_X12 tyX12 tyX12_ok nmX12 hown hK hP hD hS 0 rfl rfl 18 (by decide) (hts (.fieldLink RX12 264 "ThriceCountedModel" "tokenAt" "I") (by decide +kernel)) (fun _ h9 => h9) rfl (by decide +kernel) rfl rfl (Nat.le_of_ble_eq_true rfl) dX12_lookAt_37 (fun H locs hP hD hS => ?_)
      have hP : va_P (dC, dI) vwCl [(mo, .inr (12, [.ref nw, .ref kp, .ref ik, .ref mr, .long la_, .long lb_, .ref mw, .long lc_, .int ti_, .int cb_, .long ld_, .long le_, .ref mq, .ref mz, .ref my, .int sm_, .ref mb, .int (nI jb), .int (nI (z_1 + 1)), .int tl_, .int tk_, .int vl_, .ref mx, .ref mv])), (mb, .inl (cb2_, 150, .inl fy_))] H := hP
      have hD : va_D A [(mo, .inr (12, [.ref nw, .ref kp, .ref ik, .ref mr, .long la_, .long lb_, .ref mw, .long lc_, .int ti_, .int cb_, .long ld_, .long le_, .ref mq, .ref mz, .ref my, .int sm_, .ref mb, .int (nI jb), .int (nI (z_1 + 1)), .int tl_, .int tk_, .int vl_, .ref mx, .ref mv])), (mb, .inl (cb2_, 150, .inl fy_))] := hD
      refine lv_goto (tgt := 5) hx hb dX12_lookAt_40 (by decide) ?_
      exact ih_9 ((z_1 + 1), H, locs, ls) ⟨by dsimp only; omega, by dsimp only; omega, hP, hD, hS, lv_sub hl [0, 1] rfl⟩ (by dsimp only; omega)
set_option maxRecDepth 20000 in
theorem ggX12_goOn_X12_lookAt : GoodIn wsX12_goOn wsX12_lookAt := goodIn_r _ [7, 1, 8, 9, 2, 10, 11, 12, 13, 6, 14, 15, 16, 17, 18, 19, 20, 21, 22, 23, 24, 25, 26, 27, 28, 29, 30, 31, 32, 33, 34, 35, 36, 37, 38, 39, 40, 41, 42, 43, 44, 45, 46, 47, 48] (by decide +kernel) (by decide +kernel)
set_option maxRecDepth 20000 in
theorem gX12_goOn_X12_lookAt : GoodIn wsX12_goOn (wsV RX12 282 RX12 yX12_lookAt wsX12_lookAt) := goodIn_app (goodIn_of _ (by decide +kernel)) ggX12_goOn_X12_lookAt
theorem dX12_goOn_0 : decode cX12_goOn 0 = .ok (.aload_n 0, 1) := by decide +kernel
theorem dX12_goOn_1 : decode cX12_goOn 1 = .ok (.aload_n 0, 1) := by decide +kernel
theorem dX12_goOn_2 : decode cX12_goOn 2 = .ok (.getfield 264, 3) := by decide +kernel
theorem dX12_goOn_5 : decode cX12_goOn 5 = .ok (.aload_n 0, 1) := by decide +kernel
theorem dX12_goOn_6 : decode cX12_goOn 6 = .ok (.getfield 267, 3) := by decide +kernel
theorem dX12_goOn_9 : decode cX12_goOn 9 = .ok (.iadd, 1) := by decide +kernel
theorem dX12_goOn_10 : decode cX12_goOn 10 = .ok (.invokevirtual 282, 3) := by decide +kernel
theorem dX12_goOn_13 : decode cX12_goOn 13 = .ok (.return_, 1) := by decide +kernel
set_option maxRecDepth 20000 in
theorem iw_m_goOn_X12 : ∀ w ∈ wsX120, w ∈ wsX12_goOn := by decide +kernel
set_option maxHeartbeats 4000000 in
set_option maxRecDepth 100000 in
theorem m_goOn (l : Launch) (dC : Nat → ClassId) (dI : Nat → Nat → Nat) (mo : Nat) (nw : Nat) (kp : Nat) (ik : Nat) (mr : Nat) (la_ : Int64) (lb_ : Int64) (mw : Nat) (lc_ : Int64) (ti_ : Int32) (cb_ : Int32) (ld_ : Int64) (le_ : Int64) (mq : Nat) (mz : Nat) (my : Nat) (sm_ : Int32) (mb : Nat) (jb : Nat) (ja : Nat) (jl : Nat) (tk_ : Int32) (vl_ : Int32) (mx : Nat) (mv : Nat) (cb2_ : ClassId) (fy_ : Nat → Int32) (sz : Nat) (hjb : jb ≤ 150) (hjl : ja + jl ≤ jb) : Met l yX12_goOn wsX12_goOn ({ frames := 3, cells := 0, slots := 0, locals := 69 }) (va_Pc [.ref mo] (fun U => U.heap.size = sz ∧ va_P (dC, dI) vwCl [(mo, .inr (12, [.ref nw, .ref kp, .ref ik, .ref mr, .long la_, .long lb_, .ref mw, .long lc_, .int ti_, .int cb_, .long ld_, .long le_, .ref mq, .ref mz, .ref my, .int sm_, .ref mb, .int (nI jb), .int (nI ja), .int (nI jl), .int tk_, .int vl_, .ref mx, .ref mv])), (mb, .inl (cb2_, 150, .inl fy_))] U.heap ∧ va_K (dC, dI) vwCl [(cb2_, .int)] U ∧ va_D (fun _ => True) [(mo, .inr (12, [.ref nw, .ref kp, .ref ik, .ref mr, .long la_, .long lb_, .ref mw, .long lc_, .int ti_, .int cb_, .long ld_, .long le_, .ref mq, .ref mz, .ref my, .int sm_, .ref mb, .int (nI jb), .int (nI ja), .int (nI jl), .int tk_, .int vl_, .ref mx, .ref mv])), (mb, .inl (cb2_, 150, .inl fy_))])) (va_Qv (fun (_ : Unit) => True) (fun _ t => ∃ (h_token : Int32) (h_value : Int32) (ga : Nat) (gl : Nat), (ja + jl ≤ ga) ∧ (ga + gl ≤ jb) ∧ (h_token = 3 → 1 ≤ gl) ∧ va_P (dC, dI) vwCl [(mo, .inr (12, [.ref nw, .ref kp, .ref ik, .ref mr, .long la_, .long lb_, .ref mw, .long lc_, .int ti_, .int cb_, .long ld_, .long le_, .ref mq, .ref mz, .ref my, .int sm_, .ref mb, .int (nI jb), .int (nI ga), .int (nI gl), .int h_token, .int h_value, .ref mx, .ref mv])), (mb, .inl (cb2_, 150, .inl fy_))] t.heap ∧ va_K (dC, dI) vwCl [(cb2_, .int)] t ∧ va_D (va_A [(mo, .inr (12, [.ref nw, .ref kp, .ref ik, .ref mr, .long la_, .long lb_, .ref mw, .long lc_, .int ti_, .int cb_, .long ld_, .long le_, .ref mq, .ref mz, .ref my, .int sm_, .ref mb, .int (nI jb), .int (nI ja), .int (nI jl), .int tk_, .int vl_, .ref mx, .ref mv])), (mb, .inl (cb2_, 150, .inl fy_))] sz) [(mo, .inr (12, [.ref nw, .ref kp, .ref ik, .ref mr, .long la_, .long lb_, .ref mw, .long lc_, .int ti_, .int cb_, .long ld_, .long le_, .ref mq, .ref mz, .ref my, .int sm_, .ref mb, .int (nI jb), .int (nI ga), .int (nI gl), .int h_token, .int h_value, .ref mx, .ref mv])), (mb, .inl (cb2_, 150, .inl fy_))]) (va_A [(mo, .inr (12, [.ref nw, .ref kp, .ref ik, .ref mr, .long la_, .long lb_, .ref mw, .long lc_, .int ti_, .int cb_, .long ld_, .long le_, .ref mq, .ref mz, .ref my, .int sm_, .ref mb, .int (nI jb), .int (nI ja), .int (nI jl), .int tk_, .int vl_, .ref mx, .ref mv])), (mb, .inl (cb2_, 150, .inl fy_))] sz)) 0 0 (va_A [(mo, .inr (12, [.ref nw, .ref kp, .ref ik, .ref mr, .long la_, .long lb_, .ref mw, .long lc_, .int ti_, .int cb_, .long ld_, .long le_, .ref mq, .ref mz, .ref my, .int sm_, .ref mb, .int (nI jb), .int (nI ja), .int (nI jl), .int tk_, .int vl_, .ref mx, .ref mv])), (mb, .inl (cb2_, 150, .inl fy_))] sz) := by
  refine Met.ofW (cc := cX12_goOn) (maxL := 1) (ret := none) (by decide) rfl ?_
  intro p e s m args below meth c s₁ B hml hv
  obtain ⟨rfl, hsz, hP, hK, hD0⟩ := hv
  have hx := B.exec
  have hb := B.bytes
  have hr := B.returns
  have hts := atoms_spec (ws := wsX12_goOn) B.pre
  have hown : s.vm.findClass RX12 = some m.cls := findClass_of_methodNamed B.named
  have hlocks := B.notSynchronized
  subst hsz
  have hD := hD0.self (sz := s.heap.size)
  generalize hAe : va_A [(mo, .inr (12, [.ref nw, .ref kp, .ref ik, .ref mr, .long la_, .long lb_, .ref mw, .long lc_, .int ti_, .int cb_, .long ld_, .long le_, .ref mq, .ref mz, .ref my, .int sm_, .ref mb, .int (nI jb), .int (nI ja), .int (nI jl), .int tk_, .int vl_, .ref mx, .ref mv])), (mb, .inl (cb2_, 150, .inl fy_))] s.heap.size = A at hD ⊢
  have hA : ∀ q : Nat, s.heap.size ≤ q → A q := fun q h => by rw [← hAe]; exact Or.inr h
  have hS : va_S A s.heap s.heap [] := va_S.rf
  have hP : va_P (dC, dI) vwCl [(mo, .inr (12, [.ref nw, .ref kp, .ref ik, .ref mr, .long la_, .long lb_, .ref mw, .long lc_, .int ti_, .int cb_, .long ld_, .long le_, .ref mq, .ref mz, .ref my, .int sm_, .ref mb, .int (nI jb), .int (nI ja), .int (nI jl), .int tk_, .int vl_, .ref mx, .ref mv])), (mb, .inl (cb2_, 150, .inl fy_))] s.heap := hP
  have hl := lv_entry ([.ref mo]) (n := 1) (Nat.le_of_ble_eq_true rfl)
  rw [lg_entry_eq]
  generalize (lg_sl ([.ref mo]) ++ List.replicate (1 - (lg_sl ([.ref mo])).length) Slot.unset).toArray = ls at hl ⊢
  have hl : lv_has ls 1 [(0, .ref mo)] := hl
  refine lv_aload_n hx hb dX12_goOn_0 rfl (lv_at hl 0 rfl) ?_
  refine lv_aload_n hx hb dX12_goOn_1 rfl (lv_at hl 0 rfl) ?_
  refine va_get (D := (dC, dI)) (ci := 12) (v := .int (nI ja)) (C := RX12) (T := TX12) (N := 24) hx hb hts iw_m_goOn_X12 hown hK hP 0 rfl rfl 18 (by decide) (hts (.fieldLink RX12 264 "ThriceCountedModel" "tokenAt" "I") (by decide +kernel)) (fun _ h9 => h9) rfl dX12_goOn_2 ?_
  refine lv_aload_n hx hb dX12_goOn_5 rfl (lv_at hl 0 rfl) ?_
  refine va_get (D := (dC, dI)) (ci := 12) (v := .int (nI jl)) (C := RX12) (T := TX12) (N := 24) hx hb hts iw_m_goOn_X12 hown hK hP 0 rfl rfl 19 (by decide) (hts (.fieldLink RX12 267 "ThriceCountedModel" "tokenLong" "I") (by decide +kernel)) (fun _ h9 => h9) rfl dX12_goOn_6 ?_
  refine lv_iadd hx hb dX12_goOn_9 ?_
  refine tz_i (nI (ja + jl)) (nI_add ja jl) ?_
  have hPc := hP.sub (ws' := [(mo, .inr (12, [.ref nw, .ref kp, .ref ik, .ref mr, .long la_, .long lb_, .ref mw, .long lc_, .int ti_, .int cb_, .long ld_, .long le_, .ref mq, .ref mz, .ref my, .int sm_, .ref mb, .int (nI jb), .int (nI ja), .int (nI jl), .int tk_, .int vl_, .ref mx, .ref mv])), (mb, .inl (cb2_, 150, .inl fy_))]) [0, 1] rfl
  have hDc := hD.sub (ws' := [(mo, .inr (12, [.ref nw, .ref kp, .ref ik, .ref mr, .long la_, .long lb_, .ref mw, .long lc_, .int ti_, .int cb_, .long ld_, .long le_, .ref mq, .ref mz, .ref my, .int sm_, .ref mb, .int (nI jb), .int (nI ja), .int (nI jl), .int tk_, .int vl_, .ref mx, .ref mv])), (mb, .inl (cb2_, 150, .inl fy_))]) [0, 1] (by decide) rfl
  have hKc := hK.sub (tys' := [(cb2_, .int)]) [0] rfl
  have hFc := va_free (wc := [(mo, .inr (12, [.ref nw, .ref kp, .ref ik, .ref mr, .long la_, .long lb_, .ref mw, .long lc_, .int ti_, .int cb_, .long ld_, .long le_, .ref mq, .ref mz, .ref my, .int sm_, .ref mb, .int (nI jb), .int (nI ja), .int (nI jl), .int tk_, .int vl_, .ref mx, .ref mv])), (mb, .inl (cb2_, 150, .inl fy_))]) hD hS hA [0, 1] rfl
  refine va_callv (va_runV (As := [.int (nI (ja + jl))]) (rest := []) ⟨hx, hb, hml, hown, hts⟩ (m_lookAt l dC dI mo nw kp ik mr la_ lb_ mw lc_ ti_ cb_ ld_ le_ mq mz my sm_ mb jb (nI ja) (nI jl) tk_ vl_ mx mv cb2_ fy_ (ja + jl) s.heap.size hjb (by omega)) (cwV 1 hts gX12_goOn_X12_lookAt rfl rfl rfl (by decide +kernel) ⟨Nat.le_of_ble_eq_true rfl, Nat.le_of_ble_eq_true rfl⟩) ⟨fun a U g mk q => by obtain ⟨q0, q1, qP, qK, qD⟩ := q; exact ⟨q0, q1, qP, va_K.moved (u := U) (U := U.calling g mk a) (Vm.Alike.refl U.vm) qK, qD⟩, va_recv hK hP (ci := 12) (q0 := 0) rfl rfl, fun U hU hW => ⟨rfl, by rw [hU], by rw [hU]; exact hPc, va_K.moved hW.alike hKc, hDc.weaken (fun _ _ _ _ => trivial)⟩⟩ rfl rfl hl.1 rfl (lv_room (Nat.le_of_ble_eq_true rfl)) dX12_goOn_10 ⟨Nat.le_of_ble_eq_true rfl, Nat.le_of_ble_eq_true rfl⟩) hS (fun q _ h => hFc q h) hFc (fun u_ t H1 locs ht hvm hw_2 hB hz1 hk1 hS => ?_)
  obtain ⟨h_token_3, h_value_4, ga_5, gl_6, hf_7, hf_8, hf_9, hP1, hK1, hD1⟩ := hB
  rw [ht] at hP1
  have hK1 := va_K.moved hvm.symm hK1
  obtain ⟨hP, hD⟩ := va_join (wr := []) (w1 := [(mo, .inr (12, [.ref nw, .ref kp, .ref ik, .ref mr, .long la_, .long lb_, .ref mw, .long lc_, .int ti_, .int cb_, .long ld_, .long le_, .ref mq, .ref mz, .ref my, .int sm_, .ref mb, .int (nI jb), .int (nI ga_5), .int (nI gl_6), .int h_token_3, .int h_value_4, .ref mx, .ref mv])), (mb, .inl (cb2_, 150, .inl fy_))]) hP hD [0, 1] [] rfl rfl (by decide) (by decide) hk1 hFc hP1 hD1
  generalize H1 = H at hP hS ⊢
  have hP : va_P (dC, dI) vwCl [(mo, .inr (12, [.ref nw, .ref kp, .ref ik, .ref mr, .long la_, .long lb_, .ref mw, .long lc_, .int ti_, .int cb_, .long ld_, .long le_, .ref mq, .ref mz, .ref my, .int sm_, .ref mb, .int (nI jb), .int (nI ga_5), .int (nI gl_6), .int h_token_3, .int h_value_4, .ref mx, .ref mv])), (mb, .inl (cb2_, 150, .inl fy_))] H := hP
  have hD : va_D A [(mo, .inr (12, [.ref nw, .ref kp, .ref ik, .ref mr, .long la_, .long lb_, .ref mw, .long lc_, .int ti_, .int cb_, .long ld_, .long le_, .ref mq, .ref mz, .ref my, .int sm_, .ref mb, .int (nI jb), .int (nI ga_5), .int (nI gl_6), .int h_token_3, .int h_value_4, .ref mx, .ref mv])), (mb, .inl (cb2_, 150, .inl fy_))] := hD
  have hP9 := hP.sub (ws' := [(mo, .inr (12, [.ref nw, .ref kp, .ref ik, .ref mr, .long la_, .long lb_, .ref mw, .long lc_, .int ti_, .int cb_, .long ld_, .long le_, .ref mq, .ref mz, .ref my, .int sm_, .ref mb, .int (nI jb), .int (nI ga_5), .int (nI gl_6), .int h_token_3, .int h_value_4, .ref mx, .ref mv])), (mb, .inl (cb2_, 150, .inl fy_))]) [0, 1] rfl
  have hD9 := hD.sub (ws' := [(mo, .inr (12, [.ref nw, .ref kp, .ref ik, .ref mr, .long la_, .long lb_, .ref mw, .long lc_, .int ti_, .int cb_, .long ld_, .long le_, .ref mq, .ref mz, .ref my, .int sm_, .ref mb, .int (nI jb), .int (nI ga_5), .int (nI gl_6), .int h_token_3, .int h_value_4, .ref mx, .ref mv])), (mb, .inl (cb2_, 150, .inl fy_))]) [0, 1] (by decide) rfl
  have hK9 := hK.sub (tys' := [(cb2_, .int)]) [0] rfl
  exact W.vret hx hb hr (fun t ht hW => ⟨⟨(), rfl, trivial, h_token_3, h_value_4, ga_5, gl_6, by omega, hf_8, hf_9, by rw [ht]; exact hP9, va_K.moved hW.alike hK9, hD9⟩, hS.F ht⟩) hS.2.2 dX12_goOn_13
theorem dX12_isCalled_0 : decode cX12_isCalled 0 = .ok (.aload_n 0, 1) := by decide +kernel
theorem dX12_isCalled_1 : decode cX12_isCalled 1 = .ok (.getfield 270, 3) := by decide +kernel
theorem dX12_isCalled_4 : decode cX12_isCalled 4 = .ok (.iconst 1, 1) := by decide +kernel
theorem dX12_isCalled_5 : decode cX12_isCalled 5 = .ok (.if_icmp .ne 15, 3) := by decide +kernel
theorem dX12_isCalled_20 : decode cX12_isCalled 20 = .ok (.iconst 0, 1) := by decide +kernel
theorem dX12_isCalled_21 : decode cX12_isCalled 21 = .ok (.istore 8, 2) := by decide +kernel
theorem dX12_isCalled_23 : decode cX12_isCalled 23 = .ok (.iconst 0, 1) := by decide +kernel
theorem dX12_isCalled_24 : decode cX12_isCalled 24 = .ok (.istore 9, 2) := by decide +kernel
theorem dX12_isCalled_26 : decode cX12_isCalled 26 = .ok (.iload 9, 2) := by decide +kernel
theorem dX12_isCalled_28 : decode cX12_isCalled 28 = .ok (.iload_n 1, 1) := by decide +kernel
theorem dX12_isCalled_29 : decode cX12_isCalled 29 = .ok (.if_icmp .ge 90, 3) := by decide +kernel
theorem dX12_isCalled_32 : decode cX12_isCalled 32 = .ok (.iload 8, 2) := by decide +kernel
theorem dX12_isCalled_34 : decode cX12_isCalled 34 = .ok (.ifCond .eq 85, 3) := by decide +kernel
theorem dX12_isCalled_119 : decode cX12_isCalled 119 = .ok (.iload 8, 2) := by decide +kernel
theorem dX12_isCalled_121 : decode cX12_isCalled 121 = .ok (.ireturn, 1) := by decide +kernel
theorem dX12_isCalled_8 : decode cX12_isCalled 8 = .ok (.aload_n 0, 1) := by decide +kernel
theorem dX12_isCalled_9 : decode cX12_isCalled 9 = .ok (.getfield 267, 3) := by decide +kernel
theorem dX12_isCalled_12 : decode cX12_isCalled 12 = .ok (.iload_n 1, 1) := by decide +kernel
theorem dX12_isCalled_13 : decode cX12_isCalled 13 = .ok (.if_icmp .ne 7, 3) := by decide +kernel
theorem dX12_isCalled_16 : decode cX12_isCalled 16 = .ok (.iconst 1, 1) := by decide +kernel
theorem dX12_isCalled_17 : decode cX12_isCalled 17 = .ok (.goto 4, 3) := by decide +kernel
theorem dX12_isCalled_37 : decode cX12_isCalled 37 = .ok (.aload_n 0, 1) := by decide +kernel
theorem dX12_isCalled_38 : decode cX12_isCalled 38 = .ok (.getfield 40, 3) := by decide +kernel
theorem dX12_isCalled_41 : decode cX12_isCalled 41 = .ok (.aload_n 0, 1) := by decide +kernel
theorem dX12_isCalled_42 : decode cX12_isCalled 42 = .ok (.getfield 264, 3) := by decide +kernel
theorem dX12_isCalled_45 : decode cX12_isCalled 45 = .ok (.iload 9, 2) := by decide +kernel
theorem dX12_isCalled_47 : decode cX12_isCalled 47 = .ok (.iadd, 1) := by decide +kernel
theorem dX12_isCalled_48 : decode cX12_isCalled 48 = .ok (.iaload, 1) := by decide +kernel
theorem dX12_isCalled_49 : decode cX12_isCalled 49 = .ok (.iload 9, 2) := by decide +kernel
theorem dX12_isCalled_51 : decode cX12_isCalled 51 = .ok (.ifCond .ne 7, 3) := by decide +kernel
theorem dX12_isCalled_58 : decode cX12_isCalled 58 = .ok (.iload 9, 2) := by decide +kernel
theorem dX12_isCalled_60 : decode cX12_isCalled 60 = .ok (.iconst 1, 1) := by decide +kernel
theorem dX12_isCalled_61 : decode cX12_isCalled 61 = .ok (.if_icmp .ne 7, 3) := by decide +kernel
theorem dX12_isCalled_68 : decode cX12_isCalled 68 = .ok (.iload 9, 2) := by decide +kernel
theorem dX12_isCalled_70 : decode cX12_isCalled 70 = .ok (.iconst 2, 1) := by decide +kernel
theorem dX12_isCalled_71 : decode cX12_isCalled 71 = .ok (.if_icmp .ne 8, 3) := by decide +kernel
theorem dX12_isCalled_79 : decode cX12_isCalled 79 = .ok (.iload 9, 2) := by decide +kernel
theorem dX12_isCalled_81 : decode cX12_isCalled 81 = .ok (.iconst 3, 1) := by decide +kernel
theorem dX12_isCalled_82 : decode cX12_isCalled 82 = .ok (.if_icmp .ne 8, 3) := by decide +kernel
theorem dX12_isCalled_90 : decode cX12_isCalled 90 = .ok (.iload 9, 2) := by decide +kernel
theorem dX12_isCalled_92 : decode cX12_isCalled 92 = .ok (.iconst 4, 1) := by decide +kernel
theorem dX12_isCalled_93 : decode cX12_isCalled 93 = .ok (.if_icmp .ne 8, 3) := by decide +kernel
theorem dX12_isCalled_101 : decode cX12_isCalled 101 = .ok (.iload 7, 2) := by decide +kernel
theorem dX12_isCalled_103 : decode cX12_isCalled 103 = .ok (.if_icmp .ne 7, 3) := by decide +kernel
theorem dX12_isCalled_110 : decode cX12_isCalled 110 = .ok (.iconst 0, 1) := by decide +kernel
theorem dX12_isCalled_111 : decode cX12_isCalled 111 = .ok (.istore 8, 2) := by decide +kernel
theorem dX12_isCalled_113 : decode cX12_isCalled 113 = .ok (.iinc 9 1, 3) := by decide +kernel
theorem dX12_isCalled_116 : decode cX12_isCalled 116 = .ok (.goto (-90), 3) := by decide +kernel
theorem dX12_isCalled_106 : decode cX12_isCalled 106 = .ok (.iconst 1, 1) := by decide +kernel
theorem dX12_isCalled_107 : decode cX12_isCalled 107 = .ok (.goto 4, 3) := by decide +kernel
theorem dX12_isCalled_96 : decode cX12_isCalled 96 = .ok (.iload 6, 2) := by decide +kernel
theorem dX12_isCalled_98 : decode cX12_isCalled 98 = .ok (.goto 5, 3) := by decide +kernel
theorem dX12_isCalled_85 : decode cX12_isCalled 85 = .ok (.iload 5, 2) := by decide +kernel
theorem dX12_isCalled_87 : decode cX12_isCalled 87 = .ok (.goto 16, 3) := by decide +kernel
theorem dX12_isCalled_74 : decode cX12_isCalled 74 = .ok (.iload 4, 2) := by decide +kernel
theorem dX12_isCalled_76 : decode cX12_isCalled 76 = .ok (.goto 27, 3) := by decide +kernel
theorem dX12_isCalled_64 : decode cX12_isCalled 64 = .ok (.iload_n 3, 1) := by decide +kernel
theorem dX12_isCalled_65 : decode cX12_isCalled 65 = .ok (.goto 38, 3) := by decide +kernel
theorem dX12_isCalled_54 : decode cX12_isCalled 54 = .ok (.iload_n 2, 1) := by decide +kernel
theorem dX12_isCalled_55 : decode cX12_isCalled 55 = .ok (.goto 48, 3) := by decide +kernel
set_option maxRecDepth 20000 in
theorem iw_m_isCalled_X12 : ∀ w ∈ wsX120, w ∈ wsX12_isCalled := by decide +kernel
set_option maxHeartbeats 4000000 in
set_option maxRecDepth 100000 in
theorem m_isCalled (l : Launch) (dC : Nat → ClassId) (dI : Nat → Nat → Nat) (mo : Nat) (nw : Nat) (kp : Nat) (ik : Nat) (mr : Nat) (la_ : Int64) (lb_ : Int64) (mw : Nat) (lc_ : Int64) (ti_ : Int32) (cb_ : Int32) (ld_ : Int64) (le_ : Int64) (mq : Nat) (mz : Nat) (my : Nat) (sm_ : Int32) (mb : Nat) (jb : Nat) (ja : Nat) (jl : Nat) (tk_ : Int32) (vl_ : Int32) (mx : Nat) (mv : Nat) (cb2_ : ClassId) (fy_ : Nat → Int32) (jz : Nat) (na : Int32) (nb : Int32) (nc : Int32) (nd : Int32) (ne : Int32) (nf : Int32) (hjb : jb ≤ 150) (hjl : ja + jl ≤ jb) (hjz : jz ≤ 6) : Met l yX12_isCalled wsX12_isCalled ({ frames := 0, cells := 0, slots := 0, locals := 0 }) (va_Pc [.ref mo, .int (nI jz), .int na, .int nb, .int nc, .int nd, .int ne, .int nf] (fun U => va_P (dC, dI) vwCl [(mo, .inr (12, [.ref nw, .ref kp, .ref ik, .ref mr, .long la_, .long lb_, .ref mw, .long lc_, .int ti_, .int cb_, .long ld_, .long le_, .ref mq, .ref mz, .ref my, .int sm_, .ref mb, .int (nI jb), .int (nI ja), .int (nI jl), .int tk_, .int vl_, .ref mx, .ref mv])), (mb, .inl (cb2_, 150, .inl fy_))] U.heap ∧ va_K (dC, dI) vwCl [(cb2_, .int)] U)) (vp_Si (fun r => r = 0 ∨ r = 1)) 0 0 (fun _ => False) := by
  refine Met.ofW (cc := cX12_isCalled) (maxL := 10) (ret := (some .boolean)) (by decide) rfl ?_
  intro p e s m args below meth c s₁ B hml hv
  obtain ⟨rfl, hP, hK⟩ := hv
  have hx := B.exec
  have hb := B.bytes
  have hr := B.returns
  have hts := atoms_spec (ws := wsX12_isCalled) B.pre
  have hown : s.vm.findClass RX12 = some m.cls := findClass_of_methodNamed B.named
  have hlocks := B.notSynchronized
  have hl := lv_entry ([.ref mo, .int (nI jz), .int na, .int nb, .int nc, .int nd, .int ne, .int nf]) (n := 10) (Nat.le_of_ble_eq_true rfl)
  rw [lg_entry_eq]
  generalize (lg_sl ([.ref mo, .int (nI jz), .int na, .int nb, .int nc, .int nd, .int ne, .int nf]) ++ List.replicate (10 - (lg_sl ([.ref mo, .int (nI jz), .int na, .int nb, .int nc, .int nd, .int ne, .int nf])).length) Slot.unset).toArray = ls at hl ⊢
  have hl : lv_has ls 10 [(0, .ref mo), (1, .int (nI jz)), (2, .int na), (3, .int nb), (4, .int nc), (5, .int nd), (6, .int ne), (7, .int nf)] := hl
  refine lv_aload_n hx hb dX12_isCalled_0 rfl (lv_at hl 0 rfl) ?_
  refine va_get (D := (dC, dI)) (ci := 12) (v := .int tk_) (C := RX12) (T := TX12) (N := 24) hx hb hts iw_m_isCalled_X12 hown hK hP 0 rfl rfl 20 (by decide) (hts (.fieldLink RX12 270 "ThriceCountedModel" "token" "I") (by decide +kernel)) (fun _ h9 => h9) rfl dX12_isCalled_1 ?_
  refine lv_iconst (v := 1) hx hb dX12_isCalled_4 (by decide) ?_
  refine lv_icmp_ne (tgt := 20) hx hb dX12_isCalled_5 (by decide) (fun c_1 => ?_) (fun c_1 => ?_)
  · refine lv_iconst (v := 0) hx hb dX12_isCalled_20 (by decide) ?_
    refine lv_istore (lv' := [(8, .int 0), (0, .ref mo), (1, .int (nI jz)), (2, .int na), (3, .int nb), (4, .int nc), (5, .int nd), (6, .int ne), (7, .int nf)]) hx hb dX12_isCalled_21 hl (by decide) rfl (fun ls hl => ?_)
    refine lv_iconst (v := 0) hx hb dX12_isCalled_23 (by decide) ?_
    refine lv_istore (lv' := [(9, .int 0), (8, .int 0), (0, .ref mo), (1, .int (nI jz)), (2, .int na), (3, .int nb), (4, .int nc), (5, .int nd), (6, .int ne), (7, .int nf)]) hx hb dX12_isCalled_24 hl (by decide) rfl (fun ls hl => ?_)
    refine tz_while (σ := Nat × Array Slot) (fun x => W p l e _ s m _ below meth c _ _ _ _ _ (F0 m 26 x.2 [])) (fun x => True ∧ x.1 ≤ jz ∧ lv_has x.2 10 [(9, .int (nI x.1)), (8, .int 0), (0, .ref mo), (1, .int (nI jz)), (2, .int na), (3, .int nb), (4, .int nc), (5, .int nd), (6, .int ne), (7, .int nf)]) (fun x => jz - x.1) ?_ (0, ls) ⟨trivial, by (try dsimp only); omega, hl⟩
    rintro ⟨k_2, ls⟩ ⟨hi_7_0, hi_8_1, hl⟩ ih_9
    dsimp only at hi_7_0 hi_8_1 hl ih_9 ⊢
    refine lv_iload hx hb dX12_isCalled_26 (lv_at hl 0 rfl) ?_
    refine lv_iload_n hx hb dX12_isCalled_28 rfl (lv_at hl 3 rfl) ?_
    refine lv_icmp_ge (tgt := 119) hx hb dX12_isCalled_29 (by decide) (fun c_10 => ?_) (fun c_10 => ?_)
    · have hn_11 : jz ≤ k_2 := (nI_leI (a := jz) (b := k_2) (by omega) (by omega)).mp c_10
      refine lv_iload hx hb dX12_isCalled_119 (lv_at hl 1 rfl) ?_
      exact W.zret (v := 0) hx hb hr (by decide) (fun t ht hW => ⟨0, rfl, Or.inl rfl, ht⟩) (fun _ h => absurd h List.not_mem_nil) dX12_isCalled_121
    · have hn_12 : ¬ jz ≤ k_2 := fun q => c_10 ((nI_leI (a := jz) (b := k_2) (by omega) (by omega)).mpr q)
      refine lv_iload hx hb dX12_isCalled_32 (lv_at hl 1 rfl) ?_
      refine lv_if_eq (tgt := 119) hx hb dX12_isCalled_34 (by decide) (fun c_13 => ?_) (fun c_13 => ?_)
      · refine lv_iload hx hb dX12_isCalled_119 (lv_at hl 1 rfl) ?_
        exact W.zret (v := 0) hx hb hr (by decide) (fun t ht hW => ⟨0, rfl, Or.inl rfl, ht⟩) (fun _ h => absurd h List.not_mem_nil) dX12_isCalled_121
      · exact absurd c_13 (by decide)
  · refine lv_aload_n hx hb dX12_isCalled_8 rfl (lv_at hl 0 rfl) ?_
    refine va_get (D := (dC, dI)) (ci := 12) (v := .int (nI jl)) (C := RX12) (T := TX12) (N := 24) hx hb hts iw_m_isCalled_X12 hown hK hP 0 rfl rfl 19 (by decide) (hts (.fieldLink RX12 267 "ThriceCountedModel" "tokenLong" "I") (by decide +kernel)) (fun _ h9 => h9) rfl dX12_isCalled_9 ?_
    refine lv_iload_n hx hb dX12_isCalled_12 rfl (lv_at hl 1 rfl) ?_
    refine lv_icmp_ne (tgt := 20) hx hb dX12_isCalled_13 (by decide) (fun c_14 => ?_) (fun c_14 => ?_)
    · have hn_15 : ¬ jl = jz := fun q => c_14 ((nI_eq (a := jl) (b := jz) (by omega) (by omega)).mpr q)
      refine lv_iconst (v := 0) hx hb dX12_isCalled_20 (by decide) ?_
      refine lv_istore (lv' := [(8, .int 0), (0, .ref mo), (1, .int (nI jz)), (2, .int na), (3, .int nb), (4, .int nc), (5, .int nd), (6, .int ne), (7, .int nf)]) hx hb dX12_isCalled_21 hl (by decide) rfl (fun ls hl => ?_)
      refine lv_iconst (v := 0) hx hb dX12_isCalled_23 (by decide) ?_
      refine lv_istore (lv' := [(9, .int 0), (8, .int 0), (0, .ref mo), (1, .int (nI jz)), (2, .int na), (3, .int nb), (4, .int nc), (5, .int nd), (6, .int ne), (7, .int nf)]) hx hb dX12_isCalled_24 hl (by decide) rfl (fun ls hl => ?_)
      refine tz_while (σ := Nat × Array Slot) (fun x => W p l e _ s m _ below meth c _ _ _ _ _ (F0 m 26 x.2 [])) (fun x => True ∧ x.1 ≤ jz ∧ lv_has x.2 10 [(9, .int (nI x.1)), (8, .int 0), (0, .ref mo), (1, .int (nI jz)), (2, .int na), (3, .int nb), (4, .int nc), (5, .int nd), (6, .int ne), (7, .int nf)]) (fun x => jz - x.1) ?_ (0, ls) ⟨trivial, by (try dsimp only); omega, hl⟩
      rintro ⟨k_16, ls⟩ ⟨hi_21_0, hi_22_1, hl⟩ ih_23
      dsimp only at hi_21_0 hi_22_1 hl ih_23 ⊢
      refine lv_iload hx hb dX12_isCalled_26 (lv_at hl 0 rfl) ?_
      refine lv_iload_n hx hb dX12_isCalled_28 rfl (lv_at hl 3 rfl) ?_
      refine lv_icmp_ge (tgt := 119) hx hb dX12_isCalled_29 (by decide) (fun c_24 => ?_) (fun c_24 => ?_)
      · have hn_25 : jz ≤ k_16 := (nI_leI (a := jz) (b := k_16) (by omega) (by omega)).mp c_24
        refine lv_iload hx hb dX12_isCalled_119 (lv_at hl 1 rfl) ?_
        exact W.zret (v := 0) hx hb hr (by decide) (fun t ht hW => ⟨0, rfl, Or.inl rfl, ht⟩) (fun _ h => absurd h List.not_mem_nil) dX12_isCalled_121
      · have hn_26 : ¬ jz ≤ k_16 := fun q => c_24 ((nI_leI (a := jz) (b := k_16) (by omega) (by omega)).mpr q)
        refine lv_iload hx hb dX12_isCalled_32 (lv_at hl 1 rfl) ?_
        refine lv_if_eq (tgt := 119) hx hb dX12_isCalled_34 (by decide) (fun c_27 => ?_) (fun c_27 => ?_)
        · refine lv_iload hx hb dX12_isCalled_119 (lv_at hl 1 rfl) ?_
          exact W.zret (v := 0) hx hb hr (by decide) (fun t ht hW => ⟨0, rfl, Or.inl rfl, ht⟩) (fun _ h => absurd h List.not_mem_nil) dX12_isCalled_121
        · exact absurd c_27 (by decide)
    · have hn_28 : jl = jz := (nI_eq (a := jl) (b := jz) (by omega) (by omega)).mp c_14
      refine lv_iconst (v := 1) hx hb dX12_isCalled_16 (by decide) ?_
      refine lv_goto (tgt := 21) hx hb dX12_isCalled_17 (by decide) ?_
      refine lv_istore (lv' := [(8, .int 1), (0, .ref mo), (1, .int (nI jz)), (2, .int na), (3, .int nb), (4, .int nc), (5, .int nd), (6, .int ne), (7, .int nf)]) hx hb dX12_isCalled_21 hl (by decide) rfl (fun ls hl => ?_)
      refine lv_iconst (v := 0) hx hb dX12_isCalled_23 (by decide) ?_
      refine lv_istore (lv' := [(9, .int 0), (8, .int 1), (0, .ref mo), (1, .int (nI jz)), (2, .int na), (3, .int nb), (4, .int nc), (5, .int nd), (6, .int ne), (7, .int nf)]) hx hb dX12_isCalled_24 hl (by decide) rfl (fun ls hl => ?_)
      refine tz_while (σ := Nat × Int32 × Array Slot) (fun x => W p l e _ s m _ below meth c _ _ _ _ _ (F0 m 26 x.2.2 [])) (fun x => (x.2.1 = 0 ∨ x.2.1 = 1) ∧ x.1 ≤ jz ∧ lv_has x.2.2 10 [(9, .int (nI x.1)), (8, .int x.2.1), (0, .ref mo), (1, .int (nI jz)), (2, .int na), (3, .int nb), (4, .int nc), (5, .int nd), (6, .int ne), (7, .int nf)]) (fun x => jz - x.1) ?_ (0, 1, ls) ⟨Or.inr rfl, by (try dsimp only); omega, hl⟩
      rintro ⟨k_29, v_56, ls⟩ ⟨hi_83_0, hi_84_1, hl⟩ ih_85
      dsimp only at hi_83_0 hi_84_1 hl ih_85 ⊢
      refine lv_iload hx hb dX12_isCalled_26 (lv_at hl 0 rfl) ?_
      refine lv_iload_n hx hb dX12_isCalled_28 rfl (lv_at hl 3 rfl) ?_
      refine lv_icmp_ge (tgt := 119) hx hb dX12_isCalled_29 (by decide) (fun c_86 => ?_) (fun c_86 => ?_)
      · have hn_87 : jz ≤ k_29 := (nI_leI (a := jz) (b := k_29) (by omega) (by omega)).mp c_86
        refine lv_iload hx hb dX12_isCalled_119 (lv_at hl 1 rfl) ?_
        exact W.zret (v := v_56) hx hb hr (tz_zb hi_83_0) (fun t ht hW => ⟨v_56, rfl, hi_83_0, ht⟩) (fun _ h => absurd h List.not_mem_nil) dX12_isCalled_121
      · have hn_88 : ¬ jz ≤ k_29 := fun q => c_86 ((nI_leI (a := jz) (b := k_29) (by omega) (by omega)).mpr q)
        refine lv_iload hx hb dX12_isCalled_32 (lv_at hl 1 rfl) ?_
        refine lv_if_eq (tgt := 119) hx hb dX12_isCalled_34 (by decide) (fun c_89 => ?_) (fun c_89 => ?_)
        · refine lv_iload hx hb dX12_isCalled_119 (lv_at hl 1 rfl) ?_
          exact W.zret (v := v_56) hx hb hr (tz_zb hi_83_0) (fun t ht hW => ⟨v_56, rfl, hi_83_0, ht⟩) (fun _ h => absurd h List.not_mem_nil) dX12_isCalled_121
        · refine lv_aload_n hx hb dX12_isCalled_37 rfl (lv_at hl 2 rfl) ?_
          refine va_get (D := (dC, dI)) (ci := 12) (v := .ref mb) (C := RX12) (T := TX12) (N := 24) hx hb hts iw_m_isCalled_X12 hown hK hP 0 rfl rfl 16 (by decide) (hts (.fieldLink RX12 40 "ThriceCountedModel" "bytes" "[I") (by decide +kernel)) (fun _ h9 => h9) rfl dX12_isCalled_38 ?_
          refine lv_aload_n hx hb dX12_isCalled_41 rfl (lv_at hl 2 rfl) ?_
          refine va_get (D := (dC, dI)) (ci := 12) (v := .int (nI ja)) (C := RX12) (T := TX12) (N := 24) hx hb hts iw_m_isCalled_X12 hown hK hP 0 rfl rfl 18 (by decide) (hts (.fieldLink RX12 264 "ThriceCountedModel" "tokenAt" "I") (by decide +kernel)) (fun _ h9 => h9) rfl dX12_isCalled_42 ?_
          refine lv_iload hx hb dX12_isCalled_45 (lv_at hl 0 rfl) ?_
          refine lv_iadd hx hb dX12_isCalled_47 ?_
          refine tz_i (nI (ja + k_29)) (nI_add ja k_29) ?_
          refine va_iald hx hb hK hP 1 0 rfl rfl (vp_in_nI (n := (ja + k_29)) (N := 150) (by omega) (by decide)) dX12_isCalled_48 ?_
          refine lv_topi (fun x_90 _ => ?_)
          refine lv_iload hx hb dX12_isCalled_49 (lv_at hl 0 rfl) ?_
          refine lv_if_ne (tgt := 58) hx hb dX12_isCalled_51 (by decide) (fun c_91 => ?_) (fun c_91 => ?_)
          · have hn_92 : ¬ k_29 = 0 := fun q => c_91 ((nI_eq (a := k_29) (b := 0) (by omega) (by omega)).mpr q)
            refine lv_iload hx hb dX12_isCalled_58 (lv_at hl 0 rfl) ?_
            refine lv_iconst (v := 1) hx hb dX12_isCalled_60 (by decide) ?_
            refine lv_icmp_ne (tgt := 68) hx hb dX12_isCalled_61 (by decide) (fun c_93 => ?_) (fun c_93 => ?_)
            · have hn_94 : ¬ k_29 = 1 := fun q => c_93 ((nI_eq (a := k_29) (b := 1) (by omega) (by omega)).mpr q)
              refine lv_iload hx hb dX12_isCalled_68 (lv_at hl 0 rfl) ?_
              refine lv_iconst (v := 2) hx hb dX12_isCalled_70 (by decide) ?_
              refine lv_icmp_ne (tgt := 79) hx hb dX12_isCalled_71 (by decide) (fun c_95 => ?_) (fun c_95 => ?_)
              · have hn_96 : ¬ k_29 = 2 := fun q => c_95 ((nI_eq (a := k_29) (b := 2) (by omega) (by omega)).mpr q)
                refine lv_iload hx hb dX12_isCalled_79 (lv_at hl 0 rfl) ?_
                refine lv_iconst (v := 3) hx hb dX12_isCalled_81 (by decide) ?_
                refine lv_icmp_ne (tgt := 90) hx hb dX12_isCalled_82 (by decide) (fun c_97 => ?_) (fun c_97 => ?_)
                · have hn_98 : ¬ k_29 = 3 := fun q => c_97 ((nI_eq (a := k_29) (b := 3) (by omega) (by omega)).mpr q)
                  refine lv_iload hx hb dX12_isCalled_90 (lv_at hl 0 rfl) ?_
                  refine lv_iconst (v := 4) hx hb dX12_isCalled_92 (by decide) ?_
                  refine lv_icmp_ne (tgt := 101) hx hb dX12_isCalled_93 (by decide) (fun c_99 => ?_) (fun c_99 => ?_)
                  · have hn_100 : ¬ k_29 = 4 := fun q => c_99 ((nI_eq (a := k_29) (b := 4) (by omega) (by omega)).mpr q)
                    refine lv_iload hx hb dX12_isCalled_101 (lv_at hl 9 rfl) ?_
                    refine lv_icmp_ne (tgt := 110) hx hb dX12_isCalled_103 (by decide) (fun c_101 => ?_) (fun c_101 => ?_)
                    · refine lv_iconst (v := 0) hx hb dX12_isCalled_110 (by decide) ?_
                      refine lv_istore (lv' := [(8, .int 0), (9, .int (nI k_29)), (0, .ref mo), (1, .int (nI jz)), (2, .int na), (3, .int nb), (4, .int nc), (5, .int nd), (6, .int ne), (7, .int nf)]) hx hb dX12_isCalled_111 hl (by decide) rfl (fun ls hl => ?_)
                      refine lv_iinc (v := (nI (k_29 + 1))) (lv' := [(9, .int (nI (k_29 + 1))), (8, .int 0), (0, .ref mo), (1, .int (nI jz)), (2, .int na), (3, .int nb), (4, .int nc), (5, .int nd), (6, .int ne), (7, .int nf)]) hx hb dX12_isCalled_113 hl (k := 1) rfl (nI_add k_29 1) (by decide) rfl (fun ls hl => ?_)
                      refine lv_goto (tgt := 26) hx hb dX12_isCalled_116 (by decide) ?_
                      exact ih_85 ((k_29 + 1), 0, ls) ⟨Or.inl rfl, by dsimp only; omega, lv_sub hl [0, 1, 2, 3, 4, 5, 6, 7, 8, 9] rfl⟩ (by dsimp only; omega)
                    · refine lv_iconst (v := 1) hx hb dX12_isCalled_106 (by decide) ?_
                      refine lv_goto (tgt := 111) hx hb dX12_isCalled_107 (by decide) ?_
                      refine lv_istore (lv' := [(8, .int 1), (9, .int (nI k_29)), (0, .ref mo), (1, .int (nI jz)), (2, .int na), (3, .int nb), (4, .int nc), (5, .int nd), (6, .int ne), (7, .int nf)]) hx hb dX12_isCalled_111 hl (by decide) rfl (fun ls hl => ?_)
                      refine lv_iinc (v := (nI (k_29 + 1))) (lv' := [(9, .int (nI (k_29 + 1))), (8, .int 1), (0, .ref mo), (1, .int (nI jz)), (2, .int na), (3, .int nb), (4, .int nc), (5, .int nd), (6, .int ne), (7, .int nf)]) hx hb dX12_isCalled_113 hl (k := 1) rfl (nI_add k_29 1) (by decide) rfl (fun ls hl => ?_)
                      refine lv_goto (tgt := 26) hx hb dX12_isCalled_116 (by decide) ?_
                      exact ih_85 ((k_29 + 1), 1, ls) ⟨Or.inr rfl, by dsimp only; omega, lv_sub hl [0, 1, 2, 3, 4, 5, 6, 7, 8, 9] rfl⟩ (by dsimp only; omega)
                  · have hn_102 : k_29 = 4 := (nI_eq (a := k_29) (b := 4) (by omega) (by omega)).mp c_99
                    refine lv_iload hx hb dX12_isCalled_96 (lv_at hl 8 rfl) ?_
                    refine lv_goto (tgt := 103) hx hb dX12_isCalled_98 (by decide) ?_
                    refine lv_icmp_ne (tgt := 110) hx hb dX12_isCalled_103 (by decide) (fun c_103 => ?_) (fun c_103 => ?_)
                    · refine lv_iconst (v := 0) hx hb dX12_isCalled_110 (by decide) ?_
                      refine lv_istore (lv' := [(8, .int 0), (9, .int (nI k_29)), (0, .ref mo), (1, .int (nI jz)), (2, .int na), (3, .int nb), (4, .int nc), (5, .int nd), (6, .int ne), (7, .int nf)]) hx hb dX12_isCalled_111 hl (by decide) rfl (fun ls hl => ?_)
                      refine lv_iinc (v := (nI (k_29 + 1))) (lv' := [(9, .int (nI (k_29 + 1))), (8, .int 0), (0, .ref mo), (1, .int (nI jz)), (2, .int na), (3, .int nb), (4, .int nc), (5, .int nd), (6, .int ne), (7, .int nf)]) hx hb dX12_isCalled_113 hl (k := 1) rfl (nI_add k_29 1) (by decide) rfl (fun ls hl => ?_)
                      refine lv_goto (tgt := 26) hx hb dX12_isCalled_116 (by decide) ?_
                      exact ih_85 ((k_29 + 1), 0, ls) ⟨Or.inl rfl, by dsimp only; omega, lv_sub hl [0, 1, 2, 3, 4, 5, 6, 7, 8, 9] rfl⟩ (by dsimp only; omega)
                    · refine lv_iconst (v := 1) hx hb dX12_isCalled_106 (by decide) ?_
                      refine lv_goto (tgt := 111) hx hb dX12_isCalled_107 (by decide) ?_
                      refine lv_istore (lv' := [(8, .int 1), (9, .int (nI k_29)), (0, .ref mo), (1, .int (nI jz)), (2, .int na), (3, .int nb), (4, .int nc), (5, .int nd), (6, .int ne), (7, .int nf)]) hx hb dX12_isCalled_111 hl (by decide) rfl (fun ls hl => ?_)
                      refine lv_iinc (v := (nI (k_29 + 1))) (lv' := [(9, .int (nI (k_29 + 1))), (8, .int 1), (0, .ref mo), (1, .int (nI jz)), (2, .int na), (3, .int nb), (4, .int nc), (5, .int nd), (6, .int ne), (7, .int nf)]) hx hb dX12_isCalled_113 hl (k := 1) rfl (nI_add k_29 1) (by decide) rfl (fun ls hl => ?_)
                      refine lv_goto (tgt := 26) hx hb dX12_isCalled_116 (by decide) ?_
                      exact ih_85 ((k_29 + 1), 1, ls) ⟨Or.inr rfl, by dsimp only; omega, lv_sub hl [0, 1, 2, 3, 4, 5, 6, 7, 8, 9] rfl⟩ (by dsimp only; omega)
                · have hn_104 : k_29 = 3 := (nI_eq (a := k_29) (b := 3) (by omega) (by omega)).mp c_97
                  refine lv_iload hx hb dX12_isCalled_85 (lv_at hl 7 rfl) ?_
                  refine lv_goto (tgt := 103) hx hb dX12_isCalled_87 (by decide) ?_
                  refine lv_icmp_ne (tgt := 110) hx hb dX12_isCalled_103 (by decide) (fun c_105 => ?_) (fun c_105 => ?_)
                  · refine lv_iconst (v := 0) hx hb dX12_isCalled_110 (by decide) ?_
                    refine lv_istore (lv' := [(8, .int 0), (9, .int (nI k_29)), (0, .ref mo), (1, .int (nI jz)), (2, .int na), (3, .int nb), (4, .int nc), (5, .int nd), (6, .int ne), (7, .int nf)]) hx hb dX12_isCalled_111 hl (by decide) rfl (fun ls hl => ?_)
                    refine lv_iinc (v := (nI (k_29 + 1))) (lv' := [(9, .int (nI (k_29 + 1))), (8, .int 0), (0, .ref mo), (1, .int (nI jz)), (2, .int na), (3, .int nb), (4, .int nc), (5, .int nd), (6, .int ne), (7, .int nf)]) hx hb dX12_isCalled_113 hl (k := 1) rfl (nI_add k_29 1) (by decide) rfl (fun ls hl => ?_)
                    refine lv_goto (tgt := 26) hx hb dX12_isCalled_116 (by decide) ?_
                    exact ih_85 ((k_29 + 1), 0, ls) ⟨Or.inl rfl, by dsimp only; omega, lv_sub hl [0, 1, 2, 3, 4, 5, 6, 7, 8, 9] rfl⟩ (by dsimp only; omega)
                  · refine lv_iconst (v := 1) hx hb dX12_isCalled_106 (by decide) ?_
                    refine lv_goto (tgt := 111) hx hb dX12_isCalled_107 (by decide) ?_
                    refine lv_istore (lv' := [(8, .int 1), (9, .int (nI k_29)), (0, .ref mo), (1, .int (nI jz)), (2, .int na), (3, .int nb), (4, .int nc), (5, .int nd), (6, .int ne), (7, .int nf)]) hx hb dX12_isCalled_111 hl (by decide) rfl (fun ls hl => ?_)
                    refine lv_iinc (v := (nI (k_29 + 1))) (lv' := [(9, .int (nI (k_29 + 1))), (8, .int 1), (0, .ref mo), (1, .int (nI jz)), (2, .int na), (3, .int nb), (4, .int nc), (5, .int nd), (6, .int ne), (7, .int nf)]) hx hb dX12_isCalled_113 hl (k := 1) rfl (nI_add k_29 1) (by decide) rfl (fun ls hl => ?_)
                    refine lv_goto (tgt := 26) hx hb dX12_isCalled_116 (by decide) ?_
                    exact ih_85 ((k_29 + 1), 1, ls) ⟨Or.inr rfl, by dsimp only; omega, lv_sub hl [0, 1, 2, 3, 4, 5, 6, 7, 8, 9] rfl⟩ (by dsimp only; omega)
              · have hn_106 : k_29 = 2 := (nI_eq (a := k_29) (b := 2) (by omega) (by omega)).mp c_95
                refine lv_iload hx hb dX12_isCalled_74 (lv_at hl 6 rfl) ?_
                refine lv_goto (tgt := 103) hx hb dX12_isCalled_76 (by decide) ?_
                refine lv_icmp_ne (tgt := 110) hx hb dX12_isCalled_103 (by decide) (fun c_107 => ?_) (fun c_107 => ?_)
                · refine lv_iconst (v := 0) hx hb dX12_isCalled_110 (by decide) ?_
                  refine lv_istore (lv' := [(8, .int 0), (9, .int (nI k_29)), (0, .ref mo), (1, .int (nI jz)), (2, .int na), (3, .int nb), (4, .int nc), (5, .int nd), (6, .int ne), (7, .int nf)]) hx hb dX12_isCalled_111 hl (by decide) rfl (fun ls hl => ?_)
                  refine lv_iinc (v := (nI (k_29 + 1))) (lv' := [(9, .int (nI (k_29 + 1))), (8, .int 0), (0, .ref mo), (1, .int (nI jz)), (2, .int na), (3, .int nb), (4, .int nc), (5, .int nd), (6, .int ne), (7, .int nf)]) hx hb dX12_isCalled_113 hl (k := 1) rfl (nI_add k_29 1) (by decide) rfl (fun ls hl => ?_)
                  refine lv_goto (tgt := 26) hx hb dX12_isCalled_116 (by decide) ?_
                  exact ih_85 ((k_29 + 1), 0, ls) ⟨Or.inl rfl, by dsimp only; omega, lv_sub hl [0, 1, 2, 3, 4, 5, 6, 7, 8, 9] rfl⟩ (by dsimp only; omega)
                · refine lv_iconst (v := 1) hx hb dX12_isCalled_106 (by decide) ?_
                  refine lv_goto (tgt := 111) hx hb dX12_isCalled_107 (by decide) ?_
                  refine lv_istore (lv' := [(8, .int 1), (9, .int (nI k_29)), (0, .ref mo), (1, .int (nI jz)), (2, .int na), (3, .int nb), (4, .int nc), (5, .int nd), (6, .int ne), (7, .int nf)]) hx hb dX12_isCalled_111 hl (by decide) rfl (fun ls hl => ?_)
                  refine lv_iinc (v := (nI (k_29 + 1))) (lv' := [(9, .int (nI (k_29 + 1))), (8, .int 1), (0, .ref mo), (1, .int (nI jz)), (2, .int na), (3, .int nb), (4, .int nc), (5, .int nd), (6, .int ne), (7, .int nf)]) hx hb dX12_isCalled_113 hl (k := 1) rfl (nI_add k_29 1) (by decide) rfl (fun ls hl => ?_)
                  refine lv_goto (tgt := 26) hx hb dX12_isCalled_116 (by decide) ?_
                  exact ih_85 ((k_29 + 1), 1, ls) ⟨Or.inr rfl, by dsimp only; omega, lv_sub hl [0, 1, 2, 3, 4, 5, 6, 7, 8, 9] rfl⟩ (by dsimp only; omega)
            · have hn_108 : k_29 = 1 := (nI_eq (a := k_29) (b := 1) (by omega) (by omega)).mp c_93
              refine lv_iload_n hx hb dX12_isCalled_64 rfl (lv_at hl 5 rfl) ?_
              refine lv_goto (tgt := 103) hx hb dX12_isCalled_65 (by decide) ?_
              refine lv_icmp_ne (tgt := 110) hx hb dX12_isCalled_103 (by decide) (fun c_109 => ?_) (fun c_109 => ?_)
              · refine lv_iconst (v := 0) hx hb dX12_isCalled_110 (by decide) ?_
                refine lv_istore (lv' := [(8, .int 0), (9, .int (nI k_29)), (0, .ref mo), (1, .int (nI jz)), (2, .int na), (3, .int nb), (4, .int nc), (5, .int nd), (6, .int ne), (7, .int nf)]) hx hb dX12_isCalled_111 hl (by decide) rfl (fun ls hl => ?_)
                refine lv_iinc (v := (nI (k_29 + 1))) (lv' := [(9, .int (nI (k_29 + 1))), (8, .int 0), (0, .ref mo), (1, .int (nI jz)), (2, .int na), (3, .int nb), (4, .int nc), (5, .int nd), (6, .int ne), (7, .int nf)]) hx hb dX12_isCalled_113 hl (k := 1) rfl (nI_add k_29 1) (by decide) rfl (fun ls hl => ?_)
                refine lv_goto (tgt := 26) hx hb dX12_isCalled_116 (by decide) ?_
                exact ih_85 ((k_29 + 1), 0, ls) ⟨Or.inl rfl, by dsimp only; omega, lv_sub hl [0, 1, 2, 3, 4, 5, 6, 7, 8, 9] rfl⟩ (by dsimp only; omega)
              · refine lv_iconst (v := 1) hx hb dX12_isCalled_106 (by decide) ?_
                refine lv_goto (tgt := 111) hx hb dX12_isCalled_107 (by decide) ?_
                refine lv_istore (lv' := [(8, .int 1), (9, .int (nI k_29)), (0, .ref mo), (1, .int (nI jz)), (2, .int na), (3, .int nb), (4, .int nc), (5, .int nd), (6, .int ne), (7, .int nf)]) hx hb dX12_isCalled_111 hl (by decide) rfl (fun ls hl => ?_)
                refine lv_iinc (v := (nI (k_29 + 1))) (lv' := [(9, .int (nI (k_29 + 1))), (8, .int 1), (0, .ref mo), (1, .int (nI jz)), (2, .int na), (3, .int nb), (4, .int nc), (5, .int nd), (6, .int ne), (7, .int nf)]) hx hb dX12_isCalled_113 hl (k := 1) rfl (nI_add k_29 1) (by decide) rfl (fun ls hl => ?_)
                refine lv_goto (tgt := 26) hx hb dX12_isCalled_116 (by decide) ?_
                exact ih_85 ((k_29 + 1), 1, ls) ⟨Or.inr rfl, by dsimp only; omega, lv_sub hl [0, 1, 2, 3, 4, 5, 6, 7, 8, 9] rfl⟩ (by dsimp only; omega)
          · have hn_110 : k_29 = 0 := (nI_eq (a := k_29) (b := 0) (by omega) (by omega)).mp c_91
            refine lv_iload_n hx hb dX12_isCalled_54 rfl (lv_at hl 4 rfl) ?_
            refine lv_goto (tgt := 103) hx hb dX12_isCalled_55 (by decide) ?_
            refine lv_icmp_ne (tgt := 110) hx hb dX12_isCalled_103 (by decide) (fun c_111 => ?_) (fun c_111 => ?_)
            · refine lv_iconst (v := 0) hx hb dX12_isCalled_110 (by decide) ?_
              refine lv_istore (lv' := [(8, .int 0), (9, .int (nI k_29)), (0, .ref mo), (1, .int (nI jz)), (2, .int na), (3, .int nb), (4, .int nc), (5, .int nd), (6, .int ne), (7, .int nf)]) hx hb dX12_isCalled_111 hl (by decide) rfl (fun ls hl => ?_)
              refine lv_iinc (v := (nI (k_29 + 1))) (lv' := [(9, .int (nI (k_29 + 1))), (8, .int 0), (0, .ref mo), (1, .int (nI jz)), (2, .int na), (3, .int nb), (4, .int nc), (5, .int nd), (6, .int ne), (7, .int nf)]) hx hb dX12_isCalled_113 hl (k := 1) rfl (nI_add k_29 1) (by decide) rfl (fun ls hl => ?_)
              refine lv_goto (tgt := 26) hx hb dX12_isCalled_116 (by decide) ?_
              exact ih_85 ((k_29 + 1), 0, ls) ⟨Or.inl rfl, by dsimp only; omega, lv_sub hl [0, 1, 2, 3, 4, 5, 6, 7, 8, 9] rfl⟩ (by dsimp only; omega)
            · refine lv_iconst (v := 1) hx hb dX12_isCalled_106 (by decide) ?_
              refine lv_goto (tgt := 111) hx hb dX12_isCalled_107 (by decide) ?_
              refine lv_istore (lv' := [(8, .int 1), (9, .int (nI k_29)), (0, .ref mo), (1, .int (nI jz)), (2, .int na), (3, .int nb), (4, .int nc), (5, .int nd), (6, .int ne), (7, .int nf)]) hx hb dX12_isCalled_111 hl (by decide) rfl (fun ls hl => ?_)
              refine lv_iinc (v := (nI (k_29 + 1))) (lv' := [(9, .int (nI (k_29 + 1))), (8, .int 1), (0, .ref mo), (1, .int (nI jz)), (2, .int na), (3, .int nb), (4, .int nc), (5, .int nd), (6, .int ne), (7, .int nf)]) hx hb dX12_isCalled_113 hl (k := 1) rfl (nI_add k_29 1) (by decide) rfl (fun ls hl => ?_)
              refine lv_goto (tgt := 26) hx hb dX12_isCalled_116 (by decide) ?_
              exact ih_85 ((k_29 + 1), 1, ls) ⟨Or.inr rfl, by dsimp only; omega, lv_sub hl [0, 1, 2, 3, 4, 5, 6, 7, 8, 9] rfl⟩ (by dsimp only; omega)
set_option maxRecDepth 20000 in
theorem ggX12_takes_X12_in : GoodIn wsX12_takes wsX12_in := goodIn_r _ [7] (by decide +kernel) (by decide +kernel)
set_option maxRecDepth 20000 in
theorem gX12_takes_X12_in : GoodIn wsX12_takes (va_wsS RX12 49 yX12_in wsX12_in) := goodIn_app (goodIn_of _ (by decide +kernel)) ggX12_takes_X12_in
set_option maxRecDepth 20000 in
theorem ggX12_takes_X12_goOn : GoodIn wsX12_takes wsX12_goOn := goodIn_r _ [11, 12, 13, 14, 15, 16, 6, 17, 18, 19, 1, 2, 20, 21, 22, 23, 24, 4, 5, 7, 25, 26, 27, 28, 29, 30, 31, 32, 33, 34, 35, 36, 37, 38, 39, 40, 41, 42, 43, 44, 45, 46, 47, 48, 49, 50, 51, 52, 53] (by decide +kernel) (by decide +kernel)
set_option maxRecDepth 20000 in
theorem gX12_takes_X12_goOn : GoodIn wsX12_takes (wsV RX12 285 RX12 yX12_goOn wsX12_goOn) := goodIn_app (goodIn_of _ (by decide +kernel)) ggX12_takes_X12_goOn
theorem dX12_takes_0 : decode cX12_takes 0 = .ok (.aload_n 0, 1) := by decide +kernel
theorem dX12_takes_1 : decode cX12_takes 1 = .ok (.getfield 270, 3) := by decide +kernel
theorem dX12_takes_4 : decode cX12_takes 4 = .ok (.iconst 2, 1) := by decide +kernel
theorem dX12_takes_5 : decode cX12_takes 5 = .ok (.if_icmp .ne 18, 3) := by decide +kernel
theorem dX12_takes_23 : decode cX12_takes 23 = .ok (.iconst 0, 1) := by decide +kernel
theorem dX12_takes_24 : decode cX12_takes 24 = .ok (.ireturn, 1) := by decide +kernel
theorem dX12_takes_8 : decode cX12_takes 8 = .ok (.aload_n 0, 1) := by decide +kernel
theorem dX12_takes_9 : decode cX12_takes 9 = .ok (.getfield 273, 3) := by decide +kernel
theorem dX12_takes_12 : decode cX12_takes 12 = .ok (.i2l, 1) := by decide +kernel
theorem dX12_takes_13 : decode cX12_takes 13 = .ok (.iload_n 2, 1) := by decide +kernel
theorem dX12_takes_14 : decode cX12_takes 14 = .ok (.i2l, 1) := by decide +kernel
theorem dX12_takes_15 : decode cX12_takes 15 = .ok (.iload_n 3, 1) := by decide +kernel
theorem dX12_takes_16 : decode cX12_takes 16 = .ok (.i2l, 1) := by decide +kernel
theorem dX12_takes_17 : decode cX12_takes 17 = .ok (.invokestatic 49, 3) := by decide +kernel
theorem dX12_takes_20 : decode cX12_takes 20 = .ok (.ifCond .ne 5, 3) := by decide +kernel
theorem dX12_takes_25 : decode cX12_takes 25 = .ok (.aload_n 0, 1) := by decide +kernel
theorem dX12_takes_26 : decode cX12_takes 26 = .ok (.getfield 46, 3) := by decide +kernel
theorem dX12_takes_29 : decode cX12_takes 29 = .ok (.iload_n 1, 1) := by decide +kernel
theorem dX12_takes_30 : decode cX12_takes 30 = .ok (.aload_n 0, 1) := by decide +kernel
theorem dX12_takes_31 : decode cX12_takes 31 = .ok (.getfield 273, 3) := by decide +kernel
theorem dX12_takes_34 : decode cX12_takes 34 = .ok (.iastore, 1) := by decide +kernel
theorem dX12_takes_35 : decode cX12_takes 35 = .ok (.aload_n 0, 1) := by decide +kernel
theorem dX12_takes_36 : decode cX12_takes 36 = .ok (.invokevirtual 285, 3) := by decide +kernel
theorem dX12_takes_39 : decode cX12_takes 39 = .ok (.iconst 1, 1) := by decide +kernel
theorem dX12_takes_40 : decode cX12_takes 40 = .ok (.ireturn, 1) := by decide +kernel
set_option maxRecDepth 20000 in
theorem iw_m_takes_X12 : ∀ w ∈ wsX120, w ∈ wsX12_takes := by decide +kernel
set_option maxHeartbeats 4000000 in
set_option maxRecDepth 100000 in
theorem m_takes (l : Launch) (dC : Nat → ClassId) (dI : Nat → Nat → Nat) (mo : Nat) (nw : Nat) (kp : Nat) (ik : Nat) (mr : Nat) (la_ : Int64) (lb_ : Int64) (mw : Nat) (lc_ : Int64) (ti_ : Int32) (cb_ : Int32) (ld_ : Int64) (le_ : Int64) (mq : Nat) (mz : Nat) (my : Nat) (sm_ : Int32) (mb : Nat) (jb : Nat) (ja : Nat) (jl : Nat) (tk_ : Int32) (vl_ : Int32) (mx : Nat) (mv : Nat) (cb2_ : ClassId) (fy_ : Nat → Int32) (cv_ : ClassId) (fv_ : Nat → Int32) (jk : Nat) (nb : Int32) (nc : Int32) (sz : Nat) (hjb : jb ≤ 150) (hjl : ja + jl ≤ jb) (h3 : tk_ = 3 → 1 ≤ jl) (hjk : jk < 4) : Met l yX12_takes wsX12_takes ({ frames := 4, cells := 0, slots := 0, locals := 89 }) (va_Pc [.ref mo, .int (nI jk), .int nb, .int nc] (fun U => U.heap.size = sz ∧ va_P (dC, dI) vwCl [(mo, .inr (12, [.ref nw, .ref kp, .ref ik, .ref mr, .long la_, .long lb_, .ref mw, .long lc_, .int ti_, .int cb_, .long ld_, .long le_, .ref mq, .ref mz, .ref my, .int sm_, .ref mb, .int (nI jb), .int (nI ja), .int (nI jl), .int tk_, .int vl_, .ref mx, .ref mv])), (mb, .inl (cb2_, 150, .inl fy_)), (mv, .inl (cv_, 4, .inl fv_))] U.heap ∧ va_K (dC, dI) vwCl [(cb2_, .int), (cv_, .int)] U ∧ va_D (fun _ => True) [(mo, .inr (12, [.ref nw, .ref kp, .ref ik, .ref mr, .long la_, .long lb_, .ref mw, .long lc_, .int ti_, .int cb_, .long ld_, .long le_, .ref mq, .ref mz, .ref my, .int sm_, .ref mb, .int (nI jb), .int (nI ja), .int (nI jl), .int tk_, .int vl_, .ref mx, .ref mv])), (mb, .inl (cb2_, 150, .inl fy_)), (mv, .inl (cv_, 4, .inl fv_))])) (va_Qi (fun (r : Int32) (_ : Unit) => r = if (tk_ = 2 ∧ (nb ≤ vl_ ∧ vl_ ≤ nc)) then 1 else 0) (fun _ t => ∃ (h_token : Int32) (h_value : Int32) (gv_ : Nat → Int32) (ga : Nat) (gl : Nat), (ja ≤ ga) ∧ (ga + gl ≤ jb) ∧ (h_token = 3 → 1 ≤ gl) ∧ ((tk_ = 2 ∧ (nb ≤ vl_ ∧ vl_ ≤ nc)) → gv_ = upd fv_ jk vl_) ∧ va_P (dC, dI) vwCl [(mo, .inr (12, [.ref nw, .ref kp, .ref ik, .ref mr, .long la_, .long lb_, .ref mw, .long lc_, .int ti_, .int cb_, .long ld_, .long le_, .ref mq, .ref mz, .ref my, .int sm_, .ref mb, .int (nI jb), .int (nI ga), .int (nI gl), .int h_token, .int h_value, .ref mx, .ref mv])), (mb, .inl (cb2_, 150, .inl fy_)), (mv, .inl (cv_, 4, .inl gv_))] t.heap ∧ va_K (dC, dI) vwCl [(cb2_, .int), (cv_, .int)] t ∧ va_D (va_A [(mo, .inr (12, [.ref nw, .ref kp, .ref ik, .ref mr, .long la_, .long lb_, .ref mw, .long lc_, .int ti_, .int cb_, .long ld_, .long le_, .ref mq, .ref mz, .ref my, .int sm_, .ref mb, .int (nI jb), .int (nI ja), .int (nI jl), .int tk_, .int vl_, .ref mx, .ref mv])), (mb, .inl (cb2_, 150, .inl fy_)), (mv, .inl (cv_, 4, .inl fv_))] sz) [(mo, .inr (12, [.ref nw, .ref kp, .ref ik, .ref mr, .long la_, .long lb_, .ref mw, .long lc_, .int ti_, .int cb_, .long ld_, .long le_, .ref mq, .ref mz, .ref my, .int sm_, .ref mb, .int (nI jb), .int (nI ga), .int (nI gl), .int h_token, .int h_value, .ref mx, .ref mv])), (mb, .inl (cb2_, 150, .inl fy_)), (mv, .inl (cv_, 4, .inl gv_))]) (va_A [(mo, .inr (12, [.ref nw, .ref kp, .ref ik, .ref mr, .long la_, .long lb_, .ref mw, .long lc_, .int ti_, .int cb_, .long ld_, .long le_, .ref mq, .ref mz, .ref my, .int sm_, .ref mb, .int (nI jb), .int (nI ja), .int (nI jl), .int tk_, .int vl_, .ref mx, .ref mv])), (mb, .inl (cb2_, 150, .inl fy_)), (mv, .inl (cv_, 4, .inl fv_))] sz)) 0 0 (va_A [(mo, .inr (12, [.ref nw, .ref kp, .ref ik, .ref mr, .long la_, .long lb_, .ref mw, .long lc_, .int ti_, .int cb_, .long ld_, .long le_, .ref mq, .ref mz, .ref my, .int sm_, .ref mb, .int (nI jb), .int (nI ja), .int (nI jl), .int tk_, .int vl_, .ref mx, .ref mv])), (mb, .inl (cb2_, 150, .inl fy_)), (mv, .inl (cv_, 4, .inl fv_))] sz) := by
  refine Met.ofW (cc := cX12_takes) (maxL := 4) (ret := (some .boolean)) (by decide) rfl ?_
  intro p e s m args below meth c s₁ B hml hv
  obtain ⟨rfl, hsz, hP, hK, hD0⟩ := hv
  have hx := B.exec
  have hb := B.bytes
  have hr := B.returns
  have hts := atoms_spec (ws := wsX12_takes) B.pre
  have hown : s.vm.findClass RX12 = some m.cls := findClass_of_methodNamed B.named
  have hlocks := B.notSynchronized
  subst hsz
  have hD := hD0.self (sz := s.heap.size)
  generalize hAe : va_A [(mo, .inr (12, [.ref nw, .ref kp, .ref ik, .ref mr, .long la_, .long lb_, .ref mw, .long lc_, .int ti_, .int cb_, .long ld_, .long le_, .ref mq, .ref mz, .ref my, .int sm_, .ref mb, .int (nI jb), .int (nI ja), .int (nI jl), .int tk_, .int vl_, .ref mx, .ref mv])), (mb, .inl (cb2_, 150, .inl fy_)), (mv, .inl (cv_, 4, .inl fv_))] s.heap.size = A at hD ⊢
  have hA : ∀ q : Nat, s.heap.size ≤ q → A q := fun q h => by rw [← hAe]; exact Or.inr h
  have hS : va_S A s.heap s.heap [] := va_S.rf
  have hP : va_P (dC, dI) vwCl [(mo, .inr (12, [.ref nw, .ref kp, .ref ik, .ref mr, .long la_, .long lb_, .ref mw, .long lc_, .int ti_, .int cb_, .long ld_, .long le_, .ref mq, .ref mz, .ref my, .int sm_, .ref mb, .int (nI jb), .int (nI ja), .int (nI jl), .int tk_, .int vl_, .ref mx, .ref mv])), (mb, .inl (cb2_, 150, .inl fy_)), (mv, .inl (cv_, 4, .inl fv_))] s.heap := hP
  have hl := lv_entry ([.ref mo, .int (nI jk), .int nb, .int nc]) (n := 4) (Nat.le_of_ble_eq_true rfl)
  rw [lg_entry_eq]
  generalize (lg_sl ([.ref mo, .int (nI jk), .int nb, .int nc]) ++ List.replicate (4 - (lg_sl ([.ref mo, .int (nI jk), .int nb, .int nc])).length) Slot.unset).toArray = ls at hl ⊢
  have hl : lv_has ls 4 [(0, .ref mo), (1, .int (nI jk)), (2, .int nb), (3, .int nc)] := hl
  refine lv_aload_n hx hb dX12_takes_0 rfl (lv_at hl 0 rfl) ?_
  refine va_get (D := (dC, dI)) (ci := 12) (v := .int tk_) (C := RX12) (T := TX12) (N := 24) hx hb hts iw_m_takes_X12 hown hK hP 0 rfl rfl 20 (by decide) (hts (.fieldLink RX12 270 "ThriceCountedModel" "token" "I") (by decide +kernel)) (fun _ h9 => h9) rfl dX12_takes_1 ?_
  refine lv_iconst (v := 2) hx hb dX12_takes_4 (by decide) ?_
  refine lv_icmp_ne (tgt := 23) hx hb dX12_takes_5 (by decide) (fun c_1 => ?_) (fun c_1 => ?_)
  · refine lv_iconst (v := 0) hx hb dX12_takes_23 (by decide) ?_
    have hP9 := hP.sub (ws' := [(mo, .inr (12, [.ref nw, .ref kp, .ref ik, .ref mr, .long la_, .long lb_, .ref mw, .long lc_, .int ti_, .int cb_, .long ld_, .long le_, .ref mq, .ref mz, .ref my, .int sm_, .ref mb, .int (nI jb), .int (nI ja), .int (nI jl), .int tk_, .int vl_, .ref mx, .ref mv])), (mb, .inl (cb2_, 150, .inl fy_)), (mv, .inl (cv_, 4, .inl fv_))]) [0, 1, 2] rfl
    have hD9 := hD.sub (ws' := [(mo, .inr (12, [.ref nw, .ref kp, .ref ik, .ref mr, .long la_, .long lb_, .ref mw, .long lc_, .int ti_, .int cb_, .long ld_, .long le_, .ref mq, .ref mz, .ref my, .int sm_, .ref mb, .int (nI jb), .int (nI ja), .int (nI jl), .int tk_, .int vl_, .ref mx, .ref mv])), (mb, .inl (cb2_, 150, .inl fy_)), (mv, .inl (cv_, 4, .inl fv_))]) [0, 1, 2] (by decide) rfl
    have hK9 := hK.sub (tys' := [(cb2_, .int), (cv_, .int)]) [0, 1] rfl
    exact W.zret (v := 0) hx hb hr (by decide) (fun t ht hW => ⟨⟨0, (), rfl, (if_neg (fun z => c_1 z.1)).symm, tk_, vl_, fv_, ja, jl, by omega, by omega, h3, fun z => absurd z.1 c_1, by rw [ht]; exact hP9, va_K.moved hW.alike hK9, hD9⟩, hS.F ht⟩) hS.2.2 dX12_takes_24
  · refine lv_aload_n hx hb dX12_takes_8 rfl (lv_at hl 0 rfl) ?_
    refine va_get (D := (dC, dI)) (ci := 12) (v := .int vl_) (C := RX12) (T := TX12) (N := 24) hx hb hts iw_m_takes_X12 hown hK hP 0 rfl rfl 21 (by decide) (hts (.fieldLink RX12 273 "ThriceCountedModel" "value" "I") (by decide +kernel)) (fun _ h9 => h9) rfl dX12_takes_9 ?_
    refine lv_i2l (v := vl_.toInt64) hx hb dX12_takes_12 rfl ?_
    refine lv_iload_n hx hb dX12_takes_13 rfl (lv_at hl 2 rfl) ?_
    refine lv_i2l (v := nb.toInt64) hx hb dX12_takes_14 rfl ?_
    refine lv_iload_n hx hb dX12_takes_15 rfl (lv_at hl 3 rfl) ?_
    refine lv_i2l (v := nc.toInt64) hx hb dX12_takes_16 rfl ?_
    refine vp_callSi (va_Run.run (va_runS (As := [.long vl_.toInt64, .long nb.toInt64, .long nc.toInt64]) (rest := []) ⟨hx, hb, hml, hown, hts⟩ (m_in l dC dI vl_.toInt64 nb.toInt64 nc.toInt64) (va_cwS 3 hts gX12_takes_X12_in rfl rfl rfl (by decide +kernel) ⟨Nat.le_of_ble_eq_true rfl, Nat.le_of_ble_eq_true rfl⟩) ⟨fun a U g mk q => ⟨q.1, trivial⟩, fun U hU hW => ⟨rfl, trivial⟩⟩ rfl rfl hl.1 rfl (lv_room (Nat.le_of_ble_eq_true rfl)) dX12_takes_17 ⟨Nat.le_of_ble_eq_true rfl, Nat.le_of_ble_eq_true rfl⟩)) (fun r_2 hw_3 => ?_)
    by_cases hc_4 : nb ≤ vl_ ∧ vl_ ≤ nc
    · obtain rfl : 1 = r_2 := (hw_3.trans (if_pos ((tz_in64 (by first | rfl | decide) rfl (by first | rfl | decide)).mpr hc_4))).symm
      refine lv_if_ne (tgt := 25) hx hb dX12_takes_20 (by decide) (fun c_5 => ?_) (fun c_5 => ?_)
      · refine lv_aload_n hx hb dX12_takes_25 rfl (lv_at hl 0 rfl) ?_
        refine va_get (D := (dC, dI)) (ci := 12) (v := .ref mv) (C := RX12) (T := TX12) (N := 24) hx hb hts iw_m_takes_X12 hown hK hP 0 rfl rfl 23 (by decide) (hts (.fieldLink RX12 46 "ThriceCountedModel" "values" "[I") (by decide +kernel)) (fun _ h9 => h9) rfl dX12_takes_26 ?_
        refine lv_iload_n hx hb dX12_takes_29 rfl (lv_at hl 1 rfl) ?_
        refine lv_aload_n hx hb dX12_takes_30 rfl (lv_at hl 0 rfl) ?_
        refine va_get (D := (dC, dI)) (ci := 12) (v := .int vl_) (C := RX12) (T := TX12) (N := 24) hx hb hts iw_m_takes_X12 hown hK hP 0 rfl rfl 21 (by decide) (hts (.fieldLink RX12 273 "ThriceCountedModel" "value" "I") (by decide +kernel)) (fun _ h9 => h9) rfl dX12_takes_31 ?_
        refine va_iast hx hb hK hP hD hS 2 1 rfl rfl (vp_in_nI (n := jk) (N := 4) (by omega) (by decide)) dX12_takes_34 (fun H locs hP hD hS => ?_)
        have hk_7 : (upd fv_ (Int32.toNatClampNeg (nI jk)) vl_) = upd fv_ jk vl_ := by rw [nI_clamp (by omega)]
        generalize (upd fv_ (Int32.toNatClampNeg (nI jk)) vl_) = f_6 at hP hD hk_7
        have hP : va_P (dC, dI) vwCl [(mo, .inr (12, [.ref nw, .ref kp, .ref ik, .ref mr, .long la_, .long lb_, .ref mw, .long lc_, .int ti_, .int cb_, .long ld_, .long le_, .ref mq, .ref mz, .ref my, .int sm_, .ref mb, .int (nI jb), .int (nI ja), .int (nI jl), .int tk_, .int vl_, .ref mx, .ref mv])), (mb, .inl (cb2_, 150, .inl fy_)), (mv, .inl (cv_, 4, .inl f_6))] H := hP
        have hD : va_D A [(mo, .inr (12, [.ref nw, .ref kp, .ref ik, .ref mr, .long la_, .long lb_, .ref mw, .long lc_, .int ti_, .int cb_, .long ld_, .long le_, .ref mq, .ref mz, .ref my, .int sm_, .ref mb, .int (nI jb), .int (nI ja), .int (nI jl), .int tk_, .int vl_, .ref mx, .ref mv])), (mb, .inl (cb2_, 150, .inl fy_)), (mv, .inl (cv_, 4, .inl f_6))] := hD
        refine lv_aload_n hx hb dX12_takes_35 rfl (lv_at hl 0 rfl) ?_
        have hPc := hP.sub (ws' := [(mo, .inr (12, [.ref nw, .ref kp, .ref ik, .ref mr, .long la_, .long lb_, .ref mw, .long lc_, .int ti_, .int cb_, .long ld_, .long le_, .ref mq, .ref mz, .ref my, .int sm_, .ref mb, .int (nI jb), .int (nI ja), .int (nI jl), .int tk_, .int vl_, .ref mx, .ref mv])), (mb, .inl (cb2_, 150, .inl fy_))]) [0, 1] rfl
        have hDc := hD.sub (ws' := [(mo, .inr (12, [.ref nw, .ref kp, .ref ik, .ref mr, .long la_, .long lb_, .ref mw, .long lc_, .int ti_, .int cb_, .long ld_, .long le_, .ref mq, .ref mz, .ref my, .int sm_, .ref mb, .int (nI jb), .int (nI ja), .int (nI jl), .int tk_, .int vl_, .ref mx, .ref mv])), (mb, .inl (cb2_, 150, .inl fy_))]) [0, 1] (by decide) rfl
        have hKc := hK.sub (tys' := [(cb2_, .int)]) [0] rfl
        have hFc := va_free (wc := [(mo, .inr (12, [.ref nw, .ref kp, .ref ik, .ref mr, .long la_, .long lb_, .ref mw, .long lc_, .int ti_, .int cb_, .long ld_, .long le_, .ref mq, .ref mz, .ref my, .int sm_, .ref mb, .int (nI jb), .int (nI ja), .int (nI jl), .int tk_, .int vl_, .ref mx, .ref mv])), (mb, .inl (cb2_, 150, .inl fy_))]) hD hS hA [0, 1] rfl
        refine va_callv (va_runV (As := []) (rest := []) ⟨hx, hb, hml, hown, hts⟩ (m_goOn l dC dI mo nw kp ik mr la_ lb_ mw lc_ ti_ cb_ ld_ le_ mq mz my sm_ mb jb ja jl tk_ vl_ mx mv cb2_ fy_ H.size hjb hjl) (cwV 0 hts gX12_takes_X12_goOn rfl rfl rfl (by decide +kernel) ⟨Nat.le_of_ble_eq_true rfl, Nat.le_of_ble_eq_true rfl⟩) ⟨fun a U g mk q => by obtain ⟨q0, q1, qP, qK, qD⟩ := q; exact ⟨q0, q1, qP, va_K.moved (u := U) (U := U.calling g mk a) (Vm.Alike.refl U.vm) qK, qD⟩, va_recv hK hP (ci := 12) (q0 := 0) rfl rfl, fun U hU hW => ⟨rfl, by rw [hU], by rw [hU]; exact hPc, va_K.moved hW.alike hKc, hDc.weaken (fun _ _ _ _ => trivial)⟩⟩ rfl rfl hl.1 rfl (lv_room (Nat.le_of_ble_eq_true rfl)) dX12_takes_36 ⟨Nat.le_of_ble_eq_true rfl, Nat.le_of_ble_eq_true rfl⟩) hS (fun q _ h => hFc q h) hFc (fun u_ t H1 locs ht hvm hw_9 hB hz1 hk1 hS => ?_)
        obtain ⟨h_token_10, h_value_11, ga_12, gl_13, hf_14, hf_15, hf_16, hP1, hK1, hD1⟩ := hB
        rw [ht] at hP1
        have hK1 := va_K.moved hvm.symm hK1
        obtain ⟨hP, hD⟩ := va_join (wr := [(mv, .inl (cv_, 4, .inl f_6))]) (w1 := [(mo, .inr (12, [.ref nw, .ref kp, .ref ik, .ref mr, .long la_, .long lb_, .ref mw, .long lc_, .int ti_, .int cb_, .long ld_, .long le_, .ref mq, .ref mz, .ref my, .int sm_, .ref mb, .int (nI jb), .int (nI ga_12), .int (nI gl_13), .int h_token_10, .int h_value_11, .ref mx, .ref mv])), (mb, .inl (cb2_, 150, .inl fy_))]) hP hD [0, 1] [2] rfl rfl (by decide) (by decide) hk1 hFc hP1 hD1
        generalize H1 = H at hP hS ⊢
        have hP : va_P (dC, dI) vwCl [(mv, .inl (cv_, 4, .inl f_6)), (mo, .inr (12, [.ref nw, .ref kp, .ref ik, .ref mr, .long la_, .long lb_, .ref mw, .long lc_, .int ti_, .int cb_, .long ld_, .long le_, .ref mq, .ref mz, .ref my, .int sm_, .ref mb, .int (nI jb), .int (nI ga_12), .int (nI gl_13), .int h_token_10, .int h_value_11, .ref mx, .ref mv])), (mb, .inl (cb2_, 150, .inl fy_))] H := hP
        have hD : va_D A [(mv, .inl (cv_, 4, .inl f_6)), (mo, .inr (12, [.ref nw, .ref kp, .ref ik, .ref mr, .long la_, .long lb_, .ref mw, .long lc_, .int ti_, .int cb_, .long ld_, .long le_, .ref mq, .ref mz, .ref my, .int sm_, .ref mb, .int (nI jb), .int (nI ga_12), .int (nI gl_13), .int h_token_10, .int h_value_11, .ref mx, .ref mv])), (mb, .inl (cb2_, 150, .inl fy_))] := hD
        refine lv_iconst (v := 1) hx hb dX12_takes_39 (by decide) ?_
        have hP9 := hP.sub (ws' := [(mo, .inr (12, [.ref nw, .ref kp, .ref ik, .ref mr, .long la_, .long lb_, .ref mw, .long lc_, .int ti_, .int cb_, .long ld_, .long le_, .ref mq, .ref mz, .ref my, .int sm_, .ref mb, .int (nI jb), .int (nI ga_12), .int (nI gl_13), .int h_token_10, .int h_value_11, .ref mx, .ref mv])), (mb, .inl (cb2_, 150, .inl fy_)), (mv, .inl (cv_, 4, .inl f_6))]) [1, 2, 0] rfl
        have hD9 := hD.sub (ws' := [(mo, .inr (12, [.ref nw, .ref kp, .ref ik, .ref mr, .long la_, .long lb_, .ref mw, .long lc_, .int ti_, .int cb_, .long ld_, .long le_, .ref mq, .ref mz, .ref my, .int sm_, .ref mb, .int (nI jb), .int (nI ga_12), .int (nI gl_13), .int h_token_10, .int h_value_11, .ref mx, .ref mv])), (mb, .inl (cb2_, 150, .inl fy_)), (mv, .inl (cv_, 4, .inl f_6))]) [1, 2, 0] (by decide) rfl
        have hK9 := hK.sub (tys' := [(cb2_, .int), (cv_, .int)]) [0, 1] rfl
        exact W.zret (v := 1) hx hb hr (by decide) (fun t ht hW => ⟨⟨1, (), rfl, (if_pos ⟨c_1, hc_4⟩).symm, h_token_10, h_value_11, f_6, ga_12, gl_13, by omega, by omega, hf_16, fun _ => hk_7, by rw [ht]; exact hP9, va_K.moved hW.alike hK9, hD9⟩, hS.F ht⟩) hS.2.2 dX12_takes_40
      · exact absurd c_5 (by decide)
    · obtain rfl : 0 = r_2 := (hw_3.trans (if_neg (fun z => hc_4 ((tz_in64 (by first | rfl | decide) rfl (by first | rfl | decide)).mp z)))).symm
      refine lv_if_ne (tgt := 25) hx hb dX12_takes_20 (by decide) (fun c_17 => ?_) (fun c_17 => ?_)
      · exact absurd c_17 (by decide)
      · refine lv_iconst (v := 0) hx hb dX12_takes_23 (by decide) ?_
        have hP9 := hP.sub (ws' := [(mo, .inr (12, [.ref nw, .ref kp, .ref ik, .ref mr, .long la_, .long lb_, .ref mw, .long lc_, .int ti_, .int cb_, .long ld_, .long le_, .ref mq, .ref mz, .ref my, .int sm_, .ref mb, .int (nI jb), .int (nI ja), .int (nI jl), .int tk_, .int vl_, .ref mx, .ref mv])), (mb, .inl (cb2_, 150, .inl fy_)), (mv, .inl (cv_, 4, .inl fv_))]) [0, 1, 2] rfl
        have hD9 := hD.sub (ws' := [(mo, .inr (12, [.ref nw, .ref kp, .ref ik, .ref mr, .long la_, .long lb_, .ref mw, .long lc_, .int ti_, .int cb_, .long ld_, .long le_, .ref mq, .ref mz, .ref my, .int sm_, .ref mb, .int (nI jb), .int (nI ja), .int (nI jl), .int tk_, .int vl_, .ref mx, .ref mv])), (mb, .inl (cb2_, 150, .inl fy_)), (mv, .inl (cv_, 4, .inl fv_))]) [0, 1, 2] (by decide) rfl
        have hK9 := hK.sub (tys' := [(cb2_, .int), (cv_, .int)]) [0, 1] rfl
        exact W.zret (v := 0) hx hb hr (by decide) (fun t ht hW => ⟨⟨0, (), rfl, (if_neg (fun z => hc_4 z.2)).symm, tk_, vl_, fv_, ja, jl, by omega, by omega, h3, fun z => absurd z.2 hc_4, by rw [ht]; exact hP9, va_K.moved hW.alike hK9, hD9⟩, hS.F ht⟩) hS.2.2 dX12_takes_24
set_option maxRecDepth 20000 in
theorem ggX12_readsClerk_X12_goOn : GoodIn wsX12_readsClerk wsX12_goOn := goodIn_r _ [7, 8, 9, 10, 11, 12, 6, 13, 14, 15, 16, 17, 18, 19, 20, 21, 22, 23, 24, 25, 26, 27, 28, 29, 30, 38, 39, 40, 41, 42, 43, 44, 45, 46, 47, 48, 49, 50, 51, 52, 53, 54, 55, 56, 57, 58, 59, 60, 61] (by decide +kernel) (by decide +kernel)
set_option maxRecDepth 20000 in
theorem gX12_readsClerk_X12_goOn : GoodIn wsX12_readsClerk (wsV RX12 285 RX12 yX12_goOn wsX12_goOn) := goodIn_app (goodIn_of _ (by decide +kernel)) ggX12_readsClerk_X12_goOn
set_option maxRecDepth 20000 in
theorem ggX12_readsClerk_X12_takes : GoodIn wsX12_readsClerk wsX12_takes := goodIn_r _ [34, 16, 17, 2, 23, 24, 6, 25, 3, 4, 5, 7, 8, 9, 10, 11, 12, 13, 14, 15, 18, 19, 20, 21, 22, 26, 27, 28, 29, 30, 38, 39, 40, 41, 42, 43, 44, 45, 46, 47, 48, 49, 50, 51, 52, 53, 54, 55, 56, 57, 58, 59, 60, 61] (by decide +kernel) (by decide +kernel)
set_option maxRecDepth 20000 in
theorem gX12_readsClerk_X12_takes : GoodIn wsX12_readsClerk (wsV RX12 292 RX12 yX12_takes wsX12_takes) := goodIn_app (goodIn_of _ (by decide +kernel)) ggX12_readsClerk_X12_takes
set_option maxRecDepth 20000 in
theorem ggX12_readsClerk_X12_layClerk : GoodIn wsX12_readsClerk wsX12_layClerk := goodIn_r _ [37] (by decide +kernel) (by decide +kernel)
set_option maxRecDepth 20000 in
theorem gX12_readsClerk_X12_layClerk : GoodIn wsX12_readsClerk (va_wsS RX12 69 yX12_layClerk wsX12_layClerk) := goodIn_app (goodIn_of _ (by decide +kernel)) ggX12_readsClerk_X12_layClerk
theorem dX12_readsClerk_0 : decode cX12_readsClerk 0 = .ok (.aload_n 0, 1) := by decide +kernel
theorem dX12_readsClerk_1 : decode cX12_readsClerk 1 = .ok (.getfield 43, 3) := by decide +kernel
theorem dX12_readsClerk_4 : decode cX12_readsClerk 4 = .ok (.iconst 0, 1) := by decide +kernel
theorem dX12_readsClerk_5 : decode cX12_readsClerk 5 = .ok (.iaload, 1) := by decide +kernel
theorem dX12_readsClerk_6 : decode cX12_readsClerk 6 = .ok (.iconst 5, 1) := by decide +kernel
theorem dX12_readsClerk_7 : decode cX12_readsClerk 7 = .ok (.if_icmp .ne 5, 3) := by decide +kernel
theorem dX12_readsClerk_12 : decode cX12_readsClerk 12 = .ok (.aload_n 0, 1) := by decide +kernel
theorem dX12_readsClerk_13 : decode cX12_readsClerk 13 = .ok (.invokevirtual 285, 3) := by decide +kernel
theorem dX12_readsClerk_16 : decode cX12_readsClerk 16 = .ok (.aload_n 0, 1) := by decide +kernel
theorem dX12_readsClerk_17 : decode cX12_readsClerk 17 = .ok (.iconst 0, 1) := by decide +kernel
theorem dX12_readsClerk_18 : decode cX12_readsClerk 18 = .ok (.iconst 0, 1) := by decide +kernel
theorem dX12_readsClerk_19 : decode cX12_readsClerk 19 = .ok (.bipush 10, 2) := by decide +kernel
theorem dX12_readsClerk_21 : decode cX12_readsClerk 21 = .ok (.invokevirtual 292, 3) := by decide +kernel
theorem dX12_readsClerk_24 : decode cX12_readsClerk 24 = .ok (.ifCond .ne 5, 3) := by decide +kernel
theorem dX12_readsClerk_29 : decode cX12_readsClerk 29 = .ok (.aload_n 0, 1) := by decide +kernel
theorem dX12_readsClerk_30 : decode cX12_readsClerk 30 = .ok (.getfield 43, 3) := by decide +kernel
theorem dX12_readsClerk_33 : decode cX12_readsClerk 33 = .ok (.aload_n 0, 1) := by decide +kernel
theorem dX12_readsClerk_34 : decode cX12_readsClerk 34 = .ok (.getfield 46, 3) := by decide +kernel
theorem dX12_readsClerk_37 : decode cX12_readsClerk 37 = .ok (.iconst 0, 1) := by decide +kernel
theorem dX12_readsClerk_38 : decode cX12_readsClerk 38 = .ok (.iaload, 1) := by decide +kernel
theorem dX12_readsClerk_39 : decode cX12_readsClerk 39 = .ok (.invokestatic 69, 3) := by decide +kernel
theorem dX12_readsClerk_42 : decode cX12_readsClerk 42 = .ok (.iconst 1, 1) := by decide +kernel
theorem dX12_readsClerk_43 : decode cX12_readsClerk 43 = .ok (.ireturn, 1) := by decide +kernel
theorem dX12_readsClerk_27 : decode cX12_readsClerk 27 = .ok (.iconst 0, 1) := by decide +kernel
theorem dX12_readsClerk_28 : decode cX12_readsClerk 28 = .ok (.ireturn, 1) := by decide +kernel
theorem dX12_readsClerk_10 : decode cX12_readsClerk 10 = .ok (.iconst 0, 1) := by decide +kernel
theorem dX12_readsClerk_11 : decode cX12_readsClerk 11 = .ok (.ireturn, 1) := by decide +kernel
set_option maxRecDepth 20000 in
theorem iw_m_readsClerk_X12 : ∀ w ∈ wsX120, w ∈ wsX12_readsClerk := by decide +kernel
set_option maxHeartbeats 4000000 in
set_option maxRecDepth 100000 in
theorem m_readsClerk (l : Launch) (dC : Nat → ClassId) (dI : Nat → Nat → Nat) (mo : Nat) (nw : Nat) (kp : Nat) (ik : Nat) (mr : Nat) (la_ : Int64) (lb_ : Int64) (mw : Nat) (lc_ : Int64) (ti_ : Int32) (cb_ : Int32) (ld_ : Int64) (le_ : Int64) (mq : Nat) (mz : Nat) (my : Nat) (sm_ : Int32) (mb : Nat) (jb : Nat) (ja : Nat) (jl : Nat) (tk_ : Int32) (vl_ : Int32) (mx : Nat) (mv : Nat) (cb2_ : ClassId) (fy_ : Nat → Int32) (cv_ : ClassId) (fv_ : Nat → Int32) (cx_ : ClassId) (fx_ : Nat → Int32) (sz : Nat) (hOx : tz_OK 86 fx_) (hjb : jb ≤ 150) (hjl : ja + jl ≤ jb) (h3 : tk_ = 3 → 1 ≤ jl) : Met l yX12_readsClerk wsX12_readsClerk ({ frames := 5, cells := 0, slots := 0, locals := 112 }) (va_Pc [.ref mo] (fun U => U.heap.size = sz ∧ va_P (dC, dI) vwCl [(mo, .inr (12, [.ref nw, .ref kp, .ref ik, .ref mr, .long la_, .long lb_, .ref mw, .long lc_, .int ti_, .int cb_, .long ld_, .long le_, .ref mq, .ref mz, .ref my, .int sm_, .ref mb, .int (nI jb), .int (nI ja), .int (nI jl), .int tk_, .int vl_, .ref mx, .ref mv])), (mb, .inl (cb2_, 150, .inl fy_)), (mv, .inl (cv_, 4, .inl fv_)), (mx, .inl (cx_, 86, .inl fx_))] U.heap ∧ va_K (dC, dI) vwCl [(cb2_, .int), (cv_, .int), (cx_, .int)] U ∧ va_D (fun _ => True) [(mo, .inr (12, [.ref nw, .ref kp, .ref ik, .ref mr, .long la_, .long lb_, .ref mw, .long lc_, .int ti_, .int cb_, .long ld_, .long le_, .ref mq, .ref mz, .ref my, .int sm_, .ref mb, .int (nI jb), .int (nI ja), .int (nI jl), .int tk_, .int vl_, .ref mx, .ref mv])), (mb, .inl (cb2_, 150, .inl fy_)), (mv, .inl (cv_, 4, .inl fv_)), (mx, .inl (cx_, 86, .inl fx_))])) (va_Qi (fun (r : Int32) (_ : Unit) => r = 0 ∨ r = 1) (fun _ t => ∃ (h_token : Int32) (h_value : Int32) (gv_ : Nat → Int32) (gx_ : Nat → Int32) (ga : Nat) (gl : Nat), (tz_OK 86 gx_) ∧ (ja ≤ ga) ∧ (ga + gl ≤ jb) ∧ (h_token = 3 → 1 ≤ gl) ∧ va_P (dC, dI) vwCl [(mo, .inr (12, [.ref nw, .ref kp, .ref ik, .ref mr, .long la_, .long lb_, .ref mw, .long lc_, .int ti_, .int cb_, .long ld_, .long le_, .ref mq, .ref mz, .ref my, .int sm_, .ref mb, .int (nI jb), .int (nI ga), .int (nI gl), .int h_token, .int h_value, .ref mx, .ref mv])), (mb, .inl (cb2_, 150, .inl fy_)), (mv, .inl (cv_, 4, .inl gv_)), (mx, .inl (cx_, 86, .inl gx_))] t.heap ∧ va_K (dC, dI) vwCl [(cb2_, .int), (cv_, .int), (cx_, .int)] t ∧ va_D (va_A [(mo, .inr (12, [.ref nw, .ref kp, .ref ik, .ref mr, .long la_, .long lb_, .ref mw, .long lc_, .int ti_, .int cb_, .long ld_, .long le_, .ref mq, .ref mz, .ref my, .int sm_, .ref mb, .int (nI jb), .int (nI ja), .int (nI jl), .int tk_, .int vl_, .ref mx, .ref mv])), (mb, .inl (cb2_, 150, .inl fy_)), (mv, .inl (cv_, 4, .inl fv_)), (mx, .inl (cx_, 86, .inl fx_))] sz) [(mo, .inr (12, [.ref nw, .ref kp, .ref ik, .ref mr, .long la_, .long lb_, .ref mw, .long lc_, .int ti_, .int cb_, .long ld_, .long le_, .ref mq, .ref mz, .ref my, .int sm_, .ref mb, .int (nI jb), .int (nI ga), .int (nI gl), .int h_token, .int h_value, .ref mx, .ref mv])), (mb, .inl (cb2_, 150, .inl fy_)), (mv, .inl (cv_, 4, .inl gv_)), (mx, .inl (cx_, 86, .inl gx_))]) (va_A [(mo, .inr (12, [.ref nw, .ref kp, .ref ik, .ref mr, .long la_, .long lb_, .ref mw, .long lc_, .int ti_, .int cb_, .long ld_, .long le_, .ref mq, .ref mz, .ref my, .int sm_, .ref mb, .int (nI jb), .int (nI ja), .int (nI jl), .int tk_, .int vl_, .ref mx, .ref mv])), (mb, .inl (cb2_, 150, .inl fy_)), (mv, .inl (cv_, 4, .inl fv_)), (mx, .inl (cx_, 86, .inl fx_))] sz)) 0 0 (va_A [(mo, .inr (12, [.ref nw, .ref kp, .ref ik, .ref mr, .long la_, .long lb_, .ref mw, .long lc_, .int ti_, .int cb_, .long ld_, .long le_, .ref mq, .ref mz, .ref my, .int sm_, .ref mb, .int (nI jb), .int (nI ja), .int (nI jl), .int tk_, .int vl_, .ref mx, .ref mv])), (mb, .inl (cb2_, 150, .inl fy_)), (mv, .inl (cv_, 4, .inl fv_)), (mx, .inl (cx_, 86, .inl fx_))] sz) := by
  refine Met.ofW (cc := cX12_readsClerk) (maxL := 1) (ret := (some .boolean)) (by decide) rfl ?_
  intro p e s m args below meth c s₁ B hml hv
  obtain ⟨rfl, hsz, hP, hK, hD0⟩ := hv
  have hx := B.exec
  have hb := B.bytes
  have hr := B.returns
  have hts := atoms_spec (ws := wsX12_readsClerk) B.pre
  have hown : s.vm.findClass RX12 = some m.cls := findClass_of_methodNamed B.named
  have hlocks := B.notSynchronized
  subst hsz
  have hD := hD0.self (sz := s.heap.size)
  generalize hAe : va_A [(mo, .inr (12, [.ref nw, .ref kp, .ref ik, .ref mr, .long la_, .long lb_, .ref mw, .long lc_, .int ti_, .int cb_, .long ld_, .long le_, .ref mq, .ref mz, .ref my, .int sm_, .ref mb, .int (nI jb), .int (nI ja), .int (nI jl), .int tk_, .int vl_, .ref mx, .ref mv])), (mb, .inl (cb2_, 150, .inl fy_)), (mv, .inl (cv_, 4, .inl fv_)), (mx, .inl (cx_, 86, .inl fx_))] s.heap.size = A at hD ⊢
  have hA : ∀ q : Nat, s.heap.size ≤ q → A q := fun q h => by rw [← hAe]; exact Or.inr h
  have hS : va_S A s.heap s.heap [] := va_S.rf
  have hP : va_P (dC, dI) vwCl [(mo, .inr (12, [.ref nw, .ref kp, .ref ik, .ref mr, .long la_, .long lb_, .ref mw, .long lc_, .int ti_, .int cb_, .long ld_, .long le_, .ref mq, .ref mz, .ref my, .int sm_, .ref mb, .int (nI jb), .int (nI ja), .int (nI jl), .int tk_, .int vl_, .ref mx, .ref mv])), (mb, .inl (cb2_, 150, .inl fy_)), (mv, .inl (cv_, 4, .inl fv_)), (mx, .inl (cx_, 86, .inl fx_))] s.heap := hP
  have hl := lv_entry ([.ref mo]) (n := 1) (Nat.le_of_ble_eq_true rfl)
  rw [lg_entry_eq]
  generalize (lg_sl ([.ref mo]) ++ List.replicate (1 - (lg_sl ([.ref mo])).length) Slot.unset).toArray = ls at hl ⊢
  have hl : lv_has ls 1 [(0, .ref mo)] := hl
  refine lv_aload_n hx hb dX12_readsClerk_0 rfl (lv_at hl 0 rfl) ?_
  refine va_get (D := (dC, dI)) (ci := 12) (v := .ref mx) (C := RX12) (T := TX12) (N := 24) hx hb hts iw_m_readsClerk_X12 hown hK hP 0 rfl rfl 22 (by decide) (hts (.fieldLink RX12 43 "ThriceCountedModel" "next" "[I") (by decide +kernel)) (fun _ h9 => h9) rfl dX12_readsClerk_1 ?_
  refine lv_iconst (v := 0) hx hb dX12_readsClerk_4 (by decide) ?_
  refine va_iald hx hb hK hP 3 2 rfl rfl (show ¬ ((0 : Int32) < 0 ∨ 86 ≤ (0 : Int32).toNatClampNeg) by decide) dX12_readsClerk_5 ?_
  obtain ⟨j_1, hj_2, ej_3⟩ := hOx.nat (K := 0) (n := 5) (by omega) (show tz_b 0 = (0, 5) from by decide)
  refine tz_i (nI j_1) ej_3 ?_
  refine lv_iconst (v := 5) hx hb dX12_readsClerk_6 (by decide) ?_
  refine lv_icmp_ne (tgt := 12) hx hb dX12_readsClerk_7 (by decide) (fun c_4 => ?_) (fun c_4 => ?_)
  · have hn_5 : ¬ j_1 = 5 := fun q => c_4 ((nI_eq (a := j_1) (b := 5) (by omega) (by omega)).mpr q)
    refine lv_aload_n hx hb dX12_readsClerk_12 rfl (lv_at hl 0 rfl) ?_
    have hPc := hP.sub (ws' := [(mo, .inr (12, [.ref nw, .ref kp, .ref ik, .ref mr, .long la_, .long lb_, .ref mw, .long lc_, .int ti_, .int cb_, .long ld_, .long le_, .ref mq, .ref mz, .ref my, .int sm_, .ref mb, .int (nI jb), .int (nI ja), .int (nI jl), .int tk_, .int vl_, .ref mx, .ref mv])), (mb, .inl (cb2_, 150, .inl fy_))]) [0, 1] rfl
    have hDc := hD.sub (ws' := [(mo, .inr (12, [.ref nw, .ref kp, .ref ik, .ref mr, .long la_, .long lb_, .ref mw, .long lc_, .int ti_, .int cb_, .long ld_, .long le_, .ref mq, .ref mz, .ref my, .int sm_, .ref mb, .int (nI jb), .int (nI ja), .int (nI jl), .int tk_, .int vl_, .ref mx, .ref mv])), (mb, .inl (cb2_, 150, .inl fy_))]) [0, 1] (by decide) rfl
    have hKc := hK.sub (tys' := [(cb2_, .int)]) [0] rfl
    have hFc := va_free (wc := [(mo, .inr (12, [.ref nw, .ref kp, .ref ik, .ref mr, .long la_, .long lb_, .ref mw, .long lc_, .int ti_, .int cb_, .long ld_, .long le_, .ref mq, .ref mz, .ref my, .int sm_, .ref mb, .int (nI jb), .int (nI ja), .int (nI jl), .int tk_, .int vl_, .ref mx, .ref mv])), (mb, .inl (cb2_, 150, .inl fy_))]) hD hS hA [0, 1] rfl
    refine va_callv (va_runV (As := []) (rest := []) ⟨hx, hb, hml, hown, hts⟩ (m_goOn l dC dI mo nw kp ik mr la_ lb_ mw lc_ ti_ cb_ ld_ le_ mq mz my sm_ mb jb ja jl tk_ vl_ mx mv cb2_ fy_ s.heap.size hjb hjl) (cwV 0 hts gX12_readsClerk_X12_goOn rfl rfl rfl (by decide +kernel) ⟨Nat.le_of_ble_eq_true rfl, Nat.le_of_ble_eq_true rfl⟩) ⟨fun a U g mk q => by obtain ⟨q0, q1, qP, qK, qD⟩ := q; exact ⟨q0, q1, qP, va_K.moved (u := U) (U := U.calling g mk a) (Vm.Alike.refl U.vm) qK, qD⟩, va_recv hK hP (ci := 12) (q0 := 0) rfl rfl, fun U hU hW => ⟨rfl, by rw [hU], by rw [hU]; exact hPc, va_K.moved hW.alike hKc, hDc.weaken (fun _ _ _ _ => trivial)⟩⟩ rfl rfl hl.1 rfl (lv_room (Nat.le_of_ble_eq_true rfl)) dX12_readsClerk_13 ⟨Nat.le_of_ble_eq_true rfl, Nat.le_of_ble_eq_true rfl⟩) hS (fun q _ h => hFc q h) hFc (fun u_ t H1 locs ht hvm hw_7 hB hz1 hk1 hS => ?_)
    obtain ⟨h_token_8, h_value_9, ga_10, gl_11, hf_12, hf_13, hf_14, hP1, hK1, hD1⟩ := hB
    rw [ht] at hP1
    have hK1 := va_K.moved hvm.symm hK1
    obtain ⟨hP, hD⟩ := va_join (wr := [(mv, .inl (cv_, 4, .inl fv_)), (mx, .inl (cx_, 86, .inl fx_))]) (w1 := [(mo, .inr (12, [.ref nw, .ref kp, .ref ik, .ref mr, .long la_, .long lb_, .ref mw, .long lc_, .int ti_, .int cb_, .long ld_, .long le_, .ref mq, .ref mz, .ref my, .int sm_, .ref mb, .int (nI jb), .int (nI ga_10), .int (nI gl_11), .int h_token_8, .int h_value_9, .ref mx, .ref mv])), (mb, .inl (cb2_, 150, .inl fy_))]) hP hD [0, 1] [2, 3] rfl rfl (by decide) (by decide) hk1 hFc hP1 hD1
    generalize H1 = H at hP hS ⊢
    have hP : va_P (dC, dI) vwCl [(mv, .inl (cv_, 4, .inl fv_)), (mx, .inl (cx_, 86, .inl fx_)), (mo, .inr (12, [.ref nw, .ref kp, .ref ik, .ref mr, .long la_, .long lb_, .ref mw, .long lc_, .int ti_, .int cb_, .long ld_, .long le_, .ref mq, .ref mz, .ref my, .int sm_, .ref mb, .int (nI jb), .int (nI ga_10), .int (nI gl_11), .int h_token_8, .int h_value_9, .ref mx, .ref mv])), (mb, .inl (cb2_, 150, .inl fy_))] H := hP
    have hD : va_D A [(mv, .inl (cv_, 4, .inl fv_)), (mx, .inl (cx_, 86, .inl fx_)), (mo, .inr (12, [.ref nw, .ref kp, .ref ik, .ref mr, .long la_, .long lb_, .ref mw, .long lc_, .int ti_, .int cb_, .long ld_, .long le_, .ref mq, .ref mz, .ref my, .int sm_, .ref mb, .int (nI jb), .int (nI ga_10), .int (nI gl_11), .int h_token_8, .int h_value_9, .ref mx, .ref mv])), (mb, .inl (cb2_, 150, .inl fy_))] := hD
    refine lv_aload_n hx hb dX12_readsClerk_16 rfl (lv_at hl 0 rfl) ?_
    refine lv_iconst (v := 0) hx hb dX12_readsClerk_17 (by decide) ?_
    refine lv_iconst (v := 0) hx hb dX12_readsClerk_18 (by decide) ?_
    refine lv_bipush (v := 10) hx hb dX12_readsClerk_19 (by decide) ?_
    have hPc := hP.sub (ws' := [(mo, .inr (12, [.ref nw, .ref kp, .ref ik, .ref mr, .long la_, .long lb_, .ref mw, .long lc_, .int ti_, .int cb_, .long ld_, .long le_, .ref mq, .ref mz, .ref my, .int sm_, .ref mb, .int (nI jb), .int (nI ga_10), .int (nI gl_11), .int h_token_8, .int h_value_9, .ref mx, .ref mv])), (mb, .inl (cb2_, 150, .inl fy_)), (mv, .inl (cv_, 4, .inl fv_))]) [2, 3, 0] rfl
    have hDc := hD.sub (ws' := [(mo, .inr (12, [.ref nw, .ref kp, .ref ik, .ref mr, .long la_, .long lb_, .ref mw, .long lc_, .int ti_, .int cb_, .long ld_, .long le_, .ref mq, .ref mz, .ref my, .int sm_, .ref mb, .int (nI jb), .int (nI ga_10), .int (nI gl_11), .int h_token_8, .int h_value_9, .ref mx, .ref mv])), (mb, .inl (cb2_, 150, .inl fy_)), (mv, .inl (cv_, 4, .inl fv_))]) [2, 3, 0] (by decide) rfl
    have hKc := hK.sub (tys' := [(cb2_, .int), (cv_, .int)]) [0, 1] rfl
    have hFc := va_free (wc := [(mo, .inr (12, [.ref nw, .ref kp, .ref ik, .ref mr, .long la_, .long lb_, .ref mw, .long lc_, .int ti_, .int cb_, .long ld_, .long le_, .ref mq, .ref mz, .ref my, .int sm_, .ref mb, .int (nI jb), .int (nI ga_10), .int (nI gl_11), .int h_token_8, .int h_value_9, .ref mx, .ref mv])), (mb, .inl (cb2_, 150, .inl fy_)), (mv, .inl (cv_, 4, .inl fv_))]) hD hS hA [2, 3, 0] rfl
    refine va_calli (va_runV (As := [.int 0, .int 0, .int 10]) (rest := []) ⟨hx, hb, hml, hown, hts⟩ (m_takes l dC dI mo nw kp ik mr la_ lb_ mw lc_ ti_ cb_ ld_ le_ mq mz my sm_ mb jb ga_10 gl_11 h_token_8 h_value_9 mx mv cb2_ fy_ cv_ fv_ 0 0 10 H.size hjb hf_13 hf_14 (by omega)) (cwV 3 hts gX12_readsClerk_X12_takes rfl rfl rfl (by decide +kernel) ⟨Nat.le_of_ble_eq_true rfl, Nat.le_of_ble_eq_true rfl⟩) ⟨fun a U g mk q => by obtain ⟨q0, q1, qP, qK, qD⟩ := q; exact ⟨q0, q1, qP, va_K.moved (u := U) (U := U.calling g mk a) (Vm.Alike.refl U.vm) qK, qD⟩, va_recv hK hP (ci := 12) (q0 := 2) rfl rfl, fun U hU hW => ⟨rfl, by rw [hU], by rw [hU]; exact hPc, va_K.moved hW.alike hKc, hDc.weaken (fun _ _ _ _ => trivial)⟩⟩ rfl rfl hl.1 rfl (lv_room (Nat.le_of_ble_eq_true rfl)) dX12_readsClerk_21 ⟨Nat.le_of_ble_eq_true rfl, Nat.le_of_ble_eq_true rfl⟩) hS (fun q _ h => hFc q h) hFc (fun r_15 u_ t H1 locs ht hvm hw_16 hB hz1 hk1 hS => ?_)
    obtain ⟨h_token_17, h_value_18, gv__19, ga_20, gl_21, hf_22, hf_23, hf_24, hf_25, hP1, hK1, hD1⟩ := hB
    rw [ht] at hP1
    have hK1 := va_K.moved hvm.symm hK1
    obtain ⟨hP, hD⟩ := va_join (wr := [(mx, .inl (cx_, 86, .inl fx_))]) (w1 := [(mo, .inr (12, [.ref nw, .ref kp, .ref ik, .ref mr, .long la_, .long lb_, .ref mw, .long lc_, .int ti_, .int cb_, .long ld_, .long le_, .ref mq, .ref mz, .ref my, .int sm_, .ref mb, .int (nI jb), .int (nI ga_20), .int (nI gl_21), .int h_token_17, .int h_value_18, .ref mx, .ref mv])), (mb, .inl (cb2_, 150, .inl fy_)), (mv, .inl (cv_, 4, .inl gv__19))]) hP hD [2, 3, 0] [1] rfl rfl (by decide) (by decide) hk1 hFc hP1 hD1
    generalize H1 = H at hP hS ⊢
    have hP : va_P (dC, dI) vwCl [(mx, .inl (cx_, 86, .inl fx_)), (mo, .inr (12, [.ref nw, .ref kp, .ref ik, .ref mr, .long la_, .long lb_, .ref mw, .long lc_, .int ti_, .int cb_, .long ld_, .long le_, .ref mq, .ref mz, .ref my, .int sm_, .ref mb, .int (nI jb), .int (nI ga_20), .int (nI gl_21), .int h_token_17, .int h_value_18, .ref mx, .ref mv])), (mb, .inl (cb2_, 150, .inl fy_)), (mv, .inl (cv_, 4, .inl gv__19))] H := hP
    have hD : va_D A [(mx, .inl (cx_, 86, .inl fx_)), (mo, .inr (12, [.ref nw, .ref kp, .ref ik, .ref mr, .long la_, .long lb_, .ref mw, .long lc_, .int ti_, .int cb_, .long ld_, .long le_, .ref mq, .ref mz, .ref my, .int sm_, .ref mb, .int (nI jb), .int (nI ga_20), .int (nI gl_21), .int h_token_17, .int h_value_18, .ref mx, .ref mv])), (mb, .inl (cb2_, 150, .inl fy_)), (mv, .inl (cv_, 4, .inl gv__19))] := hD
    by_cases hc_26 : (h_token_8 = 2 ∧ (0 ≤ h_value_9 ∧ h_value_9 ≤ 10))
    · obtain rfl : 1 = r_15 := (hw_16.trans (if_pos hc_26)).symm
      obtain rfl : gv__19 = upd fv_ 0 h_value_9 := hf_25 hc_26
      have hq_28 := hc_26.2
      obtain ⟨j_27, hj_29, hj_30, rfl⟩ := tz_pickL (l := 0) (n := 10) hq_28 (by decide) (by decide)
      refine lv_if_ne (tgt := 29) hx hb dX12_readsClerk_24 (by decide) (fun c_31 => ?_) (fun c_31 => ?_)
      · refine lv_aload_n hx hb dX12_readsClerk_29 rfl (lv_at hl 0 rfl) ?_
        refine va_get (D := (dC, dI)) (ci := 12) (v := .ref mx) (C := RX12) (T := TX12) (N := 24) hx hb hts iw_m_readsClerk_X12 hown hK hP 1 rfl rfl 22 (by decide) (hts (.fieldLink RX12 43 "ThriceCountedModel" "next" "[I") (by decide +kernel)) (fun _ h9 => h9) rfl dX12_readsClerk_30 ?_
        refine lv_aload_n hx hb dX12_readsClerk_33 rfl (lv_at hl 0 rfl) ?_
        refine va_get (D := (dC, dI)) (ci := 12) (v := .ref mv) (C := RX12) (T := TX12) (N := 24) hx hb hts iw_m_readsClerk_X12 hown hK hP 1 rfl rfl 23 (by decide) (hts (.fieldLink RX12 46 "ThriceCountedModel" "values" "[I") (by decide +kernel)) (fun _ h9 => h9) rfl dX12_readsClerk_34 ?_
        refine lv_iconst (v := 0) hx hb dX12_readsClerk_37 (by decide) ?_
        refine va_iald hx hb hK hP 3 1 rfl rfl (show ¬ ((0 : Int32) < 0 ∨ 4 ≤ (0 : Int32).toNatClampNeg) by decide) dX12_readsClerk_38 ?_
        refine tz_i (nI j_27) rfl ?_
        have hPc := hP.sub (ws' := [(mx, .inl (cx_, 86, .inl fx_))]) [0] rfl
        have hDc := hD.sub (ws' := [(mx, .inl (cx_, 86, .inl fx_))]) [0] (by decide) rfl
        have hKc := hK.sub (tys' := [(cx_, .int)]) [2] rfl
        have hFc := va_free (wc := [(mx, .inl (cx_, 86, .inl fx_))]) hD hS hA [0] rfl
        refine va_callv (va_runS (As := [.ref mx, .int (nI j_27)]) (rest := []) ⟨hx, hb, hml, hown, hts⟩ (m_layClerk_86 l dC dI mx cx_ fx_ j_27 j_1 H.size hOx (by omega) (by omega) ej_3) (va_cwS 2 hts gX12_readsClerk_X12_layClerk rfl rfl rfl (by decide +kernel) ⟨Nat.le_of_ble_eq_true rfl, Nat.le_of_ble_eq_true rfl⟩) ⟨fun a U g mk q => by obtain ⟨q0, q1, qP, qK, qD⟩ := q; exact ⟨q0, q1, qP, va_K.moved (u := U) (U := U.calling g mk a) (Vm.Alike.refl U.vm) qK, qD⟩, fun U hU hW => ⟨rfl, by rw [hU], by rw [hU]; exact hPc, va_K.moved hW.alike hKc, hDc.weaken (fun _ _ _ _ => trivial)⟩⟩ rfl rfl hl.1 rfl (lv_room (Nat.le_of_ble_eq_true rfl)) dX12_readsClerk_39 ⟨Nat.le_of_ble_eq_true rfl, Nat.le_of_ble_eq_true rfl⟩) hS (fun q _ h => hFc q h) hFc (fun u_ t H1 locs ht hvm hw_33 hB hz1 hk1 hS => ?_)
        obtain ⟨gf_34, hf_35, hP1, hK1, hD1⟩ := hB
        rw [ht] at hP1
        have hK1 := va_K.moved hvm.symm hK1
        obtain ⟨hP, hD⟩ := va_join (wr := [(mo, .inr (12, [.ref nw, .ref kp, .ref ik, .ref mr, .long la_, .long lb_, .ref mw, .long lc_, .int ti_, .int cb_, .long ld_, .long le_, .ref mq, .ref mz, .ref my, .int sm_, .ref mb, .int (nI jb), .int (nI ga_20), .int (nI gl_21), .int h_token_17, .int h_value_18, .ref mx, .ref mv])), (mb, .inl (cb2_, 150, .inl fy_)), (mv, .inl (cv_, 4, .inl (upd fv_ 0 (nI j_27))))]) (w1 := [(mx, .inl (cx_, 86, .inl gf_34))]) hP hD [0] [1, 2, 3] rfl rfl (by decide) (by decide) hk1 hFc hP1 hD1
        generalize H1 = H at hP hS ⊢
        have hP : va_P (dC, dI) vwCl [(mo, .inr (12, [.ref nw, .ref kp, .ref ik, .ref mr, .long la_, .long lb_, .ref mw, .long lc_, .int ti_, .int cb_, .long ld_, .long le_, .ref mq, .ref mz, .ref my, .int sm_, .ref mb, .int (nI jb), .int (nI ga_20), .int (nI gl_21), .int h_token_17, .int h_value_18, .ref mx, .ref mv])), (mb, .inl (cb2_, 150, .inl fy_)), (mv, .inl (cv_, 4, .inl (upd fv_ 0 (nI j_27)))), (mx, .inl (cx_, 86, .inl gf_34))] H := hP
        have hD : va_D A [(mo, .inr (12, [.ref nw, .ref kp, .ref ik, .ref mr, .long la_, .long lb_, .ref mw, .long lc_, .int ti_, .int cb_, .long ld_, .long le_, .ref mq, .ref mz, .ref my, .int sm_, .ref mb, .int (nI jb), .int (nI ga_20), .int (nI gl_21), .int h_token_17, .int h_value_18, .ref mx, .ref mv])), (mb, .inl (cb2_, 150, .inl fy_)), (mv, .inl (cv_, 4, .inl (upd fv_ 0 (nI j_27)))), (mx, .inl (cx_, 86, .inl gf_34))] := hD
        refine lv_iconst (v := 1) hx hb dX12_readsClerk_42 (by decide) ?_
        have hP9 := hP.sub (ws' := [(mo, .inr (12, [.ref nw, .ref kp, .ref ik, .ref mr, .long la_, .long lb_, .ref mw, .long lc_, .int ti_, .int cb_, .long ld_, .long le_, .ref mq, .ref mz, .ref my, .int sm_, .ref mb, .int (nI jb), .int (nI ga_20), .int (nI gl_21), .int h_token_17, .int h_value_18, .ref mx, .ref mv])), (mb, .inl (cb2_, 150, .inl fy_)), (mv, .inl (cv_, 4, .inl (upd fv_ 0 (nI j_27)))), (mx, .inl (cx_, 86, .inl gf_34))]) [0, 1, 2, 3] rfl
        have hD9 := hD.sub (ws' := [(mo, .inr (12, [.ref nw, .ref kp, .ref ik, .ref mr, .long la_, .long lb_, .ref mw, .long lc_, .int ti_, .int cb_, .long ld_, .long le_, .ref mq, .ref mz, .ref my, .int sm_, .ref mb, .int (nI jb), .int (nI ga_20), .int (nI gl_21), .int h_token_17, .int h_value_18, .ref mx, .ref mv])), (mb, .inl (cb2_, 150, .inl fy_)), (mv, .inl (cv_, 4, .inl (upd fv_ 0 (nI j_27)))), (mx, .inl (cx_, 86, .inl gf_34))]) [0, 1, 2, 3] (by decide) rfl
        have hK9 := hK.sub (tys' := [(cb2_, .int), (cv_, .int), (cx_, .int)]) [0, 1, 2] rfl
        exact W.zret (v := 1) hx hb hr (by decide) (fun t ht hW => ⟨⟨1, (), rfl, Or.inr rfl, h_token_17, h_value_18, (upd fv_ 0 (nI j_27)), gf_34, ga_20, gl_21, hf_35, by omega, by omega, hf_24, by rw [ht]; exact hP9, va_K.moved hW.alike hK9, hD9⟩, hS.F ht⟩) hS.2.2 dX12_readsClerk_43
      · exact absurd c_31 (by decide)
    · obtain rfl : 0 = r_15 := (hw_16.trans (if_neg hc_26)).symm
      refine lv_if_ne (tgt := 29) hx hb dX12_readsClerk_24 (by decide) (fun c_36 => ?_) (fun c_36 => ?_)
      · exact absurd c_36 (by decide)
      · refine lv_iconst (v := 0) hx hb dX12_readsClerk_27 (by decide) ?_
        have hP9 := hP.sub (ws' := [(mo, .inr (12, [.ref nw, .ref kp, .ref ik, .ref mr, .long la_, .long lb_, .ref mw, .long lc_, .int ti_, .int cb_, .long ld_, .long le_, .ref mq, .ref mz, .ref my, .int sm_, .ref mb, .int (nI jb), .int (nI ga_20), .int (nI gl_21), .int h_token_17, .int h_value_18, .ref mx, .ref mv])), (mb, .inl (cb2_, 150, .inl fy_)), (mv, .inl (cv_, 4, .inl gv__19)), (mx, .inl (cx_, 86, .inl fx_))]) [1, 2, 3, 0] rfl
        have hD9 := hD.sub (ws' := [(mo, .inr (12, [.ref nw, .ref kp, .ref ik, .ref mr, .long la_, .long lb_, .ref mw, .long lc_, .int ti_, .int cb_, .long ld_, .long le_, .ref mq, .ref mz, .ref my, .int sm_, .ref mb, .int (nI jb), .int (nI ga_20), .int (nI gl_21), .int h_token_17, .int h_value_18, .ref mx, .ref mv])), (mb, .inl (cb2_, 150, .inl fy_)), (mv, .inl (cv_, 4, .inl gv__19)), (mx, .inl (cx_, 86, .inl fx_))]) [1, 2, 3, 0] (by decide) rfl
        have hK9 := hK.sub (tys' := [(cb2_, .int), (cv_, .int), (cx_, .int)]) [0, 1, 2] rfl
        exact W.zret (v := 0) hx hb hr (by decide) (fun t ht hW => ⟨⟨0, (), rfl, Or.inl rfl, h_token_17, h_value_18, gv__19, fx_, ga_20, gl_21, hOx, by omega, by omega, hf_24, by rw [ht]; exact hP9, va_K.moved hW.alike hK9, hD9⟩, hS.F ht⟩) hS.2.2 dX12_readsClerk_28
  · have hn_37 : j_1 = 5 := (nI_eq (a := j_1) (b := 5) (by omega) (by omega)).mp c_4
    refine lv_iconst (v := 0) hx hb dX12_readsClerk_10 (by decide) ?_
    have hP9 := hP.sub (ws' := [(mo, .inr (12, [.ref nw, .ref kp, .ref ik, .ref mr, .long la_, .long lb_, .ref mw, .long lc_, .int ti_, .int cb_, .long ld_, .long le_, .ref mq, .ref mz, .ref my, .int sm_, .ref mb, .int (nI jb), .int (nI ja), .int (nI jl), .int tk_, .int vl_, .ref mx, .ref mv])), (mb, .inl (cb2_, 150, .inl fy_)), (mv, .inl (cv_, 4, .inl fv_)), (mx, .inl (cx_, 86, .inl fx_))]) [0, 1, 2, 3] rfl
    have hD9 := hD.sub (ws' := [(mo, .inr (12, [.ref nw, .ref kp, .ref ik, .ref mr, .long la_, .long lb_, .ref mw, .long lc_, .int ti_, .int cb_, .long ld_, .long le_, .ref mq, .ref mz, .ref my, .int sm_, .ref mb, .int (nI jb), .int (nI ja), .int (nI jl), .int tk_, .int vl_, .ref mx, .ref mv])), (mb, .inl (cb2_, 150, .inl fy_)), (mv, .inl (cv_, 4, .inl fv_)), (mx, .inl (cx_, 86, .inl fx_))]) [0, 1, 2, 3] (by decide) rfl
    have hK9 := hK.sub (tys' := [(cb2_, .int), (cv_, .int), (cx_, .int)]) [0, 1, 2] rfl
    exact W.zret (v := 0) hx hb hr (by decide) (fun t ht hW => ⟨⟨0, (), rfl, Or.inl rfl, tk_, vl_, fv_, fx_, ja, jl, hOx, by omega, by omega, h3, by rw [ht]; exact hP9, va_K.moved hW.alike hK9, hD9⟩, hS.F ht⟩) hS.2.2 dX12_readsClerk_11
set_option maxRecDepth 20000 in
theorem ggX12_readsBundle_X12_goOn : GoodIn wsX12_readsBundle wsX12_goOn := goodIn_r _ [7, 8, 9, 10, 11, 12, 6, 13, 14, 15, 16, 17, 18, 19, 20, 21, 22, 23, 24, 25, 26, 27, 28, 29, 30, 38, 39, 40, 41, 42, 43, 44, 45, 46, 47, 48, 49, 50, 51, 52, 53, 54, 55, 56, 57, 58, 59, 60, 61] (by decide +kernel) (by decide +kernel)
set_option maxRecDepth 20000 in
theorem gX12_readsBundle_X12_goOn : GoodIn wsX12_readsBundle (wsV RX12 285 RX12 yX12_goOn wsX12_goOn) := goodIn_app (goodIn_of _ (by decide +kernel)) ggX12_readsBundle_X12_goOn
set_option maxRecDepth 20000 in
theorem ggX12_readsBundle_X12_takes : GoodIn wsX12_readsBundle wsX12_takes := goodIn_r _ [34, 16, 17, 2, 23, 24, 6, 25, 3, 4, 5, 7, 8, 9, 10, 11, 12, 13, 14, 15, 18, 19, 20, 21, 22, 26, 27, 28, 29, 30, 38, 39, 40, 41, 42, 43, 44, 45, 46, 47, 48, 49, 50, 51, 52, 53, 54, 55, 56, 57, 58, 59, 60, 61] (by decide +kernel) (by decide +kernel)
set_option maxRecDepth 20000 in
theorem gX12_readsBundle_X12_takes : GoodIn wsX12_readsBundle (wsV RX12 292 RX12 yX12_takes wsX12_takes) := goodIn_app (goodIn_of _ (by decide +kernel)) ggX12_readsBundle_X12_takes
set_option maxRecDepth 20000 in
theorem ggX12_readsBundle_X12_layBundle : GoodIn wsX12_readsBundle wsX12_layBundle := goodIn_r _ [37] (by decide +kernel) (by decide +kernel)
set_option maxRecDepth 20000 in
theorem gX12_readsBundle_X12_layBundle : GoodIn wsX12_readsBundle (va_wsS RX12 77 yX12_layBundle wsX12_layBundle) := goodIn_app (goodIn_of _ (by decide +kernel)) ggX12_readsBundle_X12_layBundle
theorem dX12_readsBundle_0 : decode cX12_readsBundle 0 = .ok (.aload_n 0, 1) := by decide +kernel
theorem dX12_readsBundle_1 : decode cX12_readsBundle 1 = .ok (.getfield 43, 3) := by decide +kernel
theorem dX12_readsBundle_4 : decode cX12_readsBundle 4 = .ok (.iconst 1, 1) := by decide +kernel
theorem dX12_readsBundle_5 : decode cX12_readsBundle 5 = .ok (.iaload, 1) := by decide +kernel
theorem dX12_readsBundle_6 : decode cX12_readsBundle 6 = .ok (.iconst 5, 1) := by decide +kernel
theorem dX12_readsBundle_7 : decode cX12_readsBundle 7 = .ok (.if_icmp .ne 5, 3) := by decide +kernel
theorem dX12_readsBundle_12 : decode cX12_readsBundle 12 = .ok (.aload_n 0, 1) := by decide +kernel
theorem dX12_readsBundle_13 : decode cX12_readsBundle 13 = .ok (.invokevirtual 285, 3) := by decide +kernel
theorem dX12_readsBundle_16 : decode cX12_readsBundle 16 = .ok (.aload_n 0, 1) := by decide +kernel
theorem dX12_readsBundle_17 : decode cX12_readsBundle 17 = .ok (.iconst 0, 1) := by decide +kernel
theorem dX12_readsBundle_18 : decode cX12_readsBundle 18 = .ok (.bipush 90, 2) := by decide +kernel
theorem dX12_readsBundle_20 : decode cX12_readsBundle 20 = .ok (.bipush 110, 2) := by decide +kernel
theorem dX12_readsBundle_22 : decode cX12_readsBundle 22 = .ok (.invokevirtual 292, 3) := by decide +kernel
theorem dX12_readsBundle_25 : decode cX12_readsBundle 25 = .ok (.ifCond .eq 19, 3) := by decide +kernel
theorem dX12_readsBundle_28 : decode cX12_readsBundle 28 = .ok (.aload_n 0, 1) := by decide +kernel
theorem dX12_readsBundle_29 : decode cX12_readsBundle 29 = .ok (.iconst 1, 1) := by decide +kernel
theorem dX12_readsBundle_30 : decode cX12_readsBundle 30 = .ok (.aload_n 0, 1) := by decide +kernel
theorem dX12_readsBundle_31 : decode cX12_readsBundle 31 = .ok (.getfield 46, 3) := by decide +kernel
theorem dX12_readsBundle_34 : decode cX12_readsBundle 34 = .ok (.iconst 0, 1) := by decide +kernel
theorem dX12_readsBundle_35 : decode cX12_readsBundle 35 = .ok (.iaload, 1) := by decide +kernel
theorem dX12_readsBundle_36 : decode cX12_readsBundle 36 = .ok (.bipush 110, 2) := by decide +kernel
theorem dX12_readsBundle_38 : decode cX12_readsBundle 38 = .ok (.invokevirtual 292, 3) := by decide +kernel
theorem dX12_readsBundle_41 : decode cX12_readsBundle 41 = .ok (.ifCond .ne 5, 3) := by decide +kernel
theorem dX12_readsBundle_46 : decode cX12_readsBundle 46 = .ok (.aload_n 0, 1) := by decide +kernel
theorem dX12_readsBundle_47 : decode cX12_readsBundle 47 = .ok (.getfield 43, 3) := by decide +kernel
theorem dX12_readsBundle_50 : decode cX12_readsBundle 50 = .ok (.aload_n 0, 1) := by decide +kernel
theorem dX12_readsBundle_51 : decode cX12_readsBundle 51 = .ok (.getfield 46, 3) := by decide +kernel
theorem dX12_readsBundle_54 : decode cX12_readsBundle 54 = .ok (.iconst 0, 1) := by decide +kernel
theorem dX12_readsBundle_55 : decode cX12_readsBundle 55 = .ok (.iaload, 1) := by decide +kernel
theorem dX12_readsBundle_56 : decode cX12_readsBundle 56 = .ok (.aload_n 0, 1) := by decide +kernel
theorem dX12_readsBundle_57 : decode cX12_readsBundle 57 = .ok (.getfield 46, 3) := by decide +kernel
theorem dX12_readsBundle_60 : decode cX12_readsBundle 60 = .ok (.iconst 1, 1) := by decide +kernel
theorem dX12_readsBundle_61 : decode cX12_readsBundle 61 = .ok (.iaload, 1) := by decide +kernel
theorem dX12_readsBundle_62 : decode cX12_readsBundle 62 = .ok (.invokestatic 77, 3) := by decide +kernel
theorem dX12_readsBundle_65 : decode cX12_readsBundle 65 = .ok (.iconst 1, 1) := by decide +kernel
theorem dX12_readsBundle_66 : decode cX12_readsBundle 66 = .ok (.ireturn, 1) := by decide +kernel
theorem dX12_readsBundle_44 : decode cX12_readsBundle 44 = .ok (.iconst 0, 1) := by decide +kernel
theorem dX12_readsBundle_45 : decode cX12_readsBundle 45 = .ok (.ireturn, 1) := by decide +kernel
theorem dX12_readsBundle_10 : decode cX12_readsBundle 10 = .ok (.iconst 0, 1) := by decide +kernel
theorem dX12_readsBundle_11 : decode cX12_readsBundle 11 = .ok (.ireturn, 1) := by decide +kernel
set_option maxRecDepth 20000 in
theorem iw_m_readsBundle_X12 : ∀ w ∈ wsX120, w ∈ wsX12_readsBundle := by decide +kernel
set_option maxHeartbeats 4000000 in
set_option maxRecDepth 100000 in
theorem m_readsBundle (l : Launch) (dC : Nat → ClassId) (dI : Nat → Nat → Nat) (mo : Nat) (nw : Nat) (kp : Nat) (ik : Nat) (mr : Nat) (la_ : Int64) (lb_ : Int64) (mw : Nat) (lc_ : Int64) (ti_ : Int32) (cb_ : Int32) (ld_ : Int64) (le_ : Int64) (mq : Nat) (mz : Nat) (my : Nat) (sm_ : Int32) (mb : Nat) (jb : Nat) (ja : Nat) (jl : Nat) (tk_ : Int32) (vl_ : Int32) (mx : Nat) (mv : Nat) (cb2_ : ClassId) (fy_ : Nat → Int32) (cv_ : ClassId) (fv_ : Nat → Int32) (cx_ : ClassId) (fx_ : Nat → Int32) (sz : Nat) (hOx : tz_OK 86 fx_) (hjb : jb ≤ 150) (hjl : ja + jl ≤ jb) (h3 : tk_ = 3 → 1 ≤ jl) : Met l yX12_readsBundle wsX12_readsBundle ({ frames := 5, cells := 0, slots := 0, locals := 112 }) (va_Pc [.ref mo] (fun U => U.heap.size = sz ∧ va_P (dC, dI) vwCl [(mo, .inr (12, [.ref nw, .ref kp, .ref ik, .ref mr, .long la_, .long lb_, .ref mw, .long lc_, .int ti_, .int cb_, .long ld_, .long le_, .ref mq, .ref mz, .ref my, .int sm_, .ref mb, .int (nI jb), .int (nI ja), .int (nI jl), .int tk_, .int vl_, .ref mx, .ref mv])), (mb, .inl (cb2_, 150, .inl fy_)), (mv, .inl (cv_, 4, .inl fv_)), (mx, .inl (cx_, 86, .inl fx_))] U.heap ∧ va_K (dC, dI) vwCl [(cb2_, .int), (cv_, .int), (cx_, .int)] U ∧ va_D (fun _ => True) [(mo, .inr (12, [.ref nw, .ref kp, .ref ik, .ref mr, .long la_, .long lb_, .ref mw, .long lc_, .int ti_, .int cb_, .long ld_, .long le_, .ref mq, .ref mz, .ref my, .int sm_, .ref mb, .int (nI jb), .int (nI ja), .int (nI jl), .int tk_, .int vl_, .ref mx, .ref mv])), (mb, .inl (cb2_, 150, .inl fy_)), (mv, .inl (cv_, 4, .inl fv_)), (mx, .inl (cx_, 86, .inl fx_))])) (va_Qi (fun (r : Int32) (_ : Unit) => r = 0 ∨ r = 1) (fun _ t => ∃ (h_token : Int32) (h_value : Int32) (gv_ : Nat → Int32) (gx_ : Nat → Int32) (ga : Nat) (gl : Nat), (tz_OK 86 gx_) ∧ (ja ≤ ga) ∧ (ga + gl ≤ jb) ∧ (h_token = 3 → 1 ≤ gl) ∧ va_P (dC, dI) vwCl [(mo, .inr (12, [.ref nw, .ref kp, .ref ik, .ref mr, .long la_, .long lb_, .ref mw, .long lc_, .int ti_, .int cb_, .long ld_, .long le_, .ref mq, .ref mz, .ref my, .int sm_, .ref mb, .int (nI jb), .int (nI ga), .int (nI gl), .int h_token, .int h_value, .ref mx, .ref mv])), (mb, .inl (cb2_, 150, .inl fy_)), (mv, .inl (cv_, 4, .inl gv_)), (mx, .inl (cx_, 86, .inl gx_))] t.heap ∧ va_K (dC, dI) vwCl [(cb2_, .int), (cv_, .int), (cx_, .int)] t ∧ va_D (va_A [(mo, .inr (12, [.ref nw, .ref kp, .ref ik, .ref mr, .long la_, .long lb_, .ref mw, .long lc_, .int ti_, .int cb_, .long ld_, .long le_, .ref mq, .ref mz, .ref my, .int sm_, .ref mb, .int (nI jb), .int (nI ja), .int (nI jl), .int tk_, .int vl_, .ref mx, .ref mv])), (mb, .inl (cb2_, 150, .inl fy_)), (mv, .inl (cv_, 4, .inl fv_)), (mx, .inl (cx_, 86, .inl fx_))] sz) [(mo, .inr (12, [.ref nw, .ref kp, .ref ik, .ref mr, .long la_, .long lb_, .ref mw, .long lc_, .int ti_, .int cb_, .long ld_, .long le_, .ref mq, .ref mz, .ref my, .int sm_, .ref mb, .int (nI jb), .int (nI ga), .int (nI gl), .int h_token, .int h_value, .ref mx, .ref mv])), (mb, .inl (cb2_, 150, .inl fy_)), (mv, .inl (cv_, 4, .inl gv_)), (mx, .inl (cx_, 86, .inl gx_))]) (va_A [(mo, .inr (12, [.ref nw, .ref kp, .ref ik, .ref mr, .long la_, .long lb_, .ref mw, .long lc_, .int ti_, .int cb_, .long ld_, .long le_, .ref mq, .ref mz, .ref my, .int sm_, .ref mb, .int (nI jb), .int (nI ja), .int (nI jl), .int tk_, .int vl_, .ref mx, .ref mv])), (mb, .inl (cb2_, 150, .inl fy_)), (mv, .inl (cv_, 4, .inl fv_)), (mx, .inl (cx_, 86, .inl fx_))] sz)) 0 0 (va_A [(mo, .inr (12, [.ref nw, .ref kp, .ref ik, .ref mr, .long la_, .long lb_, .ref mw, .long lc_, .int ti_, .int cb_, .long ld_, .long le_, .ref mq, .ref mz, .ref my, .int sm_, .ref mb, .int (nI jb), .int (nI ja), .int (nI jl), .int tk_, .int vl_, .ref mx, .ref mv])), (mb, .inl (cb2_, 150, .inl fy_)), (mv, .inl (cv_, 4, .inl fv_)), (mx, .inl (cx_, 86, .inl fx_))] sz) := by
  refine Met.ofW (cc := cX12_readsBundle) (maxL := 1) (ret := (some .boolean)) (by decide) rfl ?_
  intro p e s m args below meth c s₁ B hml hv
  obtain ⟨rfl, hsz, hP, hK, hD0⟩ := hv
  have hx := B.exec
  have hb := B.bytes
  have hr := B.returns
  have hts := atoms_spec (ws := wsX12_readsBundle) B.pre
  have hown : s.vm.findClass RX12 = some m.cls := findClass_of_methodNamed B.named
  have hlocks := B.notSynchronized
  subst hsz
  have hD := hD0.self (sz := s.heap.size)
  generalize hAe : va_A [(mo, .inr (12, [.ref nw, .ref kp, .ref ik, .ref mr, .long la_, .long lb_, .ref mw, .long lc_, .int ti_, .int cb_, .long ld_, .long le_, .ref mq, .ref mz, .ref my, .int sm_, .ref mb, .int (nI jb), .int (nI ja), .int (nI jl), .int tk_, .int vl_, .ref mx, .ref mv])), (mb, .inl (cb2_, 150, .inl fy_)), (mv, .inl (cv_, 4, .inl fv_)), (mx, .inl (cx_, 86, .inl fx_))] s.heap.size = A at hD ⊢
  have hA : ∀ q : Nat, s.heap.size ≤ q → A q := fun q h => by rw [← hAe]; exact Or.inr h
  have hS : va_S A s.heap s.heap [] := va_S.rf
  have hP : va_P (dC, dI) vwCl [(mo, .inr (12, [.ref nw, .ref kp, .ref ik, .ref mr, .long la_, .long lb_, .ref mw, .long lc_, .int ti_, .int cb_, .long ld_, .long le_, .ref mq, .ref mz, .ref my, .int sm_, .ref mb, .int (nI jb), .int (nI ja), .int (nI jl), .int tk_, .int vl_, .ref mx, .ref mv])), (mb, .inl (cb2_, 150, .inl fy_)), (mv, .inl (cv_, 4, .inl fv_)), (mx, .inl (cx_, 86, .inl fx_))] s.heap := hP
  have hl := lv_entry ([.ref mo]) (n := 1) (Nat.le_of_ble_eq_true rfl)
  rw [lg_entry_eq]
  generalize (lg_sl ([.ref mo]) ++ List.replicate (1 - (lg_sl ([.ref mo])).length) Slot.unset).toArray = ls at hl ⊢
  have hl : lv_has ls 1 [(0, .ref mo)] := hl
  refine lv_aload_n hx hb dX12_readsBundle_0 rfl (lv_at hl 0 rfl) ?_
  refine va_get (D := (dC, dI)) (ci := 12) (v := .ref mx) (C := RX12) (T := TX12) (N := 24) hx hb hts iw_m_readsBundle_X12 hown hK hP 0 rfl rfl 22 (by decide) (hts (.fieldLink RX12 43 "ThriceCountedModel" "next" "[I") (by decide +kernel)) (fun _ h9 => h9) rfl dX12_readsBundle_1 ?_
  refine lv_iconst (v := 1) hx hb dX12_readsBundle_4 (by decide) ?_
  refine va_iald hx hb hK hP 3 2 rfl rfl (show ¬ ((1 : Int32) < 0 ∨ 86 ≤ (1 : Int32).toNatClampNeg) by decide) dX12_readsBundle_5 ?_
  obtain ⟨j_1, hj_2, ej_3⟩ := hOx.nat (K := 1) (n := 5) (by omega) (show tz_b 1 = (0, 5) from by decide)
  refine tz_i (nI j_1) ej_3 ?_
  refine lv_iconst (v := 5) hx hb dX12_readsBundle_6 (by decide) ?_
  refine lv_icmp_ne (tgt := 12) hx hb dX12_readsBundle_7 (by decide) (fun c_4 => ?_) (fun c_4 => ?_)
  · have hn_5 : ¬ j_1 = 5 := fun q => c_4 ((nI_eq (a := j_1) (b := 5) (by omega) (by omega)).mpr q)
    refine lv_aload_n hx hb dX12_readsBundle_12 rfl (lv_at hl 0 rfl) ?_
    have hPc := hP.sub (ws' := [(mo, .inr (12, [.ref nw, .ref kp, .ref ik, .ref mr, .long la_, .long lb_, .ref mw, .long lc_, .int ti_, .int cb_, .long ld_, .long le_, .ref mq, .ref mz, .ref my, .int sm_, .ref mb, .int (nI jb), .int (nI ja), .int (nI jl), .int tk_, .int vl_, .ref mx, .ref mv])), (mb, .inl (cb2_, 150, .inl fy_))]) [0, 1] rfl
    have hDc := hD.sub (ws' := [(mo, .inr (12, [.ref nw, .ref kp, .ref ik, .ref mr, .long la_, .long lb_, .ref mw, .long lc_, .int ti_, .int cb_, .long ld_, .long le_, .ref mq, .ref mz, .ref my, .int sm_, .ref mb, .int (nI jb), .int (nI ja), .int (nI jl), .int tk_, .int vl_, .ref mx, .ref mv])), (mb, .inl (cb2_, 150, .inl fy_))]) [0, 1] (by decide) rfl
    have hKc := hK.sub (tys' := [(cb2_, .int)]) [0] rfl
    have hFc := va_free (wc := [(mo, .inr (12, [.ref nw, .ref kp, .ref ik, .ref mr, .long la_, .long lb_, .ref mw, .long lc_, .int ti_, .int cb_, .long ld_, .long le_, .ref mq, .ref mz, .ref my, .int sm_, .ref mb, .int (nI jb), .int (nI ja), .int (nI jl), .int tk_, .int vl_, .ref mx, .ref mv])), (mb, .inl (cb2_, 150, .inl fy_))]) hD hS hA [0, 1] rfl
    refine va_callv (va_runV (As := []) (rest := []) ⟨hx, hb, hml, hown, hts⟩ (m_goOn l dC dI mo nw kp ik mr la_ lb_ mw lc_ ti_ cb_ ld_ le_ mq mz my sm_ mb jb ja jl tk_ vl_ mx mv cb2_ fy_ s.heap.size hjb hjl) (cwV 0 hts gX12_readsBundle_X12_goOn rfl rfl rfl (by decide +kernel) ⟨Nat.le_of_ble_eq_true rfl, Nat.le_of_ble_eq_true rfl⟩) ⟨fun a U g mk q => by obtain ⟨q0, q1, qP, qK, qD⟩ := q; exact ⟨q0, q1, qP, va_K.moved (u := U) (U := U.calling g mk a) (Vm.Alike.refl U.vm) qK, qD⟩, va_recv hK hP (ci := 12) (q0 := 0) rfl rfl, fun U hU hW => ⟨rfl, by rw [hU], by rw [hU]; exact hPc, va_K.moved hW.alike hKc, hDc.weaken (fun _ _ _ _ => trivial)⟩⟩ rfl rfl hl.1 rfl (lv_room (Nat.le_of_ble_eq_true rfl)) dX12_readsBundle_13 ⟨Nat.le_of_ble_eq_true rfl, Nat.le_of_ble_eq_true rfl⟩) hS (fun q _ h => hFc q h) hFc (fun u_ t H1 locs ht hvm hw_7 hB hz1 hk1 hS => ?_)
    obtain ⟨h_token_8, h_value_9, ga_10, gl_11, hf_12, hf_13, hf_14, hP1, hK1, hD1⟩ := hB
    rw [ht] at hP1
    have hK1 := va_K.moved hvm.symm hK1
    obtain ⟨hP, hD⟩ := va_join (wr := [(mv, .inl (cv_, 4, .inl fv_)), (mx, .inl (cx_, 86, .inl fx_))]) (w1 := [(mo, .inr (12, [.ref nw, .ref kp, .ref ik, .ref mr, .long la_, .long lb_, .ref mw, .long lc_, .int ti_, .int cb_, .long ld_, .long le_, .ref mq, .ref mz, .ref my, .int sm_, .ref mb, .int (nI jb), .int (nI ga_10), .int (nI gl_11), .int h_token_8, .int h_value_9, .ref mx, .ref mv])), (mb, .inl (cb2_, 150, .inl fy_))]) hP hD [0, 1] [2, 3] rfl rfl (by decide) (by decide) hk1 hFc hP1 hD1
    generalize H1 = H at hP hS ⊢
    have hP : va_P (dC, dI) vwCl [(mv, .inl (cv_, 4, .inl fv_)), (mx, .inl (cx_, 86, .inl fx_)), (mo, .inr (12, [.ref nw, .ref kp, .ref ik, .ref mr, .long la_, .long lb_, .ref mw, .long lc_, .int ti_, .int cb_, .long ld_, .long le_, .ref mq, .ref mz, .ref my, .int sm_, .ref mb, .int (nI jb), .int (nI ga_10), .int (nI gl_11), .int h_token_8, .int h_value_9, .ref mx, .ref mv])), (mb, .inl (cb2_, 150, .inl fy_))] H := hP
    have hD : va_D A [(mv, .inl (cv_, 4, .inl fv_)), (mx, .inl (cx_, 86, .inl fx_)), (mo, .inr (12, [.ref nw, .ref kp, .ref ik, .ref mr, .long la_, .long lb_, .ref mw, .long lc_, .int ti_, .int cb_, .long ld_, .long le_, .ref mq, .ref mz, .ref my, .int sm_, .ref mb, .int (nI jb), .int (nI ga_10), .int (nI gl_11), .int h_token_8, .int h_value_9, .ref mx, .ref mv])), (mb, .inl (cb2_, 150, .inl fy_))] := hD
    refine lv_aload_n hx hb dX12_readsBundle_16 rfl (lv_at hl 0 rfl) ?_
    refine lv_iconst (v := 0) hx hb dX12_readsBundle_17 (by decide) ?_
    refine lv_bipush (v := 90) hx hb dX12_readsBundle_18 (by decide) ?_
    refine lv_bipush (v := 110) hx hb dX12_readsBundle_20 (by decide) ?_
    have hPc := hP.sub (ws' := [(mo, .inr (12, [.ref nw, .ref kp, .ref ik, .ref mr, .long la_, .long lb_, .ref mw, .long lc_, .int ti_, .int cb_, .long ld_, .long le_, .ref mq, .ref mz, .ref my, .int sm_, .ref mb, .int (nI jb), .int (nI ga_10), .int (nI gl_11), .int h_token_8, .int h_value_9, .ref mx, .ref mv])), (mb, .inl (cb2_, 150, .inl fy_)), (mv, .inl (cv_, 4, .inl fv_))]) [2, 3, 0] rfl
    have hDc := hD.sub (ws' := [(mo, .inr (12, [.ref nw, .ref kp, .ref ik, .ref mr, .long la_, .long lb_, .ref mw, .long lc_, .int ti_, .int cb_, .long ld_, .long le_, .ref mq, .ref mz, .ref my, .int sm_, .ref mb, .int (nI jb), .int (nI ga_10), .int (nI gl_11), .int h_token_8, .int h_value_9, .ref mx, .ref mv])), (mb, .inl (cb2_, 150, .inl fy_)), (mv, .inl (cv_, 4, .inl fv_))]) [2, 3, 0] (by decide) rfl
    have hKc := hK.sub (tys' := [(cb2_, .int), (cv_, .int)]) [0, 1] rfl
    have hFc := va_free (wc := [(mo, .inr (12, [.ref nw, .ref kp, .ref ik, .ref mr, .long la_, .long lb_, .ref mw, .long lc_, .int ti_, .int cb_, .long ld_, .long le_, .ref mq, .ref mz, .ref my, .int sm_, .ref mb, .int (nI jb), .int (nI ga_10), .int (nI gl_11), .int h_token_8, .int h_value_9, .ref mx, .ref mv])), (mb, .inl (cb2_, 150, .inl fy_)), (mv, .inl (cv_, 4, .inl fv_))]) hD hS hA [2, 3, 0] rfl
    refine va_calli (va_runV (As := [.int 0, .int 90, .int 110]) (rest := []) ⟨hx, hb, hml, hown, hts⟩ (m_takes l dC dI mo nw kp ik mr la_ lb_ mw lc_ ti_ cb_ ld_ le_ mq mz my sm_ mb jb ga_10 gl_11 h_token_8 h_value_9 mx mv cb2_ fy_ cv_ fv_ 0 90 110 H.size hjb hf_13 hf_14 (by omega)) (cwV 3 hts gX12_readsBundle_X12_takes rfl rfl rfl (by decide +kernel) ⟨Nat.le_of_ble_eq_true rfl, Nat.le_of_ble_eq_true rfl⟩) ⟨fun a U g mk q => by obtain ⟨q0, q1, qP, qK, qD⟩ := q; exact ⟨q0, q1, qP, va_K.moved (u := U) (U := U.calling g mk a) (Vm.Alike.refl U.vm) qK, qD⟩, va_recv hK hP (ci := 12) (q0 := 2) rfl rfl, fun U hU hW => ⟨rfl, by rw [hU], by rw [hU]; exact hPc, va_K.moved hW.alike hKc, hDc.weaken (fun _ _ _ _ => trivial)⟩⟩ rfl rfl hl.1 rfl (lv_room (Nat.le_of_ble_eq_true rfl)) dX12_readsBundle_22 ⟨Nat.le_of_ble_eq_true rfl, Nat.le_of_ble_eq_true rfl⟩) hS (fun q _ h => hFc q h) hFc (fun r_15 u_ t H1 locs ht hvm hw_16 hB hz1 hk1 hS => ?_)
    obtain ⟨h_token_17, h_value_18, gv__19, ga_20, gl_21, hf_22, hf_23, hf_24, hf_25, hP1, hK1, hD1⟩ := hB
    rw [ht] at hP1
    have hK1 := va_K.moved hvm.symm hK1
    obtain ⟨hP, hD⟩ := va_join (wr := [(mx, .inl (cx_, 86, .inl fx_))]) (w1 := [(mo, .inr (12, [.ref nw, .ref kp, .ref ik, .ref mr, .long la_, .long lb_, .ref mw, .long lc_, .int ti_, .int cb_, .long ld_, .long le_, .ref mq, .ref mz, .ref my, .int sm_, .ref mb, .int (nI jb), .int (nI ga_20), .int (nI gl_21), .int h_token_17, .int h_value_18, .ref mx, .ref mv])), (mb, .inl (cb2_, 150, .inl fy_)), (mv, .inl (cv_, 4, .inl gv__19))]) hP hD [2, 3, 0] [1] rfl rfl (by decide) (by decide) hk1 hFc hP1 hD1
    generalize H1 = H at hP hS ⊢
    have hP : va_P (dC, dI) vwCl [(mx, .inl (cx_, 86, .inl fx_)), (mo, .inr (12, [.ref nw, .ref kp, .ref ik, .ref mr, .long la_, .long lb_, .ref mw, .long lc_, .int ti_, .int cb_, .long ld_, .long le_, .ref mq, .ref mz, .ref my, .int sm_, .ref mb, .int (nI jb), .int (nI ga_20), .int (nI gl_21), .int h_token_17, .int h_value_18, .ref mx, .ref mv])), (mb, .inl (cb2_, 150, .inl fy_)), (mv, .inl (cv_, 4, .inl gv__19))] H := hP
    have hD : va_D A [(mx, .inl (cx_, 86, .inl fx_)), (mo, .inr (12, [.ref nw, .ref kp, .ref ik, .ref mr, .long la_, .long lb_, .ref mw, .long lc_, .int ti_, .int cb_, .long ld_, .long le_, .ref mq, .ref mz, .ref my, .int sm_, .ref mb, .int (nI jb), .int (nI ga_20), .int (nI gl_21), .int h_token_17, .int h_value_18, .ref mx, .ref mv])), (mb, .inl (cb2_, 150, .inl fy_)), (mv, .inl (cv_, 4, .inl gv__19))] := hD
    by_cases hc_26 : (h_token_8 = 2 ∧ (90 ≤ h_value_9 ∧ h_value_9 ≤ 110))
    · obtain rfl : 1 = r_15 := (hw_16.trans (if_pos hc_26)).symm
      obtain rfl : gv__19 = upd fv_ 0 h_value_9 := hf_25 hc_26
      have hq_28 := hc_26.2
      obtain ⟨j_27, hj_29, hj_30, rfl⟩ := tz_pickL (l := 90) (n := 110) hq_28 (by decide) (by decide)
      refine lv_if_eq (tgt := 44) hx hb dX12_readsBundle_25 (by decide) (fun c_31 => ?_) (fun c_31 => ?_)
      · exact absurd c_31 (by decide)
      · refine lv_aload_n hx hb dX12_readsBundle_28 rfl (lv_at hl 0 rfl) ?_
        refine lv_iconst (v := 1) hx hb dX12_readsBundle_29 (by decide) ?_
        refine lv_aload_n hx hb dX12_readsBundle_30 rfl (lv_at hl 0 rfl) ?_
        refine va_get (D := (dC, dI)) (ci := 12) (v := .ref mv) (C := RX12) (T := TX12) (N := 24) hx hb hts iw_m_readsBundle_X12 hown hK hP 1 rfl rfl 23 (by decide) (hts (.fieldLink RX12 46 "ThriceCountedModel" "values" "[I") (by decide +kernel)) (fun _ h9 => h9) rfl dX12_readsBundle_31 ?_
        refine lv_iconst (v := 0) hx hb dX12_readsBundle_34 (by decide) ?_
        refine va_iald hx hb hK hP 3 1 rfl rfl (show ¬ ((0 : Int32) < 0 ∨ 4 ≤ (0 : Int32).toNatClampNeg) by decide) dX12_readsBundle_35 ?_
        refine tz_i (nI j_27) rfl ?_
        refine lv_bipush (v := 110) hx hb dX12_readsBundle_36 (by decide) ?_
        have hPc := hP.sub (ws' := [(mo, .inr (12, [.ref nw, .ref kp, .ref ik, .ref mr, .long la_, .long lb_, .ref mw, .long lc_, .int ti_, .int cb_, .long ld_, .long le_, .ref mq, .ref mz, .ref my, .int sm_, .ref mb, .int (nI jb), .int (nI ga_20), .int (nI gl_21), .int h_token_17, .int h_value_18, .ref mx, .ref mv])), (mb, .inl (cb2_, 150, .inl fy_)), (mv, .inl (cv_, 4, .inl (upd fv_ 0 (nI j_27))))]) [1, 2, 3] rfl
        have hDc := hD.sub (ws' := [(mo, .inr (12, [.ref nw, .ref kp, .ref ik, .ref mr, .long la_, .long lb_, .ref mw, .long lc_, .int ti_, .int cb_, .long ld_, .long le_, .ref mq, .ref mz, .ref my, .int sm_, .ref mb, .int (nI jb), .int (nI ga_20), .int (nI gl_21), .int h_token_17, .int h_value_18, .ref mx, .ref mv])), (mb, .inl (cb2_, 150, .inl fy_)), (mv, .inl (cv_, 4, .inl (upd fv_ 0 (nI j_27))))]) [1, 2, 3] (by decide) rfl
        have hKc := hK.sub (tys' := [(cb2_, .int), (cv_, .int)]) [0, 1] rfl
        have hFc := va_free (wc := [(mo, .inr (12, [.ref nw, .ref kp, .ref ik, .ref mr, .long la_, .long lb_, .ref mw, .long lc_, .int ti_, .int cb_, .long ld_, .long le_, .ref mq, .ref mz, .ref my, .int sm_, .ref mb, .int (nI jb), .int (nI ga_20), .int (nI gl_21), .int h_token_17, .int h_value_18, .ref mx, .ref mv])), (mb, .inl (cb2_, 150, .inl fy_)), (mv, .inl (cv_, 4, .inl (upd fv_ 0 (nI j_27))))]) hD hS hA [1, 2, 3] rfl
        refine va_calli (va_runV (As := [.int 1, .int (nI j_27), .int 110]) (rest := []) ⟨hx, hb, hml, hown, hts⟩ (m_takes l dC dI mo nw kp ik mr la_ lb_ mw lc_ ti_ cb_ ld_ le_ mq mz my sm_ mb jb ga_20 gl_21 h_token_17 h_value_18 mx mv cb2_ fy_ cv_ (upd fv_ 0 (nI j_27)) 1 (nI j_27) 110 H.size hjb hf_23 hf_24 (by omega)) (cwV 3 hts gX12_readsBundle_X12_takes rfl rfl rfl (by decide +kernel) ⟨Nat.le_of_ble_eq_true rfl, Nat.le_of_ble_eq_true rfl⟩) ⟨fun a U g mk q => by obtain ⟨q0, q1, qP, qK, qD⟩ := q; exact ⟨q0, q1, qP, va_K.moved (u := U) (U := U.calling g mk a) (Vm.Alike.refl U.vm) qK, qD⟩, va_recv hK hP (ci := 12) (q0 := 1) rfl rfl, fun U hU hW => ⟨rfl, by rw [hU], by rw [hU]; exact hPc, va_K.moved hW.alike hKc, hDc.weaken (fun _ _ _ _ => trivial)⟩⟩ rfl rfl hl.1 rfl (lv_room (Nat.le_of_ble_eq_true rfl)) dX12_readsBundle_38 ⟨Nat.le_of_ble_eq_true rfl, Nat.le_of_ble_eq_true rfl⟩) hS (fun q _ h => hFc q h) hFc (fun r_32 u_ t H1 locs ht hvm hw_33 hB hz1 hk1 hS => ?_)
        obtain ⟨h_token_34, h_value_35, gv__36, ga_37, gl_38, hf_39, hf_40, hf_41, hf_42, hP1, hK1, hD1⟩ := hB
        rw [ht] at hP1
        have hK1 := va_K.moved hvm.symm hK1
        obtain ⟨hP, hD⟩ := va_join (wr := [(mx, .inl (cx_, 86, .inl fx_))]) (w1 := [(mo, .inr (12, [.ref nw, .ref kp, .ref ik, .ref mr, .long la_, .long lb_, .ref mw, .long lc_, .int ti_, .int cb_, .long ld_, .long le_, .ref mq, .ref mz, .ref my, .int sm_, .ref mb, .int (nI jb), .int (nI ga_37), .int (nI gl_38), .int h_token_34, .int h_value_35, .ref mx, .ref mv])), (mb, .inl (cb2_, 150, .inl fy_)), (mv, .inl (cv_, 4, .inl gv__36))]) hP hD [1, 2, 3] [0] rfl rfl (by decide) (by decide) hk1 hFc hP1 hD1
        generalize H1 = H at hP hS ⊢
        have hP : va_P (dC, dI) vwCl [(mx, .inl (cx_, 86, .inl fx_)), (mo, .inr (12, [.ref nw, .ref kp, .ref ik, .ref mr, .long la_, .long lb_, .ref mw, .long lc_, .int ti_, .int cb_, .long ld_, .long le_, .ref mq, .ref mz, .ref my, .int sm_, .ref mb, .int (nI jb), .int (nI ga_37), .int (nI gl_38), .int h_token_34, .int h_value_35, .ref mx, .ref mv])), (mb, .inl (cb2_, 150, .inl fy_)), (mv, .inl (cv_, 4, .inl gv__36))] H := hP
        have hD : va_D A [(mx, .inl (cx_, 86, .inl fx_)), (mo, .inr (12, [.ref nw, .ref kp, .ref ik, .ref mr, .long la_, .long lb_, .ref mw, .long lc_, .int ti_, .int cb_, .long ld_, .long le_, .ref mq, .ref mz, .ref my, .int sm_, .ref mb, .int (nI jb), .int (nI ga_37), .int (nI gl_38), .int h_token_34, .int h_value_35, .ref mx, .ref mv])), (mb, .inl (cb2_, 150, .inl fy_)), (mv, .inl (cv_, 4, .inl gv__36))] := hD
        by_cases hc_43 : (h_token_17 = 2 ∧ ((nI j_27) ≤ h_value_18 ∧ h_value_18 ≤ 110))
        · obtain rfl : 1 = r_32 := (hw_33.trans (if_pos hc_43)).symm
          obtain rfl : gv__36 = upd (upd fv_ 0 (nI j_27)) 1 h_value_18 := hf_42 hc_43
          have hq_45 := hc_43.2
          obtain ⟨j_44, hj_46, hj_47, rfl⟩ := tz_pickN (l := j_27) (n := 110) hq_45 (by omega) (by decide)
          refine lv_if_ne (tgt := 46) hx hb dX12_readsBundle_41 (by decide) (fun c_48 => ?_) (fun c_48 => ?_)
          · refine lv_aload_n hx hb dX12_readsBundle_46 rfl (lv_at hl 0 rfl) ?_
            refine va_get (D := (dC, dI)) (ci := 12) (v := .ref mx) (C := RX12) (T := TX12) (N := 24) hx hb hts iw_m_readsBundle_X12 hown hK hP 1 rfl rfl 22 (by decide) (hts (.fieldLink RX12 43 "ThriceCountedModel" "next" "[I") (by decide +kernel)) (fun _ h9 => h9) rfl dX12_readsBundle_47 ?_
            refine lv_aload_n hx hb dX12_readsBundle_50 rfl (lv_at hl 0 rfl) ?_
            refine va_get (D := (dC, dI)) (ci := 12) (v := .ref mv) (C := RX12) (T := TX12) (N := 24) hx hb hts iw_m_readsBundle_X12 hown hK hP 1 rfl rfl 23 (by decide) (hts (.fieldLink RX12 46 "ThriceCountedModel" "values" "[I") (by decide +kernel)) (fun _ h9 => h9) rfl dX12_readsBundle_51 ?_
            refine lv_iconst (v := 0) hx hb dX12_readsBundle_54 (by decide) ?_
            refine va_iald hx hb hK hP 3 1 rfl rfl (show ¬ ((0 : Int32) < 0 ∨ 4 ≤ (0 : Int32).toNatClampNeg) by decide) dX12_readsBundle_55 ?_
            refine tz_i (nI j_27) rfl ?_
            refine lv_aload_n hx hb dX12_readsBundle_56 rfl (lv_at hl 0 rfl) ?_
            refine va_get (D := (dC, dI)) (ci := 12) (v := .ref mv) (C := RX12) (T := TX12) (N := 24) hx hb hts iw_m_readsBundle_X12 hown hK hP 1 rfl rfl 23 (by decide) (hts (.fieldLink RX12 46 "ThriceCountedModel" "values" "[I") (by decide +kernel)) (fun _ h9 => h9) rfl dX12_readsBundle_57 ?_
            refine lv_iconst (v := 1) hx hb dX12_readsBundle_60 (by decide) ?_
            refine va_iald hx hb hK hP 3 1 rfl rfl (show ¬ ((1 : Int32) < 0 ∨ 4 ≤ (1 : Int32).toNatClampNeg) by decide) dX12_readsBundle_61 ?_
            refine tz_i (nI j_44) rfl ?_
            have hPc := hP.sub (ws' := [(mx, .inl (cx_, 86, .inl fx_))]) [0] rfl
            have hDc := hD.sub (ws' := [(mx, .inl (cx_, 86, .inl fx_))]) [0] (by decide) rfl
            have hKc := hK.sub (tys' := [(cx_, .int)]) [2] rfl
            have hFc := va_free (wc := [(mx, .inl (cx_, 86, .inl fx_))]) hD hS hA [0] rfl
            refine va_callv (va_runS (As := [.ref mx, .int (nI j_27), .int (nI j_44)]) (rest := []) ⟨hx, hb, hml, hown, hts⟩ (m_layBundle_86 l dC dI mx cx_ fx_ j_27 j_44 j_1 H.size hOx (by omega) (by omega) (by omega) ej_3) (va_cwS 3 hts gX12_readsBundle_X12_layBundle rfl rfl rfl (by decide +kernel) ⟨Nat.le_of_ble_eq_true rfl, Nat.le_of_ble_eq_true rfl⟩) ⟨fun a U g mk q => by obtain ⟨q0, q1, qP, qK, qD⟩ := q; exact ⟨q0, q1, qP, va_K.moved (u := U) (U := U.calling g mk a) (Vm.Alike.refl U.vm) qK, qD⟩, fun U hU hW => ⟨rfl, by rw [hU], by rw [hU]; exact hPc, va_K.moved hW.alike hKc, hDc.weaken (fun _ _ _ _ => trivial)⟩⟩ rfl rfl hl.1 rfl (lv_room (Nat.le_of_ble_eq_true rfl)) dX12_readsBundle_62 ⟨Nat.le_of_ble_eq_true rfl, Nat.le_of_ble_eq_true rfl⟩) hS (fun q _ h => hFc q h) hFc (fun u_ t H1 locs ht hvm hw_50 hB hz1 hk1 hS => ?_)
            obtain ⟨gf_51, hf_52, hP1, hK1, hD1⟩ := hB
            rw [ht] at hP1
            have hK1 := va_K.moved hvm.symm hK1
            obtain ⟨hP, hD⟩ := va_join (wr := [(mo, .inr (12, [.ref nw, .ref kp, .ref ik, .ref mr, .long la_, .long lb_, .ref mw, .long lc_, .int ti_, .int cb_, .long ld_, .long le_, .ref mq, .ref mz, .ref my, .int sm_, .ref mb, .int (nI jb), .int (nI ga_37), .int (nI gl_38), .int h_token_34, .int h_value_35, .ref mx, .ref mv])), (mb, .inl (cb2_, 150, .inl fy_)), (mv, .inl (cv_, 4, .inl (upd (upd fv_ 0 (nI j_27)) 1 (nI j_44))))]) (w1 := [(mx, .inl (cx_, 86, .inl gf_51))]) hP hD [0] [1, 2, 3] rfl rfl (by decide) (by decide) hk1 hFc hP1 hD1
            generalize H1 = H at hP hS ⊢
            have hP : va_P (dC, dI) vwCl [(mo, .inr (12, [.ref nw, .ref kp, .ref ik, .ref mr, .long la_, .long lb_, .ref mw, .long lc_, .int ti_, .int cb_, .long ld_, .long le_, .ref mq, .ref mz, .ref my, .int sm_, .ref mb, .int (nI jb), .int (nI ga_37), .int (nI gl_38), .int h_token_34, .int h_value_35, .ref mx, .ref mv])), (mb, .inl (cb2_, 150, .inl fy_)), (mv, .inl (cv_, 4, .inl (upd (upd fv_ 0 (nI j_27)) 1 (nI j_44)))), (mx, .inl (cx_, 86, .inl gf_51))] H := hP
            have hD : va_D A [(mo, .inr (12, [.ref nw, .ref kp, .ref ik, .ref mr, .long la_, .long lb_, .ref mw, .long lc_, .int ti_, .int cb_, .long ld_, .long le_, .ref mq, .ref mz, .ref my, .int sm_, .ref mb, .int (nI jb), .int (nI ga_37), .int (nI gl_38), .int h_token_34, .int h_value_35, .ref mx, .ref mv])), (mb, .inl (cb2_, 150, .inl fy_)), (mv, .inl (cv_, 4, .inl (upd (upd fv_ 0 (nI j_27)) 1 (nI j_44)))), (mx, .inl (cx_, 86, .inl gf_51))] := hD
            refine lv_iconst (v := 1) hx hb dX12_readsBundle_65 (by decide) ?_
            have hP9 := hP.sub (ws' := [(mo, .inr (12, [.ref nw, .ref kp, .ref ik, .ref mr, .long la_, .long lb_, .ref mw, .long lc_, .int ti_, .int cb_, .long ld_, .long le_, .ref mq, .ref mz, .ref my, .int sm_, .ref mb, .int (nI jb), .int (nI ga_37), .int (nI gl_38), .int h_token_34, .int h_value_35, .ref mx, .ref mv])), (mb, .inl (cb2_, 150, .inl fy_)), (mv, .inl (cv_, 4, .inl (upd (upd fv_ 0 (nI j_27)) 1 (nI j_44)))), (mx, .inl (cx_, 86, .inl gf_51))]) [0, 1, 2, 3] rfl
            have hD9 := hD.sub (ws' := [(mo, .inr (12, [.ref nw, .ref kp, .ref ik, .ref mr, .long la_, .long lb_, .ref mw, .long lc_, .int ti_, .int cb_, .long ld_, .long le_, .ref mq, .ref mz, .ref my, .int sm_, .ref mb, .int (nI jb), .int (nI ga_37), .int (nI gl_38), .int h_token_34, .int h_value_35, .ref mx, .ref mv])), (mb, .inl (cb2_, 150, .inl fy_)), (mv, .inl (cv_, 4, .inl (upd (upd fv_ 0 (nI j_27)) 1 (nI j_44)))), (mx, .inl (cx_, 86, .inl gf_51))]) [0, 1, 2, 3] (by decide) rfl
            have hK9 := hK.sub (tys' := [(cb2_, .int), (cv_, .int), (cx_, .int)]) [0, 1, 2] rfl
            exact W.zret (v := 1) hx hb hr (by decide) (fun t ht hW => ⟨⟨1, (), rfl, Or.inr rfl, h_token_34, h_value_35, (upd (upd fv_ 0 (nI j_27)) 1 (nI j_44)), gf_51, ga_37, gl_38, hf_52, by omega, by omega, hf_41, by rw [ht]; exact hP9, va_K.moved hW.alike hK9, hD9⟩, hS.F ht⟩) hS.2.2 dX12_readsBundle_66
          · exact absurd c_48 (by decide)
        · obtain rfl : 0 = r_32 := (hw_33.trans (if_neg hc_43)).symm
          refine lv_if_ne (tgt := 46) hx hb dX12_readsBundle_41 (by decide) (fun c_53 => ?_) (fun c_53 => ?_)
          · exact absurd c_53 (by decide)
          · refine lv_iconst (v := 0) hx hb dX12_readsBundle_44 (by decide) ?_
            have hP9 := hP.sub (ws' := [(mo, .inr (12, [.ref nw, .ref kp, .ref ik, .ref mr, .long la_, .long lb_, .ref mw, .long lc_, .int ti_, .int cb_, .long ld_, .long le_, .ref mq, .ref mz, .ref my, .int sm_, .ref mb, .int (nI jb), .int (nI ga_37), .int (nI gl_38), .int h_token_34, .int h_value_35, .ref mx, .ref mv])), (mb, .inl (cb2_, 150, .inl fy_)), (mv, .inl (cv_, 4, .inl gv__36)), (mx, .inl (cx_, 86, .inl fx_))]) [1, 2, 3, 0] rfl
            have hD9 := hD.sub (ws' := [(mo, .inr (12, [.ref nw, .ref kp, .ref ik, .ref mr, .long la_, .long lb_, .ref mw, .long lc_, .int ti_, .int cb_, .long ld_, .long le_, .ref mq, .ref mz, .ref my, .int sm_, .ref mb, .int (nI jb), .int (nI ga_37), .int (nI gl_38), .int h_token_34, .int h_value_35, .ref mx, .ref mv])), (mb, .inl (cb2_, 150, .inl fy_)), (mv, .inl (cv_, 4, .inl gv__36)), (mx, .inl (cx_, 86, .inl fx_))]) [1, 2, 3, 0] (by decide) rfl
            have hK9 := hK.sub (tys' := [(cb2_, .int), (cv_, .int), (cx_, .int)]) [0, 1, 2] rfl
            exact W.zret (v := 0) hx hb hr (by decide) (fun t ht hW => ⟨⟨0, (), rfl, Or.inl rfl, h_token_34, h_value_35, gv__36, fx_, ga_37, gl_38, hOx, by omega, by omega, hf_41, by rw [ht]; exact hP9, va_K.moved hW.alike hK9, hD9⟩, hS.F ht⟩) hS.2.2 dX12_readsBundle_45
    · obtain rfl : 0 = r_15 := (hw_16.trans (if_neg hc_26)).symm
      refine lv_if_eq (tgt := 44) hx hb dX12_readsBundle_25 (by decide) (fun c_54 => ?_) (fun c_54 => ?_)
      · refine lv_iconst (v := 0) hx hb dX12_readsBundle_44 (by decide) ?_
        have hP9 := hP.sub (ws' := [(mo, .inr (12, [.ref nw, .ref kp, .ref ik, .ref mr, .long la_, .long lb_, .ref mw, .long lc_, .int ti_, .int cb_, .long ld_, .long le_, .ref mq, .ref mz, .ref my, .int sm_, .ref mb, .int (nI jb), .int (nI ga_20), .int (nI gl_21), .int h_token_17, .int h_value_18, .ref mx, .ref mv])), (mb, .inl (cb2_, 150, .inl fy_)), (mv, .inl (cv_, 4, .inl gv__19)), (mx, .inl (cx_, 86, .inl fx_))]) [1, 2, 3, 0] rfl
        have hD9 := hD.sub (ws' := [(mo, .inr (12, [.ref nw, .ref kp, .ref ik, .ref mr, .long la_, .long lb_, .ref mw, .long lc_, .int ti_, .int cb_, .long ld_, .long le_, .ref mq, .ref mz, .ref my, .int sm_, .ref mb, .int (nI jb), .int (nI ga_20), .int (nI gl_21), .int h_token_17, .int h_value_18, .ref mx, .ref mv])), (mb, .inl (cb2_, 150, .inl fy_)), (mv, .inl (cv_, 4, .inl gv__19)), (mx, .inl (cx_, 86, .inl fx_))]) [1, 2, 3, 0] (by decide) rfl
        have hK9 := hK.sub (tys' := [(cb2_, .int), (cv_, .int), (cx_, .int)]) [0, 1, 2] rfl
        exact W.zret (v := 0) hx hb hr (by decide) (fun t ht hW => ⟨⟨0, (), rfl, Or.inl rfl, h_token_17, h_value_18, gv__19, fx_, ga_20, gl_21, hOx, by omega, by omega, hf_24, by rw [ht]; exact hP9, va_K.moved hW.alike hK9, hD9⟩, hS.F ht⟩) hS.2.2 dX12_readsBundle_45
      · exact absurd c_54 (by decide)
  · have hn_55 : j_1 = 5 := (nI_eq (a := j_1) (b := 5) (by omega) (by omega)).mp c_4
    refine lv_iconst (v := 0) hx hb dX12_readsBundle_10 (by decide) ?_
    have hP9 := hP.sub (ws' := [(mo, .inr (12, [.ref nw, .ref kp, .ref ik, .ref mr, .long la_, .long lb_, .ref mw, .long lc_, .int ti_, .int cb_, .long ld_, .long le_, .ref mq, .ref mz, .ref my, .int sm_, .ref mb, .int (nI jb), .int (nI ja), .int (nI jl), .int tk_, .int vl_, .ref mx, .ref mv])), (mb, .inl (cb2_, 150, .inl fy_)), (mv, .inl (cv_, 4, .inl fv_)), (mx, .inl (cx_, 86, .inl fx_))]) [0, 1, 2, 3] rfl
    have hD9 := hD.sub (ws' := [(mo, .inr (12, [.ref nw, .ref kp, .ref ik, .ref mr, .long la_, .long lb_, .ref mw, .long lc_, .int ti_, .int cb_, .long ld_, .long le_, .ref mq, .ref mz, .ref my, .int sm_, .ref mb, .int (nI jb), .int (nI ja), .int (nI jl), .int tk_, .int vl_, .ref mx, .ref mv])), (mb, .inl (cb2_, 150, .inl fy_)), (mv, .inl (cv_, 4, .inl fv_)), (mx, .inl (cx_, 86, .inl fx_))]) [0, 1, 2, 3] (by decide) rfl
    have hK9 := hK.sub (tys' := [(cb2_, .int), (cv_, .int), (cx_, .int)]) [0, 1, 2] rfl
    exact W.zret (v := 0) hx hb hr (by decide) (fun t ht hW => ⟨⟨0, (), rfl, Or.inl rfl, tk_, vl_, fv_, fx_, ja, jl, hOx, by omega, by omega, h3, by rw [ht]; exact hP9, va_K.moved hW.alike hK9, hD9⟩, hS.F ht⟩) hS.2.2 dX12_readsBundle_11
set_option maxRecDepth 20000 in
theorem ggX12_readsBand_X12_goOn : GoodIn wsX12_readsBand wsX12_goOn := goodIn_r _ [7, 8, 9, 10, 11, 12, 6, 13, 14, 15, 16, 17, 18, 19, 20, 21, 22, 23, 24, 25, 26, 27, 28, 29, 30, 38, 39, 40, 41, 42, 43, 44, 45, 46, 47, 48, 49, 50, 51, 52, 53, 54, 55, 56, 57, 58, 59, 60, 61] (by decide +kernel) (by decide +kernel)
set_option maxRecDepth 20000 in
theorem gX12_readsBand_X12_goOn : GoodIn wsX12_readsBand (wsV RX12 285 RX12 yX12_goOn wsX12_goOn) := goodIn_app (goodIn_of _ (by decide +kernel)) ggX12_readsBand_X12_goOn
set_option maxRecDepth 20000 in
theorem ggX12_readsBand_X12_takes : GoodIn wsX12_readsBand wsX12_takes := goodIn_r _ [34, 16, 17, 2, 23, 24, 6, 25, 3, 4, 5, 7, 8, 9, 10, 11, 12, 13, 14, 15, 18, 19, 20, 21, 22, 26, 27, 28, 29, 30, 38, 39, 40, 41, 42, 43, 44, 45, 46, 47, 48, 49, 50, 51, 52, 53, 54, 55, 56, 57, 58, 59, 60, 61] (by decide +kernel) (by decide +kernel)
set_option maxRecDepth 20000 in
theorem gX12_readsBand_X12_takes : GoodIn wsX12_readsBand (wsV RX12 292 RX12 yX12_takes wsX12_takes) := goodIn_app (goodIn_of _ (by decide +kernel)) ggX12_readsBand_X12_takes
set_option maxRecDepth 20000 in
theorem ggX12_readsBand_X12_layBand : GoodIn wsX12_readsBand wsX12_layBand := goodIn_r _ [37] (by decide +kernel) (by decide +kernel)
set_option maxRecDepth 20000 in
theorem gX12_readsBand_X12_layBand : GoodIn wsX12_readsBand (va_wsS RX12 92 yX12_layBand wsX12_layBand) := goodIn_app (goodIn_of _ (by decide +kernel)) ggX12_readsBand_X12_layBand
theorem dX12_readsBand_0 : decode cX12_readsBand 0 = .ok (.aload_n 0, 1) := by decide +kernel
theorem dX12_readsBand_1 : decode cX12_readsBand 1 = .ok (.invokevirtual 285, 3) := by decide +kernel
theorem dX12_readsBand_4 : decode cX12_readsBand 4 = .ok (.aload_n 0, 1) := by decide +kernel
theorem dX12_readsBand_5 : decode cX12_readsBand 5 = .ok (.iconst 0, 1) := by decide +kernel
theorem dX12_readsBand_6 : decode cX12_readsBand 6 = .ok (.iconst 0, 1) := by decide +kernel
theorem dX12_readsBand_7 : decode cX12_readsBand 7 = .ok (.aload_n 0, 1) := by decide +kernel
theorem dX12_readsBand_8 : decode cX12_readsBand 8 = .ok (.getfield 43, 3) := by decide +kernel
theorem dX12_readsBand_11 : decode cX12_readsBand 11 = .ok (.iconst 1, 1) := by decide +kernel
theorem dX12_readsBand_12 : decode cX12_readsBand 12 = .ok (.iaload, 1) := by decide +kernel
theorem dX12_readsBand_13 : decode cX12_readsBand 13 = .ok (.iconst 1, 1) := by decide +kernel
theorem dX12_readsBand_14 : decode cX12_readsBand 14 = .ok (.isub, 1) := by decide +kernel
theorem dX12_readsBand_15 : decode cX12_readsBand 15 = .ok (.invokevirtual 292, 3) := by decide +kernel
theorem dX12_readsBand_18 : decode cX12_readsBand 18 = .ok (.ifCond .eq 32, 3) := by decide +kernel
theorem dX12_readsBand_21 : decode cX12_readsBand 21 = .ok (.aload_n 0, 1) := by decide +kernel
theorem dX12_readsBand_22 : decode cX12_readsBand 22 = .ok (.iconst 1, 1) := by decide +kernel
theorem dX12_readsBand_23 : decode cX12_readsBand 23 = .ok (.bipush 90, 2) := by decide +kernel
theorem dX12_readsBand_25 : decode cX12_readsBand 25 = .ok (.bipush 110, 2) := by decide +kernel
theorem dX12_readsBand_27 : decode cX12_readsBand 27 = .ok (.invokevirtual 292, 3) := by decide +kernel
theorem dX12_readsBand_30 : decode cX12_readsBand 30 = .ok (.ifCond .eq 20, 3) := by decide +kernel
theorem dX12_readsBand_33 : decode cX12_readsBand 33 = .ok (.aload_n 0, 1) := by decide +kernel
theorem dX12_readsBand_34 : decode cX12_readsBand 34 = .ok (.iconst 2, 1) := by decide +kernel
theorem dX12_readsBand_35 : decode cX12_readsBand 35 = .ok (.iconst 0, 1) := by decide +kernel
theorem dX12_readsBand_36 : decode cX12_readsBand 36 = .ok (.aload_n 0, 1) := by decide +kernel
theorem dX12_readsBand_37 : decode cX12_readsBand 37 = .ok (.getfield 43, 3) := by decide +kernel
theorem dX12_readsBand_40 : decode cX12_readsBand 40 = .ok (.iconst 0, 1) := by decide +kernel
theorem dX12_readsBand_41 : decode cX12_readsBand 41 = .ok (.iaload, 1) := by decide +kernel
theorem dX12_readsBand_42 : decode cX12_readsBand 42 = .ok (.iconst 1, 1) := by decide +kernel
theorem dX12_readsBand_43 : decode cX12_readsBand 43 = .ok (.isub, 1) := by decide +kernel
theorem dX12_readsBand_44 : decode cX12_readsBand 44 = .ok (.invokevirtual 292, 3) := by decide +kernel
theorem dX12_readsBand_47 : decode cX12_readsBand 47 = .ok (.ifCond .ne 5, 3) := by decide +kernel
theorem dX12_readsBand_52 : decode cX12_readsBand 52 = .ok (.aload_n 0, 1) := by decide +kernel
theorem dX12_readsBand_53 : decode cX12_readsBand 53 = .ok (.getfield 43, 3) := by decide +kernel
theorem dX12_readsBand_56 : decode cX12_readsBand 56 = .ok (.aload_n 0, 1) := by decide +kernel
theorem dX12_readsBand_57 : decode cX12_readsBand 57 = .ok (.getfield 46, 3) := by decide +kernel
theorem dX12_readsBand_60 : decode cX12_readsBand 60 = .ok (.iconst 0, 1) := by decide +kernel
theorem dX12_readsBand_61 : decode cX12_readsBand 61 = .ok (.iaload, 1) := by decide +kernel
theorem dX12_readsBand_62 : decode cX12_readsBand 62 = .ok (.aload_n 0, 1) := by decide +kernel
theorem dX12_readsBand_63 : decode cX12_readsBand 63 = .ok (.getfield 46, 3) := by decide +kernel
theorem dX12_readsBand_66 : decode cX12_readsBand 66 = .ok (.iconst 1, 1) := by decide +kernel
theorem dX12_readsBand_67 : decode cX12_readsBand 67 = .ok (.iaload, 1) := by decide +kernel
theorem dX12_readsBand_68 : decode cX12_readsBand 68 = .ok (.aload_n 0, 1) := by decide +kernel
theorem dX12_readsBand_69 : decode cX12_readsBand 69 = .ok (.getfield 46, 3) := by decide +kernel
theorem dX12_readsBand_72 : decode cX12_readsBand 72 = .ok (.iconst 2, 1) := by decide +kernel
theorem dX12_readsBand_73 : decode cX12_readsBand 73 = .ok (.iaload, 1) := by decide +kernel
theorem dX12_readsBand_74 : decode cX12_readsBand 74 = .ok (.invokestatic 92, 3) := by decide +kernel
theorem dX12_readsBand_77 : decode cX12_readsBand 77 = .ok (.iconst 1, 1) := by decide +kernel
theorem dX12_readsBand_78 : decode cX12_readsBand 78 = .ok (.ireturn, 1) := by decide +kernel
theorem dX12_readsBand_50 : decode cX12_readsBand 50 = .ok (.iconst 0, 1) := by decide +kernel
theorem dX12_readsBand_51 : decode cX12_readsBand 51 = .ok (.ireturn, 1) := by decide +kernel
set_option maxRecDepth 20000 in
theorem iw_m_readsBand_X12 : ∀ w ∈ wsX120, w ∈ wsX12_readsBand := by decide +kernel
set_option maxHeartbeats 4000000 in
set_option maxRecDepth 100000 in
theorem m_readsBand (l : Launch) (dC : Nat → ClassId) (dI : Nat → Nat → Nat) (mo : Nat) (nw : Nat) (kp : Nat) (ik : Nat) (mr : Nat) (la_ : Int64) (lb_ : Int64) (mw : Nat) (lc_ : Int64) (ti_ : Int32) (cb_ : Int32) (ld_ : Int64) (le_ : Int64) (mq : Nat) (mz : Nat) (my : Nat) (sm_ : Int32) (mb : Nat) (jb : Nat) (ja : Nat) (jl : Nat) (tk_ : Int32) (vl_ : Int32) (mx : Nat) (mv : Nat) (cb2_ : ClassId) (fy_ : Nat → Int32) (cv_ : ClassId) (fv_ : Nat → Int32) (cx_ : ClassId) (fx_ : Nat → Int32) (sz : Nat) (hOx : tz_OK 86 fx_) (hjb : jb ≤ 150) (hjl : ja + jl ≤ jb) (h3 : tk_ = 3 → 1 ≤ jl) : Met l yX12_readsBand wsX12_readsBand ({ frames := 5, cells := 0, slots := 0, locals := 112 }) (va_Pc [.ref mo] (fun U => U.heap.size = sz ∧ va_P (dC, dI) vwCl [(mo, .inr (12, [.ref nw, .ref kp, .ref ik, .ref mr, .long la_, .long lb_, .ref mw, .long lc_, .int ti_, .int cb_, .long ld_, .long le_, .ref mq, .ref mz, .ref my, .int sm_, .ref mb, .int (nI jb), .int (nI ja), .int (nI jl), .int tk_, .int vl_, .ref mx, .ref mv])), (mb, .inl (cb2_, 150, .inl fy_)), (mv, .inl (cv_, 4, .inl fv_)), (mx, .inl (cx_, 86, .inl fx_))] U.heap ∧ va_K (dC, dI) vwCl [(cb2_, .int), (cv_, .int), (cx_, .int)] U ∧ va_D (fun _ => True) [(mo, .inr (12, [.ref nw, .ref kp, .ref ik, .ref mr, .long la_, .long lb_, .ref mw, .long lc_, .int ti_, .int cb_, .long ld_, .long le_, .ref mq, .ref mz, .ref my, .int sm_, .ref mb, .int (nI jb), .int (nI ja), .int (nI jl), .int tk_, .int vl_, .ref mx, .ref mv])), (mb, .inl (cb2_, 150, .inl fy_)), (mv, .inl (cv_, 4, .inl fv_)), (mx, .inl (cx_, 86, .inl fx_))])) (va_Qi (fun (r : Int32) (_ : Unit) => r = 0 ∨ r = 1) (fun _ t => ∃ (h_token : Int32) (h_value : Int32) (gv_ : Nat → Int32) (gx_ : Nat → Int32) (ga : Nat) (gl : Nat), (tz_OK 86 gx_) ∧ (ja ≤ ga) ∧ (ga + gl ≤ jb) ∧ (h_token = 3 → 1 ≤ gl) ∧ va_P (dC, dI) vwCl [(mo, .inr (12, [.ref nw, .ref kp, .ref ik, .ref mr, .long la_, .long lb_, .ref mw, .long lc_, .int ti_, .int cb_, .long ld_, .long le_, .ref mq, .ref mz, .ref my, .int sm_, .ref mb, .int (nI jb), .int (nI ga), .int (nI gl), .int h_token, .int h_value, .ref mx, .ref mv])), (mb, .inl (cb2_, 150, .inl fy_)), (mv, .inl (cv_, 4, .inl gv_)), (mx, .inl (cx_, 86, .inl gx_))] t.heap ∧ va_K (dC, dI) vwCl [(cb2_, .int), (cv_, .int), (cx_, .int)] t ∧ va_D (va_A [(mo, .inr (12, [.ref nw, .ref kp, .ref ik, .ref mr, .long la_, .long lb_, .ref mw, .long lc_, .int ti_, .int cb_, .long ld_, .long le_, .ref mq, .ref mz, .ref my, .int sm_, .ref mb, .int (nI jb), .int (nI ja), .int (nI jl), .int tk_, .int vl_, .ref mx, .ref mv])), (mb, .inl (cb2_, 150, .inl fy_)), (mv, .inl (cv_, 4, .inl fv_)), (mx, .inl (cx_, 86, .inl fx_))] sz) [(mo, .inr (12, [.ref nw, .ref kp, .ref ik, .ref mr, .long la_, .long lb_, .ref mw, .long lc_, .int ti_, .int cb_, .long ld_, .long le_, .ref mq, .ref mz, .ref my, .int sm_, .ref mb, .int (nI jb), .int (nI ga), .int (nI gl), .int h_token, .int h_value, .ref mx, .ref mv])), (mb, .inl (cb2_, 150, .inl fy_)), (mv, .inl (cv_, 4, .inl gv_)), (mx, .inl (cx_, 86, .inl gx_))]) (va_A [(mo, .inr (12, [.ref nw, .ref kp, .ref ik, .ref mr, .long la_, .long lb_, .ref mw, .long lc_, .int ti_, .int cb_, .long ld_, .long le_, .ref mq, .ref mz, .ref my, .int sm_, .ref mb, .int (nI jb), .int (nI ja), .int (nI jl), .int tk_, .int vl_, .ref mx, .ref mv])), (mb, .inl (cb2_, 150, .inl fy_)), (mv, .inl (cv_, 4, .inl fv_)), (mx, .inl (cx_, 86, .inl fx_))] sz)) 0 0 (va_A [(mo, .inr (12, [.ref nw, .ref kp, .ref ik, .ref mr, .long la_, .long lb_, .ref mw, .long lc_, .int ti_, .int cb_, .long ld_, .long le_, .ref mq, .ref mz, .ref my, .int sm_, .ref mb, .int (nI jb), .int (nI ja), .int (nI jl), .int tk_, .int vl_, .ref mx, .ref mv])), (mb, .inl (cb2_, 150, .inl fy_)), (mv, .inl (cv_, 4, .inl fv_)), (mx, .inl (cx_, 86, .inl fx_))] sz) := by
  refine Met.ofW (cc := cX12_readsBand) (maxL := 1) (ret := (some .boolean)) (by decide) rfl ?_
  intro p e s m args below meth c s₁ B hml hv
  obtain ⟨rfl, hsz, hP, hK, hD0⟩ := hv
  have hx := B.exec
  have hb := B.bytes
  have hr := B.returns
  have hts := atoms_spec (ws := wsX12_readsBand) B.pre
  have hown : s.vm.findClass RX12 = some m.cls := findClass_of_methodNamed B.named
  have hlocks := B.notSynchronized
  subst hsz
  have hD := hD0.self (sz := s.heap.size)
  generalize hAe : va_A [(mo, .inr (12, [.ref nw, .ref kp, .ref ik, .ref mr, .long la_, .long lb_, .ref mw, .long lc_, .int ti_, .int cb_, .long ld_, .long le_, .ref mq, .ref mz, .ref my, .int sm_, .ref mb, .int (nI jb), .int (nI ja), .int (nI jl), .int tk_, .int vl_, .ref mx, .ref mv])), (mb, .inl (cb2_, 150, .inl fy_)), (mv, .inl (cv_, 4, .inl fv_)), (mx, .inl (cx_, 86, .inl fx_))] s.heap.size = A at hD ⊢
  have hA : ∀ q : Nat, s.heap.size ≤ q → A q := fun q h => by rw [← hAe]; exact Or.inr h
  have hS : va_S A s.heap s.heap [] := va_S.rf
  have hP : va_P (dC, dI) vwCl [(mo, .inr (12, [.ref nw, .ref kp, .ref ik, .ref mr, .long la_, .long lb_, .ref mw, .long lc_, .int ti_, .int cb_, .long ld_, .long le_, .ref mq, .ref mz, .ref my, .int sm_, .ref mb, .int (nI jb), .int (nI ja), .int (nI jl), .int tk_, .int vl_, .ref mx, .ref mv])), (mb, .inl (cb2_, 150, .inl fy_)), (mv, .inl (cv_, 4, .inl fv_)), (mx, .inl (cx_, 86, .inl fx_))] s.heap := hP
  have hl := lv_entry ([.ref mo]) (n := 1) (Nat.le_of_ble_eq_true rfl)
  rw [lg_entry_eq]
  generalize (lg_sl ([.ref mo]) ++ List.replicate (1 - (lg_sl ([.ref mo])).length) Slot.unset).toArray = ls at hl ⊢
  have hl : lv_has ls 1 [(0, .ref mo)] := hl
  refine lv_aload_n hx hb dX12_readsBand_0 rfl (lv_at hl 0 rfl) ?_
  have hPc := hP.sub (ws' := [(mo, .inr (12, [.ref nw, .ref kp, .ref ik, .ref mr, .long la_, .long lb_, .ref mw, .long lc_, .int ti_, .int cb_, .long ld_, .long le_, .ref mq, .ref mz, .ref my, .int sm_, .ref mb, .int (nI jb), .int (nI ja), .int (nI jl), .int tk_, .int vl_, .ref mx, .ref mv])), (mb, .inl (cb2_, 150, .inl fy_))]) [0, 1] rfl
  have hDc := hD.sub (ws' := [(mo, .inr (12, [.ref nw, .ref kp, .ref ik, .ref mr, .long la_, .long lb_, .ref mw, .long lc_, .int ti_, .int cb_, .long ld_, .long le_, .ref mq, .ref mz, .ref my, .int sm_, .ref mb, .int (nI jb), .int (nI ja), .int (nI jl), .int tk_, .int vl_, .ref mx, .ref mv])), (mb, .inl (cb2_, 150, .inl fy_))]) [0, 1] (by decide) rfl
  have hKc := hK.sub (tys' := [(cb2_, .int)]) [0] rfl
  have hFc := va_free (wc := [(mo, .inr (12, [.ref nw, .ref kp, .ref ik, .ref mr, .long la_, .long lb_, .ref mw, .long lc_, .int ti_, .int cb_, .long ld_, .long le_, .ref mq, .ref mz, .ref my, .int sm_, .ref mb, .int (nI jb), .int (nI ja), .int (nI jl), .int tk_, .int vl_, .ref mx, .ref mv])), (mb, .inl (cb2_, 150, .inl fy_))]) hD hS hA [0, 1] rfl
  refine va_callv (va_runV (As := []) (rest := []) ⟨hx, hb, hml, hown, hts⟩ (m_goOn l dC dI mo nw kp ik mr la_ lb_ mw lc_ ti_ cb_ ld_ le_ mq mz my sm_ mb jb ja jl tk_ vl_ mx mv cb2_ fy_ s.heap.size hjb hjl) (cwV 0 hts gX12_readsBand_X12_goOn rfl rfl rfl (by decide +kernel) ⟨Nat.le_of_ble_eq_true rfl, Nat.le_of_ble_eq_true rfl⟩) ⟨fun a U g mk q => by obtain ⟨q0, q1, qP, qK, qD⟩ := q; exact ⟨q0, q1, qP, va_K.moved (u := U) (U := U.calling g mk a) (Vm.Alike.refl U.vm) qK, qD⟩, va_recv hK hP (ci := 12) (q0 := 0) rfl rfl, fun U hU hW => ⟨rfl, by rw [hU], by rw [hU]; exact hPc, va_K.moved hW.alike hKc, hDc.weaken (fun _ _ _ _ => trivial)⟩⟩ rfl rfl hl.1 rfl (lv_room (Nat.le_of_ble_eq_true rfl)) dX12_readsBand_1 ⟨Nat.le_of_ble_eq_true rfl, Nat.le_of_ble_eq_true rfl⟩) hS (fun q _ h => hFc q h) hFc (fun u_ t H1 locs ht hvm hw_2 hB hz1 hk1 hS => ?_)
  obtain ⟨h_token_3, h_value_4, ga_5, gl_6, hf_7, hf_8, hf_9, hP1, hK1, hD1⟩ := hB
  rw [ht] at hP1
  have hK1 := va_K.moved hvm.symm hK1
  obtain ⟨hP, hD⟩ := va_join (wr := [(mv, .inl (cv_, 4, .inl fv_)), (mx, .inl (cx_, 86, .inl fx_))]) (w1 := [(mo, .inr (12, [.ref nw, .ref kp, .ref ik, .ref mr, .long la_, .long lb_, .ref mw, .long lc_, .int ti_, .int cb_, .long ld_, .long le_, .ref mq, .ref mz, .ref my, .int sm_, .ref mb, .int (nI jb), .int (nI ga_5), .int (nI gl_6), .int h_token_3, .int h_value_4, .ref mx, .ref mv])), (mb, .inl (cb2_, 150, .inl fy_))]) hP hD [0, 1] [2, 3] rfl rfl (by decide) (by decide) hk1 hFc hP1 hD1
  generalize H1 = H at hP hS ⊢
  have hP : va_P (dC, dI) vwCl [(mv, .inl (cv_, 4, .inl fv_)), (mx, .inl (cx_, 86, .inl fx_)), (mo, .inr (12, [.ref nw, .ref kp, .ref ik, .ref mr, .long la_, .long lb_, .ref mw, .long lc_, .int ti_, .int cb_, .long ld_, .long le_, .ref mq, .ref mz, .ref my, .int sm_, .ref mb, .int (nI jb), .int (nI ga_5), .int (nI gl_6), .int h_token_3, .int h_value_4, .ref mx, .ref mv])), (mb, .inl (cb2_, 150, .inl fy_))] H := hP
  have hD : va_D A [(mv, .inl (cv_, 4, .inl fv_)), (mx, .inl (cx_, 86, .inl fx_)), (mo, .inr (12, [.ref nw, .ref kp, .ref ik, .ref mr, .long la_, .long lb_, .ref mw, .long lc_, .int ti_, .int cb_, .long ld_, .long le_, .ref mq, .ref mz, .ref my, .int sm_, .ref mb, .int (nI jb), .int (nI ga_5), .int (nI gl_6), .int h_token_3, .int h_value_4, .ref mx, .ref mv])), (mb, .inl (cb2_, 150, .inl fy_))] := hD
  refine lv_aload_n hx hb dX12_readsBand_4 rfl (lv_at hl 0 rfl) ?_
  refine lv_iconst (v := 0) hx hb dX12_readsBand_5 (by decide) ?_
  refine lv_iconst (v := 0) hx hb dX12_readsBand_6 (by decide) ?_
  refine lv_aload_n hx hb dX12_readsBand_7 rfl (lv_at hl 0 rfl) ?_
  refine va_get (D := (dC, dI)) (ci := 12) (v := .ref mx) (C := RX12) (T := TX12) (N := 24) hx hb hts iw_m_readsBand_X12 hown hK hP 2 rfl rfl 22 (by decide) (hts (.fieldLink RX12 43 "ThriceCountedModel" "next" "[I") (by decide +kernel)) (fun _ h9 => h9) rfl dX12_readsBand_8 ?_
  refine lv_iconst (v := 1) hx hb dX12_readsBand_11 (by decide) ?_
  refine va_iald hx hb hK hP 1 2 rfl rfl (show ¬ ((1 : Int32) < 0 ∨ 86 ≤ (1 : Int32).toNatClampNeg) by decide) dX12_readsBand_12 ?_
  obtain ⟨j_10, hj_11, ej_12⟩ := hOx.nat (K := 1) (n := 5) (by omega) (show tz_b 1 = (0, 5) from by decide)
  refine tz_i (nI j_10) ej_12 ?_
  refine lv_iconst (v := 1) hx hb dX12_readsBand_13 (by decide) ?_
  refine lv_isub hx hb dX12_readsBand_14 ?_
  have hPc := hP.sub (ws' := [(mo, .inr (12, [.ref nw, .ref kp, .ref ik, .ref mr, .long la_, .long lb_, .ref mw, .long lc_, .int ti_, .int cb_, .long ld_, .long le_, .ref mq, .ref mz, .ref my, .int sm_, .ref mb, .int (nI jb), .int (nI ga_5), .int (nI gl_6), .int h_token_3, .int h_value_4, .ref mx, .ref mv])), (mb, .inl (cb2_, 150, .inl fy_)), (mv, .inl (cv_, 4, .inl fv_))]) [2, 3, 0] rfl
  have hDc := hD.sub (ws' := [(mo, .inr (12, [.ref nw, .ref kp, .ref ik, .ref mr, .long la_, .long lb_, .ref mw, .long lc_, .int ti_, .int cb_, .long ld_, .long le_, .ref mq, .ref mz, .ref my, .int sm_, .ref mb, .int (nI jb), .int (nI ga_5), .int (nI gl_6), .int h_token_3, .int h_value_4, .ref mx, .ref mv])), (mb, .inl (cb2_, 150, .inl fy_)), (mv, .inl (cv_, 4, .inl fv_))]) [2, 3, 0] (by decide) rfl
  have hKc := hK.sub (tys' := [(cb2_, .int), (cv_, .int)]) [0, 1] rfl
  have hFc := va_free (wc := [(mo, .inr (12, [.ref nw, .ref kp, .ref ik, .ref mr, .long la_, .long lb_, .ref mw, .long lc_, .int ti_, .int cb_, .long ld_, .long le_, .ref mq, .ref mz, .ref my, .int sm_, .ref mb, .int (nI jb), .int (nI ga_5), .int (nI gl_6), .int h_token_3, .int h_value_4, .ref mx, .ref mv])), (mb, .inl (cb2_, 150, .inl fy_)), (mv, .inl (cv_, 4, .inl fv_))]) hD hS hA [2, 3, 0] rfl
  refine va_calli (va_runV (As := [.int 0, .int 0, .int ((nI j_10) - 1)]) (rest := []) ⟨hx, hb, hml, hown, hts⟩ (m_takes l dC dI mo nw kp ik mr la_ lb_ mw lc_ ti_ cb_ ld_ le_ mq mz my sm_ mb jb ga_5 gl_6 h_token_3 h_value_4 mx mv cb2_ fy_ cv_ fv_ 0 0 ((nI j_10) - 1) H.size hjb hf_8 hf_9 (by omega)) (cwV 3 hts gX12_readsBand_X12_takes rfl rfl rfl (by decide +kernel) ⟨Nat.le_of_ble_eq_true rfl, Nat.le_of_ble_eq_true rfl⟩) ⟨fun a U g mk q => by obtain ⟨q0, q1, qP, qK, qD⟩ := q; exact ⟨q0, q1, qP, va_K.moved (u := U) (U := U.calling g mk a) (Vm.Alike.refl U.vm) qK, qD⟩, va_recv hK hP (ci := 12) (q0 := 2) rfl rfl, fun U hU hW => ⟨rfl, by rw [hU], by rw [hU]; exact hPc, va_K.moved hW.alike hKc, hDc.weaken (fun _ _ _ _ => trivial)⟩⟩ rfl rfl hl.1 rfl (lv_room (Nat.le_of_ble_eq_true rfl)) dX12_readsBand_15 ⟨Nat.le_of_ble_eq_true rfl, Nat.le_of_ble_eq_true rfl⟩) hS (fun q _ h => hFc q h) hFc (fun r_13 u_ t H1 locs ht hvm hw_14 hB hz1 hk1 hS => ?_)
  obtain ⟨h_token_15, h_value_16, gv__17, ga_18, gl_19, hf_20, hf_21, hf_22, hf_23, hP1, hK1, hD1⟩ := hB
  rw [ht] at hP1
  have hK1 := va_K.moved hvm.symm hK1
  obtain ⟨hP, hD⟩ := va_join (wr := [(mx, .inl (cx_, 86, .inl fx_))]) (w1 := [(mo, .inr (12, [.ref nw, .ref kp, .ref ik, .ref mr, .long la_, .long lb_, .ref mw, .long lc_, .int ti_, .int cb_, .long ld_, .long le_, .ref mq, .ref mz, .ref my, .int sm_, .ref mb, .int (nI jb), .int (nI ga_18), .int (nI gl_19), .int h_token_15, .int h_value_16, .ref mx, .ref mv])), (mb, .inl (cb2_, 150, .inl fy_)), (mv, .inl (cv_, 4, .inl gv__17))]) hP hD [2, 3, 0] [1] rfl rfl (by decide) (by decide) hk1 hFc hP1 hD1
  generalize H1 = H at hP hS ⊢
  have hP : va_P (dC, dI) vwCl [(mx, .inl (cx_, 86, .inl fx_)), (mo, .inr (12, [.ref nw, .ref kp, .ref ik, .ref mr, .long la_, .long lb_, .ref mw, .long lc_, .int ti_, .int cb_, .long ld_, .long le_, .ref mq, .ref mz, .ref my, .int sm_, .ref mb, .int (nI jb), .int (nI ga_18), .int (nI gl_19), .int h_token_15, .int h_value_16, .ref mx, .ref mv])), (mb, .inl (cb2_, 150, .inl fy_)), (mv, .inl (cv_, 4, .inl gv__17))] H := hP
  have hD : va_D A [(mx, .inl (cx_, 86, .inl fx_)), (mo, .inr (12, [.ref nw, .ref kp, .ref ik, .ref mr, .long la_, .long lb_, .ref mw, .long lc_, .int ti_, .int cb_, .long ld_, .long le_, .ref mq, .ref mz, .ref my, .int sm_, .ref mb, .int (nI jb), .int (nI ga_18), .int (nI gl_19), .int h_token_15, .int h_value_16, .ref mx, .ref mv])), (mb, .inl (cb2_, 150, .inl fy_)), (mv, .inl (cv_, 4, .inl gv__17))] := hD
  by_cases hc_24 : (h_token_3 = 2 ∧ (0 ≤ h_value_4 ∧ h_value_4 ≤ ((nI j_10) - 1)))
  · obtain rfl : 1 = r_13 := (hw_14.trans (if_pos hc_24)).symm
    obtain rfl : gv__17 = upd fv_ 0 h_value_4 := hf_23 hc_24
    have hq_26 := hc_24.2
    obtain ⟨j_25, hj_27, rfl⟩ := tz_pickM (J := j_10) hq_26 (by omega)
    refine lv_if_eq (tgt := 50) hx hb dX12_readsBand_18 (by decide) (fun c_28 => ?_) (fun c_28 => ?_)
    · exact absurd c_28 (by decide)
    · refine lv_aload_n hx hb dX12_readsBand_21 rfl (lv_at hl 0 rfl) ?_
      refine lv_iconst (v := 1) hx hb dX12_readsBand_22 (by decide) ?_
      refine lv_bipush (v := 90) hx hb dX12_readsBand_23 (by decide) ?_
      refine lv_bipush (v := 110) hx hb dX12_readsBand_25 (by decide) ?_
      have hPc := hP.sub (ws' := [(mo, .inr (12, [.ref nw, .ref kp, .ref ik, .ref mr, .long la_, .long lb_, .ref mw, .long lc_, .int ti_, .int cb_, .long ld_, .long le_, .ref mq, .ref mz, .ref my, .int sm_, .ref mb, .int (nI jb), .int (nI ga_18), .int (nI gl_19), .int h_token_15, .int h_value_16, .ref mx, .ref mv])), (mb, .inl (cb2_, 150, .inl fy_)), (mv, .inl (cv_, 4, .inl (upd fv_ 0 (nI j_25))))]) [1, 2, 3] rfl
      have hDc := hD.sub (ws' := [(mo, .inr (12, [.ref nw, .ref kp, .ref ik, .ref mr, .long la_, .long lb_, .ref mw, .long lc_, .int ti_, .int cb_, .long ld_, .long le_, .ref mq, .ref mz, .ref my, .int sm_, .ref mb, .int (nI jb), .int (nI ga_18), .int (nI gl_19), .int h_token_15, .int h_value_16, .ref mx, .ref mv])), (mb, .inl (cb2_, 150, .inl fy_)), (mv, .inl (cv_, 4, .inl (upd fv_ 0 (nI j_25))))]) [1, 2, 3] (by decide) rfl
      have hKc := hK.sub (tys' := [(cb2_, .int), (cv_, .int)]) [0, 1] rfl
      have hFc := va_free (wc := [(mo, .inr (12, [.ref nw, .ref kp, .ref ik, .ref mr, .long la_, .long lb_, .ref mw, .long lc_, .int ti_, .int cb_, .long ld_, .long le_, .ref mq, .ref mz, .ref my, .int sm_, .ref mb, .int (nI jb), .int (nI ga_18), .int (nI gl_19), .int h_token_15, .int h_value_16, .ref mx, .ref mv])), (mb, .inl (cb2_, 150, .inl fy_)), (mv, .inl (cv_, 4, .inl (upd fv_ 0 (nI j_25))))]) hD hS hA [1, 2, 3] rfl
      refine va_calli (va_runV (As := [.int 1, .int 90, .int 110]) (rest := []) ⟨hx, hb, hml, hown, hts⟩ (m_takes l dC dI mo nw kp ik mr la_ lb_ mw lc_ ti_ cb_ ld_ le_ mq mz my sm_ mb jb ga_18 gl_19 h_token_15 h_value_16 mx mv cb2_ fy_ cv_ (upd fv_ 0 (nI j_25)) 1 90 110 H.size hjb hf_21 hf_22 (by omega)) (cwV 3 hts gX12_readsBand_X12_takes rfl rfl rfl (by decide +kernel) ⟨Nat.le_of_ble_eq_true rfl, Nat.le_of_ble_eq_true rfl⟩) ⟨fun a U g mk q => by obtain ⟨q0, q1, qP, qK, qD⟩ := q; exact ⟨q0, q1, qP, va_K.moved (u := U) (U := U.calling g mk a) (Vm.Alike.refl U.vm) qK, qD⟩, va_recv hK hP (ci := 12) (q0 := 1) rfl rfl, fun U hU hW => ⟨rfl, by rw [hU], by rw [hU]; exact hPc, va_K.moved hW.alike hKc, hDc.weaken (fun _ _ _ _ => trivial)⟩⟩ rfl rfl hl.1 rfl (lv_room (Nat.le_of_ble_eq_true rfl)) dX12_readsBand_27 ⟨Nat.le_of_ble_eq_true rfl, Nat.le_of_ble_eq_true rfl⟩) hS (fun q _ h => hFc q h) hFc (fun r_29 u_ t H1 locs ht hvm hw_30 hB hz1 hk1 hS => ?_)
      obtain ⟨h_token_31, h_value_32, gv__33, ga_34, gl_35, hf_36, hf_37, hf_38, hf_39, hP1, hK1, hD1⟩ := hB
      rw [ht] at hP1
      have hK1 := va_K.moved hvm.symm hK1
      obtain ⟨hP, hD⟩ := va_join (wr := [(mx, .inl (cx_, 86, .inl fx_))]) (w1 := [(mo, .inr (12, [.ref nw, .ref kp, .ref ik, .ref mr, .long la_, .long lb_, .ref mw, .long lc_, .int ti_, .int cb_, .long ld_, .long le_, .ref mq, .ref mz, .ref my, .int sm_, .ref mb, .int (nI jb), .int (nI ga_34), .int (nI gl_35), .int h_token_31, .int h_value_32, .ref mx, .ref mv])), (mb, .inl (cb2_, 150, .inl fy_)), (mv, .inl (cv_, 4, .inl gv__33))]) hP hD [1, 2, 3] [0] rfl rfl (by decide) (by decide) hk1 hFc hP1 hD1
      generalize H1 = H at hP hS ⊢
      have hP : va_P (dC, dI) vwCl [(mx, .inl (cx_, 86, .inl fx_)), (mo, .inr (12, [.ref nw, .ref kp, .ref ik, .ref mr, .long la_, .long lb_, .ref mw, .long lc_, .int ti_, .int cb_, .long ld_, .long le_, .ref mq, .ref mz, .ref my, .int sm_, .ref mb, .int (nI jb), .int (nI ga_34), .int (nI gl_35), .int h_token_31, .int h_value_32, .ref mx, .ref mv])), (mb, .inl (cb2_, 150, .inl fy_)), (mv, .inl (cv_, 4, .inl gv__33))] H := hP
      have hD : va_D A [(mx, .inl (cx_, 86, .inl fx_)), (mo, .inr (12, [.ref nw, .ref kp, .ref ik, .ref mr, .long la_, .long lb_, .ref mw, .long lc_, .int ti_, .int cb_, .long ld_, .long le_, .ref mq, .ref mz, .ref my, .int sm_, .ref mb, .int (nI jb), .int (nI ga_34), .int (nI gl_35), .int h_token_31, .int h_value_32, .ref mx, .ref mv])), (mb, .inl (cb2_, 150, .inl fy_)), (mv, .inl (cv_, 4, .inl gv__33))] := hD
      by_cases hc_40 : (h_token_15 = 2 ∧ (90 ≤ h_value_16 ∧ h_value_16 ≤ 110))
      · obtain rfl : 1 = r_29 := (hw_30.trans (if_pos hc_40)).symm
        obtain rfl : gv__33 = upd (upd fv_ 0 (nI j_25)) 1 h_value_16 := hf_39 hc_40
        have hq_42 := hc_40.2
        obtain ⟨j_41, hj_43, hj_44, rfl⟩ := tz_pickL (l := 90) (n := 110) hq_42 (by decide) (by decide)
        refine lv_if_eq (tgt := 50) hx hb dX12_readsBand_30 (by decide) (fun c_45 => ?_) (fun c_45 => ?_)
        · exact absurd c_45 (by decide)
        · refine lv_aload_n hx hb dX12_readsBand_33 rfl (lv_at hl 0 rfl) ?_
          refine lv_iconst (v := 2) hx hb dX12_readsBand_34 (by decide) ?_
          refine lv_iconst (v := 0) hx hb dX12_readsBand_35 (by decide) ?_
          refine lv_aload_n hx hb dX12_readsBand_36 rfl (lv_at hl 0 rfl) ?_
          refine va_get (D := (dC, dI)) (ci := 12) (v := .ref mx) (C := RX12) (T := TX12) (N := 24) hx hb hts iw_m_readsBand_X12 hown hK hP 1 rfl rfl 22 (by decide) (hts (.fieldLink RX12 43 "ThriceCountedModel" "next" "[I") (by decide +kernel)) (fun _ h9 => h9) rfl dX12_readsBand_37 ?_
          refine lv_iconst (v := 0) hx hb dX12_readsBand_40 (by decide) ?_
          refine va_iald hx hb hK hP 0 2 rfl rfl (show ¬ ((0 : Int32) < 0 ∨ 86 ≤ (0 : Int32).toNatClampNeg) by decide) dX12_readsBand_41 ?_
          obtain ⟨j_46, hj_47, ej_48⟩ := hOx.nat (K := 0) (n := 5) (by omega) (show tz_b 0 = (0, 5) from by decide)
          refine tz_i (nI j_46) ej_48 ?_
          refine lv_iconst (v := 1) hx hb dX12_readsBand_42 (by decide) ?_
          refine lv_isub hx hb dX12_readsBand_43 ?_
          have hPc := hP.sub (ws' := [(mo, .inr (12, [.ref nw, .ref kp, .ref ik, .ref mr, .long la_, .long lb_, .ref mw, .long lc_, .int ti_, .int cb_, .long ld_, .long le_, .ref mq, .ref mz, .ref my, .int sm_, .ref mb, .int (nI jb), .int (nI ga_34), .int (nI gl_35), .int h_token_31, .int h_value_32, .ref mx, .ref mv])), (mb, .inl (cb2_, 150, .inl fy_)), (mv, .inl (cv_, 4, .inl (upd (upd fv_ 0 (nI j_25)) 1 (nI j_41))))]) [1, 2, 3] rfl
          have hDc := hD.sub (ws' := [(mo, .inr (12, [.ref nw, .ref kp, .ref ik, .ref mr, .long la_, .long lb_, .ref mw, .long lc_, .int ti_, .int cb_, .long ld_, .long le_, .ref mq, .ref mz, .ref my, .int sm_, .ref mb, .int (nI jb), .int (nI ga_34), .int (nI gl_35), .int h_token_31, .int h_value_32, .ref mx, .ref mv])), (mb, .inl (cb2_, 150, .inl fy_)), (mv, .inl (cv_, 4, .inl (upd (upd fv_ 0 (nI j_25)) 1 (nI j_41))))]) [1, 2, 3] (by decide) rfl
          have hKc := hK.sub (tys' := [(cb2_, .int), (cv_, .int)]) [0, 1] rfl
          have hFc := va_free (wc := [(mo, .inr (12, [.ref nw, .ref kp, .ref ik, .ref mr, .long la_, .long lb_, .ref mw, .long lc_, .int ti_, .int cb_, .long ld_, .long le_, .ref mq, .ref mz, .ref my, .int sm_, .ref mb, .int (nI jb), .int (nI ga_34), .int (nI gl_35), .int h_token_31, .int h_value_32, .ref mx, .ref mv])), (mb, .inl (cb2_, 150, .inl fy_)), (mv, .inl (cv_, 4, .inl (upd (upd fv_ 0 (nI j_25)) 1 (nI j_41))))]) hD hS hA [1, 2, 3] rfl
          refine va_calli (va_runV (As := [.int 2, .int 0, .int ((nI j_46) - 1)]) (rest := []) ⟨hx, hb, hml, hown, hts⟩ (m_takes l dC dI mo nw kp ik mr la_ lb_ mw lc_ ti_ cb_ ld_ le_ mq mz my sm_ mb jb ga_34 gl_35 h_token_31 h_value_32 mx mv cb2_ fy_ cv_ (upd (upd fv_ 0 (nI j_25)) 1 (nI j_41)) 2 0 ((nI j_46) - 1) H.size hjb hf_37 hf_38 (by omega)) (cwV 3 hts gX12_readsBand_X12_takes rfl rfl rfl (by decide +kernel) ⟨Nat.le_of_ble_eq_true rfl, Nat.le_of_ble_eq_true rfl⟩) ⟨fun a U g mk q => by obtain ⟨q0, q1, qP, qK, qD⟩ := q; exact ⟨q0, q1, qP, va_K.moved (u := U) (U := U.calling g mk a) (Vm.Alike.refl U.vm) qK, qD⟩, va_recv hK hP (ci := 12) (q0 := 1) rfl rfl, fun U hU hW => ⟨rfl, by rw [hU], by rw [hU]; exact hPc, va_K.moved hW.alike hKc, hDc.weaken (fun _ _ _ _ => trivial)⟩⟩ rfl rfl hl.1 rfl (lv_room (Nat.le_of_ble_eq_true rfl)) dX12_readsBand_44 ⟨Nat.le_of_ble_eq_true rfl, Nat.le_of_ble_eq_true rfl⟩) hS (fun q _ h => hFc q h) hFc (fun r_49 u_ t H1 locs ht hvm hw_50 hB hz1 hk1 hS => ?_)
          obtain ⟨h_token_51, h_value_52, gv__53, ga_54, gl_55, hf_56, hf_57, hf_58, hf_59, hP1, hK1, hD1⟩ := hB
          rw [ht] at hP1
          have hK1 := va_K.moved hvm.symm hK1
          obtain ⟨hP, hD⟩ := va_join (wr := [(mx, .inl (cx_, 86, .inl fx_))]) (w1 := [(mo, .inr (12, [.ref nw, .ref kp, .ref ik, .ref mr, .long la_, .long lb_, .ref mw, .long lc_, .int ti_, .int cb_, .long ld_, .long le_, .ref mq, .ref mz, .ref my, .int sm_, .ref mb, .int (nI jb), .int (nI ga_54), .int (nI gl_55), .int h_token_51, .int h_value_52, .ref mx, .ref mv])), (mb, .inl (cb2_, 150, .inl fy_)), (mv, .inl (cv_, 4, .inl gv__53))]) hP hD [1, 2, 3] [0] rfl rfl (by decide) (by decide) hk1 hFc hP1 hD1
          generalize H1 = H at hP hS ⊢
          have hP : va_P (dC, dI) vwCl [(mx, .inl (cx_, 86, .inl fx_)), (mo, .inr (12, [.ref nw, .ref kp, .ref ik, .ref mr, .long la_, .long lb_, .ref mw, .long lc_, .int ti_, .int cb_, .long ld_, .long le_, .ref mq, .ref mz, .ref my, .int sm_, .ref mb, .int (nI jb), .int (nI ga_54), .int (nI gl_55), .int h_token_51, .int h_value_52, .ref mx, .ref mv])), (mb, .inl (cb2_, 150, .inl fy_)), (mv, .inl (cv_, 4, .inl gv__53))] H := hP
          have hD : va_D A [(mx, .inl (cx_, 86, .inl fx_)), (mo, .inr (12, [.ref nw, .ref kp, .ref ik, .ref mr, .long la_, .long lb_, .ref mw, .long lc_, .int ti_, .int cb_, .long ld_, .long le_, .ref mq, .ref mz, .ref my, .int sm_, .ref mb, .int (nI jb), .int (nI ga_54), .int (nI gl_55), .int h_token_51, .int h_value_52, .ref mx, .ref mv])), (mb, .inl (cb2_, 150, .inl fy_)), (mv, .inl (cv_, 4, .inl gv__53))] := hD
          by_cases hc_60 : (h_token_31 = 2 ∧ (0 ≤ h_value_32 ∧ h_value_32 ≤ ((nI j_46) - 1)))
          · obtain rfl : 1 = r_49 := (hw_50.trans (if_pos hc_60)).symm
            obtain rfl : gv__53 = upd (upd (upd fv_ 0 (nI j_25)) 1 (nI j_41)) 2 h_value_32 := hf_59 hc_60
            have hq_62 := hc_60.2
            obtain ⟨j_61, hj_63, rfl⟩ := tz_pickM (J := j_46) hq_62 (by omega)
            refine lv_if_ne (tgt := 52) hx hb dX12_readsBand_47 (by decide) (fun c_64 => ?_) (fun c_64 => ?_)
            · refine lv_aload_n hx hb dX12_readsBand_52 rfl (lv_at hl 0 rfl) ?_
              refine va_get (D := (dC, dI)) (ci := 12) (v := .ref mx) (C := RX12) (T := TX12) (N := 24) hx hb hts iw_m_readsBand_X12 hown hK hP 1 rfl rfl 22 (by decide) (hts (.fieldLink RX12 43 "ThriceCountedModel" "next" "[I") (by decide +kernel)) (fun _ h9 => h9) rfl dX12_readsBand_53 ?_
              refine lv_aload_n hx hb dX12_readsBand_56 rfl (lv_at hl 0 rfl) ?_
              refine va_get (D := (dC, dI)) (ci := 12) (v := .ref mv) (C := RX12) (T := TX12) (N := 24) hx hb hts iw_m_readsBand_X12 hown hK hP 1 rfl rfl 23 (by decide) (hts (.fieldLink RX12 46 "ThriceCountedModel" "values" "[I") (by decide +kernel)) (fun _ h9 => h9) rfl dX12_readsBand_57 ?_
              refine lv_iconst (v := 0) hx hb dX12_readsBand_60 (by decide) ?_
              refine va_iald hx hb hK hP 3 1 rfl rfl (show ¬ ((0 : Int32) < 0 ∨ 4 ≤ (0 : Int32).toNatClampNeg) by decide) dX12_readsBand_61 ?_
              refine tz_i (nI j_25) rfl ?_
              refine lv_aload_n hx hb dX12_readsBand_62 rfl (lv_at hl 0 rfl) ?_
              refine va_get (D := (dC, dI)) (ci := 12) (v := .ref mv) (C := RX12) (T := TX12) (N := 24) hx hb hts iw_m_readsBand_X12 hown hK hP 1 rfl rfl 23 (by decide) (hts (.fieldLink RX12 46 "ThriceCountedModel" "values" "[I") (by decide +kernel)) (fun _ h9 => h9) rfl dX12_readsBand_63 ?_
              refine lv_iconst (v := 1) hx hb dX12_readsBand_66 (by decide) ?_
              refine va_iald hx hb hK hP 3 1 rfl rfl (show ¬ ((1 : Int32) < 0 ∨ 4 ≤ (1 : Int32).toNatClampNeg) by decide) dX12_readsBand_67 ?_
              refine tz_i (nI j_41) rfl ?_
              refine lv_aload_n hx hb dX12_readsBand_68 rfl (lv_at hl 0 rfl) ?_
              refine va_get (D := (dC, dI)) (ci := 12) (v := .ref mv) (C := RX12) (T := TX12) (N := 24) hx hb hts iw_m_readsBand_X12 hown hK hP 1 rfl rfl 23 (by decide) (hts (.fieldLink RX12 46 "ThriceCountedModel" "values" "[I") (by decide +kernel)) (fun _ h9 => h9) rfl dX12_readsBand_69 ?_
              refine lv_iconst (v := 2) hx hb dX12_readsBand_72 (by decide) ?_
              refine va_iald hx hb hK hP 3 1 rfl rfl (show ¬ ((2 : Int32) < 0 ∨ 4 ≤ (2 : Int32).toNatClampNeg) by decide) dX12_readsBand_73 ?_
              refine tz_i (nI j_61) rfl ?_
              have hPc := hP.sub (ws' := [(mx, .inl (cx_, 86, .inl fx_))]) [0] rfl
              have hDc := hD.sub (ws' := [(mx, .inl (cx_, 86, .inl fx_))]) [0] (by decide) rfl
              have hKc := hK.sub (tys' := [(cx_, .int)]) [2] rfl
              have hFc := va_free (wc := [(mx, .inl (cx_, 86, .inl fx_))]) hD hS hA [0] rfl
              refine va_callv (va_runS (As := [.ref mx, .int (nI j_25), .int (nI j_41), .int (nI j_61)]) (rest := []) ⟨hx, hb, hml, hown, hts⟩ (m_layBand_86 l dC dI mx cx_ fx_ j_25 (nI j_41) j_61 H.size hOx (by omega) (by omega)) (va_cwS 4 hts gX12_readsBand_X12_layBand rfl rfl rfl (by decide +kernel) ⟨Nat.le_of_ble_eq_true rfl, Nat.le_of_ble_eq_true rfl⟩) ⟨fun a U g mk q => by obtain ⟨q0, q1, qP, qK, qD⟩ := q; exact ⟨q0, q1, qP, va_K.moved (u := U) (U := U.calling g mk a) (Vm.Alike.refl U.vm) qK, qD⟩, fun U hU hW => ⟨rfl, by rw [hU], by rw [hU]; exact hPc, va_K.moved hW.alike hKc, hDc.weaken (fun _ _ _ _ => trivial)⟩⟩ rfl rfl hl.1 rfl (lv_room (Nat.le_of_ble_eq_true rfl)) dX12_readsBand_74 ⟨Nat.le_of_ble_eq_true rfl, Nat.le_of_ble_eq_true rfl⟩) hS (fun q _ h => hFc q h) hFc (fun u_ t H1 locs ht hvm hw_66 hB hz1 hk1 hS => ?_)
              obtain ⟨gf_67, hf_68, hP1, hK1, hD1⟩ := hB
              rw [ht] at hP1
              have hK1 := va_K.moved hvm.symm hK1
              obtain ⟨hP, hD⟩ := va_join (wr := [(mo, .inr (12, [.ref nw, .ref kp, .ref ik, .ref mr, .long la_, .long lb_, .ref mw, .long lc_, .int ti_, .int cb_, .long ld_, .long le_, .ref mq, .ref mz, .ref my, .int sm_, .ref mb, .int (nI jb), .int (nI ga_54), .int (nI gl_55), .int h_token_51, .int h_value_52, .ref mx, .ref mv])), (mb, .inl (cb2_, 150, .inl fy_)), (mv, .inl (cv_, 4, .inl (upd (upd (upd fv_ 0 (nI j_25)) 1 (nI j_41)) 2 (nI j_61))))]) (w1 := [(mx, .inl (cx_, 86, .inl gf_67))]) hP hD [0] [1, 2, 3] rfl rfl (by decide) (by decide) hk1 hFc hP1 hD1
              generalize H1 = H at hP hS ⊢
              have hP : va_P (dC, dI) vwCl [(mo, .inr (12, [.ref nw, .ref kp, .ref ik, .ref mr, .long la_, .long lb_, .ref mw, .long lc_, .int ti_, .int cb_, .long ld_, .long le_, .ref mq, .ref mz, .ref my, .int sm_, .ref mb, .int (nI jb), .int (nI ga_54), .int (nI gl_55), .int h_token_51, .int h_value_52, .ref mx, .ref mv])), (mb, .inl (cb2_, 150, .inl fy_)), (mv, .inl (cv_, 4, .inl (upd (upd (upd fv_ 0 (nI j_25)) 1 (nI j_41)) 2 (nI j_61)))), (mx, .inl (cx_, 86, .inl gf_67))] H := hP
              have hD : va_D A [(mo, .inr (12, [.ref nw, .ref kp, .ref ik, .ref mr, .long la_, .long lb_, .ref mw, .long lc_, .int ti_, .int cb_, .long ld_, .long le_, .ref mq, .ref mz, .ref my, .int sm_, .ref mb, .int (nI jb), .int (nI ga_54), .int (nI gl_55), .int h_token_51, .int h_value_52, .ref mx, .ref mv])), (mb, .inl (cb2_, 150, .inl fy_)), (mv, .inl (cv_, 4, .inl (upd (upd (upd fv_ 0 (nI j_25)) 1 (nI j_41)) 2 (nI j_61)))), (mx, .inl (cx_, 86, .inl gf_67))] := hD
              refine lv_iconst (v := 1) hx hb dX12_readsBand_77 (by decide) ?_
              have hP9 := hP.sub (ws' := [(mo, .inr (12, [.ref nw, .ref kp, .ref ik, .ref mr, .long la_, .long lb_, .ref mw, .long lc_, .int ti_, .int cb_, .long ld_, .long le_, .ref mq, .ref mz, .ref my, .int sm_, .ref mb, .int (nI jb), .int (nI ga_54), .int (nI gl_55), .int h_token_51, .int h_value_52, .ref mx, .ref mv])), (mb, .inl (cb2_, 150, .inl fy_)), (mv, .inl (cv_, 4, .inl (upd (upd (upd fv_ 0 (nI j_25)) 1 (nI j_41)) 2 (nI j_61)))), (mx, .inl (cx_, 86, .inl gf_67))]) [0, 1, 2, 3] rfl
              have hD9 := hD.sub (ws' := [(mo, .inr (12, [.ref nw, .ref kp, .ref ik, .ref mr, .long la_, .long lb_, .ref mw, .long lc_, .int ti_, .int cb_, .long ld_, .long le_, .ref mq, .ref mz, .ref my, .int sm_, .ref mb, .int (nI jb), .int (nI ga_54), .int (nI gl_55), .int h_token_51, .int h_value_52, .ref mx, .ref mv])), (mb, .inl (cb2_, 150, .inl fy_)), (mv, .inl (cv_, 4, .inl (upd (upd (upd fv_ 0 (nI j_25)) 1 (nI j_41)) 2 (nI j_61)))), (mx, .inl (cx_, 86, .inl gf_67))]) [0, 1, 2, 3] (by decide) rfl
              have hK9 := hK.sub (tys' := [(cb2_, .int), (cv_, .int), (cx_, .int)]) [0, 1, 2] rfl
              exact W.zret (v := 1) hx hb hr (by decide) (fun t ht hW => ⟨⟨1, (), rfl, Or.inr rfl, h_token_51, h_value_52, (upd (upd (upd fv_ 0 (nI j_25)) 1 (nI j_41)) 2 (nI j_61)), gf_67, ga_54, gl_55, hf_68, by omega, by omega, hf_58, by rw [ht]; exact hP9, va_K.moved hW.alike hK9, hD9⟩, hS.F ht⟩) hS.2.2 dX12_readsBand_78
            · exact absurd c_64 (by decide)
          · obtain rfl : 0 = r_49 := (hw_50.trans (if_neg hc_60)).symm
            refine lv_if_ne (tgt := 52) hx hb dX12_readsBand_47 (by decide) (fun c_69 => ?_) (fun c_69 => ?_)
            · exact absurd c_69 (by decide)
            · refine lv_iconst (v := 0) hx hb dX12_readsBand_50 (by decide) ?_
              have hP9 := hP.sub (ws' := [(mo, .inr (12, [.ref nw, .ref kp, .ref ik, .ref mr, .long la_, .long lb_, .ref mw, .long lc_, .int ti_, .int cb_, .long ld_, .long le_, .ref mq, .ref mz, .ref my, .int sm_, .ref mb, .int (nI jb), .int (nI ga_54), .int (nI gl_55), .int h_token_51, .int h_value_52, .ref mx, .ref mv])), (mb, .inl (cb2_, 150, .inl fy_)), (mv, .inl (cv_, 4, .inl gv__53)), (mx, .inl (cx_, 86, .inl fx_))]) [1, 2, 3, 0] rfl
              have hD9 := hD.sub (ws' := [(mo, .inr (12, [.ref nw, .ref kp, .ref ik, .ref mr, .long la_, .long lb_, .ref mw, .long lc_, .int ti_, .int cb_, .long ld_, .long le_, .ref mq, .ref mz, .ref my, .int sm_, .ref mb, .int (nI jb), .int (nI ga_54), .int (nI gl_55), .int h_token_51, .int h_value_52, .ref mx, .ref mv])), (mb, .inl (cb2_, 150, .inl fy_)), (mv, .inl (cv_, 4, .inl gv__53)), (mx, .inl (cx_, 86, .inl fx_))]) [1, 2, 3, 0] (by decide) rfl
              have hK9 := hK.sub (tys' := [(cb2_, .int), (cv_, .int), (cx_, .int)]) [0, 1, 2] rfl
              exact W.zret (v := 0) hx hb hr (by decide) (fun t ht hW => ⟨⟨0, (), rfl, Or.inl rfl, h_token_51, h_value_52, gv__53, fx_, ga_54, gl_55, hOx, by omega, by omega, hf_58, by rw [ht]; exact hP9, va_K.moved hW.alike hK9, hD9⟩, hS.F ht⟩) hS.2.2 dX12_readsBand_51
      · obtain rfl : 0 = r_29 := (hw_30.trans (if_neg hc_40)).symm
        refine lv_if_eq (tgt := 50) hx hb dX12_readsBand_30 (by decide) (fun c_70 => ?_) (fun c_70 => ?_)
        · refine lv_iconst (v := 0) hx hb dX12_readsBand_50 (by decide) ?_
          have hP9 := hP.sub (ws' := [(mo, .inr (12, [.ref nw, .ref kp, .ref ik, .ref mr, .long la_, .long lb_, .ref mw, .long lc_, .int ti_, .int cb_, .long ld_, .long le_, .ref mq, .ref mz, .ref my, .int sm_, .ref mb, .int (nI jb), .int (nI ga_34), .int (nI gl_35), .int h_token_31, .int h_value_32, .ref mx, .ref mv])), (mb, .inl (cb2_, 150, .inl fy_)), (mv, .inl (cv_, 4, .inl gv__33)), (mx, .inl (cx_, 86, .inl fx_))]) [1, 2, 3, 0] rfl
          have hD9 := hD.sub (ws' := [(mo, .inr (12, [.ref nw, .ref kp, .ref ik, .ref mr, .long la_, .long lb_, .ref mw, .long lc_, .int ti_, .int cb_, .long ld_, .long le_, .ref mq, .ref mz, .ref my, .int sm_, .ref mb, .int (nI jb), .int (nI ga_34), .int (nI gl_35), .int h_token_31, .int h_value_32, .ref mx, .ref mv])), (mb, .inl (cb2_, 150, .inl fy_)), (mv, .inl (cv_, 4, .inl gv__33)), (mx, .inl (cx_, 86, .inl fx_))]) [1, 2, 3, 0] (by decide) rfl
          have hK9 := hK.sub (tys' := [(cb2_, .int), (cv_, .int), (cx_, .int)]) [0, 1, 2] rfl
          exact W.zret (v := 0) hx hb hr (by decide) (fun t ht hW => ⟨⟨0, (), rfl, Or.inl rfl, h_token_31, h_value_32, gv__33, fx_, ga_34, gl_35, hOx, by omega, by omega, hf_38, by rw [ht]; exact hP9, va_K.moved hW.alike hK9, hD9⟩, hS.F ht⟩) hS.2.2 dX12_readsBand_51
        · exact absurd c_70 (by decide)
  · obtain rfl : 0 = r_13 := (hw_14.trans (if_neg hc_24)).symm
    refine lv_if_eq (tgt := 50) hx hb dX12_readsBand_18 (by decide) (fun c_71 => ?_) (fun c_71 => ?_)
    · refine lv_iconst (v := 0) hx hb dX12_readsBand_50 (by decide) ?_
      have hP9 := hP.sub (ws' := [(mo, .inr (12, [.ref nw, .ref kp, .ref ik, .ref mr, .long la_, .long lb_, .ref mw, .long lc_, .int ti_, .int cb_, .long ld_, .long le_, .ref mq, .ref mz, .ref my, .int sm_, .ref mb, .int (nI jb), .int (nI ga_18), .int (nI gl_19), .int h_token_15, .int h_value_16, .ref mx, .ref mv])), (mb, .inl (cb2_, 150, .inl fy_)), (mv, .inl (cv_, 4, .inl gv__17)), (mx, .inl (cx_, 86, .inl fx_))]) [1, 2, 3, 0] rfl
      have hD9 := hD.sub (ws' := [(mo, .inr (12, [.ref nw, .ref kp, .ref ik, .ref mr, .long la_, .long lb_, .ref mw, .long lc_, .int ti_, .int cb_, .long ld_, .long le_, .ref mq, .ref mz, .ref my, .int sm_, .ref mb, .int (nI jb), .int (nI ga_18), .int (nI gl_19), .int h_token_15, .int h_value_16, .ref mx, .ref mv])), (mb, .inl (cb2_, 150, .inl fy_)), (mv, .inl (cv_, 4, .inl gv__17)), (mx, .inl (cx_, 86, .inl fx_))]) [1, 2, 3, 0] (by decide) rfl
      have hK9 := hK.sub (tys' := [(cb2_, .int), (cv_, .int), (cx_, .int)]) [0, 1, 2] rfl
      exact W.zret (v := 0) hx hb hr (by decide) (fun t ht hW => ⟨⟨0, (), rfl, Or.inl rfl, h_token_15, h_value_16, gv__17, fx_, ga_18, gl_19, hOx, by omega, by omega, hf_22, by rw [ht]; exact hP9, va_K.moved hW.alike hK9, hD9⟩, hS.F ht⟩) hS.2.2 dX12_readsBand_51
    · exact absurd c_71 (by decide)
set_option maxRecDepth 20000 in
theorem ggX12_readsCount_X12_goOn : GoodIn wsX12_readsCount wsX12_goOn := goodIn_r _ [7, 8, 9, 10, 11, 12, 6, 13, 14, 15, 16, 17, 18, 19, 20, 21, 22, 23, 24, 25, 26, 27, 28, 29, 30, 38, 39, 40, 41, 42, 43, 44, 45, 46, 47, 48, 49, 50, 51, 52, 53, 54, 55, 56, 57, 58, 59, 60, 61] (by decide +kernel) (by decide +kernel)
set_option maxRecDepth 20000 in
theorem gX12_readsCount_X12_goOn : GoodIn wsX12_readsCount (wsV RX12 285 RX12 yX12_goOn wsX12_goOn) := goodIn_app (goodIn_of _ (by decide +kernel)) ggX12_readsCount_X12_goOn
set_option maxRecDepth 20000 in
theorem ggX12_readsCount_X12_takes : GoodIn wsX12_readsCount wsX12_takes := goodIn_r _ [34, 16, 17, 2, 23, 24, 6, 25, 3, 4, 5, 7, 8, 9, 10, 11, 12, 13, 14, 15, 18, 19, 20, 21, 22, 26, 27, 28, 29, 30, 38, 39, 40, 41, 42, 43, 44, 45, 46, 47, 48, 49, 50, 51, 52, 53, 54, 55, 56, 57, 58, 59, 60, 61] (by decide +kernel) (by decide +kernel)
set_option maxRecDepth 20000 in
theorem gX12_readsCount_X12_takes : GoodIn wsX12_readsCount (wsV RX12 292 RX12 yX12_takes wsX12_takes) := goodIn_app (goodIn_of _ (by decide +kernel)) ggX12_readsCount_X12_takes
set_option maxRecDepth 20000 in
theorem ggX12_readsCount_X12_layCount : GoodIn wsX12_readsCount wsX12_layCount := goodIn_r _ [37] (by decide +kernel) (by decide +kernel)
set_option maxRecDepth 20000 in
theorem gX12_readsCount_X12_layCount : GoodIn wsX12_readsCount (va_wsS RX12 106 yX12_layCount wsX12_layCount) := goodIn_app (goodIn_of _ (by decide +kernel)) ggX12_readsCount_X12_layCount
theorem dX12_readsCount_0 : decode cX12_readsCount 0 = .ok (.aload_n 0, 1) := by decide +kernel
theorem dX12_readsCount_1 : decode cX12_readsCount 1 = .ok (.getfield 43, 3) := by decide +kernel
theorem dX12_readsCount_4 : decode cX12_readsCount 4 = .ok (.iconst 2, 1) := by decide +kernel
theorem dX12_readsCount_5 : decode cX12_readsCount 5 = .ok (.iaload, 1) := by decide +kernel
theorem dX12_readsCount_6 : decode cX12_readsCount 6 = .ok (.bipush 8, 2) := by decide +kernel
theorem dX12_readsCount_8 : decode cX12_readsCount 8 = .ok (.if_icmp .ne 5, 3) := by decide +kernel
theorem dX12_readsCount_13 : decode cX12_readsCount 13 = .ok (.aload_n 0, 1) := by decide +kernel
theorem dX12_readsCount_14 : decode cX12_readsCount 14 = .ok (.invokevirtual 285, 3) := by decide +kernel
theorem dX12_readsCount_17 : decode cX12_readsCount 17 = .ok (.aload_n 0, 1) := by decide +kernel
theorem dX12_readsCount_18 : decode cX12_readsCount 18 = .ok (.iconst 0, 1) := by decide +kernel
theorem dX12_readsCount_19 : decode cX12_readsCount 19 = .ok (.iconst 0, 1) := by decide +kernel
theorem dX12_readsCount_20 : decode cX12_readsCount 20 = .ok (.aload_n 0, 1) := by decide +kernel
theorem dX12_readsCount_21 : decode cX12_readsCount 21 = .ok (.getfield 43, 3) := by decide +kernel
theorem dX12_readsCount_24 : decode cX12_readsCount 24 = .ok (.iconst 1, 1) := by decide +kernel
theorem dX12_readsCount_25 : decode cX12_readsCount 25 = .ok (.iaload, 1) := by decide +kernel
theorem dX12_readsCount_26 : decode cX12_readsCount 26 = .ok (.iconst 1, 1) := by decide +kernel
theorem dX12_readsCount_27 : decode cX12_readsCount 27 = .ok (.isub, 1) := by decide +kernel
theorem dX12_readsCount_28 : decode cX12_readsCount 28 = .ok (.invokevirtual 292, 3) := by decide +kernel
theorem dX12_readsCount_31 : decode cX12_readsCount 31 = .ok (.ifCond .eq 42, 3) := by decide +kernel
theorem dX12_readsCount_34 : decode cX12_readsCount 34 = .ok (.aload_n 0, 1) := by decide +kernel
theorem dX12_readsCount_35 : decode cX12_readsCount 35 = .ok (.iconst 1, 1) := by decide +kernel
theorem dX12_readsCount_36 : decode cX12_readsCount 36 = .ok (.iconst 0, 1) := by decide +kernel
theorem dX12_readsCount_37 : decode cX12_readsCount 37 = .ok (.iconst 5, 1) := by decide +kernel
theorem dX12_readsCount_38 : decode cX12_readsCount 38 = .ok (.invokevirtual 292, 3) := by decide +kernel
theorem dX12_readsCount_41 : decode cX12_readsCount 41 = .ok (.ifCond .eq 32, 3) := by decide +kernel
theorem dX12_readsCount_44 : decode cX12_readsCount 44 = .ok (.aload_n 0, 1) := by decide +kernel
theorem dX12_readsCount_45 : decode cX12_readsCount 45 = .ok (.iconst 2, 1) := by decide +kernel
theorem dX12_readsCount_46 : decode cX12_readsCount 46 = .ok (.iconst 0, 1) := by decide +kernel
theorem dX12_readsCount_47 : decode cX12_readsCount 47 = .ok (.aload_n 0, 1) := by decide +kernel
theorem dX12_readsCount_48 : decode cX12_readsCount 48 = .ok (.getfield 43, 3) := by decide +kernel
theorem dX12_readsCount_51 : decode cX12_readsCount 51 = .ok (.iconst 0, 1) := by decide +kernel
theorem dX12_readsCount_52 : decode cX12_readsCount 52 = .ok (.iaload, 1) := by decide +kernel
theorem dX12_readsCount_53 : decode cX12_readsCount 53 = .ok (.iconst 1, 1) := by decide +kernel
theorem dX12_readsCount_54 : decode cX12_readsCount 54 = .ok (.isub, 1) := by decide +kernel
theorem dX12_readsCount_55 : decode cX12_readsCount 55 = .ok (.invokevirtual 292, 3) := by decide +kernel
theorem dX12_readsCount_58 : decode cX12_readsCount 58 = .ok (.ifCond .eq 15, 3) := by decide +kernel
theorem dX12_readsCount_61 : decode cX12_readsCount 61 = .ok (.aload_n 0, 1) := by decide +kernel
theorem dX12_readsCount_62 : decode cX12_readsCount 62 = .ok (.iconst 3, 1) := by decide +kernel
theorem dX12_readsCount_63 : decode cX12_readsCount 63 = .ok (.bipush 80, 2) := by decide +kernel
theorem dX12_readsCount_65 : decode cX12_readsCount 65 = .ok (.bipush 120, 2) := by decide +kernel
theorem dX12_readsCount_67 : decode cX12_readsCount 67 = .ok (.invokevirtual 292, 3) := by decide +kernel
theorem dX12_readsCount_70 : decode cX12_readsCount 70 = .ok (.ifCond .ne 5, 3) := by decide +kernel
theorem dX12_readsCount_75 : decode cX12_readsCount 75 = .ok (.aload_n 0, 1) := by decide +kernel
theorem dX12_readsCount_76 : decode cX12_readsCount 76 = .ok (.getfield 43, 3) := by decide +kernel
theorem dX12_readsCount_79 : decode cX12_readsCount 79 = .ok (.aload_n 0, 1) := by decide +kernel
theorem dX12_readsCount_80 : decode cX12_readsCount 80 = .ok (.getfield 46, 3) := by decide +kernel
theorem dX12_readsCount_83 : decode cX12_readsCount 83 = .ok (.iconst 0, 1) := by decide +kernel
theorem dX12_readsCount_84 : decode cX12_readsCount 84 = .ok (.iaload, 1) := by decide +kernel
theorem dX12_readsCount_85 : decode cX12_readsCount 85 = .ok (.aload_n 0, 1) := by decide +kernel
theorem dX12_readsCount_86 : decode cX12_readsCount 86 = .ok (.getfield 46, 3) := by decide +kernel
theorem dX12_readsCount_89 : decode cX12_readsCount 89 = .ok (.iconst 1, 1) := by decide +kernel
theorem dX12_readsCount_90 : decode cX12_readsCount 90 = .ok (.iaload, 1) := by decide +kernel
theorem dX12_readsCount_91 : decode cX12_readsCount 91 = .ok (.aload_n 0, 1) := by decide +kernel
theorem dX12_readsCount_92 : decode cX12_readsCount 92 = .ok (.getfield 46, 3) := by decide +kernel
theorem dX12_readsCount_95 : decode cX12_readsCount 95 = .ok (.iconst 2, 1) := by decide +kernel
theorem dX12_readsCount_96 : decode cX12_readsCount 96 = .ok (.iaload, 1) := by decide +kernel
theorem dX12_readsCount_97 : decode cX12_readsCount 97 = .ok (.aload_n 0, 1) := by decide +kernel
theorem dX12_readsCount_98 : decode cX12_readsCount 98 = .ok (.getfield 46, 3) := by decide +kernel
theorem dX12_readsCount_101 : decode cX12_readsCount 101 = .ok (.iconst 3, 1) := by decide +kernel
theorem dX12_readsCount_102 : decode cX12_readsCount 102 = .ok (.iaload, 1) := by decide +kernel
theorem dX12_readsCount_103 : decode cX12_readsCount 103 = .ok (.invokestatic 106, 3) := by decide +kernel
theorem dX12_readsCount_106 : decode cX12_readsCount 106 = .ok (.iconst 1, 1) := by decide +kernel
theorem dX12_readsCount_107 : decode cX12_readsCount 107 = .ok (.ireturn, 1) := by decide +kernel
theorem dX12_readsCount_73 : decode cX12_readsCount 73 = .ok (.iconst 0, 1) := by decide +kernel
theorem dX12_readsCount_74 : decode cX12_readsCount 74 = .ok (.ireturn, 1) := by decide +kernel
theorem dX12_readsCount_11 : decode cX12_readsCount 11 = .ok (.iconst 0, 1) := by decide +kernel
theorem dX12_readsCount_12 : decode cX12_readsCount 12 = .ok (.ireturn, 1) := by decide +kernel
set_option maxRecDepth 20000 in
theorem iw_m_readsCount_X12 : ∀ w ∈ wsX120, w ∈ wsX12_readsCount := by decide +kernel
set_option maxHeartbeats 4000000 in
set_option maxRecDepth 100000 in
theorem m_readsCount (l : Launch) (dC : Nat → ClassId) (dI : Nat → Nat → Nat) (mo : Nat) (nw : Nat) (kp : Nat) (ik : Nat) (mr : Nat) (la_ : Int64) (lb_ : Int64) (mw : Nat) (lc_ : Int64) (ti_ : Int32) (cb_ : Int32) (ld_ : Int64) (le_ : Int64) (mq : Nat) (mz : Nat) (my : Nat) (sm_ : Int32) (mb : Nat) (jb : Nat) (ja : Nat) (jl : Nat) (tk_ : Int32) (vl_ : Int32) (mx : Nat) (mv : Nat) (cb2_ : ClassId) (fy_ : Nat → Int32) (cv_ : ClassId) (fv_ : Nat → Int32) (cx_ : ClassId) (fx_ : Nat → Int32) (sz : Nat) (hOx : tz_OK 86 fx_) (hjb : jb ≤ 150) (hjl : ja + jl ≤ jb) (h3 : tk_ = 3 → 1 ≤ jl) : Met l yX12_readsCount wsX12_readsCount ({ frames := 5, cells := 0, slots := 0, locals := 112 }) (va_Pc [.ref mo] (fun U => U.heap.size = sz ∧ va_P (dC, dI) vwCl [(mo, .inr (12, [.ref nw, .ref kp, .ref ik, .ref mr, .long la_, .long lb_, .ref mw, .long lc_, .int ti_, .int cb_, .long ld_, .long le_, .ref mq, .ref mz, .ref my, .int sm_, .ref mb, .int (nI jb), .int (nI ja), .int (nI jl), .int tk_, .int vl_, .ref mx, .ref mv])), (mb, .inl (cb2_, 150, .inl fy_)), (mv, .inl (cv_, 4, .inl fv_)), (mx, .inl (cx_, 86, .inl fx_))] U.heap ∧ va_K (dC, dI) vwCl [(cb2_, .int), (cv_, .int), (cx_, .int)] U ∧ va_D (fun _ => True) [(mo, .inr (12, [.ref nw, .ref kp, .ref ik, .ref mr, .long la_, .long lb_, .ref mw, .long lc_, .int ti_, .int cb_, .long ld_, .long le_, .ref mq, .ref mz, .ref my, .int sm_, .ref mb, .int (nI jb), .int (nI ja), .int (nI jl), .int tk_, .int vl_, .ref mx, .ref mv])), (mb, .inl (cb2_, 150, .inl fy_)), (mv, .inl (cv_, 4, .inl fv_)), (mx, .inl (cx_, 86, .inl fx_))])) (va_Qi (fun (r : Int32) (_ : Unit) => r = 0 ∨ r = 1) (fun _ t => ∃ (h_token : Int32) (h_value : Int32) (gv_ : Nat → Int32) (gx_ : Nat → Int32) (ga : Nat) (gl : Nat), (tz_OK 86 gx_) ∧ (ja ≤ ga) ∧ (ga + gl ≤ jb) ∧ (h_token = 3 → 1 ≤ gl) ∧ va_P (dC, dI) vwCl [(mo, .inr (12, [.ref nw, .ref kp, .ref ik, .ref mr, .long la_, .long lb_, .ref mw, .long lc_, .int ti_, .int cb_, .long ld_, .long le_, .ref mq, .ref mz, .ref my, .int sm_, .ref mb, .int (nI jb), .int (nI ga), .int (nI gl), .int h_token, .int h_value, .ref mx, .ref mv])), (mb, .inl (cb2_, 150, .inl fy_)), (mv, .inl (cv_, 4, .inl gv_)), (mx, .inl (cx_, 86, .inl gx_))] t.heap ∧ va_K (dC, dI) vwCl [(cb2_, .int), (cv_, .int), (cx_, .int)] t ∧ va_D (va_A [(mo, .inr (12, [.ref nw, .ref kp, .ref ik, .ref mr, .long la_, .long lb_, .ref mw, .long lc_, .int ti_, .int cb_, .long ld_, .long le_, .ref mq, .ref mz, .ref my, .int sm_, .ref mb, .int (nI jb), .int (nI ja), .int (nI jl), .int tk_, .int vl_, .ref mx, .ref mv])), (mb, .inl (cb2_, 150, .inl fy_)), (mv, .inl (cv_, 4, .inl fv_)), (mx, .inl (cx_, 86, .inl fx_))] sz) [(mo, .inr (12, [.ref nw, .ref kp, .ref ik, .ref mr, .long la_, .long lb_, .ref mw, .long lc_, .int ti_, .int cb_, .long ld_, .long le_, .ref mq, .ref mz, .ref my, .int sm_, .ref mb, .int (nI jb), .int (nI ga), .int (nI gl), .int h_token, .int h_value, .ref mx, .ref mv])), (mb, .inl (cb2_, 150, .inl fy_)), (mv, .inl (cv_, 4, .inl gv_)), (mx, .inl (cx_, 86, .inl gx_))]) (va_A [(mo, .inr (12, [.ref nw, .ref kp, .ref ik, .ref mr, .long la_, .long lb_, .ref mw, .long lc_, .int ti_, .int cb_, .long ld_, .long le_, .ref mq, .ref mz, .ref my, .int sm_, .ref mb, .int (nI jb), .int (nI ja), .int (nI jl), .int tk_, .int vl_, .ref mx, .ref mv])), (mb, .inl (cb2_, 150, .inl fy_)), (mv, .inl (cv_, 4, .inl fv_)), (mx, .inl (cx_, 86, .inl fx_))] sz)) 0 0 (va_A [(mo, .inr (12, [.ref nw, .ref kp, .ref ik, .ref mr, .long la_, .long lb_, .ref mw, .long lc_, .int ti_, .int cb_, .long ld_, .long le_, .ref mq, .ref mz, .ref my, .int sm_, .ref mb, .int (nI jb), .int (nI ja), .int (nI jl), .int tk_, .int vl_, .ref mx, .ref mv])), (mb, .inl (cb2_, 150, .inl fy_)), (mv, .inl (cv_, 4, .inl fv_)), (mx, .inl (cx_, 86, .inl fx_))] sz) := by
  refine Met.ofW (cc := cX12_readsCount) (maxL := 1) (ret := (some .boolean)) (by decide) rfl ?_
  intro p e s m args below meth c s₁ B hml hv
  obtain ⟨rfl, hsz, hP, hK, hD0⟩ := hv
  have hx := B.exec
  have hb := B.bytes
  have hr := B.returns
  have hts := atoms_spec (ws := wsX12_readsCount) B.pre
  have hown : s.vm.findClass RX12 = some m.cls := findClass_of_methodNamed B.named
  have hlocks := B.notSynchronized
  subst hsz
  have hD := hD0.self (sz := s.heap.size)
  generalize hAe : va_A [(mo, .inr (12, [.ref nw, .ref kp, .ref ik, .ref mr, .long la_, .long lb_, .ref mw, .long lc_, .int ti_, .int cb_, .long ld_, .long le_, .ref mq, .ref mz, .ref my, .int sm_, .ref mb, .int (nI jb), .int (nI ja), .int (nI jl), .int tk_, .int vl_, .ref mx, .ref mv])), (mb, .inl (cb2_, 150, .inl fy_)), (mv, .inl (cv_, 4, .inl fv_)), (mx, .inl (cx_, 86, .inl fx_))] s.heap.size = A at hD ⊢
  have hA : ∀ q : Nat, s.heap.size ≤ q → A q := fun q h => by rw [← hAe]; exact Or.inr h
  have hS : va_S A s.heap s.heap [] := va_S.rf
  have hP : va_P (dC, dI) vwCl [(mo, .inr (12, [.ref nw, .ref kp, .ref ik, .ref mr, .long la_, .long lb_, .ref mw, .long lc_, .int ti_, .int cb_, .long ld_, .long le_, .ref mq, .ref mz, .ref my, .int sm_, .ref mb, .int (nI jb), .int (nI ja), .int (nI jl), .int tk_, .int vl_, .ref mx, .ref mv])), (mb, .inl (cb2_, 150, .inl fy_)), (mv, .inl (cv_, 4, .inl fv_)), (mx, .inl (cx_, 86, .inl fx_))] s.heap := hP
  have hl := lv_entry ([.ref mo]) (n := 1) (Nat.le_of_ble_eq_true rfl)
  rw [lg_entry_eq]
  generalize (lg_sl ([.ref mo]) ++ List.replicate (1 - (lg_sl ([.ref mo])).length) Slot.unset).toArray = ls at hl ⊢
  have hl : lv_has ls 1 [(0, .ref mo)] := hl
  refine lv_aload_n hx hb dX12_readsCount_0 rfl (lv_at hl 0 rfl) ?_
  refine va_get (D := (dC, dI)) (ci := 12) (v := .ref mx) (C := RX12) (T := TX12) (N := 24) hx hb hts iw_m_readsCount_X12 hown hK hP 0 rfl rfl 22 (by decide) (hts (.fieldLink RX12 43 "ThriceCountedModel" "next" "[I") (by decide +kernel)) (fun _ h9 => h9) rfl dX12_readsCount_1 ?_
  refine lv_iconst (v := 2) hx hb dX12_readsCount_4 (by decide) ?_
  refine va_iald hx hb hK hP 3 2 rfl rfl (show ¬ ((2 : Int32) < 0 ∨ 86 ≤ (2 : Int32).toNatClampNeg) by decide) dX12_readsCount_5 ?_
  obtain ⟨j_1, hj_2, ej_3⟩ := hOx.nat (K := 2) (n := 8) (by omega) (show tz_b 2 = (0, 8) from by decide)
  refine tz_i (nI j_1) ej_3 ?_
  refine lv_bipush (v := 8) hx hb dX12_readsCount_6 (by decide) ?_
  refine lv_icmp_ne (tgt := 13) hx hb dX12_readsCount_8 (by decide) (fun c_4 => ?_) (fun c_4 => ?_)
  · have hn_5 : ¬ j_1 = 8 := fun q => c_4 ((nI_eq (a := j_1) (b := 8) (by omega) (by omega)).mpr q)
    refine lv_aload_n hx hb dX12_readsCount_13 rfl (lv_at hl 0 rfl) ?_
    have hPc := hP.sub (ws' := [(mo, .inr (12, [.ref nw, .ref kp, .ref ik, .ref mr, .long la_, .long lb_, .ref mw, .long lc_, .int ti_, .int cb_, .long ld_, .long le_, .ref mq, .ref mz, .ref my, .int sm_, .ref mb, .int (nI jb), .int (nI ja), .int (nI jl), .int tk_, .int vl_, .ref mx, .ref mv])), (mb, .inl (cb2_, 150, .inl fy_))]) [0, 1] rfl
    have hDc := hD.sub (ws' := [(mo, .inr (12, [.ref nw, .ref kp, .ref ik, .ref mr, .long la_, .long lb_, .ref mw, .long lc_, .int ti_, .int cb_, .long ld_, .long le_, .ref mq, .ref mz, .ref my, .int sm_, .ref mb, .int (nI jb), .int (nI ja), .int (nI jl), .int tk_, .int vl_, .ref mx, .ref mv])), (mb, .inl (cb2_, 150, .inl fy_))]) [0, 1] (by decide) rfl
    have hKc := hK.sub (tys' := [(cb2_, .int)]) [0] rfl
    have hFc := va_free (wc := [(mo, .inr (12, [.ref nw, .ref kp, .ref ik, .ref mr, .long la_, .long lb_, .ref mw, .long lc_, .int ti_, .int cb_, .long ld_, .long le_, .ref mq, .ref mz, .ref my, .int sm_, .ref mb, .int (nI jb), .int (nI ja), .int (nI jl), .int tk_, .int vl_, .ref mx, .ref mv])), (mb, .inl (cb2_, 150, .inl fy_))]) hD hS hA [0, 1] rfl
    refine va_callv (va_runV (As := []) (rest := []) ⟨hx, hb, hml, hown, hts⟩ (m_goOn l dC dI mo nw kp ik mr la_ lb_ mw lc_ ti_ cb_ ld_ le_ mq mz my sm_ mb jb ja jl tk_ vl_ mx mv cb2_ fy_ s.heap.size hjb hjl) (cwV 0 hts gX12_readsCount_X12_goOn rfl rfl rfl (by decide +kernel) ⟨Nat.le_of_ble_eq_true rfl, Nat.le_of_ble_eq_true rfl⟩) ⟨fun a U g mk q => by obtain ⟨q0, q1, qP, qK, qD⟩ := q; exact ⟨q0, q1, qP, va_K.moved (u := U) (U := U.calling g mk a) (Vm.Alike.refl U.vm) qK, qD⟩, va_recv hK hP (ci := 12) (q0 := 0) rfl rfl, fun U hU hW => ⟨rfl, by rw [hU], by rw [hU]; exact hPc, va_K.moved hW.alike hKc, hDc.weaken (fun _ _ _ _ => trivial)⟩⟩ rfl rfl hl.1 rfl (lv_room (Nat.le_of_ble_eq_true rfl)) dX12_readsCount_14 ⟨Nat.le_of_ble_eq_true rfl, Nat.le_of_ble_eq_true rfl⟩) hS (fun q _ h => hFc q h) hFc (fun u_ t H1 locs ht hvm hw_7 hB hz1 hk1 hS => ?_)
    obtain ⟨h_token_8, h_value_9, ga_10, gl_11, hf_12, hf_13, hf_14, hP1, hK1, hD1⟩ := hB
    rw [ht] at hP1
    have hK1 := va_K.moved hvm.symm hK1
    obtain ⟨hP, hD⟩ := va_join (wr := [(mv, .inl (cv_, 4, .inl fv_)), (mx, .inl (cx_, 86, .inl fx_))]) (w1 := [(mo, .inr (12, [.ref nw, .ref kp, .ref ik, .ref mr, .long la_, .long lb_, .ref mw, .long lc_, .int ti_, .int cb_, .long ld_, .long le_, .ref mq, .ref mz, .ref my, .int sm_, .ref mb, .int (nI jb), .int (nI ga_10), .int (nI gl_11), .int h_token_8, .int h_value_9, .ref mx, .ref mv])), (mb, .inl (cb2_, 150, .inl fy_))]) hP hD [0, 1] [2, 3] rfl rfl (by decide) (by decide) hk1 hFc hP1 hD1
    generalize H1 = H at hP hS ⊢
    have hP : va_P (dC, dI) vwCl [(mv, .inl (cv_, 4, .inl fv_)), (mx, .inl (cx_, 86, .inl fx_)), (mo, .inr (12, [.ref nw, .ref kp, .ref ik, .ref mr, .long la_, .long lb_, .ref mw, .long lc_, .int ti_, .int cb_, .long ld_, .long le_, .ref mq, .ref mz, .ref my, .int sm_, .ref mb, .int (nI jb), .int (nI ga_10), .int (nI gl_11), .int h_token_8, .int h_value_9, .ref mx, .ref mv])), (mb, .inl (cb2_, 150, .inl fy_))] H := hP
    have hD : va_D A [(mv, .inl (cv_, 4, .inl fv_)), (mx, .inl (cx_, 86, .inl fx_)), (mo, .inr (12, [.ref nw, .ref kp, .ref ik, .ref mr, .long la_, .long lb_, .ref mw, .long lc_, .int ti_, .int cb_, .long ld_, .long le_, .ref mq, .ref mz, .ref my, .int sm_, .ref mb, .int (nI jb), .int (nI ga_10), .int (nI gl_11), .int h_token_8, .int h_value_9, .ref mx, .ref mv])), (mb, .inl (cb2_, 150, .inl fy_))] := hD
    refine lv_aload_n hx hb dX12_readsCount_17 rfl (lv_at hl 0 rfl) ?_
    refine lv_iconst (v := 0) hx hb dX12_readsCount_18 (by decide) ?_
    refine lv_iconst (v := 0) hx hb dX12_readsCount_19 (by decide) ?_
    refine lv_aload_n hx hb dX12_readsCount_20 rfl (lv_at hl 0 rfl) ?_
    refine va_get (D := (dC, dI)) (ci := 12) (v := .ref mx) (C := RX12) (T := TX12) (N := 24) hx hb hts iw_m_readsCount_X12 hown hK hP 2 rfl rfl 22 (by decide) (hts (.fieldLink RX12 43 "ThriceCountedModel" "next" "[I") (by decide +kernel)) (fun _ h9 => h9) rfl dX12_readsCount_21 ?_
    refine lv_iconst (v := 1) hx hb dX12_readsCount_24 (by decide) ?_
    refine va_iald hx hb hK hP 1 2 rfl rfl (show ¬ ((1 : Int32) < 0 ∨ 86 ≤ (1 : Int32).toNatClampNeg) by decide) dX12_readsCount_25 ?_
    obtain ⟨j_15, hj_16, ej_17⟩ := hOx.nat (K := 1) (n := 5) (by omega) (show tz_b 1 = (0, 5) from by decide)
    refine tz_i (nI j_15) ej_17 ?_
    refine lv_iconst (v := 1) hx hb dX12_readsCount_26 (by decide) ?_
    refine lv_isub hx hb dX12_readsCount_27 ?_
    have hPc := hP.sub (ws' := [(mo, .inr (12, [.ref nw, .ref kp, .ref ik, .ref mr, .long la_, .long lb_, .ref mw, .long lc_, .int ti_, .int cb_, .long ld_, .long le_, .ref mq, .ref mz, .ref my, .int sm_, .ref mb, .int (nI jb), .int (nI ga_10), .int (nI gl_11), .int h_token_8, .int h_value_9, .ref mx, .ref mv])), (mb, .inl (cb2_, 150, .inl fy_)), (mv, .inl (cv_, 4, .inl fv_))]) [2, 3, 0] rfl
    have hDc := hD.sub (ws' := [(mo, .inr (12, [.ref nw, .ref kp, .ref ik, .ref mr, .long la_, .long lb_, .ref mw, .long lc_, .int ti_, .int cb_, .long ld_, .long le_, .ref mq, .ref mz, .ref my, .int sm_, .ref mb, .int (nI jb), .int (nI ga_10), .int (nI gl_11), .int h_token_8, .int h_value_9, .ref mx, .ref mv])), (mb, .inl (cb2_, 150, .inl fy_)), (mv, .inl (cv_, 4, .inl fv_))]) [2, 3, 0] (by decide) rfl
    have hKc := hK.sub (tys' := [(cb2_, .int), (cv_, .int)]) [0, 1] rfl
    have hFc := va_free (wc := [(mo, .inr (12, [.ref nw, .ref kp, .ref ik, .ref mr, .long la_, .long lb_, .ref mw, .long lc_, .int ti_, .int cb_, .long ld_, .long le_, .ref mq, .ref mz, .ref my, .int sm_, .ref mb, .int (nI jb), .int (nI ga_10), .int (nI gl_11), .int h_token_8, .int h_value_9, .ref mx, .ref mv])), (mb, .inl (cb2_, 150, .inl fy_)), (mv, .inl (cv_, 4, .inl fv_))]) hD hS hA [2, 3, 0] rfl
    refine va_calli (va_runV (As := [.int 0, .int 0, .int ((nI j_15) - 1)]) (rest := []) ⟨hx, hb, hml, hown, hts⟩ (m_takes l dC dI mo nw kp ik mr la_ lb_ mw lc_ ti_ cb_ ld_ le_ mq mz my sm_ mb jb ga_10 gl_11 h_token_8 h_value_9 mx mv cb2_ fy_ cv_ fv_ 0 0 ((nI j_15) - 1) H.size hjb hf_13 hf_14 (by omega)) (cwV 3 hts gX12_readsCount_X12_takes rfl rfl rfl (by decide +kernel) ⟨Nat.le_of_ble_eq_true rfl, Nat.le_of_ble_eq_true rfl⟩) ⟨fun a U g mk q => by obtain ⟨q0, q1, qP, qK, qD⟩ := q; exact ⟨q0, q1, qP, va_K.moved (u := U) (U := U.calling g mk a) (Vm.Alike.refl U.vm) qK, qD⟩, va_recv hK hP (ci := 12) (q0 := 2) rfl rfl, fun U hU hW => ⟨rfl, by rw [hU], by rw [hU]; exact hPc, va_K.moved hW.alike hKc, hDc.weaken (fun _ _ _ _ => trivial)⟩⟩ rfl rfl hl.1 rfl (lv_room (Nat.le_of_ble_eq_true rfl)) dX12_readsCount_28 ⟨Nat.le_of_ble_eq_true rfl, Nat.le_of_ble_eq_true rfl⟩) hS (fun q _ h => hFc q h) hFc (fun r_18 u_ t H1 locs ht hvm hw_19 hB hz1 hk1 hS => ?_)
    obtain ⟨h_token_20, h_value_21, gv__22, ga_23, gl_24, hf_25, hf_26, hf_27, hf_28, hP1, hK1, hD1⟩ := hB
    rw [ht] at hP1
    have hK1 := va_K.moved hvm.symm hK1
    obtain ⟨hP, hD⟩ := va_join (wr := [(mx, .inl (cx_, 86, .inl fx_))]) (w1 := [(mo, .inr (12, [.ref nw, .ref kp, .ref ik, .ref mr, .long la_, .long lb_, .ref mw, .long lc_, .int ti_, .int cb_, .long ld_, .long le_, .ref mq, .ref mz, .ref my, .int sm_, .ref mb, .int (nI jb), .int (nI ga_23), .int (nI gl_24), .int h_token_20, .int h_value_21, .ref mx, .ref mv])), (mb, .inl (cb2_, 150, .inl fy_)), (mv, .inl (cv_, 4, .inl gv__22))]) hP hD [2, 3, 0] [1] rfl rfl (by decide) (by decide) hk1 hFc hP1 hD1
    generalize H1 = H at hP hS ⊢
    have hP : va_P (dC, dI) vwCl [(mx, .inl (cx_, 86, .inl fx_)), (mo, .inr (12, [.ref nw, .ref kp, .ref ik, .ref mr, .long la_, .long lb_, .ref mw, .long lc_, .int ti_, .int cb_, .long ld_, .long le_, .ref mq, .ref mz, .ref my, .int sm_, .ref mb, .int (nI jb), .int (nI ga_23), .int (nI gl_24), .int h_token_20, .int h_value_21, .ref mx, .ref mv])), (mb, .inl (cb2_, 150, .inl fy_)), (mv, .inl (cv_, 4, .inl gv__22))] H := hP
    have hD : va_D A [(mx, .inl (cx_, 86, .inl fx_)), (mo, .inr (12, [.ref nw, .ref kp, .ref ik, .ref mr, .long la_, .long lb_, .ref mw, .long lc_, .int ti_, .int cb_, .long ld_, .long le_, .ref mq, .ref mz, .ref my, .int sm_, .ref mb, .int (nI jb), .int (nI ga_23), .int (nI gl_24), .int h_token_20, .int h_value_21, .ref mx, .ref mv])), (mb, .inl (cb2_, 150, .inl fy_)), (mv, .inl (cv_, 4, .inl gv__22))] := hD
    by_cases hc_29 : (h_token_8 = 2 ∧ (0 ≤ h_value_9 ∧ h_value_9 ≤ ((nI j_15) - 1)))
    · obtain rfl : 1 = r_18 := (hw_19.trans (if_pos hc_29)).symm
      obtain rfl : gv__22 = upd fv_ 0 h_value_9 := hf_28 hc_29
      have hq_31 := hc_29.2
      obtain ⟨j_30, hj_32, rfl⟩ := tz_pickM (J := j_15) hq_31 (by omega)
      refine lv_if_eq (tgt := 73) hx hb dX12_readsCount_31 (by decide) (fun c_33 => ?_) (fun c_33 => ?_)
      · exact absurd c_33 (by decide)
      · refine lv_aload_n hx hb dX12_readsCount_34 rfl (lv_at hl 0 rfl) ?_
        refine lv_iconst (v := 1) hx hb dX12_readsCount_35 (by decide) ?_
        refine lv_iconst (v := 0) hx hb dX12_readsCount_36 (by decide) ?_
        refine lv_iconst (v := 5) hx hb dX12_readsCount_37 (by decide) ?_
        have hPc := hP.sub (ws' := [(mo, .inr (12, [.ref nw, .ref kp, .ref ik, .ref mr, .long la_, .long lb_, .ref mw, .long lc_, .int ti_, .int cb_, .long ld_, .long le_, .ref mq, .ref mz, .ref my, .int sm_, .ref mb, .int (nI jb), .int (nI ga_23), .int (nI gl_24), .int h_token_20, .int h_value_21, .ref mx, .ref mv])), (mb, .inl (cb2_, 150, .inl fy_)), (mv, .inl (cv_, 4, .inl (upd fv_ 0 (nI j_30))))]) [1, 2, 3] rfl
        have hDc := hD.sub (ws' := [(mo, .inr (12, [.ref nw, .ref kp, .ref ik, .ref mr, .long la_, .long lb_, .ref mw, .long lc_, .int ti_, .int cb_, .long ld_, .long le_, .ref mq, .ref mz, .ref my, .int sm_, .ref mb, .int (nI jb), .int (nI ga_23), .int (nI gl_24), .int h_token_20, .int h_value_21, .ref mx, .ref mv])), (mb, .inl (cb2_, 150, .inl fy_)), (mv, .inl (cv_, 4, .inl (upd fv_ 0 (nI j_30))))]) [1, 2, 3] (by decide) rfl
        have hKc := hK.sub (tys' := [(cb2_, .int), (cv_, .int)]) [0, 1] rfl
        have hFc := va_free (wc := [(mo, .inr (12, [.ref nw, .ref kp, .ref ik, .ref mr, .long la_, .long lb_, .ref mw, .long lc_, .int ti_, .int cb_, .long ld_, .long le_, .ref mq, .ref mz, .ref my, .int sm_, .ref mb, .int (nI jb), .int (nI ga_23), .int (nI gl_24), .int h_token_20, .int h_value_21, .ref mx, .ref mv])), (mb, .inl (cb2_, 150, .inl fy_)), (mv, .inl (cv_, 4, .inl (upd fv_ 0 (nI j_30))))]) hD hS hA [1, 2, 3] rfl
        refine va_calli (va_runV (As := [.int 1, .int 0, .int 5]) (rest := []) ⟨hx, hb, hml, hown, hts⟩ (m_takes l dC dI mo nw kp ik mr la_ lb_ mw lc_ ti_ cb_ ld_ le_ mq mz my sm_ mb jb ga_23 gl_24 h_token_20 h_value_21 mx mv cb2_ fy_ cv_ (upd fv_ 0 (nI j_30)) 1 0 5 H.size hjb hf_26 hf_27 (by omega)) (cwV 3 hts gX12_readsCount_X12_takes rfl rfl rfl (by decide +kernel) ⟨Nat.le_of_ble_eq_true rfl, Nat.le_of_ble_eq_true rfl⟩) ⟨fun a U g mk q => by obtain ⟨q0, q1, qP, qK, qD⟩ := q; exact ⟨q0, q1, qP, va_K.moved (u := U) (U := U.calling g mk a) (Vm.Alike.refl U.vm) qK, qD⟩, va_recv hK hP (ci := 12) (q0 := 1) rfl rfl, fun U hU hW => ⟨rfl, by rw [hU], by rw [hU]; exact hPc, va_K.moved hW.alike hKc, hDc.weaken (fun _ _ _ _ => trivial)⟩⟩ rfl rfl hl.1 rfl (lv_room (Nat.le_of_ble_eq_true rfl)) dX12_readsCount_38 ⟨Nat.le_of_ble_eq_true rfl, Nat.le_of_ble_eq_true rfl⟩) hS (fun q _ h => hFc q h) hFc (fun r_34 u_ t H1 locs ht hvm hw_35 hB hz1 hk1 hS => ?_)
        obtain ⟨h_token_36, h_value_37, gv__38, ga_39, gl_40, hf_41, hf_42, hf_43, hf_44, hP1, hK1, hD1⟩ := hB
        rw [ht] at hP1
        have hK1 := va_K.moved hvm.symm hK1
        obtain ⟨hP, hD⟩ := va_join (wr := [(mx, .inl (cx_, 86, .inl fx_))]) (w1 := [(mo, .inr (12, [.ref nw, .ref kp, .ref ik, .ref mr, .long la_, .long lb_, .ref mw, .long lc_, .int ti_, .int cb_, .long ld_, .long le_, .ref mq, .ref mz, .ref my, .int sm_, .ref mb, .int (nI jb), .int (nI ga_39), .int (nI gl_40), .int h_token_36, .int h_value_37, .ref mx, .ref mv])), (mb, .inl (cb2_, 150, .inl fy_)), (mv, .inl (cv_, 4, .inl gv__38))]) hP hD [1, 2, 3] [0] rfl rfl (by decide) (by decide) hk1 hFc hP1 hD1
        generalize H1 = H at hP hS ⊢
        have hP : va_P (dC, dI) vwCl [(mx, .inl (cx_, 86, .inl fx_)), (mo, .inr (12, [.ref nw, .ref kp, .ref ik, .ref mr, .long la_, .long lb_, .ref mw, .long lc_, .int ti_, .int cb_, .long ld_, .long le_, .ref mq, .ref mz, .ref my, .int sm_, .ref mb, .int (nI jb), .int (nI ga_39), .int (nI gl_40), .int h_token_36, .int h_value_37, .ref mx, .ref mv])), (mb, .inl (cb2_, 150, .inl fy_)), (mv, .inl (cv_, 4, .inl gv__38))] H := hP
        have hD : va_D A [(mx, .inl (cx_, 86, .inl fx_)), (mo, .inr (12, [.ref nw, .ref kp, .ref ik, .ref mr, .long la_, .long lb_, .ref mw, .long lc_, .int ti_, .int cb_, .long ld_, .long le_, .ref mq, .ref mz, .ref my, .int sm_, .ref mb, .int (nI jb), .int (nI ga_39), .int (nI gl_40), .int h_token_36, .int h_value_37, .ref mx, .ref mv])), (mb, .inl (cb2_, 150, .inl fy_)), (mv, .inl (cv_, 4, .inl gv__38))] := hD
        by_cases hc_45 : (h_token_20 = 2 ∧ (0 ≤ h_value_21 ∧ h_value_21 ≤ 5))
        · obtain rfl : 1 = r_34 := (hw_35.trans (if_pos hc_45)).symm
          obtain rfl : gv__38 = upd (upd fv_ 0 (nI j_30)) 1 h_value_21 := hf_44 hc_45
          have hq_47 := hc_45.2
          obtain ⟨j_46, hj_48, hj_49, rfl⟩ := tz_pickL (l := 0) (n := 5) hq_47 (by decide) (by decide)
          refine lv_if_eq (tgt := 73) hx hb dX12_readsCount_41 (by decide) (fun c_50 => ?_) (fun c_50 => ?_)
          · exact absurd c_50 (by decide)
          · refine lv_aload_n hx hb dX12_readsCount_44 rfl (lv_at hl 0 rfl) ?_
            refine lv_iconst (v := 2) hx hb dX12_readsCount_45 (by decide) ?_
            refine lv_iconst (v := 0) hx hb dX12_readsCount_46 (by decide) ?_
            refine lv_aload_n hx hb dX12_readsCount_47 rfl (lv_at hl 0 rfl) ?_
            refine va_get (D := (dC, dI)) (ci := 12) (v := .ref mx) (C := RX12) (T := TX12) (N := 24) hx hb hts iw_m_readsCount_X12 hown hK hP 1 rfl rfl 22 (by decide) (hts (.fieldLink RX12 43 "ThriceCountedModel" "next" "[I") (by decide +kernel)) (fun _ h9 => h9) rfl dX12_readsCount_48 ?_
            refine lv_iconst (v := 0) hx hb dX12_readsCount_51 (by decide) ?_
            refine va_iald hx hb hK hP 0 2 rfl rfl (show ¬ ((0 : Int32) < 0 ∨ 86 ≤ (0 : Int32).toNatClampNeg) by decide) dX12_readsCount_52 ?_
            obtain ⟨j_51, hj_52, ej_53⟩ := hOx.nat (K := 0) (n := 5) (by omega) (show tz_b 0 = (0, 5) from by decide)
            refine tz_i (nI j_51) ej_53 ?_
            refine lv_iconst (v := 1) hx hb dX12_readsCount_53 (by decide) ?_
            refine lv_isub hx hb dX12_readsCount_54 ?_
            have hPc := hP.sub (ws' := [(mo, .inr (12, [.ref nw, .ref kp, .ref ik, .ref mr, .long la_, .long lb_, .ref mw, .long lc_, .int ti_, .int cb_, .long ld_, .long le_, .ref mq, .ref mz, .ref my, .int sm_, .ref mb, .int (nI jb), .int (nI ga_39), .int (nI gl_40), .int h_token_36, .int h_value_37, .ref mx, .ref mv])), (mb, .inl (cb2_, 150, .inl fy_)), (mv, .inl (cv_, 4, .inl (upd (upd fv_ 0 (nI j_30)) 1 (nI j_46))))]) [1, 2, 3] rfl
            have hDc := hD.sub (ws' := [(mo, .inr (12, [.ref nw, .ref kp, .ref ik, .ref mr, .long la_, .long lb_, .ref mw, .long lc_, .int ti_, .int cb_, .long ld_, .long le_, .ref mq, .ref mz, .ref my, .int sm_, .ref mb, .int (nI jb), .int (nI ga_39), .int (nI gl_40), .int h_token_36, .int h_value_37, .ref mx, .ref mv])), (mb, .inl (cb2_, 150, .inl fy_)), (mv, .inl (cv_, 4, .inl (upd (upd fv_ 0 (nI j_30)) 1 (nI j_46))))]) [1, 2, 3] (by decide) rfl
            have hKc := hK.sub (tys' := [(cb2_, .int), (cv_, .int)]) [0, 1] rfl
            have hFc := va_free (wc := [(mo, .inr (12, [.ref nw, .ref kp, .ref ik, .ref mr, .long la_, .long lb_, .ref mw, .long lc_, .int ti_, .int cb_, .long ld_, .long le_, .ref mq, .ref mz, .ref my, .int sm_, .ref mb, .int (nI jb), .int (nI ga_39), .int (nI gl_40), .int h_token_36, .int h_value_37, .ref mx, .ref mv])), (mb, .inl (cb2_, 150, .inl fy_)), (mv, .inl (cv_, 4, .inl (upd (upd fv_ 0 (nI j_30)) 1 (nI j_46))))]) hD hS hA [1, 2, 3] rfl
            refine va_calli (va_runV (As := [.int 2, .int 0, .int ((nI j_51) - 1)]) (rest := []) ⟨hx, hb, hml, hown, hts⟩ (m_takes l dC dI mo nw kp ik mr la_ lb_ mw lc_ ti_ cb_ ld_ le_ mq mz my sm_ mb jb ga_39 gl_40 h_token_36 h_value_37 mx mv cb2_ fy_ cv_ (upd (upd fv_ 0 (nI j_30)) 1 (nI j_46)) 2 0 ((nI j_51) - 1) H.size hjb hf_42 hf_43 (by omega)) (cwV 3 hts gX12_readsCount_X12_takes rfl rfl rfl (by decide +kernel) ⟨Nat.le_of_ble_eq_true rfl, Nat.le_of_ble_eq_true rfl⟩) ⟨fun a U g mk q => by obtain ⟨q0, q1, qP, qK, qD⟩ := q; exact ⟨q0, q1, qP, va_K.moved (u := U) (U := U.calling g mk a) (Vm.Alike.refl U.vm) qK, qD⟩, va_recv hK hP (ci := 12) (q0 := 1) rfl rfl, fun U hU hW => ⟨rfl, by rw [hU], by rw [hU]; exact hPc, va_K.moved hW.alike hKc, hDc.weaken (fun _ _ _ _ => trivial)⟩⟩ rfl rfl hl.1 rfl (lv_room (Nat.le_of_ble_eq_true rfl)) dX12_readsCount_55 ⟨Nat.le_of_ble_eq_true rfl, Nat.le_of_ble_eq_true rfl⟩) hS (fun q _ h => hFc q h) hFc (fun r_54 u_ t H1 locs ht hvm hw_55 hB hz1 hk1 hS => ?_)
            obtain ⟨h_token_56, h_value_57, gv__58, ga_59, gl_60, hf_61, hf_62, hf_63, hf_64, hP1, hK1, hD1⟩ := hB
            rw [ht] at hP1
            have hK1 := va_K.moved hvm.symm hK1
            obtain ⟨hP, hD⟩ := va_join (wr := [(mx, .inl (cx_, 86, .inl fx_))]) (w1 := [(mo, .inr (12, [.ref nw, .ref kp, .ref ik, .ref mr, .long la_, .long lb_, .ref mw, .long lc_, .int ti_, .int cb_, .long ld_, .long le_, .ref mq, .ref mz, .ref my, .int sm_, .ref mb, .int (nI jb), .int (nI ga_59), .int (nI gl_60), .int h_token_56, .int h_value_57, .ref mx, .ref mv])), (mb, .inl (cb2_, 150, .inl fy_)), (mv, .inl (cv_, 4, .inl gv__58))]) hP hD [1, 2, 3] [0] rfl rfl (by decide) (by decide) hk1 hFc hP1 hD1
            generalize H1 = H at hP hS ⊢
            have hP : va_P (dC, dI) vwCl [(mx, .inl (cx_, 86, .inl fx_)), (mo, .inr (12, [.ref nw, .ref kp, .ref ik, .ref mr, .long la_, .long lb_, .ref mw, .long lc_, .int ti_, .int cb_, .long ld_, .long le_, .ref mq, .ref mz, .ref my, .int sm_, .ref mb, .int (nI jb), .int (nI ga_59), .int (nI gl_60), .int h_token_56, .int h_value_57, .ref mx, .ref mv])), (mb, .inl (cb2_, 150, .inl fy_)), (mv, .inl (cv_, 4, .inl gv__58))] H := hP
            have hD : va_D A [(mx, .inl (cx_, 86, .inl fx_)), (mo, .inr (12, [.ref nw, .ref kp, .ref ik, .ref mr, .long la_, .long lb_, .ref mw, .long lc_, .int ti_, .int cb_, .long ld_, .long le_, .ref mq, .ref mz, .ref my, .int sm_, .ref mb, .int (nI jb), .int (nI ga_59), .int (nI gl_60), .int h_token_56, .int h_value_57, .ref mx, .ref mv])), (mb, .inl (cb2_, 150, .inl fy_)), (mv, .inl (cv_, 4, .inl gv__58))] := hD
            by_cases hc_65 : (h_token_36 = 2 ∧ (0 ≤ h_value_37 ∧ h_value_37 ≤ ((nI j_51) - 1)))
            · obtain rfl : 1 = r_54 := (hw_55.trans (if_pos hc_65)).symm
              obtain rfl : gv__58 = upd (upd (upd fv_ 0 (nI j_30)) 1 (nI j_46)) 2 h_value_37 := hf_64 hc_65
              have hq_67 := hc_65.2
              obtain ⟨j_66, hj_68, rfl⟩ := tz_pickM (J := j_51) hq_67 (by omega)
              refine lv_if_eq (tgt := 73) hx hb dX12_readsCount_58 (by decide) (fun c_69 => ?_) (fun c_69 => ?_)
              · exact absurd c_69 (by decide)
              · refine lv_aload_n hx hb dX12_readsCount_61 rfl (lv_at hl 0 rfl) ?_
                refine lv_iconst (v := 3) hx hb dX12_readsCount_62 (by decide) ?_
                refine lv_bipush (v := 80) hx hb dX12_readsCount_63 (by decide) ?_
                refine lv_bipush (v := 120) hx hb dX12_readsCount_65 (by decide) ?_
                have hPc := hP.sub (ws' := [(mo, .inr (12, [.ref nw, .ref kp, .ref ik, .ref mr, .long la_, .long lb_, .ref mw, .long lc_, .int ti_, .int cb_, .long ld_, .long le_, .ref mq, .ref mz, .ref my, .int sm_, .ref mb, .int (nI jb), .int (nI ga_59), .int (nI gl_60), .int h_token_56, .int h_value_57, .ref mx, .ref mv])), (mb, .inl (cb2_, 150, .inl fy_)), (mv, .inl (cv_, 4, .inl (upd (upd (upd fv_ 0 (nI j_30)) 1 (nI j_46)) 2 (nI j_66))))]) [1, 2, 3] rfl
                have hDc := hD.sub (ws' := [(mo, .inr (12, [.ref nw, .ref kp, .ref ik, .ref mr, .long la_, .long lb_, .ref mw, .long lc_, .int ti_, .int cb_, .long ld_, .long le_, .ref mq, .ref mz, .ref my, .int sm_, .ref mb, .int (nI jb), .int (nI ga_59), .int (nI gl_60), .int h_token_56, .int h_value_57, .ref mx, .ref mv])), (mb, .inl (cb2_, 150, .inl fy_)), (mv, .inl (cv_, 4, .inl (upd (upd (upd fv_ 0 (nI j_30)) 1 (nI j_46)) 2 (nI j_66))))]) [1, 2, 3] (by decide) rfl
                have hKc := hK.sub (tys' := [(cb2_, .int), (cv_, .int)]) [0, 1] rfl
                have hFc := va_free (wc := [(mo, .inr (12, [.ref nw, .ref kp, .ref ik, .ref mr, .long la_, .long lb_, .ref mw, .long lc_, .int ti_, .int cb_, .long ld_, .long le_, .ref mq, .ref mz, .ref my, .int sm_, .ref mb, .int (nI jb), .int (nI ga_59), .int (nI gl_60), .int h_token_56, .int h_value_57, .ref mx, .ref mv])), (mb, .inl (cb2_, 150, .inl fy_)), (mv, .inl (cv_, 4, .inl (upd (upd (upd fv_ 0 (nI j_30)) 1 (nI j_46)) 2 (nI j_66))))]) hD hS hA [1, 2, 3] rfl
                refine va_calli (va_runV (As := [.int 3, .int 80, .int 120]) (rest := []) ⟨hx, hb, hml, hown, hts⟩ (m_takes l dC dI mo nw kp ik mr la_ lb_ mw lc_ ti_ cb_ ld_ le_ mq mz my sm_ mb jb ga_59 gl_60 h_token_56 h_value_57 mx mv cb2_ fy_ cv_ (upd (upd (upd fv_ 0 (nI j_30)) 1 (nI j_46)) 2 (nI j_66)) 3 80 120 H.size hjb hf_62 hf_63 (by omega)) (cwV 3 hts gX12_readsCount_X12_takes rfl rfl rfl (by decide +kernel) ⟨Nat.le_of_ble_eq_true rfl, Nat.le_of_ble_eq_true rfl⟩) ⟨fun a U g mk q => by obtain ⟨q0, q1, qP, qK, qD⟩ := q; exact ⟨q0, q1, qP, va_K.moved (u := U) (U := U.calling g mk a) (Vm.Alike.refl U.vm) qK, qD⟩, va_recv hK hP (ci := 12) (q0 := 1) rfl rfl, fun U hU hW => ⟨rfl, by rw [hU], by rw [hU]; exact hPc, va_K.moved hW.alike hKc, hDc.weaken (fun _ _ _ _ => trivial)⟩⟩ rfl rfl hl.1 rfl (lv_room (Nat.le_of_ble_eq_true rfl)) dX12_readsCount_67 ⟨Nat.le_of_ble_eq_true rfl, Nat.le_of_ble_eq_true rfl⟩) hS (fun q _ h => hFc q h) hFc (fun r_70 u_ t H1 locs ht hvm hw_71 hB hz1 hk1 hS => ?_)
                obtain ⟨h_token_72, h_value_73, gv__74, ga_75, gl_76, hf_77, hf_78, hf_79, hf_80, hP1, hK1, hD1⟩ := hB
                rw [ht] at hP1
                have hK1 := va_K.moved hvm.symm hK1
                obtain ⟨hP, hD⟩ := va_join (wr := [(mx, .inl (cx_, 86, .inl fx_))]) (w1 := [(mo, .inr (12, [.ref nw, .ref kp, .ref ik, .ref mr, .long la_, .long lb_, .ref mw, .long lc_, .int ti_, .int cb_, .long ld_, .long le_, .ref mq, .ref mz, .ref my, .int sm_, .ref mb, .int (nI jb), .int (nI ga_75), .int (nI gl_76), .int h_token_72, .int h_value_73, .ref mx, .ref mv])), (mb, .inl (cb2_, 150, .inl fy_)), (mv, .inl (cv_, 4, .inl gv__74))]) hP hD [1, 2, 3] [0] rfl rfl (by decide) (by decide) hk1 hFc hP1 hD1
                generalize H1 = H at hP hS ⊢
                have hP : va_P (dC, dI) vwCl [(mx, .inl (cx_, 86, .inl fx_)), (mo, .inr (12, [.ref nw, .ref kp, .ref ik, .ref mr, .long la_, .long lb_, .ref mw, .long lc_, .int ti_, .int cb_, .long ld_, .long le_, .ref mq, .ref mz, .ref my, .int sm_, .ref mb, .int (nI jb), .int (nI ga_75), .int (nI gl_76), .int h_token_72, .int h_value_73, .ref mx, .ref mv])), (mb, .inl (cb2_, 150, .inl fy_)), (mv, .inl (cv_, 4, .inl gv__74))] H := hP
                have hD : va_D A [(mx, .inl (cx_, 86, .inl fx_)), (mo, .inr (12, [.ref nw, .ref kp, .ref ik, .ref mr, .long la_, .long lb_, .ref mw, .long lc_, .int ti_, .int cb_, .long ld_, .long le_, .ref mq, .ref mz, .ref my, .int sm_, .ref mb, .int (nI jb), .int (nI ga_75), .int (nI gl_76), .int h_token_72, .int h_value_73, .ref mx, .ref mv])), (mb, .inl (cb2_, 150, .inl fy_)), (mv, .inl (cv_, 4, .inl gv__74))] := hD
                by_cases hc_81 : (h_token_56 = 2 ∧ (80 ≤ h_value_57 ∧ h_value_57 ≤ 120))
                · obtain rfl : 1 = r_70 := (hw_71.trans (if_pos hc_81)).symm
                  obtain rfl : gv__74 = upd (upd (upd (upd fv_ 0 (nI j_30)) 1 (nI j_46)) 2 (nI j_66)) 3 h_value_57 := hf_80 hc_81
                  have hq_83 := hc_81.2
                  obtain ⟨j_82, hj_84, hj_85, rfl⟩ := tz_pickL (l := 80) (n := 120) hq_83 (by decide) (by decide)
                  refine lv_if_ne (tgt := 75) hx hb dX12_readsCount_70 (by decide) (fun c_86 => ?_) (fun c_86 => ?_)
                  · refine lv_aload_n hx hb dX12_readsCount_75 rfl (lv_at hl 0 rfl) ?_
                    refine va_get (D := (dC, dI)) (ci := 12) (v := .ref mx) (C := RX12) (T := TX12) (N := 24) hx hb hts iw_m_readsCount_X12 hown hK hP 1 rfl rfl 22 (by decide) (hts (.fieldLink RX12 43 "ThriceCountedModel" "next" "[I") (by decide +kernel)) (fun _ h9 => h9) rfl dX12_readsCount_76 ?_
                    refine lv_aload_n hx hb dX12_readsCount_79 rfl (lv_at hl 0 rfl) ?_
                    refine va_get (D := (dC, dI)) (ci := 12) (v := .ref mv) (C := RX12) (T := TX12) (N := 24) hx hb hts iw_m_readsCount_X12 hown hK hP 1 rfl rfl 23 (by decide) (hts (.fieldLink RX12 46 "ThriceCountedModel" "values" "[I") (by decide +kernel)) (fun _ h9 => h9) rfl dX12_readsCount_80 ?_
                    refine lv_iconst (v := 0) hx hb dX12_readsCount_83 (by decide) ?_
                    refine va_iald hx hb hK hP 3 1 rfl rfl (show ¬ ((0 : Int32) < 0 ∨ 4 ≤ (0 : Int32).toNatClampNeg) by decide) dX12_readsCount_84 ?_
                    refine tz_i (nI j_30) rfl ?_
                    refine lv_aload_n hx hb dX12_readsCount_85 rfl (lv_at hl 0 rfl) ?_
                    refine va_get (D := (dC, dI)) (ci := 12) (v := .ref mv) (C := RX12) (T := TX12) (N := 24) hx hb hts iw_m_readsCount_X12 hown hK hP 1 rfl rfl 23 (by decide) (hts (.fieldLink RX12 46 "ThriceCountedModel" "values" "[I") (by decide +kernel)) (fun _ h9 => h9) rfl dX12_readsCount_86 ?_
                    refine lv_iconst (v := 1) hx hb dX12_readsCount_89 (by decide) ?_
                    refine va_iald hx hb hK hP 3 1 rfl rfl (show ¬ ((1 : Int32) < 0 ∨ 4 ≤ (1 : Int32).toNatClampNeg) by decide) dX12_readsCount_90 ?_
                    refine tz_i (nI j_46) rfl ?_
                    refine lv_aload_n hx hb dX12_readsCount_91 rfl (lv_at hl 0 rfl) ?_
                    refine va_get (D := (dC, dI)) (ci := 12) (v := .ref mv) (C := RX12) (T := TX12) (N := 24) hx hb hts iw_m_readsCount_X12 hown hK hP 1 rfl rfl 23 (by decide) (hts (.fieldLink RX12 46 "ThriceCountedModel" "values" "[I") (by decide +kernel)) (fun _ h9 => h9) rfl dX12_readsCount_92 ?_
                    refine lv_iconst (v := 2) hx hb dX12_readsCount_95 (by decide) ?_
                    refine va_iald hx hb hK hP 3 1 rfl rfl (show ¬ ((2 : Int32) < 0 ∨ 4 ≤ (2 : Int32).toNatClampNeg) by decide) dX12_readsCount_96 ?_
                    refine tz_i (nI j_66) rfl ?_
                    refine lv_aload_n hx hb dX12_readsCount_97 rfl (lv_at hl 0 rfl) ?_
                    refine va_get (D := (dC, dI)) (ci := 12) (v := .ref mv) (C := RX12) (T := TX12) (N := 24) hx hb hts iw_m_readsCount_X12 hown hK hP 1 rfl rfl 23 (by decide) (hts (.fieldLink RX12 46 "ThriceCountedModel" "values" "[I") (by decide +kernel)) (fun _ h9 => h9) rfl dX12_readsCount_98 ?_
                    refine lv_iconst (v := 3) hx hb dX12_readsCount_101 (by decide) ?_
                    refine va_iald hx hb hK hP 3 1 rfl rfl (show ¬ ((3 : Int32) < 0 ∨ 4 ≤ (3 : Int32).toNatClampNeg) by decide) dX12_readsCount_102 ?_
                    refine tz_i (nI j_82) rfl ?_
                    have hPc := hP.sub (ws' := [(mx, .inl (cx_, 86, .inl fx_))]) [0] rfl
                    have hDc := hD.sub (ws' := [(mx, .inl (cx_, 86, .inl fx_))]) [0] (by decide) rfl
                    have hKc := hK.sub (tys' := [(cx_, .int)]) [2] rfl
                    have hFc := va_free (wc := [(mx, .inl (cx_, 86, .inl fx_))]) hD hS hA [0] rfl
                    refine va_callv (va_runS (As := [.ref mx, .int (nI j_30), .int (nI j_46), .int (nI j_66), .int (nI j_82)]) (rest := []) ⟨hx, hb, hml, hown, hts⟩ (m_layCount_86 l dC dI mx cx_ fx_ j_30 j_46 (nI j_66) (nI j_82) j_1 H.size hOx (by omega) (by omega) (by omega) ej_3) (va_cwS 5 hts gX12_readsCount_X12_layCount rfl rfl rfl (by decide +kernel) ⟨Nat.le_of_ble_eq_true rfl, Nat.le_of_ble_eq_true rfl⟩) ⟨fun a U g mk q => by obtain ⟨q0, q1, qP, qK, qD⟩ := q; exact ⟨q0, q1, qP, va_K.moved (u := U) (U := U.calling g mk a) (Vm.Alike.refl U.vm) qK, qD⟩, fun U hU hW => ⟨rfl, by rw [hU], by rw [hU]; exact hPc, va_K.moved hW.alike hKc, hDc.weaken (fun _ _ _ _ => trivial)⟩⟩ rfl rfl hl.1 rfl (lv_room (Nat.le_of_ble_eq_true rfl)) dX12_readsCount_103 ⟨Nat.le_of_ble_eq_true rfl, Nat.le_of_ble_eq_true rfl⟩) hS (fun q _ h => hFc q h) hFc (fun u_ t H1 locs ht hvm hw_88 hB hz1 hk1 hS => ?_)
                    obtain ⟨gf_89, hf_90, hP1, hK1, hD1⟩ := hB
                    rw [ht] at hP1
                    have hK1 := va_K.moved hvm.symm hK1
                    obtain ⟨hP, hD⟩ := va_join (wr := [(mo, .inr (12, [.ref nw, .ref kp, .ref ik, .ref mr, .long la_, .long lb_, .ref mw, .long lc_, .int ti_, .int cb_, .long ld_, .long le_, .ref mq, .ref mz, .ref my, .int sm_, .ref mb, .int (nI jb), .int (nI ga_75), .int (nI gl_76), .int h_token_72, .int h_value_73, .ref mx, .ref mv])), (mb, .inl (cb2_, 150, .inl fy_)), (mv, .inl (cv_, 4, .inl (upd (upd (upd (upd fv_ 0 (nI j_30)) 1 (nI j_46)) 2 (nI j_66)) 3 (nI j_82))))]) (w1 := [(mx, .inl (cx_, 86, .inl gf_89))]) hP hD [0] [1, 2, 3] rfl rfl (by decide) (by decide) hk1 hFc hP1 hD1
                    generalize H1 = H at hP hS ⊢
                    have hP : va_P (dC, dI) vwCl [(mo, .inr (12, [.ref nw, .ref kp, .ref ik, .ref mr, .long la_, .long lb_, .ref mw, .long lc_, .int ti_, .int cb_, .long ld_, .long le_, .ref mq, .ref mz, .ref my, .int sm_, .ref mb, .int (nI jb), .int (nI ga_75), .int (nI gl_76), .int h_token_72, .int h_value_73, .ref mx, .ref mv])), (mb, .inl (cb2_, 150, .inl fy_)), (mv, .inl (cv_, 4, .inl (upd (upd (upd (upd fv_ 0 (nI j_30)) 1 (nI j_46)) 2 (nI j_66)) 3 (nI j_82)))), (mx, .inl (cx_, 86, .inl gf_89))] H := hP
                    have hD : va_D A [(mo, .inr (12, [.ref nw, .ref kp, .ref ik, .ref mr, .long la_, .long lb_, .ref mw, .long lc_, .int ti_, .int cb_, .long ld_, .long le_, .ref mq, .ref mz, .ref my, .int sm_, .ref mb, .int (nI jb), .int (nI ga_75), .int (nI gl_76), .int h_token_72, .int h_value_73, .ref mx, .ref mv])), (mb, .inl (cb2_, 150, .inl fy_)), (mv, .inl (cv_, 4, .inl (upd (upd (upd (upd fv_ 0 (nI j_30)) 1 (nI j_46)) 2 (nI j_66)) 3 (nI j_82)))), (mx, .inl (cx_, 86, .inl gf_89))] := hD
                    refine lv_iconst (v := 1) hx hb dX12_readsCount_106 (by decide) ?_
                    have hP9 := hP.sub (ws' := [(mo, .inr (12, [.ref nw, .ref kp, .ref ik, .ref mr, .long la_, .long lb_, .ref mw, .long lc_, .int ti_, .int cb_, .long ld_, .long le_, .ref mq, .ref mz, .ref my, .int sm_, .ref mb, .int (nI jb), .int (nI ga_75), .int (nI gl_76), .int h_token_72, .int h_value_73, .ref mx, .ref mv])), (mb, .inl (cb2_, 150, .inl fy_)), (mv, .inl (cv_, 4, .inl (upd (upd (upd (upd fv_ 0 (nI j_30)) 1 (nI j_46)) 2 (nI j_66)) 3 (nI j_82)))), (mx, .inl (cx_, 86, .inl gf_89))]) [0, 1, 2, 3] rfl
                    have hD9 := hD.sub (ws' := [(mo, .inr (12, [.ref nw, .ref kp, .ref ik, .ref mr, .long la_, .long lb_, .ref mw, .long lc_, .int ti_, .int cb_, .long ld_, .long le_, .ref mq, .ref mz, .ref my, .int sm_, .ref mb, .int (nI jb), .int (nI ga_75), .int (nI gl_76), .int h_token_72, .int h_value_73, .ref mx, .ref mv])), (mb, .inl (cb2_, 150, .inl fy_)), (mv, .inl (cv_, 4, .inl (upd (upd (upd (upd fv_ 0 (nI j_30)) 1 (nI j_46)) 2 (nI j_66)) 3 (nI j_82)))), (mx, .inl (cx_, 86, .inl gf_89))]) [0, 1, 2, 3] (by decide) rfl
                    have hK9 := hK.sub (tys' := [(cb2_, .int), (cv_, .int), (cx_, .int)]) [0, 1, 2] rfl
                    exact W.zret (v := 1) hx hb hr (by decide) (fun t ht hW => ⟨⟨1, (), rfl, Or.inr rfl, h_token_72, h_value_73, (upd (upd (upd (upd fv_ 0 (nI j_30)) 1 (nI j_46)) 2 (nI j_66)) 3 (nI j_82)), gf_89, ga_75, gl_76, hf_90, by omega, by omega, hf_79, by rw [ht]; exact hP9, va_K.moved hW.alike hK9, hD9⟩, hS.F ht⟩) hS.2.2 dX12_readsCount_107
                  · exact absurd c_86 (by decide)
                · obtain rfl : 0 = r_70 := (hw_71.trans (if_neg hc_81)).symm
                  refine lv_if_ne (tgt := 75) hx hb dX12_readsCount_70 (by decide) (fun c_91 => ?_) (fun c_91 => ?_)
                  · exact absurd c_91 (by decide)
                  · refine lv_iconst (v := 0) hx hb dX12_readsCount_73 (by decide) ?_
                    have hP9 := hP.sub (ws' := [(mo, .inr (12, [.ref nw, .ref kp, .ref ik, .ref mr, .long la_, .long lb_, .ref mw, .long lc_, .int ti_, .int cb_, .long ld_, .long le_, .ref mq, .ref mz, .ref my, .int sm_, .ref mb, .int (nI jb), .int (nI ga_75), .int (nI gl_76), .int h_token_72, .int h_value_73, .ref mx, .ref mv])), (mb, .inl (cb2_, 150, .inl fy_)), (mv, .inl (cv_, 4, .inl gv__74)), (mx, .inl (cx_, 86, .inl fx_))]) [1, 2, 3, 0] rfl
                    have hD9 := hD.sub (ws' := [(mo, .inr (12, [.ref nw, .ref kp, .ref ik, .ref mr, .long la_, .long lb_, .ref mw, .long lc_, .int ti_, .int cb_, .long ld_, .long le_, .ref mq, .ref mz, .ref my, .int sm_, .ref mb, .int (nI jb), .int (nI ga_75), .int (nI gl_76), .int h_token_72, .int h_value_73, .ref mx, .ref mv])), (mb, .inl (cb2_, 150, .inl fy_)), (mv, .inl (cv_, 4, .inl gv__74)), (mx, .inl (cx_, 86, .inl fx_))]) [1, 2, 3, 0] (by decide) rfl
                    have hK9 := hK.sub (tys' := [(cb2_, .int), (cv_, .int), (cx_, .int)]) [0, 1, 2] rfl
                    exact W.zret (v := 0) hx hb hr (by decide) (fun t ht hW => ⟨⟨0, (), rfl, Or.inl rfl, h_token_72, h_value_73, gv__74, fx_, ga_75, gl_76, hOx, by omega, by omega, hf_79, by rw [ht]; exact hP9, va_K.moved hW.alike hK9, hD9⟩, hS.F ht⟩) hS.2.2 dX12_readsCount_74
            · obtain rfl : 0 = r_54 := (hw_55.trans (if_neg hc_65)).symm
              refine lv_if_eq (tgt := 73) hx hb dX12_readsCount_58 (by decide) (fun c_92 => ?_) (fun c_92 => ?_)
              · refine lv_iconst (v := 0) hx hb dX12_readsCount_73 (by decide) ?_
                have hP9 := hP.sub (ws' := [(mo, .inr (12, [.ref nw, .ref kp, .ref ik, .ref mr, .long la_, .long lb_, .ref mw, .long lc_, .int ti_, .int cb_, .long ld_, .long le_, .ref mq, .ref mz, .ref my, .int sm_, .ref mb, .int (nI jb), .int (nI ga_59), .int (nI gl_60), .int h_token_56, .int h_value_57, .ref mx, .ref mv])), (mb, .inl (cb2_, 150, .inl fy_)), (mv, .inl (cv_, 4, .inl gv__58)), (mx, .inl (cx_, 86, .inl fx_))]) [1, 2, 3, 0] rfl
                have hD9 := hD.sub (ws' := [(mo, .inr (12, [.ref nw, .ref kp, .ref ik, .ref mr, .long la_, .long lb_, .ref mw, .long lc_, .int ti_, .int cb_, .long ld_, .long le_, .ref mq, .ref mz, .ref my, .int sm_, .ref mb, .int (nI jb), .int (nI ga_59), .int (nI gl_60), .int h_token_56, .int h_value_57, .ref mx, .ref mv])), (mb, .inl (cb2_, 150, .inl fy_)), (mv, .inl (cv_, 4, .inl gv__58)), (mx, .inl (cx_, 86, .inl fx_))]) [1, 2, 3, 0] (by decide) rfl
                have hK9 := hK.sub (tys' := [(cb2_, .int), (cv_, .int), (cx_, .int)]) [0, 1, 2] rfl
                exact W.zret (v := 0) hx hb hr (by decide) (fun t ht hW => ⟨⟨0, (), rfl, Or.inl rfl, h_token_56, h_value_57, gv__58, fx_, ga_59, gl_60, hOx, by omega, by omega, hf_63, by rw [ht]; exact hP9, va_K.moved hW.alike hK9, hD9⟩, hS.F ht⟩) hS.2.2 dX12_readsCount_74
              · exact absurd c_92 (by decide)
        · obtain rfl : 0 = r_34 := (hw_35.trans (if_neg hc_45)).symm
          refine lv_if_eq (tgt := 73) hx hb dX12_readsCount_41 (by decide) (fun c_93 => ?_) (fun c_93 => ?_)
          · refine lv_iconst (v := 0) hx hb dX12_readsCount_73 (by decide) ?_
            have hP9 := hP.sub (ws' := [(mo, .inr (12, [.ref nw, .ref kp, .ref ik, .ref mr, .long la_, .long lb_, .ref mw, .long lc_, .int ti_, .int cb_, .long ld_, .long le_, .ref mq, .ref mz, .ref my, .int sm_, .ref mb, .int (nI jb), .int (nI ga_39), .int (nI gl_40), .int h_token_36, .int h_value_37, .ref mx, .ref mv])), (mb, .inl (cb2_, 150, .inl fy_)), (mv, .inl (cv_, 4, .inl gv__38)), (mx, .inl (cx_, 86, .inl fx_))]) [1, 2, 3, 0] rfl
            have hD9 := hD.sub (ws' := [(mo, .inr (12, [.ref nw, .ref kp, .ref ik, .ref mr, .long la_, .long lb_, .ref mw, .long lc_, .int ti_, .int cb_, .long ld_, .long le_, .ref mq, .ref mz, .ref my, .int sm_, .ref mb, .int (nI jb), .int (nI ga_39), .int (nI gl_40), .int h_token_36, .int h_value_37, .ref mx, .ref mv])), (mb, .inl (cb2_, 150, .inl fy_)), (mv, .inl (cv_, 4, .inl gv__38)), (mx, .inl (cx_, 86, .inl fx_))]) [1, 2, 3, 0] (by decide) rfl
            have hK9 := hK.sub (tys' := [(cb2_, .int), (cv_, .int), (cx_, .int)]) [0, 1, 2] rfl
            exact W.zret (v := 0) hx hb hr (by decide) (fun t ht hW => ⟨⟨0, (), rfl, Or.inl rfl, h_token_36, h_value_37, gv__38, fx_, ga_39, gl_40, hOx, by omega, by omega, hf_43, by rw [ht]; exact hP9, va_K.moved hW.alike hK9, hD9⟩, hS.F ht⟩) hS.2.2 dX12_readsCount_74
          · exact absurd c_93 (by decide)
    · obtain rfl : 0 = r_18 := (hw_19.trans (if_neg hc_29)).symm
      refine lv_if_eq (tgt := 73) hx hb dX12_readsCount_31 (by decide) (fun c_94 => ?_) (fun c_94 => ?_)
      · refine lv_iconst (v := 0) hx hb dX12_readsCount_73 (by decide) ?_
        have hP9 := hP.sub (ws' := [(mo, .inr (12, [.ref nw, .ref kp, .ref ik, .ref mr, .long la_, .long lb_, .ref mw, .long lc_, .int ti_, .int cb_, .long ld_, .long le_, .ref mq, .ref mz, .ref my, .int sm_, .ref mb, .int (nI jb), .int (nI ga_23), .int (nI gl_24), .int h_token_20, .int h_value_21, .ref mx, .ref mv])), (mb, .inl (cb2_, 150, .inl fy_)), (mv, .inl (cv_, 4, .inl gv__22)), (mx, .inl (cx_, 86, .inl fx_))]) [1, 2, 3, 0] rfl
        have hD9 := hD.sub (ws' := [(mo, .inr (12, [.ref nw, .ref kp, .ref ik, .ref mr, .long la_, .long lb_, .ref mw, .long lc_, .int ti_, .int cb_, .long ld_, .long le_, .ref mq, .ref mz, .ref my, .int sm_, .ref mb, .int (nI jb), .int (nI ga_23), .int (nI gl_24), .int h_token_20, .int h_value_21, .ref mx, .ref mv])), (mb, .inl (cb2_, 150, .inl fy_)), (mv, .inl (cv_, 4, .inl gv__22)), (mx, .inl (cx_, 86, .inl fx_))]) [1, 2, 3, 0] (by decide) rfl
        have hK9 := hK.sub (tys' := [(cb2_, .int), (cv_, .int), (cx_, .int)]) [0, 1, 2] rfl
        exact W.zret (v := 0) hx hb hr (by decide) (fun t ht hW => ⟨⟨0, (), rfl, Or.inl rfl, h_token_20, h_value_21, gv__22, fx_, ga_23, gl_24, hOx, by omega, by omega, hf_27, by rw [ht]; exact hP9, va_K.moved hW.alike hK9, hD9⟩, hS.F ht⟩) hS.2.2 dX12_readsCount_74
      · exact absurd c_94 (by decide)
  · have hn_95 : j_1 = 8 := (nI_eq (a := j_1) (b := 8) (by omega) (by omega)).mp c_4
    refine lv_iconst (v := 0) hx hb dX12_readsCount_11 (by decide) ?_
    have hP9 := hP.sub (ws' := [(mo, .inr (12, [.ref nw, .ref kp, .ref ik, .ref mr, .long la_, .long lb_, .ref mw, .long lc_, .int ti_, .int cb_, .long ld_, .long le_, .ref mq, .ref mz, .ref my, .int sm_, .ref mb, .int (nI jb), .int (nI ja), .int (nI jl), .int tk_, .int vl_, .ref mx, .ref mv])), (mb, .inl (cb2_, 150, .inl fy_)), (mv, .inl (cv_, 4, .inl fv_)), (mx, .inl (cx_, 86, .inl fx_))]) [0, 1, 2, 3] rfl
    have hD9 := hD.sub (ws' := [(mo, .inr (12, [.ref nw, .ref kp, .ref ik, .ref mr, .long la_, .long lb_, .ref mw, .long lc_, .int ti_, .int cb_, .long ld_, .long le_, .ref mq, .ref mz, .ref my, .int sm_, .ref mb, .int (nI jb), .int (nI ja), .int (nI jl), .int tk_, .int vl_, .ref mx, .ref mv])), (mb, .inl (cb2_, 150, .inl fy_)), (mv, .inl (cv_, 4, .inl fv_)), (mx, .inl (cx_, 86, .inl fx_))]) [0, 1, 2, 3] (by decide) rfl
    have hK9 := hK.sub (tys' := [(cb2_, .int), (cv_, .int), (cx_, .int)]) [0, 1, 2] rfl
    exact W.zret (v := 0) hx hb hr (by decide) (fun t ht hW => ⟨⟨0, (), rfl, Or.inl rfl, tk_, vl_, fv_, fx_, ja, jl, hOx, by omega, by omega, h3, by rw [ht]; exact hP9, va_K.moved hW.alike hK9, hD9⟩, hS.F ht⟩) hS.2.2 dX12_readsCount_12
set_option maxRecDepth 20000 in
theorem ggX12_readsFirst_X12_isCalled : GoodIn wsX12_readsFirst wsX12_isCalled := goodIn_r _ [7, 2, 8, 9, 10, 37, 38, 39, 40, 41, 42, 43, 44, 45, 46, 47, 48, 49, 50, 51, 52, 53, 54, 55, 56, 57, 58, 59, 60] (by decide +kernel) (by decide +kernel)
set_option maxRecDepth 20000 in
theorem gX12_readsFirst_X12_isCalled : GoodIn wsX12_readsFirst (wsV RX12 288 RX12 yX12_isCalled wsX12_isCalled) := goodIn_app (goodIn_of _ (by decide +kernel)) ggX12_readsFirst_X12_isCalled
set_option maxRecDepth 20000 in
theorem ggX12_readsFirst_X12_goOn : GoodIn wsX12_readsFirst wsX12_goOn := goodIn_r _ [14, 10, 8, 15, 16, 17, 6, 18, 19, 9, 2, 20, 21, 22, 23, 24, 25, 26, 27, 28, 29, 30, 31, 32, 33, 37, 38, 39, 40, 41, 42, 43, 44, 45, 46, 47, 48, 49, 50, 51, 52, 53, 54, 55, 56, 57, 58, 59, 60] (by decide +kernel) (by decide +kernel)
set_option maxRecDepth 20000 in
theorem gX12_readsFirst_X12_goOn : GoodIn wsX12_readsFirst (wsV RX12 285 RX12 yX12_goOn wsX12_goOn) := goodIn_app (goodIn_of _ (by decide +kernel)) ggX12_readsFirst_X12_goOn
set_option maxRecDepth 20000 in
theorem ggX12_readsFirst_X12_begin : GoodIn wsX12_readsFirst wsX12_begin := goodIn_r _ [36] (by decide +kernel) (by decide +kernel)
set_option maxRecDepth 20000 in
theorem gX12_readsFirst_X12_begin : GoodIn wsX12_readsFirst (va_wsS RX12 55 yX12_begin wsX12_begin) := goodIn_app (goodIn_of _ (by decide +kernel)) ggX12_readsFirst_X12_begin
theorem dX12_readsFirst_0 : decode cX12_readsFirst 0 = .ok (.aload_n 0, 1) := by decide +kernel
theorem dX12_readsFirst_1 : decode cX12_readsFirst 1 = .ok (.iconst 4, 1) := by decide +kernel
theorem dX12_readsFirst_2 : decode cX12_readsFirst 2 = .ok (.bipush 98, 2) := by decide +kernel
theorem dX12_readsFirst_4 : decode cX12_readsFirst 4 = .ok (.bipush 97, 2) := by decide +kernel
theorem dX12_readsFirst_6 : decode cX12_readsFirst 6 = .ok (.bipush 110, 2) := by decide +kernel
theorem dX12_readsFirst_8 : decode cX12_readsFirst 8 = .ok (.bipush 107, 2) := by decide +kernel
theorem dX12_readsFirst_10 : decode cX12_readsFirst 10 = .ok (.iconst 0, 1) := by decide +kernel
theorem dX12_readsFirst_11 : decode cX12_readsFirst 11 = .ok (.iconst 0, 1) := by decide +kernel
theorem dX12_readsFirst_12 : decode cX12_readsFirst 12 = .ok (.invokevirtual 288, 3) := by decide +kernel
theorem dX12_readsFirst_15 : decode cX12_readsFirst 15 = .ok (.ifCond .ne 5, 3) := by decide +kernel
theorem dX12_readsFirst_20 : decode cX12_readsFirst 20 = .ok (.aload_n 0, 1) := by decide +kernel
theorem dX12_readsFirst_21 : decode cX12_readsFirst 21 = .ok (.invokevirtual 285, 3) := by decide +kernel
theorem dX12_readsFirst_24 : decode cX12_readsFirst 24 = .ok (.aload_n 0, 1) := by decide +kernel
theorem dX12_readsFirst_25 : decode cX12_readsFirst 25 = .ok (.getfield 43, 3) := by decide +kernel
theorem dX12_readsFirst_28 : decode cX12_readsFirst 28 = .ok (.invokestatic 55, 3) := by decide +kernel
theorem dX12_readsFirst_31 : decode cX12_readsFirst 31 = .ok (.aload_n 0, 1) := by decide +kernel
theorem dX12_readsFirst_32 : decode cX12_readsFirst 32 = .ok (.getfield 270, 3) := by decide +kernel
theorem dX12_readsFirst_35 : decode cX12_readsFirst 35 = .ok (.iconst 3, 1) := by decide +kernel
theorem dX12_readsFirst_36 : decode cX12_readsFirst 36 = .ok (.if_icmp .ne 7, 3) := by decide +kernel
theorem dX12_readsFirst_43 : decode cX12_readsFirst 43 = .ok (.iconst 0, 1) := by decide +kernel
theorem dX12_readsFirst_44 : decode cX12_readsFirst 44 = .ok (.ireturn, 1) := by decide +kernel
theorem dX12_readsFirst_39 : decode cX12_readsFirst 39 = .ok (.iconst 1, 1) := by decide +kernel
theorem dX12_readsFirst_40 : decode cX12_readsFirst 40 = .ok (.goto 4, 3) := by decide +kernel
theorem dX12_readsFirst_18 : decode cX12_readsFirst 18 = .ok (.iconst 0, 1) := by decide +kernel
theorem dX12_readsFirst_19 : decode cX12_readsFirst 19 = .ok (.ireturn, 1) := by decide +kernel
set_option maxRecDepth 20000 in
theorem iw_m_readsFirst_X12 : ∀ w ∈ wsX120, w ∈ wsX12_readsFirst := by decide +kernel
set_option maxHeartbeats 4000000 in
set_option maxRecDepth 100000 in
theorem m_readsFirst (l : Launch) (dC : Nat → ClassId) (dI : Nat → Nat → Nat) (mo : Nat) (nw : Nat) (kp : Nat) (ik : Nat) (mr : Nat) (la_ : Int64) (lb_ : Int64) (mw : Nat) (lc_ : Int64) (ti_ : Int32) (cb_ : Int32) (ld_ : Int64) (le_ : Int64) (mq : Nat) (mz : Nat) (my : Nat) (sm_ : Int32) (mb : Nat) (jb : Nat) (ja : Nat) (jl : Nat) (tk_ : Int32) (vl_ : Int32) (mx : Nat) (mv : Nat) (cb2_ : ClassId) (fy_ : Nat → Int32) (cv_ : ClassId) (fv_ : Nat → Int32) (cx_ : ClassId) (fx_ : Nat → Int32) (sz : Nat) (hOx : tz_OK 86 fx_) (hjb : jb ≤ 150) (hjl : ja + jl ≤ jb) (h3 : tk_ = 3 → 1 ≤ jl) : Met l yX12_readsFirst wsX12_readsFirst ({ frames := 4, cells := 0, slots := 0, locals := 89 }) (va_Pc [.ref mo] (fun U => U.heap.size = sz ∧ va_P (dC, dI) vwCl [(mo, .inr (12, [.ref nw, .ref kp, .ref ik, .ref mr, .long la_, .long lb_, .ref mw, .long lc_, .int ti_, .int cb_, .long ld_, .long le_, .ref mq, .ref mz, .ref my, .int sm_, .ref mb, .int (nI jb), .int (nI ja), .int (nI jl), .int tk_, .int vl_, .ref mx, .ref mv])), (mb, .inl (cb2_, 150, .inl fy_)), (mv, .inl (cv_, 4, .inl fv_)), (mx, .inl (cx_, 86, .inl fx_))] U.heap ∧ va_K (dC, dI) vwCl [(cb2_, .int), (cv_, .int), (cx_, .int)] U ∧ va_D (fun _ => True) [(mo, .inr (12, [.ref nw, .ref kp, .ref ik, .ref mr, .long la_, .long lb_, .ref mw, .long lc_, .int ti_, .int cb_, .long ld_, .long le_, .ref mq, .ref mz, .ref my, .int sm_, .ref mb, .int (nI jb), .int (nI ja), .int (nI jl), .int tk_, .int vl_, .ref mx, .ref mv])), (mb, .inl (cb2_, 150, .inl fy_)), (mv, .inl (cv_, 4, .inl fv_)), (mx, .inl (cx_, 86, .inl fx_))])) (va_Qi (fun (r : Int32) (_ : Unit) => r = 0 ∨ r = 1) (fun _ t => ∃ (h_token : Int32) (h_value : Int32) (gv_ : Nat → Int32) (gx_ : Nat → Int32) (ga : Nat) (gl : Nat), (tz_OK 86 gx_) ∧ (ja ≤ ga) ∧ (ga + gl ≤ jb) ∧ (h_token = 3 → 1 ≤ gl) ∧ va_P (dC, dI) vwCl [(mo, .inr (12, [.ref nw, .ref kp, .ref ik, .ref mr, .long la_, .long lb_, .ref mw, .long lc_, .int ti_, .int cb_, .long ld_, .long le_, .ref mq, .ref mz, .ref my, .int sm_, .ref mb, .int (nI jb), .int (nI ga), .int (nI gl), .int h_token, .int h_value, .ref mx, .ref mv])), (mb, .inl (cb2_, 150, .inl fy_)), (mv, .inl (cv_, 4, .inl gv_)), (mx, .inl (cx_, 86, .inl gx_))] t.heap ∧ va_K (dC, dI) vwCl [(cb2_, .int), (cv_, .int), (cx_, .int)] t ∧ va_D (va_A [(mo, .inr (12, [.ref nw, .ref kp, .ref ik, .ref mr, .long la_, .long lb_, .ref mw, .long lc_, .int ti_, .int cb_, .long ld_, .long le_, .ref mq, .ref mz, .ref my, .int sm_, .ref mb, .int (nI jb), .int (nI ja), .int (nI jl), .int tk_, .int vl_, .ref mx, .ref mv])), (mb, .inl (cb2_, 150, .inl fy_)), (mv, .inl (cv_, 4, .inl fv_)), (mx, .inl (cx_, 86, .inl fx_))] sz) [(mo, .inr (12, [.ref nw, .ref kp, .ref ik, .ref mr, .long la_, .long lb_, .ref mw, .long lc_, .int ti_, .int cb_, .long ld_, .long le_, .ref mq, .ref mz, .ref my, .int sm_, .ref mb, .int (nI jb), .int (nI ga), .int (nI gl), .int h_token, .int h_value, .ref mx, .ref mv])), (mb, .inl (cb2_, 150, .inl fy_)), (mv, .inl (cv_, 4, .inl gv_)), (mx, .inl (cx_, 86, .inl gx_))]) (va_A [(mo, .inr (12, [.ref nw, .ref kp, .ref ik, .ref mr, .long la_, .long lb_, .ref mw, .long lc_, .int ti_, .int cb_, .long ld_, .long le_, .ref mq, .ref mz, .ref my, .int sm_, .ref mb, .int (nI jb), .int (nI ja), .int (nI jl), .int tk_, .int vl_, .ref mx, .ref mv])), (mb, .inl (cb2_, 150, .inl fy_)), (mv, .inl (cv_, 4, .inl fv_)), (mx, .inl (cx_, 86, .inl fx_))] sz)) 0 0 (va_A [(mo, .inr (12, [.ref nw, .ref kp, .ref ik, .ref mr, .long la_, .long lb_, .ref mw, .long lc_, .int ti_, .int cb_, .long ld_, .long le_, .ref mq, .ref mz, .ref my, .int sm_, .ref mb, .int (nI jb), .int (nI ja), .int (nI jl), .int tk_, .int vl_, .ref mx, .ref mv])), (mb, .inl (cb2_, 150, .inl fy_)), (mv, .inl (cv_, 4, .inl fv_)), (mx, .inl (cx_, 86, .inl fx_))] sz) := by
  refine Met.ofW (cc := cX12_readsFirst) (maxL := 1) (ret := (some .boolean)) (by decide) rfl ?_
  intro p e s m args below meth c s₁ B hml hv
  obtain ⟨rfl, hsz, hP, hK, hD0⟩ := hv
  have hx := B.exec
  have hb := B.bytes
  have hr := B.returns
  have hts := atoms_spec (ws := wsX12_readsFirst) B.pre
  have hown : s.vm.findClass RX12 = some m.cls := findClass_of_methodNamed B.named
  have hlocks := B.notSynchronized
  subst hsz
  have hD := hD0.self (sz := s.heap.size)
  generalize hAe : va_A [(mo, .inr (12, [.ref nw, .ref kp, .ref ik, .ref mr, .long la_, .long lb_, .ref mw, .long lc_, .int ti_, .int cb_, .long ld_, .long le_, .ref mq, .ref mz, .ref my, .int sm_, .ref mb, .int (nI jb), .int (nI ja), .int (nI jl), .int tk_, .int vl_, .ref mx, .ref mv])), (mb, .inl (cb2_, 150, .inl fy_)), (mv, .inl (cv_, 4, .inl fv_)), (mx, .inl (cx_, 86, .inl fx_))] s.heap.size = A at hD ⊢
  have hA : ∀ q : Nat, s.heap.size ≤ q → A q := fun q h => by rw [← hAe]; exact Or.inr h
  have hS : va_S A s.heap s.heap [] := va_S.rf
  have hP : va_P (dC, dI) vwCl [(mo, .inr (12, [.ref nw, .ref kp, .ref ik, .ref mr, .long la_, .long lb_, .ref mw, .long lc_, .int ti_, .int cb_, .long ld_, .long le_, .ref mq, .ref mz, .ref my, .int sm_, .ref mb, .int (nI jb), .int (nI ja), .int (nI jl), .int tk_, .int vl_, .ref mx, .ref mv])), (mb, .inl (cb2_, 150, .inl fy_)), (mv, .inl (cv_, 4, .inl fv_)), (mx, .inl (cx_, 86, .inl fx_))] s.heap := hP
  have hl := lv_entry ([.ref mo]) (n := 1) (Nat.le_of_ble_eq_true rfl)
  rw [lg_entry_eq]
  generalize (lg_sl ([.ref mo]) ++ List.replicate (1 - (lg_sl ([.ref mo])).length) Slot.unset).toArray = ls at hl ⊢
  have hl : lv_has ls 1 [(0, .ref mo)] := hl
  refine lv_aload_n hx hb dX12_readsFirst_0 rfl (lv_at hl 0 rfl) ?_
  refine lv_iconst (v := 4) hx hb dX12_readsFirst_1 (by decide) ?_
  refine lv_bipush (v := 98) hx hb dX12_readsFirst_2 (by decide) ?_
  refine lv_bipush (v := 97) hx hb dX12_readsFirst_4 (by decide) ?_
  refine lv_bipush (v := 110) hx hb dX12_readsFirst_6 (by decide) ?_
  refine lv_bipush (v := 107) hx hb dX12_readsFirst_8 (by decide) ?_
  refine lv_iconst (v := 0) hx hb dX12_readsFirst_10 (by decide) ?_
  refine lv_iconst (v := 0) hx hb dX12_readsFirst_11 (by decide) ?_
  have hPc_1 := hP.sub (ws' := [(mo, .inr (12, [.ref nw, .ref kp, .ref ik, .ref mr, .long la_, .long lb_, .ref mw, .long lc_, .int ti_, .int cb_, .long ld_, .long le_, .ref mq, .ref mz, .ref my, .int sm_, .ref mb, .int (nI jb), .int (nI ja), .int (nI jl), .int tk_, .int vl_, .ref mx, .ref mv])), (mb, .inl (cb2_, 150, .inl fy_))]) [0, 1] rfl
  have hKc_2 := hK.sub (tys' := [(cb2_, .int)]) [0] rfl
  refine vp_callSi (va_Run.run (va_runV (As := [.int 4, .int 98, .int 97, .int 110, .int 107, .int 0, .int 0]) (rest := []) ⟨hx, hb, hml, hown, hts⟩ (m_isCalled l dC dI mo nw kp ik mr la_ lb_ mw lc_ ti_ cb_ ld_ le_ mq mz my sm_ mb jb ja jl tk_ vl_ mx mv cb2_ fy_ 4 98 97 110 107 0 0 hjb hjl (by omega)) (cwV 7 hts gX12_readsFirst_X12_isCalled rfl rfl rfl (by decide +kernel) ⟨Nat.le_of_ble_eq_true rfl, Nat.le_of_ble_eq_true rfl⟩) ⟨fun a U g mk q => by obtain ⟨q0, qP, qK⟩ := q; exact ⟨q0, qP, va_K.moved (u := U) (U := U.calling g mk a) (Vm.Alike.refl U.vm) qK⟩, va_recv hK hP (ci := 12) (q0 := 0) rfl rfl, fun U hU hW => ⟨rfl, by rw [hU]; exact hPc_1, va_K.moved hW.alike hKc_2⟩⟩ rfl rfl hl.1 rfl (lv_room (Nat.le_of_ble_eq_true rfl)) dX12_readsFirst_12 ⟨Nat.le_of_ble_eq_true rfl, Nat.le_of_ble_eq_true rfl⟩)) (fun r_3 hw_4 => ?_)
  refine lv_if_ne (tgt := 20) hx hb dX12_readsFirst_15 (by decide) (fun c_5 => ?_) (fun c_5 => ?_)
  · refine lv_aload_n hx hb dX12_readsFirst_20 rfl (lv_at hl 0 rfl) ?_
    have hPc := hP.sub (ws' := [(mo, .inr (12, [.ref nw, .ref kp, .ref ik, .ref mr, .long la_, .long lb_, .ref mw, .long lc_, .int ti_, .int cb_, .long ld_, .long le_, .ref mq, .ref mz, .ref my, .int sm_, .ref mb, .int (nI jb), .int (nI ja), .int (nI jl), .int tk_, .int vl_, .ref mx, .ref mv])), (mb, .inl (cb2_, 150, .inl fy_))]) [0, 1] rfl
    have hDc := hD.sub (ws' := [(mo, .inr (12, [.ref nw, .ref kp, .ref ik, .ref mr, .long la_, .long lb_, .ref mw, .long lc_, .int ti_, .int cb_, .long ld_, .long le_, .ref mq, .ref mz, .ref my, .int sm_, .ref mb, .int (nI jb), .int (nI ja), .int (nI jl), .int tk_, .int vl_, .ref mx, .ref mv])), (mb, .inl (cb2_, 150, .inl fy_))]) [0, 1] (by decide) rfl
    have hKc := hK.sub (tys' := [(cb2_, .int)]) [0] rfl
    have hFc := va_free (wc := [(mo, .inr (12, [.ref nw, .ref kp, .ref ik, .ref mr, .long la_, .long lb_, .ref mw, .long lc_, .int ti_, .int cb_, .long ld_, .long le_, .ref mq, .ref mz, .ref my, .int sm_, .ref mb, .int (nI jb), .int (nI ja), .int (nI jl), .int tk_, .int vl_, .ref mx, .ref mv])), (mb, .inl (cb2_, 150, .inl fy_))]) hD hS hA [0, 1] rfl
    refine va_callv (va_runV (As := []) (rest := []) ⟨hx, hb, hml, hown, hts⟩ (m_goOn l dC dI mo nw kp ik mr la_ lb_ mw lc_ ti_ cb_ ld_ le_ mq mz my sm_ mb jb ja jl tk_ vl_ mx mv cb2_ fy_ s.heap.size hjb hjl) (cwV 0 hts gX12_readsFirst_X12_goOn rfl rfl rfl (by decide +kernel) ⟨Nat.le_of_ble_eq_true rfl, Nat.le_of_ble_eq_true rfl⟩) ⟨fun a U g mk q => by obtain ⟨q0, q1, qP, qK, qD⟩ := q; exact ⟨q0, q1, qP, va_K.moved (u := U) (U := U.calling g mk a) (Vm.Alike.refl U.vm) qK, qD⟩, va_recv hK hP (ci := 12) (q0 := 0) rfl rfl, fun U hU hW => ⟨rfl, by rw [hU], by rw [hU]; exact hPc, va_K.moved hW.alike hKc, hDc.weaken (fun _ _ _ _ => trivial)⟩⟩ rfl rfl hl.1 rfl (lv_room (Nat.le_of_ble_eq_true rfl)) dX12_readsFirst_21 ⟨Nat.le_of_ble_eq_true rfl, Nat.le_of_ble_eq_true rfl⟩) hS (fun q _ h => hFc q h) hFc (fun u_ t H1 locs ht hvm hw_7 hB hz1 hk1 hS => ?_)
    obtain ⟨h_token_8, h_value_9, ga_10, gl_11, hf_12, hf_13, hf_14, hP1, hK1, hD1⟩ := hB
    rw [ht] at hP1
    have hK1 := va_K.moved hvm.symm hK1
    obtain ⟨hP, hD⟩ := va_join (wr := [(mv, .inl (cv_, 4, .inl fv_)), (mx, .inl (cx_, 86, .inl fx_))]) (w1 := [(mo, .inr (12, [.ref nw, .ref kp, .ref ik, .ref mr, .long la_, .long lb_, .ref mw, .long lc_, .int ti_, .int cb_, .long ld_, .long le_, .ref mq, .ref mz, .ref my, .int sm_, .ref mb, .int (nI jb), .int (nI ga_10), .int (nI gl_11), .int h_token_8, .int h_value_9, .ref mx, .ref mv])), (mb, .inl (cb2_, 150, .inl fy_))]) hP hD [0, 1] [2, 3] rfl rfl (by decide) (by decide) hk1 hFc hP1 hD1
    generalize H1 = H at hP hS ⊢
    have hP : va_P (dC, dI) vwCl [(mv, .inl (cv_, 4, .inl fv_)), (mx, .inl (cx_, 86, .inl fx_)), (mo, .inr (12, [.ref nw, .ref kp, .ref ik, .ref mr, .long la_, .long lb_, .ref mw, .long lc_, .int ti_, .int cb_, .long ld_, .long le_, .ref mq, .ref mz, .ref my, .int sm_, .ref mb, .int (nI jb), .int (nI ga_10), .int (nI gl_11), .int h_token_8, .int h_value_9, .ref mx, .ref mv])), (mb, .inl (cb2_, 150, .inl fy_))] H := hP
    have hD : va_D A [(mv, .inl (cv_, 4, .inl fv_)), (mx, .inl (cx_, 86, .inl fx_)), (mo, .inr (12, [.ref nw, .ref kp, .ref ik, .ref mr, .long la_, .long lb_, .ref mw, .long lc_, .int ti_, .int cb_, .long ld_, .long le_, .ref mq, .ref mz, .ref my, .int sm_, .ref mb, .int (nI jb), .int (nI ga_10), .int (nI gl_11), .int h_token_8, .int h_value_9, .ref mx, .ref mv])), (mb, .inl (cb2_, 150, .inl fy_))] := hD
    refine lv_aload_n hx hb dX12_readsFirst_24 rfl (lv_at hl 0 rfl) ?_
    refine va_get (D := (dC, dI)) (ci := 12) (v := .ref mx) (C := RX12) (T := TX12) (N := 24) hx hb hts iw_m_readsFirst_X12 hown hK hP 2 rfl rfl 22 (by decide) (hts (.fieldLink RX12 43 "ThriceCountedModel" "next" "[I") (by decide +kernel)) (fun _ h9 => h9) rfl dX12_readsFirst_25 ?_
    have hPc := hP.sub (ws' := [(mx, .inl (cx_, 86, .inl fx_))]) [1] rfl
    have hDc := hD.sub (ws' := [(mx, .inl (cx_, 86, .inl fx_))]) [1] (by decide) rfl
    have hKc := hK.sub (tys' := [(cx_, .int)]) [2] rfl
    have hFc := va_free (wc := [(mx, .inl (cx_, 86, .inl fx_))]) hD hS hA [1] rfl
    refine va_callv (va_runS (As := [.ref mx]) (rest := []) ⟨hx, hb, hml, hown, hts⟩ (m_begin_86 l dC dI mx cx_ fx_ H.size) (va_cwS 1 hts gX12_readsFirst_X12_begin rfl rfl rfl (by decide +kernel) ⟨Nat.le_of_ble_eq_true rfl, Nat.le_of_ble_eq_true rfl⟩) ⟨fun a U g mk q => by obtain ⟨q0, q1, qP, qK, qD⟩ := q; exact ⟨q0, q1, qP, va_K.moved (u := U) (U := U.calling g mk a) (Vm.Alike.refl U.vm) qK, qD⟩, fun U hU hW => ⟨rfl, by rw [hU], by rw [hU]; exact hPc, va_K.moved hW.alike hKc, hDc.weaken (fun _ _ _ _ => trivial)⟩⟩ rfl rfl hl.1 rfl (lv_room (Nat.le_of_ble_eq_true rfl)) dX12_readsFirst_28 ⟨Nat.le_of_ble_eq_true rfl, Nat.le_of_ble_eq_true rfl⟩) hS (fun q _ h => hFc q h) hFc (fun u_ t H1 locs ht hvm hw_16 hB hz1 hk1 hS => ?_)
    obtain ⟨gf_17, hf_18, hP1, hK1, hD1⟩ := hB
    rw [ht] at hP1
    have hK1 := va_K.moved hvm.symm hK1
    obtain ⟨hP, hD⟩ := va_join (wr := [(mv, .inl (cv_, 4, .inl fv_)), (mo, .inr (12, [.ref nw, .ref kp, .ref ik, .ref mr, .long la_, .long lb_, .ref mw, .long lc_, .int ti_, .int cb_, .long ld_, .long le_, .ref mq, .ref mz, .ref my, .int sm_, .ref mb, .int (nI jb), .int (nI ga_10), .int (nI gl_11), .int h_token_8, .int h_value_9, .ref mx, .ref mv])), (mb, .inl (cb2_, 150, .inl fy_))]) (w1 := [(mx, .inl (cx_, 86, .inl gf_17))]) hP hD [1] [0, 2, 3] rfl rfl (by decide) (by decide) hk1 hFc hP1 hD1
    generalize H1 = H at hP hS ⊢
    have hP : va_P (dC, dI) vwCl [(mv, .inl (cv_, 4, .inl fv_)), (mo, .inr (12, [.ref nw, .ref kp, .ref ik, .ref mr, .long la_, .long lb_, .ref mw, .long lc_, .int ti_, .int cb_, .long ld_, .long le_, .ref mq, .ref mz, .ref my, .int sm_, .ref mb, .int (nI jb), .int (nI ga_10), .int (nI gl_11), .int h_token_8, .int h_value_9, .ref mx, .ref mv])), (mb, .inl (cb2_, 150, .inl fy_)), (mx, .inl (cx_, 86, .inl gf_17))] H := hP
    have hD : va_D A [(mv, .inl (cv_, 4, .inl fv_)), (mo, .inr (12, [.ref nw, .ref kp, .ref ik, .ref mr, .long la_, .long lb_, .ref mw, .long lc_, .int ti_, .int cb_, .long ld_, .long le_, .ref mq, .ref mz, .ref my, .int sm_, .ref mb, .int (nI jb), .int (nI ga_10), .int (nI gl_11), .int h_token_8, .int h_value_9, .ref mx, .ref mv])), (mb, .inl (cb2_, 150, .inl fy_)), (mx, .inl (cx_, 86, .inl gf_17))] := hD
    refine lv_aload_n hx hb dX12_readsFirst_31 rfl (lv_at hl 0 rfl) ?_
    refine va_get (D := (dC, dI)) (ci := 12) (v := .int h_token_8) (C := RX12) (T := TX12) (N := 24) hx hb hts iw_m_readsFirst_X12 hown hK hP 1 rfl rfl 20 (by decide) (hts (.fieldLink RX12 270 "ThriceCountedModel" "token" "I") (by decide +kernel)) (fun _ h9 => h9) rfl dX12_readsFirst_32 ?_
    refine lv_iconst (v := 3) hx hb dX12_readsFirst_35 (by decide) ?_
    refine lv_icmp_ne (tgt := 43) hx hb dX12_readsFirst_36 (by decide) (fun c_19 => ?_) (fun c_19 => ?_)
    · refine lv_iconst (v := 0) hx hb dX12_readsFirst_43 (by decide) ?_
      have hP9 := hP.sub (ws' := [(mo, .inr (12, [.ref nw, .ref kp, .ref ik, .ref mr, .long la_, .long lb_, .ref mw, .long lc_, .int ti_, .int cb_, .long ld_, .long le_, .ref mq, .ref mz, .ref my, .int sm_, .ref mb, .int (nI jb), .int (nI ga_10), .int (nI gl_11), .int h_token_8, .int h_value_9, .ref mx, .ref mv])), (mb, .inl (cb2_, 150, .inl fy_)), (mv, .inl (cv_, 4, .inl fv_)), (mx, .inl (cx_, 86, .inl gf_17))]) [1, 2, 0, 3] rfl
      have hD9 := hD.sub (ws' := [(mo, .inr (12, [.ref nw, .ref kp, .ref ik, .ref mr, .long la_, .long lb_, .ref mw, .long lc_, .int ti_, .int cb_, .long ld_, .long le_, .ref mq, .ref mz, .ref my, .int sm_, .ref mb, .int (nI jb), .int (nI ga_10), .int (nI gl_11), .int h_token_8, .int h_value_9, .ref mx, .ref mv])), (mb, .inl (cb2_, 150, .inl fy_)), (mv, .inl (cv_, 4, .inl fv_)), (mx, .inl (cx_, 86, .inl gf_17))]) [1, 2, 0, 3] (by decide) rfl
      have hK9 := hK.sub (tys' := [(cb2_, .int), (cv_, .int), (cx_, .int)]) [0, 1, 2] rfl
      exact W.zret (v := 0) hx hb hr (by decide) (fun t ht hW => ⟨⟨0, (), rfl, Or.inl rfl, h_token_8, h_value_9, fv_, gf_17, ga_10, gl_11, hf_18, by omega, by omega, hf_14, by rw [ht]; exact hP9, va_K.moved hW.alike hK9, hD9⟩, hS.F ht⟩) hS.2.2 dX12_readsFirst_44
    · refine lv_iconst (v := 1) hx hb dX12_readsFirst_39 (by decide) ?_
      refine lv_goto (tgt := 44) hx hb dX12_readsFirst_40 (by decide) ?_
      have hP9 := hP.sub (ws' := [(mo, .inr (12, [.ref nw, .ref kp, .ref ik, .ref mr, .long la_, .long lb_, .ref mw, .long lc_, .int ti_, .int cb_, .long ld_, .long le_, .ref mq, .ref mz, .ref my, .int sm_, .ref mb, .int (nI jb), .int (nI ga_10), .int (nI gl_11), .int h_token_8, .int h_value_9, .ref mx, .ref mv])), (mb, .inl (cb2_, 150, .inl fy_)), (mv, .inl (cv_, 4, .inl fv_)), (mx, .inl (cx_, 86, .inl gf_17))]) [1, 2, 0, 3] rfl
      have hD9 := hD.sub (ws' := [(mo, .inr (12, [.ref nw, .ref kp, .ref ik, .ref mr, .long la_, .long lb_, .ref mw, .long lc_, .int ti_, .int cb_, .long ld_, .long le_, .ref mq, .ref mz, .ref my, .int sm_, .ref mb, .int (nI jb), .int (nI ga_10), .int (nI gl_11), .int h_token_8, .int h_value_9, .ref mx, .ref mv])), (mb, .inl (cb2_, 150, .inl fy_)), (mv, .inl (cv_, 4, .inl fv_)), (mx, .inl (cx_, 86, .inl gf_17))]) [1, 2, 0, 3] (by decide) rfl
      have hK9 := hK.sub (tys' := [(cb2_, .int), (cv_, .int), (cx_, .int)]) [0, 1, 2] rfl
      exact W.zret (v := 1) hx hb hr (by decide) (fun t ht hW => ⟨⟨1, (), rfl, Or.inr rfl, h_token_8, h_value_9, fv_, gf_17, ga_10, gl_11, hf_18, by omega, by omega, hf_14, by rw [ht]; exact hP9, va_K.moved hW.alike hK9, hD9⟩, hS.F ht⟩) hS.2.2 dX12_readsFirst_44
  · refine lv_iconst (v := 0) hx hb dX12_readsFirst_18 (by decide) ?_
    have hP9 := hP.sub (ws' := [(mo, .inr (12, [.ref nw, .ref kp, .ref ik, .ref mr, .long la_, .long lb_, .ref mw, .long lc_, .int ti_, .int cb_, .long ld_, .long le_, .ref mq, .ref mz, .ref my, .int sm_, .ref mb, .int (nI jb), .int (nI ja), .int (nI jl), .int tk_, .int vl_, .ref mx, .ref mv])), (mb, .inl (cb2_, 150, .inl fy_)), (mv, .inl (cv_, 4, .inl fv_)), (mx, .inl (cx_, 86, .inl fx_))]) [0, 1, 2, 3] rfl
    have hD9 := hD.sub (ws' := [(mo, .inr (12, [.ref nw, .ref kp, .ref ik, .ref mr, .long la_, .long lb_, .ref mw, .long lc_, .int ti_, .int cb_, .long ld_, .long le_, .ref mq, .ref mz, .ref my, .int sm_, .ref mb, .int (nI jb), .int (nI ja), .int (nI jl), .int tk_, .int vl_, .ref mx, .ref mv])), (mb, .inl (cb2_, 150, .inl fy_)), (mv, .inl (cv_, 4, .inl fv_)), (mx, .inl (cx_, 86, .inl fx_))]) [0, 1, 2, 3] (by decide) rfl
    have hK9 := hK.sub (tys' := [(cb2_, .int), (cv_, .int), (cx_, .int)]) [0, 1, 2] rfl
    exact W.zret (v := 0) hx hb hr (by decide) (fun t ht hW => ⟨⟨0, (), rfl, Or.inl rfl, tk_, vl_, fv_, fx_, ja, jl, hOx, by omega, by omega, h3, by rw [ht]; exact hP9, va_K.moved hW.alike hK9, hD9⟩, hS.F ht⟩) hS.2.2 dX12_readsFirst_19
set_option maxRecDepth 20000 in
theorem ggX12_readsItem_X12_isCalled : GoodIn wsX12_readsItem wsX12_isCalled := goodIn_r _ [5, 6, 7, 8, 9, 67, 68, 69, 70, 71, 72, 73, 74, 75, 76, 77, 78, 79, 80, 81, 82, 83, 84, 85, 86, 87, 88, 89, 90] (by decide +kernel) (by decide +kernel)
set_option maxRecDepth 20000 in
theorem gX12_readsItem_X12_isCalled : GoodIn wsX12_readsItem (wsV RX12 288 RX12 yX12_isCalled wsX12_isCalled) := goodIn_app (goodIn_of _ (by decide +kernel)) ggX12_readsItem_X12_isCalled
set_option maxRecDepth 20000 in
theorem ggX12_readsItem_X12_readsCount : GoodIn wsX12_readsItem wsX12_readsCount := goodIn_r _ [63, 14, 15, 16, 17, 18, 4, 19, 9, 7, 20, 21, 22, 23, 24, 8, 6, 25, 26, 27, 28, 29, 30, 31, 32, 33, 34, 35, 36, 37, 38, 39, 40, 41, 42, 64, 65, 66, 67, 68, 69, 70, 71, 72, 73, 74, 75, 76, 77, 78, 79, 80, 81, 82, 83, 84, 85, 86, 87, 88, 89, 90] (by decide +kernel) (by decide +kernel)
set_option maxRecDepth 20000 in
theorem gX12_readsItem_X12_readsCount : GoodIn wsX12_readsItem (wsV RX12 304 RX12 yX12_readsCount wsX12_readsCount) := goodIn_app (goodIn_of _ (by decide +kernel)) ggX12_readsItem_X12_readsCount
set_option maxRecDepth 20000 in
theorem ggX12_readsItem_X12_readsBand : GoodIn wsX12_readsItem wsX12_readsBand := goodIn_r _ [56, 14, 15, 16, 17, 18, 4, 19, 9, 7, 20, 21, 22, 23, 24, 8, 6, 25, 26, 27, 28, 29, 30, 31, 32, 33, 34, 35, 36, 37, 38, 39, 40, 41, 42, 57, 58, 59, 67, 68, 69, 70, 71, 72, 73, 74, 75, 76, 77, 78, 79, 80, 81, 82, 83, 84, 85, 86, 87, 88, 89, 90] (by decide +kernel) (by decide +kernel)
set_option maxRecDepth 20000 in
theorem gX12_readsItem_X12_readsBand : GoodIn wsX12_readsItem (wsV RX12 301 RX12 yX12_readsBand wsX12_readsBand) := goodIn_app (goodIn_of _ (by decide +kernel)) ggX12_readsItem_X12_readsBand
set_option maxRecDepth 20000 in
theorem ggX12_readsItem_X12_readsBundle : GoodIn wsX12_readsItem wsX12_readsBundle := goodIn_r _ [49, 14, 15, 16, 17, 18, 4, 19, 9, 7, 20, 21, 22, 23, 24, 8, 6, 25, 26, 27, 28, 29, 30, 31, 32, 33, 34, 35, 36, 37, 38, 39, 40, 41, 42, 50, 51, 52, 67, 68, 69, 70, 71, 72, 73, 74, 75, 76, 77, 78, 79, 80, 81, 82, 83, 84, 85, 86, 87, 88, 89, 90] (by decide +kernel) (by decide +kernel)
set_option maxRecDepth 20000 in
theorem gX12_readsItem_X12_readsBundle : GoodIn wsX12_readsItem (wsV RX12 298 RX12 yX12_readsBundle wsX12_readsBundle) := goodIn_app (goodIn_of _ (by decide +kernel)) ggX12_readsItem_X12_readsBundle
set_option maxRecDepth 20000 in
theorem ggX12_readsItem_X12_readsClerk : GoodIn wsX12_readsItem wsX12_readsClerk := goodIn_r _ [13, 14, 15, 16, 17, 18, 4, 19, 9, 7, 20, 21, 22, 23, 24, 8, 6, 25, 26, 27, 28, 29, 30, 31, 32, 33, 34, 35, 36, 37, 38, 39, 40, 41, 42, 43, 44, 45, 67, 68, 69, 70, 71, 72, 73, 74, 75, 76, 77, 78, 79, 80, 81, 82, 83, 84, 85, 86, 87, 88, 89, 90] (by decide +kernel) (by decide +kernel)
set_option maxRecDepth 20000 in
theorem gX12_readsItem_X12_readsClerk : GoodIn wsX12_readsItem (wsV RX12 295 RX12 yX12_readsClerk wsX12_readsClerk) := goodIn_app (goodIn_of _ (by decide +kernel)) ggX12_readsItem_X12_readsClerk
theorem dX12_readsItem_0 : decode cX12_readsItem 0 = .ok (.aload_n 0, 1) := by decide +kernel
theorem dX12_readsItem_1 : decode cX12_readsItem 1 = .ok (.iconst 5, 1) := by decide +kernel
theorem dX12_readsItem_2 : decode cX12_readsItem 2 = .ok (.bipush 99, 2) := by decide +kernel
theorem dX12_readsItem_4 : decode cX12_readsItem 4 = .ok (.bipush 108, 2) := by decide +kernel
theorem dX12_readsItem_6 : decode cX12_readsItem 6 = .ok (.bipush 101, 2) := by decide +kernel
theorem dX12_readsItem_8 : decode cX12_readsItem 8 = .ok (.bipush 114, 2) := by decide +kernel
theorem dX12_readsItem_10 : decode cX12_readsItem 10 = .ok (.bipush 107, 2) := by decide +kernel
theorem dX12_readsItem_12 : decode cX12_readsItem 12 = .ok (.iconst 0, 1) := by decide +kernel
theorem dX12_readsItem_13 : decode cX12_readsItem 13 = .ok (.invokevirtual 288, 3) := by decide +kernel
theorem dX12_readsItem_16 : decode cX12_readsItem 16 = .ok (.ifCond .eq 8, 3) := by decide +kernel
theorem dX12_readsItem_24 : decode cX12_readsItem 24 = .ok (.aload_n 0, 1) := by decide +kernel
theorem dX12_readsItem_25 : decode cX12_readsItem 25 = .ok (.bipush 6, 2) := by decide +kernel
theorem dX12_readsItem_27 : decode cX12_readsItem 27 = .ok (.bipush 98, 2) := by decide +kernel
theorem dX12_readsItem_29 : decode cX12_readsItem 29 = .ok (.bipush 117, 2) := by decide +kernel
theorem dX12_readsItem_31 : decode cX12_readsItem 31 = .ok (.bipush 110, 2) := by decide +kernel
theorem dX12_readsItem_33 : decode cX12_readsItem 33 = .ok (.bipush 100, 2) := by decide +kernel
theorem dX12_readsItem_35 : decode cX12_readsItem 35 = .ok (.bipush 108, 2) := by decide +kernel
theorem dX12_readsItem_37 : decode cX12_readsItem 37 = .ok (.bipush 101, 2) := by decide +kernel
theorem dX12_readsItem_39 : decode cX12_readsItem 39 = .ok (.invokevirtual 288, 3) := by decide +kernel
theorem dX12_readsItem_42 : decode cX12_readsItem 42 = .ok (.ifCond .eq 8, 3) := by decide +kernel
theorem dX12_readsItem_50 : decode cX12_readsItem 50 = .ok (.aload_n 0, 1) := by decide +kernel
theorem dX12_readsItem_51 : decode cX12_readsItem 51 = .ok (.iconst 4, 1) := by decide +kernel
theorem dX12_readsItem_52 : decode cX12_readsItem 52 = .ok (.bipush 98, 2) := by decide +kernel
theorem dX12_readsItem_54 : decode cX12_readsItem 54 = .ok (.bipush 97, 2) := by decide +kernel
theorem dX12_readsItem_56 : decode cX12_readsItem 56 = .ok (.bipush 110, 2) := by decide +kernel
theorem dX12_readsItem_58 : decode cX12_readsItem 58 = .ok (.bipush 100, 2) := by decide +kernel
theorem dX12_readsItem_60 : decode cX12_readsItem 60 = .ok (.iconst 0, 1) := by decide +kernel
theorem dX12_readsItem_61 : decode cX12_readsItem 61 = .ok (.iconst 0, 1) := by decide +kernel
theorem dX12_readsItem_62 : decode cX12_readsItem 62 = .ok (.invokevirtual 288, 3) := by decide +kernel
theorem dX12_readsItem_65 : decode cX12_readsItem 65 = .ok (.ifCond .eq 8, 3) := by decide +kernel
theorem dX12_readsItem_73 : decode cX12_readsItem 73 = .ok (.aload_n 0, 1) := by decide +kernel
theorem dX12_readsItem_74 : decode cX12_readsItem 74 = .ok (.iconst 5, 1) := by decide +kernel
theorem dX12_readsItem_75 : decode cX12_readsItem 75 = .ok (.bipush 99, 2) := by decide +kernel
theorem dX12_readsItem_77 : decode cX12_readsItem 77 = .ok (.bipush 111, 2) := by decide +kernel
theorem dX12_readsItem_79 : decode cX12_readsItem 79 = .ok (.bipush 117, 2) := by decide +kernel
theorem dX12_readsItem_81 : decode cX12_readsItem 81 = .ok (.bipush 110, 2) := by decide +kernel
theorem dX12_readsItem_83 : decode cX12_readsItem 83 = .ok (.bipush 116, 2) := by decide +kernel
theorem dX12_readsItem_85 : decode cX12_readsItem 85 = .ok (.iconst 0, 1) := by decide +kernel
theorem dX12_readsItem_86 : decode cX12_readsItem 86 = .ok (.invokevirtual 288, 3) := by decide +kernel
theorem dX12_readsItem_89 : decode cX12_readsItem 89 = .ok (.ifCond .eq 14, 3) := by decide +kernel
theorem dX12_readsItem_103 : decode cX12_readsItem 103 = .ok (.iconst 0, 1) := by decide +kernel
theorem dX12_readsItem_104 : decode cX12_readsItem 104 = .ok (.ireturn, 1) := by decide +kernel
theorem dX12_readsItem_92 : decode cX12_readsItem 92 = .ok (.aload_n 0, 1) := by decide +kernel
theorem dX12_readsItem_93 : decode cX12_readsItem 93 = .ok (.invokevirtual 304, 3) := by decide +kernel
theorem dX12_readsItem_96 : decode cX12_readsItem 96 = .ok (.ifCond .eq 7, 3) := by decide +kernel
theorem dX12_readsItem_99 : decode cX12_readsItem 99 = .ok (.iconst 1, 1) := by decide +kernel
theorem dX12_readsItem_100 : decode cX12_readsItem 100 = .ok (.goto 4, 3) := by decide +kernel
theorem dX12_readsItem_68 : decode cX12_readsItem 68 = .ok (.aload_n 0, 1) := by decide +kernel
theorem dX12_readsItem_69 : decode cX12_readsItem 69 = .ok (.invokevirtual 301, 3) := by decide +kernel
theorem dX12_readsItem_72 : decode cX12_readsItem 72 = .ok (.ireturn, 1) := by decide +kernel
theorem dX12_readsItem_45 : decode cX12_readsItem 45 = .ok (.aload_n 0, 1) := by decide +kernel
theorem dX12_readsItem_46 : decode cX12_readsItem 46 = .ok (.invokevirtual 298, 3) := by decide +kernel
theorem dX12_readsItem_49 : decode cX12_readsItem 49 = .ok (.ireturn, 1) := by decide +kernel
theorem dX12_readsItem_19 : decode cX12_readsItem 19 = .ok (.aload_n 0, 1) := by decide +kernel
theorem dX12_readsItem_20 : decode cX12_readsItem 20 = .ok (.invokevirtual 295, 3) := by decide +kernel
theorem dX12_readsItem_23 : decode cX12_readsItem 23 = .ok (.ireturn, 1) := by decide +kernel
set_option maxHeartbeats 4000000 in
set_option maxRecDepth 100000 in
theorem m_readsItem (l : Launch) (dC : Nat → ClassId) (dI : Nat → Nat → Nat) (mo : Nat) (nw : Nat) (kp : Nat) (ik : Nat) (mr : Nat) (la_ : Int64) (lb_ : Int64) (mw : Nat) (lc_ : Int64) (ti_ : Int32) (cb_ : Int32) (ld_ : Int64) (le_ : Int64) (mq : Nat) (mz : Nat) (my : Nat) (sm_ : Int32) (mb : Nat) (jb : Nat) (ja : Nat) (jl : Nat) (tk_ : Int32) (vl_ : Int32) (mx : Nat) (mv : Nat) (cb2_ : ClassId) (fy_ : Nat → Int32) (cv_ : ClassId) (fv_ : Nat → Int32) (cx_ : ClassId) (fx_ : Nat → Int32) (sz : Nat) (hOx : tz_OK 86 fx_) (hjb : jb ≤ 150) (hjl : ja + jl ≤ jb) (h3 : tk_ = 3 → 1 ≤ jl) : Met l yX12_readsItem wsX12_readsItem ({ frames := 6, cells := 0, slots := 0, locals := 132 }) (va_Pc [.ref mo] (fun U => U.heap.size = sz ∧ va_P (dC, dI) vwCl [(mo, .inr (12, [.ref nw, .ref kp, .ref ik, .ref mr, .long la_, .long lb_, .ref mw, .long lc_, .int ti_, .int cb_, .long ld_, .long le_, .ref mq, .ref mz, .ref my, .int sm_, .ref mb, .int (nI jb), .int (nI ja), .int (nI jl), .int tk_, .int vl_, .ref mx, .ref mv])), (mb, .inl (cb2_, 150, .inl fy_)), (mv, .inl (cv_, 4, .inl fv_)), (mx, .inl (cx_, 86, .inl fx_))] U.heap ∧ va_K (dC, dI) vwCl [(cb2_, .int), (cv_, .int), (cx_, .int)] U ∧ va_D (fun _ => True) [(mo, .inr (12, [.ref nw, .ref kp, .ref ik, .ref mr, .long la_, .long lb_, .ref mw, .long lc_, .int ti_, .int cb_, .long ld_, .long le_, .ref mq, .ref mz, .ref my, .int sm_, .ref mb, .int (nI jb), .int (nI ja), .int (nI jl), .int tk_, .int vl_, .ref mx, .ref mv])), (mb, .inl (cb2_, 150, .inl fy_)), (mv, .inl (cv_, 4, .inl fv_)), (mx, .inl (cx_, 86, .inl fx_))])) (va_Qi (fun (r : Int32) (_ : Unit) => r = 0 ∨ r = 1) (fun _ t => ∃ (h_token : Int32) (h_value : Int32) (gv_ : Nat → Int32) (gx_ : Nat → Int32) (ga : Nat) (gl : Nat), (tz_OK 86 gx_) ∧ (ja ≤ ga) ∧ (ga + gl ≤ jb) ∧ (h_token = 3 → 1 ≤ gl) ∧ va_P (dC, dI) vwCl [(mo, .inr (12, [.ref nw, .ref kp, .ref ik, .ref mr, .long la_, .long lb_, .ref mw, .long lc_, .int ti_, .int cb_, .long ld_, .long le_, .ref mq, .ref mz, .ref my, .int sm_, .ref mb, .int (nI jb), .int (nI ga), .int (nI gl), .int h_token, .int h_value, .ref mx, .ref mv])), (mb, .inl (cb2_, 150, .inl fy_)), (mv, .inl (cv_, 4, .inl gv_)), (mx, .inl (cx_, 86, .inl gx_))] t.heap ∧ va_K (dC, dI) vwCl [(cb2_, .int), (cv_, .int), (cx_, .int)] t ∧ va_D (va_A [(mo, .inr (12, [.ref nw, .ref kp, .ref ik, .ref mr, .long la_, .long lb_, .ref mw, .long lc_, .int ti_, .int cb_, .long ld_, .long le_, .ref mq, .ref mz, .ref my, .int sm_, .ref mb, .int (nI jb), .int (nI ja), .int (nI jl), .int tk_, .int vl_, .ref mx, .ref mv])), (mb, .inl (cb2_, 150, .inl fy_)), (mv, .inl (cv_, 4, .inl fv_)), (mx, .inl (cx_, 86, .inl fx_))] sz) [(mo, .inr (12, [.ref nw, .ref kp, .ref ik, .ref mr, .long la_, .long lb_, .ref mw, .long lc_, .int ti_, .int cb_, .long ld_, .long le_, .ref mq, .ref mz, .ref my, .int sm_, .ref mb, .int (nI jb), .int (nI ga), .int (nI gl), .int h_token, .int h_value, .ref mx, .ref mv])), (mb, .inl (cb2_, 150, .inl fy_)), (mv, .inl (cv_, 4, .inl gv_)), (mx, .inl (cx_, 86, .inl gx_))]) (va_A [(mo, .inr (12, [.ref nw, .ref kp, .ref ik, .ref mr, .long la_, .long lb_, .ref mw, .long lc_, .int ti_, .int cb_, .long ld_, .long le_, .ref mq, .ref mz, .ref my, .int sm_, .ref mb, .int (nI jb), .int (nI ja), .int (nI jl), .int tk_, .int vl_, .ref mx, .ref mv])), (mb, .inl (cb2_, 150, .inl fy_)), (mv, .inl (cv_, 4, .inl fv_)), (mx, .inl (cx_, 86, .inl fx_))] sz)) 0 0 (va_A [(mo, .inr (12, [.ref nw, .ref kp, .ref ik, .ref mr, .long la_, .long lb_, .ref mw, .long lc_, .int ti_, .int cb_, .long ld_, .long le_, .ref mq, .ref mz, .ref my, .int sm_, .ref mb, .int (nI jb), .int (nI ja), .int (nI jl), .int tk_, .int vl_, .ref mx, .ref mv])), (mb, .inl (cb2_, 150, .inl fy_)), (mv, .inl (cv_, 4, .inl fv_)), (mx, .inl (cx_, 86, .inl fx_))] sz) := by
  refine Met.ofW (cc := cX12_readsItem) (maxL := 1) (ret := (some .boolean)) (by decide) rfl ?_
  intro p e s m args below meth c s₁ B hml hv
  obtain ⟨rfl, hsz, hP, hK, hD0⟩ := hv
  have hx := B.exec
  have hb := B.bytes
  have hr := B.returns
  have hts := atoms_spec (ws := wsX12_readsItem) B.pre
  have hown : s.vm.findClass RX12 = some m.cls := findClass_of_methodNamed B.named
  have hlocks := B.notSynchronized
  subst hsz
  have hD := hD0.self (sz := s.heap.size)
  generalize hAe : va_A [(mo, .inr (12, [.ref nw, .ref kp, .ref ik, .ref mr, .long la_, .long lb_, .ref mw, .long lc_, .int ti_, .int cb_, .long ld_, .long le_, .ref mq, .ref mz, .ref my, .int sm_, .ref mb, .int (nI jb), .int (nI ja), .int (nI jl), .int tk_, .int vl_, .ref mx, .ref mv])), (mb, .inl (cb2_, 150, .inl fy_)), (mv, .inl (cv_, 4, .inl fv_)), (mx, .inl (cx_, 86, .inl fx_))] s.heap.size = A at hD ⊢
  have hA : ∀ q : Nat, s.heap.size ≤ q → A q := fun q h => by rw [← hAe]; exact Or.inr h
  have hS : va_S A s.heap s.heap [] := va_S.rf
  have hP : va_P (dC, dI) vwCl [(mo, .inr (12, [.ref nw, .ref kp, .ref ik, .ref mr, .long la_, .long lb_, .ref mw, .long lc_, .int ti_, .int cb_, .long ld_, .long le_, .ref mq, .ref mz, .ref my, .int sm_, .ref mb, .int (nI jb), .int (nI ja), .int (nI jl), .int tk_, .int vl_, .ref mx, .ref mv])), (mb, .inl (cb2_, 150, .inl fy_)), (mv, .inl (cv_, 4, .inl fv_)), (mx, .inl (cx_, 86, .inl fx_))] s.heap := hP
  have hl := lv_entry ([.ref mo]) (n := 1) (Nat.le_of_ble_eq_true rfl)
  rw [lg_entry_eq]
  generalize (lg_sl ([.ref mo]) ++ List.replicate (1 - (lg_sl ([.ref mo])).length) Slot.unset).toArray = ls at hl ⊢
  have hl : lv_has ls 1 [(0, .ref mo)] := hl
  refine lv_aload_n hx hb dX12_readsItem_0 rfl (lv_at hl 0 rfl) ?_
  refine lv_iconst (v := 5) hx hb dX12_readsItem_1 (by decide) ?_
  refine lv_bipush (v := 99) hx hb dX12_readsItem_2 (by decide) ?_
  refine lv_bipush (v := 108) hx hb dX12_readsItem_4 (by decide) ?_
  refine lv_bipush (v := 101) hx hb dX12_readsItem_6 (by decide) ?_
  refine lv_bipush (v := 114) hx hb dX12_readsItem_8 (by decide) ?_
  refine lv_bipush (v := 107) hx hb dX12_readsItem_10 (by decide) ?_
  refine lv_iconst (v := 0) hx hb dX12_readsItem_12 (by decide) ?_
  have hPc_1 := hP.sub (ws' := [(mo, .inr (12, [.ref nw, .ref kp, .ref ik, .ref mr, .long la_, .long lb_, .ref mw, .long lc_, .int ti_, .int cb_, .long ld_, .long le_, .ref mq, .ref mz, .ref my, .int sm_, .ref mb, .int (nI jb), .int (nI ja), .int (nI jl), .int tk_, .int vl_, .ref mx, .ref mv])), (mb, .inl (cb2_, 150, .inl fy_))]) [0, 1] rfl
  have hKc_2 := hK.sub (tys' := [(cb2_, .int)]) [0] rfl
  refine vp_callSi (va_Run.run (va_runV (As := [.int 5, .int 99, .int 108, .int 101, .int 114, .int 107, .int 0]) (rest := []) ⟨hx, hb, hml, hown, hts⟩ (m_isCalled l dC dI mo nw kp ik mr la_ lb_ mw lc_ ti_ cb_ ld_ le_ mq mz my sm_ mb jb ja jl tk_ vl_ mx mv cb2_ fy_ 5 99 108 101 114 107 0 hjb hjl (by omega)) (cwV 7 hts gX12_readsItem_X12_isCalled rfl rfl rfl (by decide +kernel) ⟨Nat.le_of_ble_eq_true rfl, Nat.le_of_ble_eq_true rfl⟩) ⟨fun a U g mk q => by obtain ⟨q0, qP, qK⟩ := q; exact ⟨q0, qP, va_K.moved (u := U) (U := U.calling g mk a) (Vm.Alike.refl U.vm) qK⟩, va_recv hK hP (ci := 12) (q0 := 0) rfl rfl, fun U hU hW => ⟨rfl, by rw [hU]; exact hPc_1, va_K.moved hW.alike hKc_2⟩⟩ rfl rfl hl.1 rfl (lv_room (Nat.le_of_ble_eq_true rfl)) dX12_readsItem_13 ⟨Nat.le_of_ble_eq_true rfl, Nat.le_of_ble_eq_true rfl⟩)) (fun r_3 hw_4 => ?_)
  refine lv_if_eq (tgt := 24) hx hb dX12_readsItem_16 (by decide) (fun c_5 => ?_) (fun c_5 => ?_)
  · refine lv_aload_n hx hb dX12_readsItem_24 rfl (lv_at hl 0 rfl) ?_
    refine lv_bipush (v := 6) hx hb dX12_readsItem_25 (by decide) ?_
    refine lv_bipush (v := 98) hx hb dX12_readsItem_27 (by decide) ?_
    refine lv_bipush (v := 117) hx hb dX12_readsItem_29 (by decide) ?_
    refine lv_bipush (v := 110) hx hb dX12_readsItem_31 (by decide) ?_
    refine lv_bipush (v := 100) hx hb dX12_readsItem_33 (by decide) ?_
    refine lv_bipush (v := 108) hx hb dX12_readsItem_35 (by decide) ?_
    refine lv_bipush (v := 101) hx hb dX12_readsItem_37 (by decide) ?_
    have hPc_6 := hP.sub (ws' := [(mo, .inr (12, [.ref nw, .ref kp, .ref ik, .ref mr, .long la_, .long lb_, .ref mw, .long lc_, .int ti_, .int cb_, .long ld_, .long le_, .ref mq, .ref mz, .ref my, .int sm_, .ref mb, .int (nI jb), .int (nI ja), .int (nI jl), .int tk_, .int vl_, .ref mx, .ref mv])), (mb, .inl (cb2_, 150, .inl fy_))]) [0, 1] rfl
    have hKc_7 := hK.sub (tys' := [(cb2_, .int)]) [0] rfl
    refine vp_callSi (va_Run.run (va_runV (As := [.int 6, .int 98, .int 117, .int 110, .int 100, .int 108, .int 101]) (rest := []) ⟨hx, hb, hml, hown, hts⟩ (m_isCalled l dC dI mo nw kp ik mr la_ lb_ mw lc_ ti_ cb_ ld_ le_ mq mz my sm_ mb jb ja jl tk_ vl_ mx mv cb2_ fy_ 6 98 117 110 100 108 101 hjb hjl (by omega)) (cwV 7 hts gX12_readsItem_X12_isCalled rfl rfl rfl (by decide +kernel) ⟨Nat.le_of_ble_eq_true rfl, Nat.le_of_ble_eq_true rfl⟩) ⟨fun a U g mk q => by obtain ⟨q0, qP, qK⟩ := q; exact ⟨q0, qP, va_K.moved (u := U) (U := U.calling g mk a) (Vm.Alike.refl U.vm) qK⟩, va_recv hK hP (ci := 12) (q0 := 0) rfl rfl, fun U hU hW => ⟨rfl, by rw [hU]; exact hPc_6, va_K.moved hW.alike hKc_7⟩⟩ rfl rfl hl.1 rfl (lv_room (Nat.le_of_ble_eq_true rfl)) dX12_readsItem_39 ⟨Nat.le_of_ble_eq_true rfl, Nat.le_of_ble_eq_true rfl⟩)) (fun r_8 hw_9 => ?_)
    refine lv_if_eq (tgt := 50) hx hb dX12_readsItem_42 (by decide) (fun c_10 => ?_) (fun c_10 => ?_)
    · refine lv_aload_n hx hb dX12_readsItem_50 rfl (lv_at hl 0 rfl) ?_
      refine lv_iconst (v := 4) hx hb dX12_readsItem_51 (by decide) ?_
      refine lv_bipush (v := 98) hx hb dX12_readsItem_52 (by decide) ?_
      refine lv_bipush (v := 97) hx hb dX12_readsItem_54 (by decide) ?_
      refine lv_bipush (v := 110) hx hb dX12_readsItem_56 (by decide) ?_
      refine lv_bipush (v := 100) hx hb dX12_readsItem_58 (by decide) ?_
      refine lv_iconst (v := 0) hx hb dX12_readsItem_60 (by decide) ?_
      refine lv_iconst (v := 0) hx hb dX12_readsItem_61 (by decide) ?_
      have hPc_11 := hP.sub (ws' := [(mo, .inr (12, [.ref nw, .ref kp, .ref ik, .ref mr, .long la_, .long lb_, .ref mw, .long lc_, .int ti_, .int cb_, .long ld_, .long le_, .ref mq, .ref mz, .ref my, .int sm_, .ref mb, .int (nI jb), .int (nI ja), .int (nI jl), .int tk_, .int vl_, .ref mx, .ref mv])), (mb, .inl (cb2_, 150, .inl fy_))]) [0, 1] rfl
      have hKc_12 := hK.sub (tys' := [(cb2_, .int)]) [0] rfl
      refine vp_callSi (va_Run.run (va_runV (As := [.int 4, .int 98, .int 97, .int 110, .int 100, .int 0, .int 0]) (rest := []) ⟨hx, hb, hml, hown, hts⟩ (m_isCalled l dC dI mo nw kp ik mr la_ lb_ mw lc_ ti_ cb_ ld_ le_ mq mz my sm_ mb jb ja jl tk_ vl_ mx mv cb2_ fy_ 4 98 97 110 100 0 0 hjb hjl (by omega)) (cwV 7 hts gX12_readsItem_X12_isCalled rfl rfl rfl (by decide +kernel) ⟨Nat.le_of_ble_eq_true rfl, Nat.le_of_ble_eq_true rfl⟩) ⟨fun a U g mk q => by obtain ⟨q0, qP, qK⟩ := q; exact ⟨q0, qP, va_K.moved (u := U) (U := U.calling g mk a) (Vm.Alike.refl U.vm) qK⟩, va_recv hK hP (ci := 12) (q0 := 0) rfl rfl, fun U hU hW => ⟨rfl, by rw [hU]; exact hPc_11, va_K.moved hW.alike hKc_12⟩⟩ rfl rfl hl.1 rfl (lv_room (Nat.le_of_ble_eq_true rfl)) dX12_readsItem_62 ⟨Nat.le_of_ble_eq_true rfl, Nat.le_of_ble_eq_true rfl⟩)) (fun r_13 hw_14 => ?_)
      refine lv_if_eq (tgt := 73) hx hb dX12_readsItem_65 (by decide) (fun c_15 => ?_) (fun c_15 => ?_)
      · refine lv_aload_n hx hb dX12_readsItem_73 rfl (lv_at hl 0 rfl) ?_
        refine lv_iconst (v := 5) hx hb dX12_readsItem_74 (by decide) ?_
        refine lv_bipush (v := 99) hx hb dX12_readsItem_75 (by decide) ?_
        refine lv_bipush (v := 111) hx hb dX12_readsItem_77 (by decide) ?_
        refine lv_bipush (v := 117) hx hb dX12_readsItem_79 (by decide) ?_
        refine lv_bipush (v := 110) hx hb dX12_readsItem_81 (by decide) ?_
        refine lv_bipush (v := 116) hx hb dX12_readsItem_83 (by decide) ?_
        refine lv_iconst (v := 0) hx hb dX12_readsItem_85 (by decide) ?_
        have hPc_16 := hP.sub (ws' := [(mo, .inr (12, [.ref nw, .ref kp, .ref ik, .ref mr, .long la_, .long lb_, .ref mw, .long lc_, .int ti_, .int cb_, .long ld_, .long le_, .ref mq, .ref mz, .ref my, .int sm_, .ref mb, .int (nI jb), .int (nI ja), .int (nI jl), .int tk_, .int vl_, .ref mx, .ref mv])), (mb, .inl (cb2_, 150, .inl fy_))]) [0, 1] rfl
        have hKc_17 := hK.sub (tys' := [(cb2_, .int)]) [0] rfl
        refine vp_callSi (va_Run.run (va_runV (As := [.int 5, .int 99, .int 111, .int 117, .int 110, .int 116, .int 0]) (rest := []) ⟨hx, hb, hml, hown, hts⟩ (m_isCalled l dC dI mo nw kp ik mr la_ lb_ mw lc_ ti_ cb_ ld_ le_ mq mz my sm_ mb jb ja jl tk_ vl_ mx mv cb2_ fy_ 5 99 111 117 110 116 0 hjb hjl (by omega)) (cwV 7 hts gX12_readsItem_X12_isCalled rfl rfl rfl (by decide +kernel) ⟨Nat.le_of_ble_eq_true rfl, Nat.le_of_ble_eq_true rfl⟩) ⟨fun a U g mk q => by obtain ⟨q0, qP, qK⟩ := q; exact ⟨q0, qP, va_K.moved (u := U) (U := U.calling g mk a) (Vm.Alike.refl U.vm) qK⟩, va_recv hK hP (ci := 12) (q0 := 0) rfl rfl, fun U hU hW => ⟨rfl, by rw [hU]; exact hPc_16, va_K.moved hW.alike hKc_17⟩⟩ rfl rfl hl.1 rfl (lv_room (Nat.le_of_ble_eq_true rfl)) dX12_readsItem_86 ⟨Nat.le_of_ble_eq_true rfl, Nat.le_of_ble_eq_true rfl⟩)) (fun r_18 hw_19 => ?_)
        refine lv_if_eq (tgt := 103) hx hb dX12_readsItem_89 (by decide) (fun c_20 => ?_) (fun c_20 => ?_)
        · refine lv_iconst (v := 0) hx hb dX12_readsItem_103 (by decide) ?_
          have hP9 := hP.sub (ws' := [(mo, .inr (12, [.ref nw, .ref kp, .ref ik, .ref mr, .long la_, .long lb_, .ref mw, .long lc_, .int ti_, .int cb_, .long ld_, .long le_, .ref mq, .ref mz, .ref my, .int sm_, .ref mb, .int (nI jb), .int (nI ja), .int (nI jl), .int tk_, .int vl_, .ref mx, .ref mv])), (mb, .inl (cb2_, 150, .inl fy_)), (mv, .inl (cv_, 4, .inl fv_)), (mx, .inl (cx_, 86, .inl fx_))]) [0, 1, 2, 3] rfl
          have hD9 := hD.sub (ws' := [(mo, .inr (12, [.ref nw, .ref kp, .ref ik, .ref mr, .long la_, .long lb_, .ref mw, .long lc_, .int ti_, .int cb_, .long ld_, .long le_, .ref mq, .ref mz, .ref my, .int sm_, .ref mb, .int (nI jb), .int (nI ja), .int (nI jl), .int tk_, .int vl_, .ref mx, .ref mv])), (mb, .inl (cb2_, 150, .inl fy_)), (mv, .inl (cv_, 4, .inl fv_)), (mx, .inl (cx_, 86, .inl fx_))]) [0, 1, 2, 3] (by decide) rfl
          have hK9 := hK.sub (tys' := [(cb2_, .int), (cv_, .int), (cx_, .int)]) [0, 1, 2] rfl
          exact W.zret (v := 0) hx hb hr (by decide) (fun t ht hW => ⟨⟨0, (), rfl, Or.inl rfl, tk_, vl_, fv_, fx_, ja, jl, hOx, by omega, by omega, h3, by rw [ht]; exact hP9, va_K.moved hW.alike hK9, hD9⟩, hS.F ht⟩) hS.2.2 dX12_readsItem_104
        · refine lv_aload_n hx hb dX12_readsItem_92 rfl (lv_at hl 0 rfl) ?_
          have hPc := hP.sub (ws' := [(mo, .inr (12, [.ref nw, .ref kp, .ref ik, .ref mr, .long la_, .long lb_, .ref mw, .long lc_, .int ti_, .int cb_, .long ld_, .long le_, .ref mq, .ref mz, .ref my, .int sm_, .ref mb, .int (nI jb), .int (nI ja), .int (nI jl), .int tk_, .int vl_, .ref mx, .ref mv])), (mb, .inl (cb2_, 150, .inl fy_)), (mv, .inl (cv_, 4, .inl fv_)), (mx, .inl (cx_, 86, .inl fx_))]) [0, 1, 2, 3] rfl
          have hDc := hD.sub (ws' := [(mo, .inr (12, [.ref nw, .ref kp, .ref ik, .ref mr, .long la_, .long lb_, .ref mw, .long lc_, .int ti_, .int cb_, .long ld_, .long le_, .ref mq, .ref mz, .ref my, .int sm_, .ref mb, .int (nI jb), .int (nI ja), .int (nI jl), .int tk_, .int vl_, .ref mx, .ref mv])), (mb, .inl (cb2_, 150, .inl fy_)), (mv, .inl (cv_, 4, .inl fv_)), (mx, .inl (cx_, 86, .inl fx_))]) [0, 1, 2, 3] (by decide) rfl
          have hKc := hK.sub (tys' := [(cb2_, .int), (cv_, .int), (cx_, .int)]) [0, 1, 2] rfl
          have hFc := va_free (wc := [(mo, .inr (12, [.ref nw, .ref kp, .ref ik, .ref mr, .long la_, .long lb_, .ref mw, .long lc_, .int ti_, .int cb_, .long ld_, .long le_, .ref mq, .ref mz, .ref my, .int sm_, .ref mb, .int (nI jb), .int (nI ja), .int (nI jl), .int tk_, .int vl_, .ref mx, .ref mv])), (mb, .inl (cb2_, 150, .inl fy_)), (mv, .inl (cv_, 4, .inl fv_)), (mx, .inl (cx_, 86, .inl fx_))]) hD hS hA [0, 1, 2, 3] rfl
          refine va_calli (va_runV (As := []) (rest := []) ⟨hx, hb, hml, hown, hts⟩ (m_readsCount l dC dI mo nw kp ik mr la_ lb_ mw lc_ ti_ cb_ ld_ le_ mq mz my sm_ mb jb ja jl tk_ vl_ mx mv cb2_ fy_ cv_ fv_ cx_ fx_ s.heap.size hOx hjb hjl h3) (cwV 0 hts gX12_readsItem_X12_readsCount rfl rfl rfl (by decide +kernel) ⟨Nat.le_of_ble_eq_true rfl, Nat.le_of_ble_eq_true rfl⟩) ⟨fun a U g mk q => by obtain ⟨q0, q1, qP, qK, qD⟩ := q; exact ⟨q0, q1, qP, va_K.moved (u := U) (U := U.calling g mk a) (Vm.Alike.refl U.vm) qK, qD⟩, va_recv hK hP (ci := 12) (q0 := 0) rfl rfl, fun U hU hW => ⟨rfl, by rw [hU], by rw [hU]; exact hPc, va_K.moved hW.alike hKc, hDc.weaken (fun _ _ _ _ => trivial)⟩⟩ rfl rfl hl.1 rfl (lv_room (Nat.le_of_ble_eq_true rfl)) dX12_readsItem_93 ⟨Nat.le_of_ble_eq_true rfl, Nat.le_of_ble_eq_true rfl⟩) hS (fun q _ h => hFc q h) hFc (fun r_21 u_ t H1 locs ht hvm hw_22 hB hz1 hk1 hS => ?_)
          obtain ⟨h_token_23, h_value_24, gv__25, gx__26, ga_27, gl_28, hf_29, hf_30, hf_31, hf_32, hP1, hK1, hD1⟩ := hB
          rw [ht] at hP1
          have hK1 := va_K.moved hvm.symm hK1
          obtain ⟨hP, hD⟩ := va_join (wr := []) (w1 := [(mo, .inr (12, [.ref nw, .ref kp, .ref ik, .ref mr, .long la_, .long lb_, .ref mw, .long lc_, .int ti_, .int cb_, .long ld_, .long le_, .ref mq, .ref mz, .ref my, .int sm_, .ref mb, .int (nI jb), .int (nI ga_27), .int (nI gl_28), .int h_token_23, .int h_value_24, .ref mx, .ref mv])), (mb, .inl (cb2_, 150, .inl fy_)), (mv, .inl (cv_, 4, .inl gv__25)), (mx, .inl (cx_, 86, .inl gx__26))]) hP hD [0, 1, 2, 3] [] rfl rfl (by decide) (by decide) hk1 hFc hP1 hD1
          generalize H1 = H at hP hS ⊢
          have hP : va_P (dC, dI) vwCl [(mo, .inr (12, [.ref nw, .ref kp, .ref ik, .ref mr, .long la_, .long lb_, .ref mw, .long lc_, .int ti_, .int cb_, .long ld_, .long le_, .ref mq, .ref mz, .ref my, .int sm_, .ref mb, .int (nI jb), .int (nI ga_27), .int (nI gl_28), .int h_token_23, .int h_value_24, .ref mx, .ref mv])), (mb, .inl (cb2_, 150, .inl fy_)), (mv, .inl (cv_, 4, .inl gv__25)), (mx, .inl (cx_, 86, .inl gx__26))] H := hP
          have hD : va_D A [(mo, .inr (12, [.ref nw, .ref kp, .ref ik, .ref mr, .long la_, .long lb_, .ref mw, .long lc_, .int ti_, .int cb_, .long ld_, .long le_, .ref mq, .ref mz, .ref my, .int sm_, .ref mb, .int (nI jb), .int (nI ga_27), .int (nI gl_28), .int h_token_23, .int h_value_24, .ref mx, .ref mv])), (mb, .inl (cb2_, 150, .inl fy_)), (mv, .inl (cv_, 4, .inl gv__25)), (mx, .inl (cx_, 86, .inl gx__26))] := hD
          refine lv_if_eq (tgt := 103) hx hb dX12_readsItem_96 (by decide) (fun c_33 => ?_) (fun c_33 => ?_)
          · refine lv_iconst (v := 0) hx hb dX12_readsItem_103 (by decide) ?_
            have hP9 := hP.sub (ws' := [(mo, .inr (12, [.ref nw, .ref kp, .ref ik, .ref mr, .long la_, .long lb_, .ref mw, .long lc_, .int ti_, .int cb_, .long ld_, .long le_, .ref mq, .ref mz, .ref my, .int sm_, .ref mb, .int (nI jb), .int (nI ga_27), .int (nI gl_28), .int h_token_23, .int h_value_24, .ref mx, .ref mv])), (mb, .inl (cb2_, 150, .inl fy_)), (mv, .inl (cv_, 4, .inl gv__25)), (mx, .inl (cx_, 86, .inl gx__26))]) [0, 1, 2, 3] rfl
            have hD9 := hD.sub (ws' := [(mo, .inr (12, [.ref nw, .ref kp, .ref ik, .ref mr, .long la_, .long lb_, .ref mw, .long lc_, .int ti_, .int cb_, .long ld_, .long le_, .ref mq, .ref mz, .ref my, .int sm_, .ref mb, .int (nI jb), .int (nI ga_27), .int (nI gl_28), .int h_token_23, .int h_value_24, .ref mx, .ref mv])), (mb, .inl (cb2_, 150, .inl fy_)), (mv, .inl (cv_, 4, .inl gv__25)), (mx, .inl (cx_, 86, .inl gx__26))]) [0, 1, 2, 3] (by decide) rfl
            have hK9 := hK.sub (tys' := [(cb2_, .int), (cv_, .int), (cx_, .int)]) [0, 1, 2] rfl
            exact W.zret (v := 0) hx hb hr (by decide) (fun t ht hW => ⟨⟨0, (), rfl, Or.inl rfl, h_token_23, h_value_24, gv__25, gx__26, ga_27, gl_28, hf_29, by omega, by omega, hf_32, by rw [ht]; exact hP9, va_K.moved hW.alike hK9, hD9⟩, hS.F ht⟩) hS.2.2 dX12_readsItem_104
          · refine lv_iconst (v := 1) hx hb dX12_readsItem_99 (by decide) ?_
            refine lv_goto (tgt := 104) hx hb dX12_readsItem_100 (by decide) ?_
            have hP9 := hP.sub (ws' := [(mo, .inr (12, [.ref nw, .ref kp, .ref ik, .ref mr, .long la_, .long lb_, .ref mw, .long lc_, .int ti_, .int cb_, .long ld_, .long le_, .ref mq, .ref mz, .ref my, .int sm_, .ref mb, .int (nI jb), .int (nI ga_27), .int (nI gl_28), .int h_token_23, .int h_value_24, .ref mx, .ref mv])), (mb, .inl (cb2_, 150, .inl fy_)), (mv, .inl (cv_, 4, .inl gv__25)), (mx, .inl (cx_, 86, .inl gx__26))]) [0, 1, 2, 3] rfl
            have hD9 := hD.sub (ws' := [(mo, .inr (12, [.ref nw, .ref kp, .ref ik, .ref mr, .long la_, .long lb_, .ref mw, .long lc_, .int ti_, .int cb_, .long ld_, .long le_, .ref mq, .ref mz, .ref my, .int sm_, .ref mb, .int (nI jb), .int (nI ga_27), .int (nI gl_28), .int h_token_23, .int h_value_24, .ref mx, .ref mv])), (mb, .inl (cb2_, 150, .inl fy_)), (mv, .inl (cv_, 4, .inl gv__25)), (mx, .inl (cx_, 86, .inl gx__26))]) [0, 1, 2, 3] (by decide) rfl
            have hK9 := hK.sub (tys' := [(cb2_, .int), (cv_, .int), (cx_, .int)]) [0, 1, 2] rfl
            exact W.zret (v := 1) hx hb hr (by decide) (fun t ht hW => ⟨⟨1, (), rfl, Or.inr rfl, h_token_23, h_value_24, gv__25, gx__26, ga_27, gl_28, hf_29, by omega, by omega, hf_32, by rw [ht]; exact hP9, va_K.moved hW.alike hK9, hD9⟩, hS.F ht⟩) hS.2.2 dX12_readsItem_104
      · refine lv_aload_n hx hb dX12_readsItem_68 rfl (lv_at hl 0 rfl) ?_
        have hPc := hP.sub (ws' := [(mo, .inr (12, [.ref nw, .ref kp, .ref ik, .ref mr, .long la_, .long lb_, .ref mw, .long lc_, .int ti_, .int cb_, .long ld_, .long le_, .ref mq, .ref mz, .ref my, .int sm_, .ref mb, .int (nI jb), .int (nI ja), .int (nI jl), .int tk_, .int vl_, .ref mx, .ref mv])), (mb, .inl (cb2_, 150, .inl fy_)), (mv, .inl (cv_, 4, .inl fv_)), (mx, .inl (cx_, 86, .inl fx_))]) [0, 1, 2, 3] rfl
        have hDc := hD.sub (ws' := [(mo, .inr (12, [.ref nw, .ref kp, .ref ik, .ref mr, .long la_, .long lb_, .ref mw, .long lc_, .int ti_, .int cb_, .long ld_, .long le_, .ref mq, .ref mz, .ref my, .int sm_, .ref mb, .int (nI jb), .int (nI ja), .int (nI jl), .int tk_, .int vl_, .ref mx, .ref mv])), (mb, .inl (cb2_, 150, .inl fy_)), (mv, .inl (cv_, 4, .inl fv_)), (mx, .inl (cx_, 86, .inl fx_))]) [0, 1, 2, 3] (by decide) rfl
        have hKc := hK.sub (tys' := [(cb2_, .int), (cv_, .int), (cx_, .int)]) [0, 1, 2] rfl
        have hFc := va_free (wc := [(mo, .inr (12, [.ref nw, .ref kp, .ref ik, .ref mr, .long la_, .long lb_, .ref mw, .long lc_, .int ti_, .int cb_, .long ld_, .long le_, .ref mq, .ref mz, .ref my, .int sm_, .ref mb, .int (nI jb), .int (nI ja), .int (nI jl), .int tk_, .int vl_, .ref mx, .ref mv])), (mb, .inl (cb2_, 150, .inl fy_)), (mv, .inl (cv_, 4, .inl fv_)), (mx, .inl (cx_, 86, .inl fx_))]) hD hS hA [0, 1, 2, 3] rfl
        refine va_calli (va_runV (As := []) (rest := []) ⟨hx, hb, hml, hown, hts⟩ (m_readsBand l dC dI mo nw kp ik mr la_ lb_ mw lc_ ti_ cb_ ld_ le_ mq mz my sm_ mb jb ja jl tk_ vl_ mx mv cb2_ fy_ cv_ fv_ cx_ fx_ s.heap.size hOx hjb hjl h3) (cwV 0 hts gX12_readsItem_X12_readsBand rfl rfl rfl (by decide +kernel) ⟨Nat.le_of_ble_eq_true rfl, Nat.le_of_ble_eq_true rfl⟩) ⟨fun a U g mk q => by obtain ⟨q0, q1, qP, qK, qD⟩ := q; exact ⟨q0, q1, qP, va_K.moved (u := U) (U := U.calling g mk a) (Vm.Alike.refl U.vm) qK, qD⟩, va_recv hK hP (ci := 12) (q0 := 0) rfl rfl, fun U hU hW => ⟨rfl, by rw [hU], by rw [hU]; exact hPc, va_K.moved hW.alike hKc, hDc.weaken (fun _ _ _ _ => trivial)⟩⟩ rfl rfl hl.1 rfl (lv_room (Nat.le_of_ble_eq_true rfl)) dX12_readsItem_69 ⟨Nat.le_of_ble_eq_true rfl, Nat.le_of_ble_eq_true rfl⟩) hS (fun q _ h => hFc q h) hFc (fun r_34 u_ t H1 locs ht hvm hw_35 hB hz1 hk1 hS => ?_)
        obtain ⟨h_token_36, h_value_37, gv__38, gx__39, ga_40, gl_41, hf_42, hf_43, hf_44, hf_45, hP1, hK1, hD1⟩ := hB
        rw [ht] at hP1
        have hK1 := va_K.moved hvm.symm hK1
        obtain ⟨hP, hD⟩ := va_join (wr := []) (w1 := [(mo, .inr (12, [.ref nw, .ref kp, .ref ik, .ref mr, .long la_, .long lb_, .ref mw, .long lc_, .int ti_, .int cb_, .long ld_, .long le_, .ref mq, .ref mz, .ref my, .int sm_, .ref mb, .int (nI jb), .int (nI ga_40), .int (nI gl_41), .int h_token_36, .int h_value_37, .ref mx, .ref mv])), (mb, .inl (cb2_, 150, .inl fy_)), (mv, .inl (cv_, 4, .inl gv__38)), (mx, .inl (cx_, 86, .inl gx__39))]) hP hD [0, 1, 2, 3] [] rfl rfl (by decide) (by decide) hk1 hFc hP1 hD1
        generalize H1 = H at hP hS ⊢
        have hP : va_P (dC, dI) vwCl [(mo, .inr (12, [.ref nw, .ref kp, .ref ik, .ref mr, .long la_, .long lb_, .ref mw, .long lc_, .int ti_, .int cb_, .long ld_, .long le_, .ref mq, .ref mz, .ref my, .int sm_, .ref mb, .int (nI jb), .int (nI ga_40), .int (nI gl_41), .int h_token_36, .int h_value_37, .ref mx, .ref mv])), (mb, .inl (cb2_, 150, .inl fy_)), (mv, .inl (cv_, 4, .inl gv__38)), (mx, .inl (cx_, 86, .inl gx__39))] H := hP
        have hD : va_D A [(mo, .inr (12, [.ref nw, .ref kp, .ref ik, .ref mr, .long la_, .long lb_, .ref mw, .long lc_, .int ti_, .int cb_, .long ld_, .long le_, .ref mq, .ref mz, .ref my, .int sm_, .ref mb, .int (nI jb), .int (nI ga_40), .int (nI gl_41), .int h_token_36, .int h_value_37, .ref mx, .ref mv])), (mb, .inl (cb2_, 150, .inl fy_)), (mv, .inl (cv_, 4, .inl gv__38)), (mx, .inl (cx_, 86, .inl gx__39))] := hD
        have hP9 := hP.sub (ws' := [(mo, .inr (12, [.ref nw, .ref kp, .ref ik, .ref mr, .long la_, .long lb_, .ref mw, .long lc_, .int ti_, .int cb_, .long ld_, .long le_, .ref mq, .ref mz, .ref my, .int sm_, .ref mb, .int (nI jb), .int (nI ga_40), .int (nI gl_41), .int h_token_36, .int h_value_37, .ref mx, .ref mv])), (mb, .inl (cb2_, 150, .inl fy_)), (mv, .inl (cv_, 4, .inl gv__38)), (mx, .inl (cx_, 86, .inl gx__39))]) [0, 1, 2, 3] rfl
        have hD9 := hD.sub (ws' := [(mo, .inr (12, [.ref nw, .ref kp, .ref ik, .ref mr, .long la_, .long lb_, .ref mw, .long lc_, .int ti_, .int cb_, .long ld_, .long le_, .ref mq, .ref mz, .ref my, .int sm_, .ref mb, .int (nI jb), .int (nI ga_40), .int (nI gl_41), .int h_token_36, .int h_value_37, .ref mx, .ref mv])), (mb, .inl (cb2_, 150, .inl fy_)), (mv, .inl (cv_, 4, .inl gv__38)), (mx, .inl (cx_, 86, .inl gx__39))]) [0, 1, 2, 3] (by decide) rfl
        have hK9 := hK.sub (tys' := [(cb2_, .int), (cv_, .int), (cx_, .int)]) [0, 1, 2] rfl
        exact W.zret (v := r_34) hx hb hr (tz_zb hw_35) (fun t ht hW => ⟨⟨r_34, (), rfl, hw_35, h_token_36, h_value_37, gv__38, gx__39, ga_40, gl_41, hf_42, by omega, by omega, hf_45, by rw [ht]; exact hP9, va_K.moved hW.alike hK9, hD9⟩, hS.F ht⟩) hS.2.2 dX12_readsItem_72
    · refine lv_aload_n hx hb dX12_readsItem_45 rfl (lv_at hl 0 rfl) ?_
      have hPc := hP.sub (ws' := [(mo, .inr (12, [.ref nw, .ref kp, .ref ik, .ref mr, .long la_, .long lb_, .ref mw, .long lc_, .int ti_, .int cb_, .long ld_, .long le_, .ref mq, .ref mz, .ref my, .int sm_, .ref mb, .int (nI jb), .int (nI ja), .int (nI jl), .int tk_, .int vl_, .ref mx, .ref mv])), (mb, .inl (cb2_, 150, .inl fy_)), (mv, .inl (cv_, 4, .inl fv_)), (mx, .inl (cx_, 86, .inl fx_))]) [0, 1, 2, 3] rfl
      have hDc := hD.sub (ws' := [(mo, .inr (12, [.ref nw, .ref kp, .ref ik, .ref mr, .long la_, .long lb_, .ref mw, .long lc_, .int ti_, .int cb_, .long ld_, .long le_, .ref mq, .ref mz, .ref my, .int sm_, .ref mb, .int (nI jb), .int (nI ja), .int (nI jl), .int tk_, .int vl_, .ref mx, .ref mv])), (mb, .inl (cb2_, 150, .inl fy_)), (mv, .inl (cv_, 4, .inl fv_)), (mx, .inl (cx_, 86, .inl fx_))]) [0, 1, 2, 3] (by decide) rfl
      have hKc := hK.sub (tys' := [(cb2_, .int), (cv_, .int), (cx_, .int)]) [0, 1, 2] rfl
      have hFc := va_free (wc := [(mo, .inr (12, [.ref nw, .ref kp, .ref ik, .ref mr, .long la_, .long lb_, .ref mw, .long lc_, .int ti_, .int cb_, .long ld_, .long le_, .ref mq, .ref mz, .ref my, .int sm_, .ref mb, .int (nI jb), .int (nI ja), .int (nI jl), .int tk_, .int vl_, .ref mx, .ref mv])), (mb, .inl (cb2_, 150, .inl fy_)), (mv, .inl (cv_, 4, .inl fv_)), (mx, .inl (cx_, 86, .inl fx_))]) hD hS hA [0, 1, 2, 3] rfl
      refine va_calli (va_runV (As := []) (rest := []) ⟨hx, hb, hml, hown, hts⟩ (m_readsBundle l dC dI mo nw kp ik mr la_ lb_ mw lc_ ti_ cb_ ld_ le_ mq mz my sm_ mb jb ja jl tk_ vl_ mx mv cb2_ fy_ cv_ fv_ cx_ fx_ s.heap.size hOx hjb hjl h3) (cwV 0 hts gX12_readsItem_X12_readsBundle rfl rfl rfl (by decide +kernel) ⟨Nat.le_of_ble_eq_true rfl, Nat.le_of_ble_eq_true rfl⟩) ⟨fun a U g mk q => by obtain ⟨q0, q1, qP, qK, qD⟩ := q; exact ⟨q0, q1, qP, va_K.moved (u := U) (U := U.calling g mk a) (Vm.Alike.refl U.vm) qK, qD⟩, va_recv hK hP (ci := 12) (q0 := 0) rfl rfl, fun U hU hW => ⟨rfl, by rw [hU], by rw [hU]; exact hPc, va_K.moved hW.alike hKc, hDc.weaken (fun _ _ _ _ => trivial)⟩⟩ rfl rfl hl.1 rfl (lv_room (Nat.le_of_ble_eq_true rfl)) dX12_readsItem_46 ⟨Nat.le_of_ble_eq_true rfl, Nat.le_of_ble_eq_true rfl⟩) hS (fun q _ h => hFc q h) hFc (fun r_46 u_ t H1 locs ht hvm hw_47 hB hz1 hk1 hS => ?_)
      obtain ⟨h_token_48, h_value_49, gv__50, gx__51, ga_52, gl_53, hf_54, hf_55, hf_56, hf_57, hP1, hK1, hD1⟩ := hB
      rw [ht] at hP1
      have hK1 := va_K.moved hvm.symm hK1
      obtain ⟨hP, hD⟩ := va_join (wr := []) (w1 := [(mo, .inr (12, [.ref nw, .ref kp, .ref ik, .ref mr, .long la_, .long lb_, .ref mw, .long lc_, .int ti_, .int cb_, .long ld_, .long le_, .ref mq, .ref mz, .ref my, .int sm_, .ref mb, .int (nI jb), .int (nI ga_52), .int (nI gl_53), .int h_token_48, .int h_value_49, .ref mx, .ref mv])), (mb, .inl (cb2_, 150, .inl fy_)), (mv, .inl (cv_, 4, .inl gv__50)), (mx, .inl (cx_, 86, .inl gx__51))]) hP hD [0, 1, 2, 3] [] rfl rfl (by decide) (by decide) hk1 hFc hP1 hD1
      generalize H1 = H at hP hS ⊢
      have hP : va_P (dC, dI) vwCl [(mo, .inr (12, [.ref nw, .ref kp, .ref ik, .ref mr, .long la_, .long lb_, .ref mw, .long lc_, .int ti_, .int cb_, .long ld_, .long le_, .ref mq, .ref mz, .ref my, .int sm_, .ref mb, .int (nI jb), .int (nI ga_52), .int (nI gl_53), .int h_token_48, .int h_value_49, .ref mx, .ref mv])), (mb, .inl (cb2_, 150, .inl fy_)), (mv, .inl (cv_, 4, .inl gv__50)), (mx, .inl (cx_, 86, .inl gx__51))] H := hP
      have hD : va_D A [(mo, .inr (12, [.ref nw, .ref kp, .ref ik, .ref mr, .long la_, .long lb_, .ref mw, .long lc_, .int ti_, .int cb_, .long ld_, .long le_, .ref mq, .ref mz, .ref my, .int sm_, .ref mb, .int (nI jb), .int (nI ga_52), .int (nI gl_53), .int h_token_48, .int h_value_49, .ref mx, .ref mv])), (mb, .inl (cb2_, 150, .inl fy_)), (mv, .inl (cv_, 4, .inl gv__50)), (mx, .inl (cx_, 86, .inl gx__51))] := hD
      have hP9 := hP.sub (ws' := [(mo, .inr (12, [.ref nw, .ref kp, .ref ik, .ref mr, .long la_, .long lb_, .ref mw, .long lc_, .int ti_, .int cb_, .long ld_, .long le_, .ref mq, .ref mz, .ref my, .int sm_, .ref mb, .int (nI jb), .int (nI ga_52), .int (nI gl_53), .int h_token_48, .int h_value_49, .ref mx, .ref mv])), (mb, .inl (cb2_, 150, .inl fy_)), (mv, .inl (cv_, 4, .inl gv__50)), (mx, .inl (cx_, 86, .inl gx__51))]) [0, 1, 2, 3] rfl
      have hD9 := hD.sub (ws' := [(mo, .inr (12, [.ref nw, .ref kp, .ref ik, .ref mr, .long la_, .long lb_, .ref mw, .long lc_, .int ti_, .int cb_, .long ld_, .long le_, .ref mq, .ref mz, .ref my, .int sm_, .ref mb, .int (nI jb), .int (nI ga_52), .int (nI gl_53), .int h_token_48, .int h_value_49, .ref mx, .ref mv])), (mb, .inl (cb2_, 150, .inl fy_)), (mv, .inl (cv_, 4, .inl gv__50)), (mx, .inl (cx_, 86, .inl gx__51))]) [0, 1, 2, 3] (by decide) rfl
      have hK9 := hK.sub (tys' := [(cb2_, .int), (cv_, .int), (cx_, .int)]) [0, 1, 2] rfl
      exact W.zret (v := r_46) hx hb hr (tz_zb hw_47) (fun t ht hW => ⟨⟨r_46, (), rfl, hw_47, h_token_48, h_value_49, gv__50, gx__51, ga_52, gl_53, hf_54, by omega, by omega, hf_57, by rw [ht]; exact hP9, va_K.moved hW.alike hK9, hD9⟩, hS.F ht⟩) hS.2.2 dX12_readsItem_49
  · refine lv_aload_n hx hb dX12_readsItem_19 rfl (lv_at hl 0 rfl) ?_
    have hPc := hP.sub (ws' := [(mo, .inr (12, [.ref nw, .ref kp, .ref ik, .ref mr, .long la_, .long lb_, .ref mw, .long lc_, .int ti_, .int cb_, .long ld_, .long le_, .ref mq, .ref mz, .ref my, .int sm_, .ref mb, .int (nI jb), .int (nI ja), .int (nI jl), .int tk_, .int vl_, .ref mx, .ref mv])), (mb, .inl (cb2_, 150, .inl fy_)), (mv, .inl (cv_, 4, .inl fv_)), (mx, .inl (cx_, 86, .inl fx_))]) [0, 1, 2, 3] rfl
    have hDc := hD.sub (ws' := [(mo, .inr (12, [.ref nw, .ref kp, .ref ik, .ref mr, .long la_, .long lb_, .ref mw, .long lc_, .int ti_, .int cb_, .long ld_, .long le_, .ref mq, .ref mz, .ref my, .int sm_, .ref mb, .int (nI jb), .int (nI ja), .int (nI jl), .int tk_, .int vl_, .ref mx, .ref mv])), (mb, .inl (cb2_, 150, .inl fy_)), (mv, .inl (cv_, 4, .inl fv_)), (mx, .inl (cx_, 86, .inl fx_))]) [0, 1, 2, 3] (by decide) rfl
    have hKc := hK.sub (tys' := [(cb2_, .int), (cv_, .int), (cx_, .int)]) [0, 1, 2] rfl
    have hFc := va_free (wc := [(mo, .inr (12, [.ref nw, .ref kp, .ref ik, .ref mr, .long la_, .long lb_, .ref mw, .long lc_, .int ti_, .int cb_, .long ld_, .long le_, .ref mq, .ref mz, .ref my, .int sm_, .ref mb, .int (nI jb), .int (nI ja), .int (nI jl), .int tk_, .int vl_, .ref mx, .ref mv])), (mb, .inl (cb2_, 150, .inl fy_)), (mv, .inl (cv_, 4, .inl fv_)), (mx, .inl (cx_, 86, .inl fx_))]) hD hS hA [0, 1, 2, 3] rfl
    refine va_calli (va_runV (As := []) (rest := []) ⟨hx, hb, hml, hown, hts⟩ (m_readsClerk l dC dI mo nw kp ik mr la_ lb_ mw lc_ ti_ cb_ ld_ le_ mq mz my sm_ mb jb ja jl tk_ vl_ mx mv cb2_ fy_ cv_ fv_ cx_ fx_ s.heap.size hOx hjb hjl h3) (cwV 0 hts gX12_readsItem_X12_readsClerk rfl rfl rfl (by decide +kernel) ⟨Nat.le_of_ble_eq_true rfl, Nat.le_of_ble_eq_true rfl⟩) ⟨fun a U g mk q => by obtain ⟨q0, q1, qP, qK, qD⟩ := q; exact ⟨q0, q1, qP, va_K.moved (u := U) (U := U.calling g mk a) (Vm.Alike.refl U.vm) qK, qD⟩, va_recv hK hP (ci := 12) (q0 := 0) rfl rfl, fun U hU hW => ⟨rfl, by rw [hU], by rw [hU]; exact hPc, va_K.moved hW.alike hKc, hDc.weaken (fun _ _ _ _ => trivial)⟩⟩ rfl rfl hl.1 rfl (lv_room (Nat.le_of_ble_eq_true rfl)) dX12_readsItem_20 ⟨Nat.le_of_ble_eq_true rfl, Nat.le_of_ble_eq_true rfl⟩) hS (fun q _ h => hFc q h) hFc (fun r_58 u_ t H1 locs ht hvm hw_59 hB hz1 hk1 hS => ?_)
    obtain ⟨h_token_60, h_value_61, gv__62, gx__63, ga_64, gl_65, hf_66, hf_67, hf_68, hf_69, hP1, hK1, hD1⟩ := hB
    rw [ht] at hP1
    have hK1 := va_K.moved hvm.symm hK1
    obtain ⟨hP, hD⟩ := va_join (wr := []) (w1 := [(mo, .inr (12, [.ref nw, .ref kp, .ref ik, .ref mr, .long la_, .long lb_, .ref mw, .long lc_, .int ti_, .int cb_, .long ld_, .long le_, .ref mq, .ref mz, .ref my, .int sm_, .ref mb, .int (nI jb), .int (nI ga_64), .int (nI gl_65), .int h_token_60, .int h_value_61, .ref mx, .ref mv])), (mb, .inl (cb2_, 150, .inl fy_)), (mv, .inl (cv_, 4, .inl gv__62)), (mx, .inl (cx_, 86, .inl gx__63))]) hP hD [0, 1, 2, 3] [] rfl rfl (by decide) (by decide) hk1 hFc hP1 hD1
    generalize H1 = H at hP hS ⊢
    have hP : va_P (dC, dI) vwCl [(mo, .inr (12, [.ref nw, .ref kp, .ref ik, .ref mr, .long la_, .long lb_, .ref mw, .long lc_, .int ti_, .int cb_, .long ld_, .long le_, .ref mq, .ref mz, .ref my, .int sm_, .ref mb, .int (nI jb), .int (nI ga_64), .int (nI gl_65), .int h_token_60, .int h_value_61, .ref mx, .ref mv])), (mb, .inl (cb2_, 150, .inl fy_)), (mv, .inl (cv_, 4, .inl gv__62)), (mx, .inl (cx_, 86, .inl gx__63))] H := hP
    have hD : va_D A [(mo, .inr (12, [.ref nw, .ref kp, .ref ik, .ref mr, .long la_, .long lb_, .ref mw, .long lc_, .int ti_, .int cb_, .long ld_, .long le_, .ref mq, .ref mz, .ref my, .int sm_, .ref mb, .int (nI jb), .int (nI ga_64), .int (nI gl_65), .int h_token_60, .int h_value_61, .ref mx, .ref mv])), (mb, .inl (cb2_, 150, .inl fy_)), (mv, .inl (cv_, 4, .inl gv__62)), (mx, .inl (cx_, 86, .inl gx__63))] := hD
    have hP9 := hP.sub (ws' := [(mo, .inr (12, [.ref nw, .ref kp, .ref ik, .ref mr, .long la_, .long lb_, .ref mw, .long lc_, .int ti_, .int cb_, .long ld_, .long le_, .ref mq, .ref mz, .ref my, .int sm_, .ref mb, .int (nI jb), .int (nI ga_64), .int (nI gl_65), .int h_token_60, .int h_value_61, .ref mx, .ref mv])), (mb, .inl (cb2_, 150, .inl fy_)), (mv, .inl (cv_, 4, .inl gv__62)), (mx, .inl (cx_, 86, .inl gx__63))]) [0, 1, 2, 3] rfl
    have hD9 := hD.sub (ws' := [(mo, .inr (12, [.ref nw, .ref kp, .ref ik, .ref mr, .long la_, .long lb_, .ref mw, .long lc_, .int ti_, .int cb_, .long ld_, .long le_, .ref mq, .ref mz, .ref my, .int sm_, .ref mb, .int (nI jb), .int (nI ga_64), .int (nI gl_65), .int h_token_60, .int h_value_61, .ref mx, .ref mv])), (mb, .inl (cb2_, 150, .inl fy_)), (mv, .inl (cv_, 4, .inl gv__62)), (mx, .inl (cx_, 86, .inl gx__63))]) [0, 1, 2, 3] (by decide) rfl
    have hK9 := hK.sub (tys' := [(cb2_, .int), (cv_, .int), (cx_, .int)]) [0, 1, 2] rfl
    exact W.zret (v := r_58) hx hb hr (tz_zb hw_59) (fun t ht hW => ⟨⟨r_58, (), rfl, hw_59, h_token_60, h_value_61, gv__62, gx__63, ga_64, gl_65, hf_66, by omega, by omega, hf_69, by rw [ht]; exact hP9, va_K.moved hW.alike hK9, hD9⟩, hS.F ht⟩) hS.2.2 dX12_readsItem_23
set_option maxRecDepth 20000 in
theorem ggX12_read_X12_lookAt : GoodIn wsX12_read wsX12_lookAt := goodIn_r _ [9, 1, 10, 11, 12, 2, 13, 14, 15, 8, 16, 17, 18, 19, 20, 21, 22, 23, 24, 25, 26, 79, 80, 81, 82, 83, 84, 85, 86, 87, 88, 89, 90, 91, 92, 93, 94, 95, 96, 97, 98, 99, 100, 101, 102] (by decide +kernel) (by decide +kernel)
set_option maxRecDepth 20000 in
theorem gX12_read_X12_lookAt : GoodIn wsX12_read (wsV RX12 282 RX12 yX12_lookAt wsX12_lookAt) := goodIn_app (goodIn_of _ (by decide +kernel)) ggX12_read_X12_lookAt
set_option maxRecDepth 20000 in
theorem ggX12_read_X12_readsFirst : GoodIn wsX12_read wsX12_readsFirst := goodIn_r _ [30, 4, 2, 31, 32, 33, 8, 34, 12, 11, 1, 35, 36, 37, 38, 5, 6, 7, 9, 10, 13, 14, 15, 16, 17, 18, 19, 20, 21, 22, 23, 24, 25, 26, 39, 40, 41, 79, 80, 81, 82, 83, 84, 85, 86, 87, 88, 89, 90, 91, 92, 93, 94, 95, 96, 97, 98, 99, 100, 101, 102] (by decide +kernel) (by decide +kernel)
set_option maxRecDepth 20000 in
theorem gX12_read_X12_readsFirst : GoodIn wsX12_read (wsV RX12 307 RX12 yX12_readsFirst wsX12_readsFirst) := goodIn_app (goodIn_of _ (by decide +kernel)) ggX12_read_X12_readsFirst
set_option maxRecDepth 20000 in
theorem ggX12_read_X12_goOn : GoodIn wsX12_read wsX12_goOn := goodIn_r _ [38, 1, 12, 5, 6, 7, 8, 9, 10, 11, 2, 13, 14, 15, 16, 17, 18, 19, 20, 21, 22, 23, 24, 25, 26, 79, 80, 81, 82, 83, 84, 85, 86, 87, 88, 89, 90, 91, 92, 93, 94, 95, 96, 97, 98, 99, 100, 101, 102] (by decide +kernel) (by decide +kernel)
set_option maxRecDepth 20000 in
theorem gX12_read_X12_goOn : GoodIn wsX12_read (wsV RX12 285 RX12 yX12_goOn wsX12_goOn) := goodIn_app (goodIn_of _ (by decide +kernel)) ggX12_read_X12_goOn
set_option maxRecDepth 20000 in
theorem ggX12_read_X12_readsItem : GoodIn wsX12_read wsX12_readsItem := goodIn_r _ [45, 31, 32, 33, 8, 34, 2, 12, 11, 1, 46, 47, 48, 49, 4, 50, 35, 36, 37, 38, 5, 6, 7, 9, 10, 13, 14, 15, 16, 17, 18, 19, 20, 21, 22, 23, 24, 25, 26, 51, 52, 53, 54, 55, 56, 57, 58, 59, 60, 61, 62, 63, 64, 65, 66, 67, 68, 69, 70, 71, 72, 73, 74, 75, 76, 77, 78, 79, 80, 81, 82, 83, 84, 85, 86, 87, 88, 89, 90, 91, 92, 93, 94, 95, 96, 97, 98, 99, 100, 101, 102] (by decide +kernel) (by decide +kernel)
set_option maxRecDepth 20000 in
theorem gX12_read_X12_readsItem : GoodIn wsX12_read (wsV RX12 310 RX12 yX12_readsItem wsX12_readsItem) := goodIn_app (goodIn_of _ (by decide +kernel)) ggX12_read_X12_readsItem
theorem dX12_read_0 : decode cX12_read 0 = .ok (.aload_n 0, 1) := by decide +kernel
theorem dX12_read_1 : decode cX12_read 1 = .ok (.iconst 0, 1) := by decide +kernel
theorem dX12_read_2 : decode cX12_read 2 = .ok (.invokevirtual 282, 3) := by decide +kernel
theorem dX12_read_5 : decode cX12_read 5 = .ok (.aload_n 0, 1) := by decide +kernel
theorem dX12_read_6 : decode cX12_read 6 = .ok (.invokevirtual 307, 3) := by decide +kernel
theorem dX12_read_9 : decode cX12_read 9 = .ok (.ifCond .ne 11, 3) := by decide +kernel
theorem dX12_read_20 : decode cX12_read 20 = .ok (.aload_n 0, 1) := by decide +kernel
theorem dX12_read_21 : decode cX12_read 21 = .ok (.invokevirtual 285, 3) := by decide +kernel
theorem dX12_read_24 : decode cX12_read 24 = .ok (.iconst 1, 1) := by decide +kernel
theorem dX12_read_25 : decode cX12_read 25 = .ok (.istore_n 1, 1) := by decide +kernel
theorem dX12_read_26 : decode cX12_read 26 = .ok (.aload_n 0, 1) := by decide +kernel
theorem dX12_read_27 : decode cX12_read 27 = .ok (.getfield 270, 3) := by decide +kernel
theorem dX12_read_30 : decode cX12_read 30 = .ok (.ifCond .eq 36, 3) := by decide +kernel
theorem dX12_read_33 : decode cX12_read 33 = .ok (.aload_n 0, 1) := by decide +kernel
theorem dX12_read_34 : decode cX12_read 34 = .ok (.invokevirtual 310, 3) := by decide +kernel
theorem dX12_read_37 : decode cX12_read 37 = .ok (.ifCond .eq 11, 3) := by decide +kernel
theorem dX12_read_48 : decode cX12_read 48 = .ok (.bipush (-10), 2) := by decide +kernel
theorem dX12_read_50 : decode cX12_read 50 = .ok (.aload_n 0, 1) := by decide +kernel
theorem dX12_read_51 : decode cX12_read 51 = .ok (.getfield 264, 3) := by decide +kernel
theorem dX12_read_54 : decode cX12_read 54 = .ok (.isub, 1) := by decide +kernel
theorem dX12_read_55 : decode cX12_read 55 = .ok (.ireturn, 1) := by decide +kernel
theorem dX12_read_40 : decode cX12_read 40 = .ok (.aload_n 0, 1) := by decide +kernel
theorem dX12_read_41 : decode cX12_read 41 = .ok (.getfield 270, 3) := by decide +kernel
theorem dX12_read_44 : decode cX12_read 44 = .ok (.iconst 3, 1) := by decide +kernel
theorem dX12_read_45 : decode cX12_read 45 = .ok (.if_icmp .eq 11, 3) := by decide +kernel
theorem dX12_read_56 : decode cX12_read 56 = .ok (.aload_n 0, 1) := by decide +kernel
theorem dX12_read_57 : decode cX12_read 57 = .ok (.invokevirtual 285, 3) := by decide +kernel
theorem dX12_read_60 : decode cX12_read 60 = .ok (.iinc 1 1, 3) := by decide +kernel
theorem dX12_read_63 : decode cX12_read 63 = .ok (.goto (-37), 3) := by decide +kernel
theorem dX12_read_66 : decode cX12_read 66 = .ok (.iconst 0, 1) := by decide +kernel
theorem dX12_read_67 : decode cX12_read 67 = .ok (.istore_n 2, 1) := by decide +kernel
theorem dX12_read_68 : decode cX12_read 68 = .ok (.iload_n 2, 1) := by decide +kernel
theorem dX12_read_69 : decode cX12_read 69 = .ok (.bipush 86, 2) := by decide +kernel
theorem dX12_read_71 : decode cX12_read 71 = .ok (.if_icmp .ge 21, 3) := by decide +kernel
theorem dX12_read_74 : decode cX12_read 74 = .ok (.aload_n 0, 1) := by decide +kernel
theorem dX12_read_75 : decode cX12_read 75 = .ok (.getfield 7, 3) := by decide +kernel
theorem dX12_read_78 : decode cX12_read 78 = .ok (.iload_n 2, 1) := by decide +kernel
theorem dX12_read_79 : decode cX12_read 79 = .ok (.aload_n 0, 1) := by decide +kernel
theorem dX12_read_80 : decode cX12_read 80 = .ok (.getfield 43, 3) := by decide +kernel
theorem dX12_read_83 : decode cX12_read 83 = .ok (.iload_n 2, 1) := by decide +kernel
theorem dX12_read_84 : decode cX12_read 84 = .ok (.iaload, 1) := by decide +kernel
theorem dX12_read_85 : decode cX12_read 85 = .ok (.iastore, 1) := by decide +kernel
theorem dX12_read_86 : decode cX12_read 86 = .ok (.iinc 2 1, 3) := by decide +kernel
theorem dX12_read_89 : decode cX12_read 89 = .ok (.goto (-21), 3) := by decide +kernel
theorem dX12_read_92 : decode cX12_read 92 = .ok (.iload_n 1, 1) := by decide +kernel
theorem dX12_read_93 : decode cX12_read 93 = .ok (.ireturn, 1) := by decide +kernel
theorem dX12_read_12 : decode cX12_read 12 = .ok (.bipush (-10), 2) := by decide +kernel
theorem dX12_read_14 : decode cX12_read 14 = .ok (.aload_n 0, 1) := by decide +kernel
theorem dX12_read_15 : decode cX12_read 15 = .ok (.getfield 264, 3) := by decide +kernel
theorem dX12_read_18 : decode cX12_read 18 = .ok (.isub, 1) := by decide +kernel
theorem dX12_read_19 : decode cX12_read 19 = .ok (.ireturn, 1) := by decide +kernel
set_option maxRecDepth 20000 in
theorem iw_m_read_X12 : ∀ w ∈ wsX120, w ∈ wsX12_read := by decide +kernel
set_option maxHeartbeats 4000000 in
set_option maxRecDepth 100000 in
theorem m_read (l : Launch) (dC : Nat → ClassId) (dI : Nat → Nat → Nat) (mo : Nat) (nw : Nat) (kp : Nat) (ik : Nat) (mr : Nat) (la_ : Int64) (lb_ : Int64) (mw : Nat) (lc_ : Int64) (ti_ : Int32) (cb_ : Int32) (ld_ : Int64) (le_ : Int64) (mq : Nat) (mz : Nat) (my : Nat) (sm_ : Int32) (mb : Nat) (jb : Nat) (ta_ : Int32) (tl_ : Int32) (tk_ : Int32) (vl_ : Int32) (mx : Nat) (mv : Nat) (cn_ : ClassId) (fn : Nat → Int32) (cb2_ : ClassId) (fy_ : Nat → Int32) (cv_ : ClassId) (fv_ : Nat → Int32) (cx_ : ClassId) (fx_ : Nat → Int32) (sz : Nat) (hOn : tz_OK 350 fn) (hOx : tz_OK 86 fx_) (hjb : jb ≤ 150) : Met l yX12_read wsX12_read ({ frames := 7, cells := 0, slots := 0, locals := 152 }) (va_Pc [.ref mo] (fun U => U.heap.size = sz ∧ va_P (dC, dI) vwCl [(mo, .inr (12, [.ref nw, .ref kp, .ref ik, .ref mr, .long la_, .long lb_, .ref mw, .long lc_, .int ti_, .int cb_, .long ld_, .long le_, .ref mq, .ref mz, .ref my, .int sm_, .ref mb, .int (nI jb), .int ta_, .int tl_, .int tk_, .int vl_, .ref mx, .ref mv])), (nw, .inl (cn_, 350, .inl fn)), (mb, .inl (cb2_, 150, .inl fy_)), (mv, .inl (cv_, 4, .inl fv_)), (mx, .inl (cx_, 86, .inl fx_))] U.heap ∧ va_K (dC, dI) vwCl [(cn_, .int), (cb2_, .int), (cv_, .int), (cx_, .int)] U ∧ va_D (fun _ => True) [(mo, .inr (12, [.ref nw, .ref kp, .ref ik, .ref mr, .long la_, .long lb_, .ref mw, .long lc_, .int ti_, .int cb_, .long ld_, .long le_, .ref mq, .ref mz, .ref my, .int sm_, .ref mb, .int (nI jb), .int ta_, .int tl_, .int tk_, .int vl_, .ref mx, .ref mv])), (nw, .inl (cn_, 350, .inl fn)), (mb, .inl (cb2_, 150, .inl fy_)), (mv, .inl (cv_, 4, .inl fv_)), (mx, .inl (cx_, 86, .inl fx_))])) (va_Qi (fun (r : Int32) (_ : Unit) => True) (fun _ t => ∃ (h_token : Int32) (h_value : Int32) (gn : Nat → Int32) (gv_ : Nat → Int32) (gx_ : Nat → Int32) (h_tokenAt : Int32) (h_tokenLong : Int32), (tz_OK 350 gn) ∧ (tz_OK 86 gx_) ∧ va_P (dC, dI) vwCl [(mo, .inr (12, [.ref nw, .ref kp, .ref ik, .ref mr, .long la_, .long lb_, .ref mw, .long lc_, .int ti_, .int cb_, .long ld_, .long le_, .ref mq, .ref mz, .ref my, .int sm_, .ref mb, .int (nI jb), .int h_tokenAt, .int h_tokenLong, .int h_token, .int h_value, .ref mx, .ref mv])), (nw, .inl (cn_, 350, .inl gn)), (mb, .inl (cb2_, 150, .inl fy_)), (mv, .inl (cv_, 4, .inl gv_)), (mx, .inl (cx_, 86, .inl gx_))] t.heap ∧ va_K (dC, dI) vwCl [(cn_, .int), (cb2_, .int), (cv_, .int), (cx_, .int)] t ∧ va_D (va_A [(mo, .inr (12, [.ref nw, .ref kp, .ref ik, .ref mr, .long la_, .long lb_, .ref mw, .long lc_, .int ti_, .int cb_, .long ld_, .long le_, .ref mq, .ref mz, .ref my, .int sm_, .ref mb, .int (nI jb), .int ta_, .int tl_, .int tk_, .int vl_, .ref mx, .ref mv])), (nw, .inl (cn_, 350, .inl fn)), (mb, .inl (cb2_, 150, .inl fy_)), (mv, .inl (cv_, 4, .inl fv_)), (mx, .inl (cx_, 86, .inl fx_))] sz) [(mo, .inr (12, [.ref nw, .ref kp, .ref ik, .ref mr, .long la_, .long lb_, .ref mw, .long lc_, .int ti_, .int cb_, .long ld_, .long le_, .ref mq, .ref mz, .ref my, .int sm_, .ref mb, .int (nI jb), .int h_tokenAt, .int h_tokenLong, .int h_token, .int h_value, .ref mx, .ref mv])), (nw, .inl (cn_, 350, .inl gn)), (mb, .inl (cb2_, 150, .inl fy_)), (mv, .inl (cv_, 4, .inl gv_)), (mx, .inl (cx_, 86, .inl gx_))]) (va_A [(mo, .inr (12, [.ref nw, .ref kp, .ref ik, .ref mr, .long la_, .long lb_, .ref mw, .long lc_, .int ti_, .int cb_, .long ld_, .long le_, .ref mq, .ref mz, .ref my, .int sm_, .ref mb, .int (nI jb), .int ta_, .int tl_, .int tk_, .int vl_, .ref mx, .ref mv])), (nw, .inl (cn_, 350, .inl fn)), (mb, .inl (cb2_, 150, .inl fy_)), (mv, .inl (cv_, 4, .inl fv_)), (mx, .inl (cx_, 86, .inl fx_))] sz)) 0 0 (va_A [(mo, .inr (12, [.ref nw, .ref kp, .ref ik, .ref mr, .long la_, .long lb_, .ref mw, .long lc_, .int ti_, .int cb_, .long ld_, .long le_, .ref mq, .ref mz, .ref my, .int sm_, .ref mb, .int (nI jb), .int ta_, .int tl_, .int tk_, .int vl_, .ref mx, .ref mv])), (nw, .inl (cn_, 350, .inl fn)), (mb, .inl (cb2_, 150, .inl fy_)), (mv, .inl (cv_, 4, .inl fv_)), (mx, .inl (cx_, 86, .inl fx_))] sz) := by
  refine Met.ofW (cc := cX12_read) (maxL := 3) (ret := (some .int)) (by decide) rfl ?_
  intro p e s m args below meth c s₁ B hml hv
  obtain ⟨rfl, hsz, hP, hK, hD0⟩ := hv
  have hx := B.exec
  have hb := B.bytes
  have hr := B.returns
  have hts := atoms_spec (ws := wsX12_read) B.pre
  have hown : s.vm.findClass RX12 = some m.cls := findClass_of_methodNamed B.named
  have hlocks := B.notSynchronized
  subst hsz
  have hD := hD0.self (sz := s.heap.size)
  generalize hAe : va_A [(mo, .inr (12, [.ref nw, .ref kp, .ref ik, .ref mr, .long la_, .long lb_, .ref mw, .long lc_, .int ti_, .int cb_, .long ld_, .long le_, .ref mq, .ref mz, .ref my, .int sm_, .ref mb, .int (nI jb), .int ta_, .int tl_, .int tk_, .int vl_, .ref mx, .ref mv])), (nw, .inl (cn_, 350, .inl fn)), (mb, .inl (cb2_, 150, .inl fy_)), (mv, .inl (cv_, 4, .inl fv_)), (mx, .inl (cx_, 86, .inl fx_))] s.heap.size = A at hD ⊢
  have hA : ∀ q : Nat, s.heap.size ≤ q → A q := fun q h => by rw [← hAe]; exact Or.inr h
  have hS : va_S A s.heap s.heap [] := va_S.rf
  have hP : va_P (dC, dI) vwCl [(mo, .inr (12, [.ref nw, .ref kp, .ref ik, .ref mr, .long la_, .long lb_, .ref mw, .long lc_, .int ti_, .int cb_, .long ld_, .long le_, .ref mq, .ref mz, .ref my, .int sm_, .ref mb, .int (nI jb), .int ta_, .int tl_, .int tk_, .int vl_, .ref mx, .ref mv])), (nw, .inl (cn_, 350, .inl fn)), (mb, .inl (cb2_, 150, .inl fy_)), (mv, .inl (cv_, 4, .inl fv_)), (mx, .inl (cx_, 86, .inl fx_))] s.heap := hP
  have hl := lv_entry ([.ref mo]) (n := 3) (Nat.le_of_ble_eq_true rfl)
  rw [lg_entry_eq]
  generalize (lg_sl ([.ref mo]) ++ List.replicate (3 - (lg_sl ([.ref mo])).length) Slot.unset).toArray = ls at hl ⊢
  have hl : lv_has ls 3 [(0, .ref mo)] := hl
  refine lv_aload_n hx hb dX12_read_0 rfl (lv_at hl 0 rfl) ?_
  refine lv_iconst (v := 0) hx hb dX12_read_1 (by decide) ?_
  have hPc := hP.sub (ws' := [(mo, .inr (12, [.ref nw, .ref kp, .ref ik, .ref mr, .long la_, .long lb_, .ref mw, .long lc_, .int ti_, .int cb_, .long ld_, .long le_, .ref mq, .ref mz, .ref my, .int sm_, .ref mb, .int (nI jb), .int ta_, .int tl_, .int tk_, .int vl_, .ref mx, .ref mv])), (mb, .inl (cb2_, 150, .inl fy_))]) [0, 2] rfl
  have hDc := hD.sub (ws' := [(mo, .inr (12, [.ref nw, .ref kp, .ref ik, .ref mr, .long la_, .long lb_, .ref mw, .long lc_, .int ti_, .int cb_, .long ld_, .long le_, .ref mq, .ref mz, .ref my, .int sm_, .ref mb, .int (nI jb), .int ta_, .int tl_, .int tk_, .int vl_, .ref mx, .ref mv])), (mb, .inl (cb2_, 150, .inl fy_))]) [0, 2] (by decide) rfl
  have hKc := hK.sub (tys' := [(cb2_, .int)]) [1] rfl
  have hFc := va_free (wc := [(mo, .inr (12, [.ref nw, .ref kp, .ref ik, .ref mr, .long la_, .long lb_, .ref mw, .long lc_, .int ti_, .int cb_, .long ld_, .long le_, .ref mq, .ref mz, .ref my, .int sm_, .ref mb, .int (nI jb), .int ta_, .int tl_, .int tk_, .int vl_, .ref mx, .ref mv])), (mb, .inl (cb2_, 150, .inl fy_))]) hD hS hA [0, 2] rfl
  refine va_callv (va_runV (As := [.int 0]) (rest := []) ⟨hx, hb, hml, hown, hts⟩ (m_lookAt l dC dI mo nw kp ik mr la_ lb_ mw lc_ ti_ cb_ ld_ le_ mq mz my sm_ mb jb ta_ tl_ tk_ vl_ mx mv cb2_ fy_ 0 s.heap.size hjb (Nat.zero_le _)) (cwV 1 hts gX12_read_X12_lookAt rfl rfl rfl (by decide +kernel) ⟨Nat.le_of_ble_eq_true rfl, Nat.le_of_ble_eq_true rfl⟩) ⟨fun a U g mk q => by obtain ⟨q0, q1, qP, qK, qD⟩ := q; exact ⟨q0, q1, qP, va_K.moved (u := U) (U := U.calling g mk a) (Vm.Alike.refl U.vm) qK, qD⟩, va_recv hK hP (ci := 12) (q0 := 0) rfl rfl, fun U hU hW => ⟨rfl, by rw [hU], by rw [hU]; exact hPc, va_K.moved hW.alike hKc, hDc.weaken (fun _ _ _ _ => trivial)⟩⟩ rfl rfl hl.1 rfl (lv_room (Nat.le_of_ble_eq_true rfl)) dX12_read_2 ⟨Nat.le_of_ble_eq_true rfl, Nat.le_of_ble_eq_true rfl⟩) hS (fun q _ h => hFc q h) hFc (fun u_ t H1 locs ht hvm hw_2 hB hz1 hk1 hS => ?_)
  obtain ⟨h_token_3, h_value_4, ga_5, gl_6, hf_7, hf_8, hf_9, hP1, hK1, hD1⟩ := hB
  rw [ht] at hP1
  have hK1 := va_K.moved hvm.symm hK1
  obtain ⟨hP, hD⟩ := va_join (wr := [(nw, .inl (cn_, 350, .inl fn)), (mv, .inl (cv_, 4, .inl fv_)), (mx, .inl (cx_, 86, .inl fx_))]) (w1 := [(mo, .inr (12, [.ref nw, .ref kp, .ref ik, .ref mr, .long la_, .long lb_, .ref mw, .long lc_, .int ti_, .int cb_, .long ld_, .long le_, .ref mq, .ref mz, .ref my, .int sm_, .ref mb, .int (nI jb), .int (nI ga_5), .int (nI gl_6), .int h_token_3, .int h_value_4, .ref mx, .ref mv])), (mb, .inl (cb2_, 150, .inl fy_))]) hP hD [0, 2] [1, 3, 4] rfl rfl (by decide) (by decide) hk1 hFc hP1 hD1
  generalize H1 = H at hP hS ⊢
  have hP : va_P (dC, dI) vwCl [(nw, .inl (cn_, 350, .inl fn)), (mv, .inl (cv_, 4, .inl fv_)), (mx, .inl (cx_, 86, .inl fx_)), (mo, .inr (12, [.ref nw, .ref kp, .ref ik, .ref mr, .long la_, .long lb_, .ref mw, .long lc_, .int ti_, .int cb_, .long ld_, .long le_, .ref mq, .ref mz, .ref my, .int sm_, .ref mb, .int (nI jb), .int (nI ga_5), .int (nI gl_6), .int h_token_3, .int h_value_4, .ref mx, .ref mv])), (mb, .inl (cb2_, 150, .inl fy_))] H := hP
  have hD : va_D A [(nw, .inl (cn_, 350, .inl fn)), (mv, .inl (cv_, 4, .inl fv_)), (mx, .inl (cx_, 86, .inl fx_)), (mo, .inr (12, [.ref nw, .ref kp, .ref ik, .ref mr, .long la_, .long lb_, .ref mw, .long lc_, .int ti_, .int cb_, .long ld_, .long le_, .ref mq, .ref mz, .ref my, .int sm_, .ref mb, .int (nI jb), .int (nI ga_5), .int (nI gl_6), .int h_token_3, .int h_value_4, .ref mx, .ref mv])), (mb, .inl (cb2_, 150, .inl fy_))] := hD
  refine lv_aload_n hx hb dX12_read_5 rfl (lv_at hl 0 rfl) ?_
  have hPc := hP.sub (ws' := [(mo, .inr (12, [.ref nw, .ref kp, .ref ik, .ref mr, .long la_, .long lb_, .ref mw, .long lc_, .int ti_, .int cb_, .long ld_, .long le_, .ref mq, .ref mz, .ref my, .int sm_, .ref mb, .int (nI jb), .int (nI ga_5), .int (nI gl_6), .int h_token_3, .int h_value_4, .ref mx, .ref mv])), (mb, .inl (cb2_, 150, .inl fy_)), (mv, .inl (cv_, 4, .inl fv_)), (mx, .inl (cx_, 86, .inl fx_))]) [3, 4, 1, 2] rfl
  have hDc := hD.sub (ws' := [(mo, .inr (12, [.ref nw, .ref kp, .ref ik, .ref mr, .long la_, .long lb_, .ref mw, .long lc_, .int ti_, .int cb_, .long ld_, .long le_, .ref mq, .ref mz, .ref my, .int sm_, .ref mb, .int (nI jb), .int (nI ga_5), .int (nI gl_6), .int h_token_3, .int h_value_4, .ref mx, .ref mv])), (mb, .inl (cb2_, 150, .inl fy_)), (mv, .inl (cv_, 4, .inl fv_)), (mx, .inl (cx_, 86, .inl fx_))]) [3, 4, 1, 2] (by decide) rfl
  have hKc := hK.sub (tys' := [(cb2_, .int), (cv_, .int), (cx_, .int)]) [1, 2, 3] rfl
  have hFc := va_free (wc := [(mo, .inr (12, [.ref nw, .ref kp, .ref ik, .ref mr, .long la_, .long lb_, .ref mw, .long lc_, .int ti_, .int cb_, .long ld_, .long le_, .ref mq, .ref mz, .ref my, .int sm_, .ref mb, .int (nI jb), .int (nI ga_5), .int (nI gl_6), .int h_token_3, .int h_value_4, .ref mx, .ref mv])), (mb, .inl (cb2_, 150, .inl fy_)), (mv, .inl (cv_, 4, .inl fv_)), (mx, .inl (cx_, 86, .inl fx_))]) hD hS hA [3, 4, 1, 2] rfl
  refine va_calli (va_runV (As := []) (rest := []) ⟨hx, hb, hml, hown, hts⟩ (m_readsFirst l dC dI mo nw kp ik mr la_ lb_ mw lc_ ti_ cb_ ld_ le_ mq mz my sm_ mb jb ga_5 gl_6 h_token_3 h_value_4 mx mv cb2_ fy_ cv_ fv_ cx_ fx_ H.size hOx hjb hf_8 hf_9) (cwV 0 hts gX12_read_X12_readsFirst rfl rfl rfl (by decide +kernel) ⟨Nat.le_of_ble_eq_true rfl, Nat.le_of_ble_eq_true rfl⟩) ⟨fun a U g mk q => by obtain ⟨q0, q1, qP, qK, qD⟩ := q; exact ⟨q0, q1, qP, va_K.moved (u := U) (U := U.calling g mk a) (Vm.Alike.refl U.vm) qK, qD⟩, va_recv hK hP (ci := 12) (q0 := 3) rfl rfl, fun U hU hW => ⟨rfl, by rw [hU], by rw [hU]; exact hPc, va_K.moved hW.alike hKc, hDc.weaken (fun _ _ _ _ => trivial)⟩⟩ rfl rfl hl.1 rfl (lv_room (Nat.le_of_ble_eq_true rfl)) dX12_read_6 ⟨Nat.le_of_ble_eq_true rfl, Nat.le_of_ble_eq_true rfl⟩) hS (fun q _ h => hFc q h) hFc (fun r_10 u_ t H1 locs ht hvm hw_11 hB hz1 hk1 hS => ?_)
  obtain ⟨h_token_12, h_value_13, gv__14, gx__15, ga_16, gl_17, hf_18, hf_19, hf_20, hf_21, hP1, hK1, hD1⟩ := hB
  rw [ht] at hP1
  have hK1 := va_K.moved hvm.symm hK1
  obtain ⟨hP, hD⟩ := va_join (wr := [(nw, .inl (cn_, 350, .inl fn))]) (w1 := [(mo, .inr (12, [.ref nw, .ref kp, .ref ik, .ref mr, .long la_, .long lb_, .ref mw, .long lc_, .int ti_, .int cb_, .long ld_, .long le_, .ref mq, .ref mz, .ref my, .int sm_, .ref mb, .int (nI jb), .int (nI ga_16), .int (nI gl_17), .int h_token_12, .int h_value_13, .ref mx, .ref mv])), (mb, .inl (cb2_, 150, .inl fy_)), (mv, .inl (cv_, 4, .inl gv__14)), (mx, .inl (cx_, 86, .inl gx__15))]) hP hD [3, 4, 1, 2] [0] rfl rfl (by decide) (by decide) hk1 hFc hP1 hD1
  generalize H1 = H at hP hS ⊢
  have hP : va_P (dC, dI) vwCl [(nw, .inl (cn_, 350, .inl fn)), (mo, .inr (12, [.ref nw, .ref kp, .ref ik, .ref mr, .long la_, .long lb_, .ref mw, .long lc_, .int ti_, .int cb_, .long ld_, .long le_, .ref mq, .ref mz, .ref my, .int sm_, .ref mb, .int (nI jb), .int (nI ga_16), .int (nI gl_17), .int h_token_12, .int h_value_13, .ref mx, .ref mv])), (mb, .inl (cb2_, 150, .inl fy_)), (mv, .inl (cv_, 4, .inl gv__14)), (mx, .inl (cx_, 86, .inl gx__15))] H := hP
  have hD : va_D A [(nw, .inl (cn_, 350, .inl fn)), (mo, .inr (12, [.ref nw, .ref kp, .ref ik, .ref mr, .long la_, .long lb_, .ref mw, .long lc_, .int ti_, .int cb_, .long ld_, .long le_, .ref mq, .ref mz, .ref my, .int sm_, .ref mb, .int (nI jb), .int (nI ga_16), .int (nI gl_17), .int h_token_12, .int h_value_13, .ref mx, .ref mv])), (mb, .inl (cb2_, 150, .inl fy_)), (mv, .inl (cv_, 4, .inl gv__14)), (mx, .inl (cx_, 86, .inl gx__15))] := hD
  refine lv_if_ne (tgt := 20) hx hb dX12_read_9 (by decide) (fun c_22 => ?_) (fun c_22 => ?_)
  · refine lv_aload_n hx hb dX12_read_20 rfl (lv_at hl 0 rfl) ?_
    have hPc := hP.sub (ws' := [(mo, .inr (12, [.ref nw, .ref kp, .ref ik, .ref mr, .long la_, .long lb_, .ref mw, .long lc_, .int ti_, .int cb_, .long ld_, .long le_, .ref mq, .ref mz, .ref my, .int sm_, .ref mb, .int (nI jb), .int (nI ga_16), .int (nI gl_17), .int h_token_12, .int h_value_13, .ref mx, .ref mv])), (mb, .inl (cb2_, 150, .inl fy_))]) [1, 2] rfl
    have hDc := hD.sub (ws' := [(mo, .inr (12, [.ref nw, .ref kp, .ref ik, .ref mr, .long la_, .long lb_, .ref mw, .long lc_, .int ti_, .int cb_, .long ld_, .long le_, .ref mq, .ref mz, .ref my, .int sm_, .ref mb, .int (nI jb), .int (nI ga_16), .int (nI gl_17), .int h_token_12, .int h_value_13, .ref mx, .ref mv])), (mb, .inl (cb2_, 150, .inl fy_))]) [1, 2] (by decide) rfl
    have hKc := hK.sub (tys' := [(cb2_, .int)]) [1] rfl
    have hFc := va_free (wc := [(mo, .inr (12, [.ref nw, .ref kp, .ref ik, .ref mr, .long la_, .long lb_, .ref mw, .long lc_, .int ti_, .int cb_, .long ld_, .long le_, .ref mq, .ref mz, .ref my, .int sm_, .ref mb, .int (nI jb), .int (nI ga_16), .int (nI gl_17), .int h_token_12, .int h_value_13, .ref mx, .ref mv])), (mb, .inl (cb2_, 150, .inl fy_))]) hD hS hA [1, 2] rfl
    refine va_callv (va_runV (As := []) (rest := []) ⟨hx, hb, hml, hown, hts⟩ (m_goOn l dC dI mo nw kp ik mr la_ lb_ mw lc_ ti_ cb_ ld_ le_ mq mz my sm_ mb jb ga_16 gl_17 h_token_12 h_value_13 mx mv cb2_ fy_ H.size hjb hf_20) (cwV 0 hts gX12_read_X12_goOn rfl rfl rfl (by decide +kernel) ⟨Nat.le_of_ble_eq_true rfl, Nat.le_of_ble_eq_true rfl⟩) ⟨fun a U g mk q => by obtain ⟨q0, q1, qP, qK, qD⟩ := q; exact ⟨q0, q1, qP, va_K.moved (u := U) (U := U.calling g mk a) (Vm.Alike.refl U.vm) qK, qD⟩, va_recv hK hP (ci := 12) (q0 := 1) rfl rfl, fun U hU hW => ⟨rfl, by rw [hU], by rw [hU]; exact hPc, va_K.moved hW.alike hKc, hDc.weaken (fun _ _ _ _ => trivial)⟩⟩ rfl rfl hl.1 rfl (lv_room (Nat.le_of_ble_eq_true rfl)) dX12_read_21 ⟨Nat.le_of_ble_eq_true rfl, Nat.le_of_ble_eq_true rfl⟩) hS (fun q _ h => hFc q h) hFc (fun u_ t H1 locs ht hvm hw_24 hB hz1 hk1 hS => ?_)
    obtain ⟨h_token_25, h_value_26, ga_27, gl_28, hf_29, hf_30, hf_31, hP1, hK1, hD1⟩ := hB
    rw [ht] at hP1
    have hK1 := va_K.moved hvm.symm hK1
    obtain ⟨hP, hD⟩ := va_join (wr := [(nw, .inl (cn_, 350, .inl fn)), (mv, .inl (cv_, 4, .inl gv__14)), (mx, .inl (cx_, 86, .inl gx__15))]) (w1 := [(mo, .inr (12, [.ref nw, .ref kp, .ref ik, .ref mr, .long la_, .long lb_, .ref mw, .long lc_, .int ti_, .int cb_, .long ld_, .long le_, .ref mq, .ref mz, .ref my, .int sm_, .ref mb, .int (nI jb), .int (nI ga_27), .int (nI gl_28), .int h_token_25, .int h_value_26, .ref mx, .ref mv])), (mb, .inl (cb2_, 150, .inl fy_))]) hP hD [1, 2] [0, 3, 4] rfl rfl (by decide) (by decide) hk1 hFc hP1 hD1
    generalize H1 = H at hP hS ⊢
    have hP : va_P (dC, dI) vwCl [(nw, .inl (cn_, 350, .inl fn)), (mv, .inl (cv_, 4, .inl gv__14)), (mx, .inl (cx_, 86, .inl gx__15)), (mo, .inr (12, [.ref nw, .ref kp, .ref ik, .ref mr, .long la_, .long lb_, .ref mw, .long lc_, .int ti_, .int cb_, .long ld_, .long le_, .ref mq, .ref mz, .ref my, .int sm_, .ref mb, .int (nI jb), .int (nI ga_27), .int (nI gl_28), .int h_token_25, .int h_value_26, .ref mx, .ref mv])), (mb, .inl (cb2_, 150, .inl fy_))] H := hP
    have hD : va_D A [(nw, .inl (cn_, 350, .inl fn)), (mv, .inl (cv_, 4, .inl gv__14)), (mx, .inl (cx_, 86, .inl gx__15)), (mo, .inr (12, [.ref nw, .ref kp, .ref ik, .ref mr, .long la_, .long lb_, .ref mw, .long lc_, .int ti_, .int cb_, .long ld_, .long le_, .ref mq, .ref mz, .ref my, .int sm_, .ref mb, .int (nI jb), .int (nI ga_27), .int (nI gl_28), .int h_token_25, .int h_value_26, .ref mx, .ref mv])), (mb, .inl (cb2_, 150, .inl fy_))] := hD
    refine lv_iconst (v := 1) hx hb dX12_read_24 (by decide) ?_
    refine lv_istore_n (lv' := [(1, .int 1), (0, .ref mo)]) hx hb dX12_read_25 rfl hl (by decide) rfl (fun ls hl => ?_)
    refine tz_while (σ := Nat × Nat × Int32 × (Nat → Int32) × (Nat → Int32) × Int32 × Int32 × Heap × List Loc × Array Slot) (fun x => W p l e _ s m _ below meth c x.2.2.2.2.2.2.2.1 x.2.2.2.2.2.2.2.2.1 _ _ _ (F0 m 26 x.2.2.2.2.2.2.2.2.2 [])) (fun x => x.1 + x.2.1 ≤ jb ∧ (x.2.2.2.2.2.1 = 3 → 1 ≤ x.2.1) ∧ tz_OK 86 x.2.2.2.2.1 ∧ va_P (dC, dI) vwCl [(nw, .inl (cn_, 350, .inl fn)), (mv, .inl (cv_, 4, .inl x.2.2.2.1)), (mx, .inl (cx_, 86, .inl x.2.2.2.2.1)), (mo, .inr (12, [.ref nw, .ref kp, .ref ik, .ref mr, .long la_, .long lb_, .ref mw, .long lc_, .int ti_, .int cb_, .long ld_, .long le_, .ref mq, .ref mz, .ref my, .int sm_, .ref mb, .int (nI jb), .int (nI x.1), .int (nI x.2.1), .int x.2.2.2.2.2.1, .int x.2.2.2.2.2.2.1, .ref mx, .ref mv])), (mb, .inl (cb2_, 150, .inl fy_))] x.2.2.2.2.2.2.2.1 ∧ va_D A [(nw, .inl (cn_, 350, .inl fn)), (mv, .inl (cv_, 4, .inl x.2.2.2.1)), (mx, .inl (cx_, 86, .inl x.2.2.2.2.1)), (mo, .inr (12, [.ref nw, .ref kp, .ref ik, .ref mr, .long la_, .long lb_, .ref mw, .long lc_, .int ti_, .int cb_, .long ld_, .long le_, .ref mq, .ref mz, .ref my, .int sm_, .ref mb, .int (nI jb), .int (nI x.1), .int (nI x.2.1), .int x.2.2.2.2.2.1, .int x.2.2.2.2.2.2.1, .ref mx, .ref mv])), (mb, .inl (cb2_, 150, .inl fy_))] ∧ va_S A s.heap x.2.2.2.2.2.2.2.1 x.2.2.2.2.2.2.2.2.1 ∧ lv_has x.2.2.2.2.2.2.2.2.2 3 [(1, .int x.2.2.1), (0, .ref mo)]) (fun x => jb - x.1) ?_ (ga_27, gl_28, 1, gv__14, gx__15, h_token_25, h_value_26, H, locs, ls) ⟨hf_30, hf_31, hf_18, hP, hD, hS, hl⟩
    rintro ⟨z_32, z_33, v_61, f_62, f_63, v_64, v_65, H, locs, ls⟩ ⟨hi_93_0, hi_94_1, hi_95_2, hP, hD, hS, hl⟩ ih_96
    dsimp only at hi_93_0 hi_94_1 hi_95_2 hP hD hS hl ih_96 ⊢
    refine lv_aload_n hx hb dX12_read_26 rfl (lv_at hl 1 rfl) ?_
    refine va_get (D := (dC, dI)) (ci := 12) (v := .int v_64) (C := RX12) (T := TX12) (N := 24) hx hb hts iw_m_read_X12 hown hK hP 3 rfl rfl 20 (by decide) (hts (.fieldLink RX12 270 "ThriceCountedModel" "token" "I") (by decide +kernel)) (fun _ h9 => h9) rfl dX12_read_27 ?_
    refine lv_if_eq (tgt := 66) hx hb dX12_read_30 (by decide) (fun c_97 => ?_) (fun c_97 => ?_)
    · have hv_98 : tz_Co f_63 fn 0 0 fn := tz_Co.rf
      refine lv_iconst (v := 0) hx hb dX12_read_66 (by decide) ?_
      refine lv_istore_n (lv' := [(2, .int 0), (1, .int v_61), (0, .ref mo)]) hx hb dX12_read_67 rfl hl (by decide) rfl (fun ls hl => ?_)
      refine tz_while (σ := Nat × (Nat → Int32) × Heap × List Loc × Array Slot) (fun x => W p l e _ s m _ below meth c x.2.2.1 x.2.2.2.1 _ _ _ (F0 m 68 x.2.2.2.2 [])) (fun x => tz_Co f_63 fn 0 x.1 x.2.1 ∧ x.1 ≤ 86 ∧ va_P (dC, dI) vwCl [(nw, .inl (cn_, 350, .inl x.2.1)), (mv, .inl (cv_, 4, .inl f_62)), (mx, .inl (cx_, 86, .inl f_63)), (mo, .inr (12, [.ref nw, .ref kp, .ref ik, .ref mr, .long la_, .long lb_, .ref mw, .long lc_, .int ti_, .int cb_, .long ld_, .long le_, .ref mq, .ref mz, .ref my, .int sm_, .ref mb, .int (nI jb), .int (nI z_32), .int (nI z_33), .int v_64, .int v_65, .ref mx, .ref mv])), (mb, .inl (cb2_, 150, .inl fy_))] x.2.2.1 ∧ va_D A [(nw, .inl (cn_, 350, .inl x.2.1)), (mv, .inl (cv_, 4, .inl f_62)), (mx, .inl (cx_, 86, .inl f_63)), (mo, .inr (12, [.ref nw, .ref kp, .ref ik, .ref mr, .long la_, .long lb_, .ref mw, .long lc_, .int ti_, .int cb_, .long ld_, .long le_, .ref mq, .ref mz, .ref my, .int sm_, .ref mb, .int (nI jb), .int (nI z_32), .int (nI z_33), .int v_64, .int v_65, .ref mx, .ref mv])), (mb, .inl (cb2_, 150, .inl fy_))] ∧ va_S A s.heap x.2.2.1 x.2.2.2.1 ∧ lv_has x.2.2.2.2 3 [(2, .int (nI x.1)), (1, .int v_61), (0, .ref mo)]) (fun x => 86 - x.1) ?_ (0, fn, H, locs, ls) ⟨hv_98, by (try dsimp only); omega, hP, hD, hS, hl⟩
      rintro ⟨k_99, f_106, H, locs, ls⟩ ⟨hi_113_0, hi_114_1, hP, hD, hS, hl⟩ ih_115
      dsimp only at hi_113_0 hi_114_1 hP hD hS hl ih_115 ⊢
      refine lv_iload_n hx hb dX12_read_68 rfl (lv_at hl 0 rfl) ?_
      refine lv_bipush (v := 86) hx hb dX12_read_69 (by decide) ?_
      refine lv_icmp_ge (tgt := 92) hx hb dX12_read_71 (by decide) (fun c_116 => ?_) (fun c_116 => ?_)
      · have hn_117 : 86 ≤ k_99 := (nI_leI (a := 86) (b := k_99) (by omega) (by omega)).mp c_116
        refine lv_iload_n hx hb dX12_read_92 rfl (lv_at hl 1 rfl) ?_
        have hP9 := hP.sub (ws' := [(mo, .inr (12, [.ref nw, .ref kp, .ref ik, .ref mr, .long la_, .long lb_, .ref mw, .long lc_, .int ti_, .int cb_, .long ld_, .long le_, .ref mq, .ref mz, .ref my, .int sm_, .ref mb, .int (nI jb), .int (nI z_32), .int (nI z_33), .int v_64, .int v_65, .ref mx, .ref mv])), (nw, .inl (cn_, 350, .inl f_106)), (mb, .inl (cb2_, 150, .inl fy_)), (mv, .inl (cv_, 4, .inl f_62)), (mx, .inl (cx_, 86, .inl f_63))]) [3, 0, 4, 1, 2] rfl
        have hD9 := hD.sub (ws' := [(mo, .inr (12, [.ref nw, .ref kp, .ref ik, .ref mr, .long la_, .long lb_, .ref mw, .long lc_, .int ti_, .int cb_, .long ld_, .long le_, .ref mq, .ref mz, .ref my, .int sm_, .ref mb, .int (nI jb), .int (nI z_32), .int (nI z_33), .int v_64, .int v_65, .ref mx, .ref mv])), (nw, .inl (cn_, 350, .inl f_106)), (mb, .inl (cb2_, 150, .inl fy_)), (mv, .inl (cv_, 4, .inl f_62)), (mx, .inl (cx_, 86, .inl f_63))]) [3, 0, 4, 1, 2] (by decide) rfl
        have hK9 := hK.sub (tys' := [(cn_, .int), (cb2_, .int), (cv_, .int), (cx_, .int)]) [0, 1, 2, 3] rfl
        exact W.iret (v := v_61) hx hb hr (fun t ht hW => ⟨⟨v_61, (), rfl, trivial, v_64, v_65, f_106, f_62, f_63, (nI z_32), (nI z_33), tz_OK.copy86 hi_95_2 hOn (hi_113_0.cast (by omega)), hi_95_2, by rw [ht]; exact hP9, va_K.moved hW.alike hK9, hD9⟩, hS.F ht⟩) hS.2.2 dX12_read_93
      · have hn_118 : ¬ 86 ≤ k_99 := fun q => c_116 ((nI_leI (a := 86) (b := k_99) (by omega) (by omega)).mpr q)
        refine lv_aload_n hx hb dX12_read_74 rfl (lv_at hl 2 rfl) ?_
        refine va_get (D := (dC, dI)) (ci := 12) (v := .ref nw) (C := RX12) (T := TX12) (N := 24) hx hb hts iw_m_read_X12 hown hK hP 3 rfl rfl 0 (by decide) (hts (.fieldLink RX12 7 "ThriceCountedModel" "now" "[I") (by decide +kernel)) (fun _ h9 => h9) rfl dX12_read_75 ?_
        refine lv_iload_n hx hb dX12_read_78 rfl (lv_at hl 0 rfl) ?_
        refine lv_aload_n hx hb dX12_read_79 rfl (lv_at hl 2 rfl) ?_
        refine va_get (D := (dC, dI)) (ci := 12) (v := .ref mx) (C := RX12) (T := TX12) (N := 24) hx hb hts iw_m_read_X12 hown hK hP 3 rfl rfl 22 (by decide) (hts (.fieldLink RX12 43 "ThriceCountedModel" "next" "[I") (by decide +kernel)) (fun _ h9 => h9) rfl dX12_read_80 ?_
        refine lv_iload_n hx hb dX12_read_83 rfl (lv_at hl 0 rfl) ?_
        refine va_iald hx hb hK hP 2 3 rfl rfl (vp_in_nI (n := k_99) (N := 86) (by omega) (by decide)) dX12_read_84 ?_
        refine lv_topi (fun x_119 ex_120 => ?_)
        refine va_iast hx hb hK hP hD hS 0 0 rfl rfl (vp_in_nI (n := k_99) (N := 350) (by omega) (by decide)) dX12_read_85 (fun H locs hP hD hS => ?_)
        have hk_122 : tz_Co f_63 fn 0 (k_99 + 1) (upd f_106 (Int32.toNatClampNeg (nI k_99)) x_119) := hi_113_0.step (by omega) (by omega) (tz_ldv (by omega) ex_120)
        generalize (upd f_106 (Int32.toNatClampNeg (nI k_99)) x_119) = f_121 at hP hD hk_122
        have hP : va_P (dC, dI) vwCl [(nw, .inl (cn_, 350, .inl f_121)), (mv, .inl (cv_, 4, .inl f_62)), (mx, .inl (cx_, 86, .inl f_63)), (mo, .inr (12, [.ref nw, .ref kp, .ref ik, .ref mr, .long la_, .long lb_, .ref mw, .long lc_, .int ti_, .int cb_, .long ld_, .long le_, .ref mq, .ref mz, .ref my, .int sm_, .ref mb, .int (nI jb), .int (nI z_32), .int (nI z_33), .int v_64, .int v_65, .ref mx, .ref mv])), (mb, .inl (cb2_, 150, .inl fy_))] H := hP
        have hD : va_D A [(nw, .inl (cn_, 350, .inl f_121)), (mv, .inl (cv_, 4, .inl f_62)), (mx, .inl (cx_, 86, .inl f_63)), (mo, .inr (12, [.ref nw, .ref kp, .ref ik, .ref mr, .long la_, .long lb_, .ref mw, .long lc_, .int ti_, .int cb_, .long ld_, .long le_, .ref mq, .ref mz, .ref my, .int sm_, .ref mb, .int (nI jb), .int (nI z_32), .int (nI z_33), .int v_64, .int v_65, .ref mx, .ref mv])), (mb, .inl (cb2_, 150, .inl fy_))] := hD
        refine lv_iinc (v := (nI (k_99 + 1))) (lv' := [(2, .int (nI (k_99 + 1))), (1, .int v_61), (0, .ref mo)]) hx hb dX12_read_86 hl (k := 0) rfl (nI_add k_99 1) (by decide) rfl (fun ls hl => ?_)
        refine lv_goto (tgt := 68) hx hb dX12_read_89 (by decide) ?_
        exact ih_115 ((k_99 + 1), f_121, H, locs, ls) ⟨hk_122, by dsimp only; omega, hP, hD, hS, lv_sub hl [0, 1, 2] rfl⟩ (by dsimp only; omega)
    · refine lv_aload_n hx hb dX12_read_33 rfl (lv_at hl 1 rfl) ?_
      have hPc := hP.sub (ws' := [(mo, .inr (12, [.ref nw, .ref kp, .ref ik, .ref mr, .long la_, .long lb_, .ref mw, .long lc_, .int ti_, .int cb_, .long ld_, .long le_, .ref mq, .ref mz, .ref my, .int sm_, .ref mb, .int (nI jb), .int (nI z_32), .int (nI z_33), .int v_64, .int v_65, .ref mx, .ref mv])), (mb, .inl (cb2_, 150, .inl fy_)), (mv, .inl (cv_, 4, .inl f_62)), (mx, .inl (cx_, 86, .inl f_63))]) [3, 4, 1, 2] rfl
      have hDc := hD.sub (ws' := [(mo, .inr (12, [.ref nw, .ref kp, .ref ik, .ref mr, .long la_, .long lb_, .ref mw, .long lc_, .int ti_, .int cb_, .long ld_, .long le_, .ref mq, .ref mz, .ref my, .int sm_, .ref mb, .int (nI jb), .int (nI z_32), .int (nI z_33), .int v_64, .int v_65, .ref mx, .ref mv])), (mb, .inl (cb2_, 150, .inl fy_)), (mv, .inl (cv_, 4, .inl f_62)), (mx, .inl (cx_, 86, .inl f_63))]) [3, 4, 1, 2] (by decide) rfl
      have hKc := hK.sub (tys' := [(cb2_, .int), (cv_, .int), (cx_, .int)]) [1, 2, 3] rfl
      have hFc := va_free (wc := [(mo, .inr (12, [.ref nw, .ref kp, .ref ik, .ref mr, .long la_, .long lb_, .ref mw, .long lc_, .int ti_, .int cb_, .long ld_, .long le_, .ref mq, .ref mz, .ref my, .int sm_, .ref mb, .int (nI jb), .int (nI z_32), .int (nI z_33), .int v_64, .int v_65, .ref mx, .ref mv])), (mb, .inl (cb2_, 150, .inl fy_)), (mv, .inl (cv_, 4, .inl f_62)), (mx, .inl (cx_, 86, .inl f_63))]) hD hS hA [3, 4, 1, 2] rfl
      refine va_calli (va_runV (As := []) (rest := []) ⟨hx, hb, hml, hown, hts⟩ (m_readsItem l dC dI mo nw kp ik mr la_ lb_ mw lc_ ti_ cb_ ld_ le_ mq mz my sm_ mb jb z_32 z_33 v_64 v_65 mx mv cb2_ fy_ cv_ f_62 cx_ f_63 H.size hi_95_2 hjb hi_93_0 hi_94_1) (cwV 0 hts gX12_read_X12_readsItem rfl rfl rfl (by decide +kernel) ⟨Nat.le_of_ble_eq_true rfl, Nat.le_of_ble_eq_true rfl⟩) ⟨fun a U g mk q => by obtain ⟨q0, q1, qP, qK, qD⟩ := q; exact ⟨q0, q1, qP, va_K.moved (u := U) (U := U.calling g mk a) (Vm.Alike.refl U.vm) qK, qD⟩, va_recv hK hP (ci := 12) (q0 := 3) rfl rfl, fun U hU hW => ⟨rfl, by rw [hU], by rw [hU]; exact hPc, va_K.moved hW.alike hKc, hDc.weaken (fun _ _ _ _ => trivial)⟩⟩ rfl rfl hl.1 rfl (lv_room (Nat.le_of_ble_eq_true rfl)) dX12_read_34 ⟨Nat.le_of_ble_eq_true rfl, Nat.le_of_ble_eq_true rfl⟩) hS (fun q _ h => hFc q h) hFc (fun r_123 u_ t H1 locs ht hvm hw_124 hB hz1 hk1 hS => ?_)
      obtain ⟨h_token_125, h_value_126, gv__127, gx__128, ga_129, gl_130, hf_131, hf_132, hf_133, hf_134, hP1, hK1, hD1⟩ := hB
      rw [ht] at hP1
      have hK1 := va_K.moved hvm.symm hK1
      obtain ⟨hP, hD⟩ := va_join (wr := [(nw, .inl (cn_, 350, .inl fn))]) (w1 := [(mo, .inr (12, [.ref nw, .ref kp, .ref ik, .ref mr, .long la_, .long lb_, .ref mw, .long lc_, .int ti_, .int cb_, .long ld_, .long le_, .ref mq, .ref mz, .ref my, .int sm_, .ref mb, .int (nI jb), .int (nI ga_129), .int (nI gl_130), .int h_token_125, .int h_value_126, .ref mx, .ref mv])), (mb, .inl (cb2_, 150, .inl fy_)), (mv, .inl (cv_, 4, .inl gv__127)), (mx, .inl (cx_, 86, .inl gx__128))]) hP hD [3, 4, 1, 2] [0] rfl rfl (by decide) (by decide) hk1 hFc hP1 hD1
      generalize H1 = H at hP hS ⊢
      have hP : va_P (dC, dI) vwCl [(nw, .inl (cn_, 350, .inl fn)), (mo, .inr (12, [.ref nw, .ref kp, .ref ik, .ref mr, .long la_, .long lb_, .ref mw, .long lc_, .int ti_, .int cb_, .long ld_, .long le_, .ref mq, .ref mz, .ref my, .int sm_, .ref mb, .int (nI jb), .int (nI ga_129), .int (nI gl_130), .int h_token_125, .int h_value_126, .ref mx, .ref mv])), (mb, .inl (cb2_, 150, .inl fy_)), (mv, .inl (cv_, 4, .inl gv__127)), (mx, .inl (cx_, 86, .inl gx__128))] H := hP
      have hD : va_D A [(nw, .inl (cn_, 350, .inl fn)), (mo, .inr (12, [.ref nw, .ref kp, .ref ik, .ref mr, .long la_, .long lb_, .ref mw, .long lc_, .int ti_, .int cb_, .long ld_, .long le_, .ref mq, .ref mz, .ref my, .int sm_, .ref mb, .int (nI jb), .int (nI ga_129), .int (nI gl_130), .int h_token_125, .int h_value_126, .ref mx, .ref mv])), (mb, .inl (cb2_, 150, .inl fy_)), (mv, .inl (cv_, 4, .inl gv__127)), (mx, .inl (cx_, 86, .inl gx__128))] := hD
      refine lv_if_eq (tgt := 48) hx hb dX12_read_37 (by decide) (fun c_135 => ?_) (fun c_135 => ?_)
      · refine lv_bipush (v := (-10)) hx hb dX12_read_48 (by decide) ?_
        refine lv_aload_n hx hb dX12_read_50 rfl (lv_at hl 1 rfl) ?_
        refine va_get (D := (dC, dI)) (ci := 12) (v := .int (nI ga_129)) (C := RX12) (T := TX12) (N := 24) hx hb hts iw_m_read_X12 hown hK hP 1 rfl rfl 18 (by decide) (hts (.fieldLink RX12 264 "ThriceCountedModel" "tokenAt" "I") (by decide +kernel)) (fun _ h9 => h9) rfl dX12_read_51 ?_
        refine lv_isub hx hb dX12_read_54 ?_
        refine lv_topi (fun x_136 _ => ?_)
        have hP9 := hP.sub (ws' := [(mo, .inr (12, [.ref nw, .ref kp, .ref ik, .ref mr, .long la_, .long lb_, .ref mw, .long lc_, .int ti_, .int cb_, .long ld_, .long le_, .ref mq, .ref mz, .ref my, .int sm_, .ref mb, .int (nI jb), .int (nI ga_129), .int (nI gl_130), .int h_token_125, .int h_value_126, .ref mx, .ref mv])), (nw, .inl (cn_, 350, .inl fn)), (mb, .inl (cb2_, 150, .inl fy_)), (mv, .inl (cv_, 4, .inl gv__127)), (mx, .inl (cx_, 86, .inl gx__128))]) [1, 0, 2, 3, 4] rfl
        have hD9 := hD.sub (ws' := [(mo, .inr (12, [.ref nw, .ref kp, .ref ik, .ref mr, .long la_, .long lb_, .ref mw, .long lc_, .int ti_, .int cb_, .long ld_, .long le_, .ref mq, .ref mz, .ref my, .int sm_, .ref mb, .int (nI jb), .int (nI ga_129), .int (nI gl_130), .int h_token_125, .int h_value_126, .ref mx, .ref mv])), (nw, .inl (cn_, 350, .inl fn)), (mb, .inl (cb2_, 150, .inl fy_)), (mv, .inl (cv_, 4, .inl gv__127)), (mx, .inl (cx_, 86, .inl gx__128))]) [1, 0, 2, 3, 4] (by decide) rfl
        have hK9 := hK.sub (tys' := [(cn_, .int), (cb2_, .int), (cv_, .int), (cx_, .int)]) [0, 1, 2, 3] rfl
        exact W.iret (v := x_136) hx hb hr (fun t ht hW => ⟨⟨x_136, (), rfl, trivial, h_token_125, h_value_126, fn, gv__127, gx__128, (nI ga_129), (nI gl_130), hOn, hf_131, by rw [ht]; exact hP9, va_K.moved hW.alike hK9, hD9⟩, hS.F ht⟩) hS.2.2 dX12_read_55
      · refine lv_aload_n hx hb dX12_read_40 rfl (lv_at hl 1 rfl) ?_
        refine va_get (D := (dC, dI)) (ci := 12) (v := .int h_token_125) (C := RX12) (T := TX12) (N := 24) hx hb hts iw_m_read_X12 hown hK hP 1 rfl rfl 20 (by decide) (hts (.fieldLink RX12 270 "ThriceCountedModel" "token" "I") (by decide +kernel)) (fun _ h9 => h9) rfl dX12_read_41 ?_
        refine lv_iconst (v := 3) hx hb dX12_read_44 (by decide) ?_
        refine lv_icmp_eq (tgt := 56) hx hb dX12_read_45 (by decide) (fun c_137 => ?_) (fun c_137 => ?_)
        · have h1_138 := hf_134 c_137
          refine lv_aload_n hx hb dX12_read_56 rfl (lv_at hl 1 rfl) ?_
          have hPc := hP.sub (ws' := [(mo, .inr (12, [.ref nw, .ref kp, .ref ik, .ref mr, .long la_, .long lb_, .ref mw, .long lc_, .int ti_, .int cb_, .long ld_, .long le_, .ref mq, .ref mz, .ref my, .int sm_, .ref mb, .int (nI jb), .int (nI ga_129), .int (nI gl_130), .int h_token_125, .int h_value_126, .ref mx, .ref mv])), (mb, .inl (cb2_, 150, .inl fy_))]) [1, 2] rfl
          have hDc := hD.sub (ws' := [(mo, .inr (12, [.ref nw, .ref kp, .ref ik, .ref mr, .long la_, .long lb_, .ref mw, .long lc_, .int ti_, .int cb_, .long ld_, .long le_, .ref mq, .ref mz, .ref my, .int sm_, .ref mb, .int (nI jb), .int (nI ga_129), .int (nI gl_130), .int h_token_125, .int h_value_126, .ref mx, .ref mv])), (mb, .inl (cb2_, 150, .inl fy_))]) [1, 2] (by decide) rfl
          have hKc := hK.sub (tys' := [(cb2_, .int)]) [1] rfl
          have hFc := va_free (wc := [(mo, .inr (12, [.ref nw, .ref kp, .ref ik, .ref mr, .long la_, .long lb_, .ref mw, .long lc_, .int ti_, .int cb_, .long ld_, .long le_, .ref mq, .ref mz, .ref my, .int sm_, .ref mb, .int (nI jb), .int (nI ga_129), .int (nI gl_130), .int h_token_125, .int h_value_126, .ref mx, .ref mv])), (mb, .inl (cb2_, 150, .inl fy_))]) hD hS hA [1, 2] rfl
          refine va_callv (va_runV (As := []) (rest := []) ⟨hx, hb, hml, hown, hts⟩ (m_goOn l dC dI mo nw kp ik mr la_ lb_ mw lc_ ti_ cb_ ld_ le_ mq mz my sm_ mb jb ga_129 gl_130 h_token_125 h_value_126 mx mv cb2_ fy_ H.size hjb hf_133) (cwV 0 hts gX12_read_X12_goOn rfl rfl rfl (by decide +kernel) ⟨Nat.le_of_ble_eq_true rfl, Nat.le_of_ble_eq_true rfl⟩) ⟨fun a U g mk q => by obtain ⟨q0, q1, qP, qK, qD⟩ := q; exact ⟨q0, q1, qP, va_K.moved (u := U) (U := U.calling g mk a) (Vm.Alike.refl U.vm) qK, qD⟩, va_recv hK hP (ci := 12) (q0 := 1) rfl rfl, fun U hU hW => ⟨rfl, by rw [hU], by rw [hU]; exact hPc, va_K.moved hW.alike hKc, hDc.weaken (fun _ _ _ _ => trivial)⟩⟩ rfl rfl hl.1 rfl (lv_room (Nat.le_of_ble_eq_true rfl)) dX12_read_57 ⟨Nat.le_of_ble_eq_true rfl, Nat.le_of_ble_eq_true rfl⟩) hS (fun q _ h => hFc q h) hFc (fun u_ t H1 locs ht hvm hw_140 hB hz1 hk1 hS => ?_)
          obtain ⟨h_token_141, h_value_142, ga_143, gl_144, hf_145, hf_146, hf_147, hP1, hK1, hD1⟩ := hB
          rw [ht] at hP1
          have hK1 := va_K.moved hvm.symm hK1
          obtain ⟨hP, hD⟩ := va_join (wr := [(nw, .inl (cn_, 350, .inl fn)), (mv, .inl (cv_, 4, .inl gv__127)), (mx, .inl (cx_, 86, .inl gx__128))]) (w1 := [(mo, .inr (12, [.ref nw, .ref kp, .ref ik, .ref mr, .long la_, .long lb_, .ref mw, .long lc_, .int ti_, .int cb_, .long ld_, .long le_, .ref mq, .ref mz, .ref my, .int sm_, .ref mb, .int (nI jb), .int (nI ga_143), .int (nI gl_144), .int h_token_141, .int h_value_142, .ref mx, .ref mv])), (mb, .inl (cb2_, 150, .inl fy_))]) hP hD [1, 2] [0, 3, 4] rfl rfl (by decide) (by decide) hk1 hFc hP1 hD1
          generalize H1 = H at hP hS ⊢
          have hP : va_P (dC, dI) vwCl [(nw, .inl (cn_, 350, .inl fn)), (mv, .inl (cv_, 4, .inl gv__127)), (mx, .inl (cx_, 86, .inl gx__128)), (mo, .inr (12, [.ref nw, .ref kp, .ref ik, .ref mr, .long la_, .long lb_, .ref mw, .long lc_, .int ti_, .int cb_, .long ld_, .long le_, .ref mq, .ref mz, .ref my, .int sm_, .ref mb, .int (nI jb), .int (nI ga_143), .int (nI gl_144), .int h_token_141, .int h_value_142, .ref mx, .ref mv])), (mb, .inl (cb2_, 150, .inl fy_))] H := hP
          have hD : va_D A [(nw, .inl (cn_, 350, .inl fn)), (mv, .inl (cv_, 4, .inl gv__127)), (mx, .inl (cx_, 86, .inl gx__128)), (mo, .inr (12, [.ref nw, .ref kp, .ref ik, .ref mr, .long la_, .long lb_, .ref mw, .long lc_, .int ti_, .int cb_, .long ld_, .long le_, .ref mq, .ref mz, .ref my, .int sm_, .ref mb, .int (nI jb), .int (nI ga_143), .int (nI gl_144), .int h_token_141, .int h_value_142, .ref mx, .ref mv])), (mb, .inl (cb2_, 150, .inl fy_))] := hD
          refine lv_iinc (v := (v_61 + 1)) (lv' := [(1, .int (v_61 + 1)), (0, .ref mo)]) hx hb dX12_read_60 hl (k := 0) rfl rfl (by decide) rfl (fun ls hl => ?_)
          refine lv_goto (tgt := 26) hx hb dX12_read_63 (by decide) ?_
          exact ih_96 (ga_143, gl_144, (v_61 + 1), gv__127, gx__128, h_token_141, h_value_142, H, locs, ls) ⟨hf_146, hf_147, hf_131, hP, hD, hS, lv_sub hl [0, 1] rfl⟩ (by dsimp only; omega)
        · refine lv_bipush (v := (-10)) hx hb dX12_read_48 (by decide) ?_
          refine lv_aload_n hx hb dX12_read_50 rfl (lv_at hl 1 rfl) ?_
          refine va_get (D := (dC, dI)) (ci := 12) (v := .int (nI ga_129)) (C := RX12) (T := TX12) (N := 24) hx hb hts iw_m_read_X12 hown hK hP 1 rfl rfl 18 (by decide) (hts (.fieldLink RX12 264 "ThriceCountedModel" "tokenAt" "I") (by decide +kernel)) (fun _ h9 => h9) rfl dX12_read_51 ?_
          refine lv_isub hx hb dX12_read_54 ?_
          refine lv_topi (fun x_148 _ => ?_)
          have hP9 := hP.sub (ws' := [(mo, .inr (12, [.ref nw, .ref kp, .ref ik, .ref mr, .long la_, .long lb_, .ref mw, .long lc_, .int ti_, .int cb_, .long ld_, .long le_, .ref mq, .ref mz, .ref my, .int sm_, .ref mb, .int (nI jb), .int (nI ga_129), .int (nI gl_130), .int h_token_125, .int h_value_126, .ref mx, .ref mv])), (nw, .inl (cn_, 350, .inl fn)), (mb, .inl (cb2_, 150, .inl fy_)), (mv, .inl (cv_, 4, .inl gv__127)), (mx, .inl (cx_, 86, .inl gx__128))]) [1, 0, 2, 3, 4] rfl
          have hD9 := hD.sub (ws' := [(mo, .inr (12, [.ref nw, .ref kp, .ref ik, .ref mr, .long la_, .long lb_, .ref mw, .long lc_, .int ti_, .int cb_, .long ld_, .long le_, .ref mq, .ref mz, .ref my, .int sm_, .ref mb, .int (nI jb), .int (nI ga_129), .int (nI gl_130), .int h_token_125, .int h_value_126, .ref mx, .ref mv])), (nw, .inl (cn_, 350, .inl fn)), (mb, .inl (cb2_, 150, .inl fy_)), (mv, .inl (cv_, 4, .inl gv__127)), (mx, .inl (cx_, 86, .inl gx__128))]) [1, 0, 2, 3, 4] (by decide) rfl
          have hK9 := hK.sub (tys' := [(cn_, .int), (cb2_, .int), (cv_, .int), (cx_, .int)]) [0, 1, 2, 3] rfl
          exact W.iret (v := x_148) hx hb hr (fun t ht hW => ⟨⟨x_148, (), rfl, trivial, h_token_125, h_value_126, fn, gv__127, gx__128, (nI ga_129), (nI gl_130), hOn, hf_131, by rw [ht]; exact hP9, va_K.moved hW.alike hK9, hD9⟩, hS.F ht⟩) hS.2.2 dX12_read_55
  · refine lv_bipush (v := (-10)) hx hb dX12_read_12 (by decide) ?_
    refine lv_aload_n hx hb dX12_read_14 rfl (lv_at hl 0 rfl) ?_
    refine va_get (D := (dC, dI)) (ci := 12) (v := .int (nI ga_16)) (C := RX12) (T := TX12) (N := 24) hx hb hts iw_m_read_X12 hown hK hP 1 rfl rfl 18 (by decide) (hts (.fieldLink RX12 264 "ThriceCountedModel" "tokenAt" "I") (by decide +kernel)) (fun _ h9 => h9) rfl dX12_read_15 ?_
    refine lv_isub hx hb dX12_read_18 ?_
    refine lv_topi (fun x_149 _ => ?_)
    have hP9 := hP.sub (ws' := [(mo, .inr (12, [.ref nw, .ref kp, .ref ik, .ref mr, .long la_, .long lb_, .ref mw, .long lc_, .int ti_, .int cb_, .long ld_, .long le_, .ref mq, .ref mz, .ref my, .int sm_, .ref mb, .int (nI jb), .int (nI ga_16), .int (nI gl_17), .int h_token_12, .int h_value_13, .ref mx, .ref mv])), (nw, .inl (cn_, 350, .inl fn)), (mb, .inl (cb2_, 150, .inl fy_)), (mv, .inl (cv_, 4, .inl gv__14)), (mx, .inl (cx_, 86, .inl gx__15))]) [1, 0, 2, 3, 4] rfl
    have hD9 := hD.sub (ws' := [(mo, .inr (12, [.ref nw, .ref kp, .ref ik, .ref mr, .long la_, .long lb_, .ref mw, .long lc_, .int ti_, .int cb_, .long ld_, .long le_, .ref mq, .ref mz, .ref my, .int sm_, .ref mb, .int (nI jb), .int (nI ga_16), .int (nI gl_17), .int h_token_12, .int h_value_13, .ref mx, .ref mv])), (nw, .inl (cn_, 350, .inl fn)), (mb, .inl (cb2_, 150, .inl fy_)), (mv, .inl (cv_, 4, .inl gv__14)), (mx, .inl (cx_, 86, .inl gx__15))]) [1, 0, 2, 3, 4] (by decide) rfl
    have hK9 := hK.sub (tys' := [(cn_, .int), (cb2_, .int), (cv_, .int), (cx_, .int)]) [0, 1, 2, 3] rfl
    exact W.iret (v := x_149) hx hb hr (fun t ht hW => ⟨⟨x_149, (), rfl, trivial, h_token_12, h_value_13, fn, gv__14, gx__15, (nI ga_16), (nI gl_17), hOn, hf_18, by rw [ht]; exact hP9, va_K.moved hW.alike hK9, hD9⟩, hS.F ht⟩) hS.2.2 dX12_read_19
