theorem dX7_payment_0 : decode cX7_payment 0 = .ok (.iconst 0, 1) := by decide +kernel
theorem dX7_payment_1 : decode cX7_payment 1 = .ok (.istore_n 2, 1) := by decide +kernel
theorem dX7_payment_2 : decode cX7_payment 2 = .ok (.iload_n 2, 1) := by decide +kernel
theorem dX7_payment_3 : decode cX7_payment 3 = .ok (.bipush 60, 2) := by decide +kernel
theorem dX7_payment_5 : decode cX7_payment 5 = .ok (.if_icmp .gt 30, 3) := by decide +kernel
theorem dX7_payment_35 : decode cX7_payment 35 = .ok (.iconst 5, 1) := by decide +kernel
theorem dX7_payment_36 : decode cX7_payment 36 = .ok (.istore_n 2, 1) := by decide +kernel
theorem dX7_payment_37 : decode cX7_payment 37 = .ok (.iload_n 2, 1) := by decide +kernel
theorem dX7_payment_38 : decode cX7_payment 38 = .ok (.ifCond .lt 128, 3) := by decide +kernel
theorem dX7_payment_166 : decode cX7_payment 166 = .ok (.iload_n 1, 1) := by decide +kernel
theorem dX7_payment_167 : decode cX7_payment 167 = .ok (.istore_n 2, 1) := by decide +kernel
theorem dX7_payment_168 : decode cX7_payment 168 = .ok (.iconst 0, 1) := by decide +kernel
theorem dX7_payment_169 : decode cX7_payment 169 = .ok (.istore_n 3, 1) := by decide +kernel
theorem dX7_payment_170 : decode cX7_payment 170 = .ok (.iload_n 3, 1) := by decide +kernel
theorem dX7_payment_171 : decode cX7_payment 171 = .ok (.bipush 6, 2) := by decide +kernel
theorem dX7_payment_173 : decode cX7_payment 173 = .ok (.if_icmp .ge 90, 3) := by decide +kernel
theorem dX7_payment_263 : decode cX7_payment 263 = .ok (.aload_n 0, 1) := by decide +kernel
theorem dX7_payment_264 : decode cX7_payment 264 = .ok (.getfield 60, 3) := by decide +kernel
theorem in_X7_payment_7 : ∀ w ∈ wsX70, w ∈ wsX7_payment := fun w h => (gd_ids wi_X7_payment wm_X7_payment wi_X70 (by decide +kernel) w h).1
theorem dX7_payment_267 : decode cX7_payment 267 = .ok (.iload_n 1, 1) := by decide +kernel
theorem dX7_payment_268 : decode cX7_payment 268 = .ok (.iaload, 1) := by decide +kernel
theorem dX7_payment_269 : decode cX7_payment 269 = .ok (.sipush 1000, 3) := by decide +kernel
theorem dX7_payment_272 : decode cX7_payment 272 = .ok (.if_icmp .ge 12, 3) := by decide +kernel
theorem dX7_payment_284 : decode cX7_payment 284 = .ok (.bipush (-9), 2) := by decide +kernel
theorem dX7_payment_286 : decode cX7_payment 286 = .ok (.ireturn, 1) := by decide +kernel
theorem dX7_payment_275 : decode cX7_payment 275 = .ok (.aload_n 0, 1) := by decide +kernel
theorem dX7_payment_276 : decode cX7_payment 276 = .ok (.getfield 60, 3) := by decide +kernel
theorem dX7_payment_279 : decode cX7_payment 279 = .ok (.iload_n 1, 1) := by decide +kernel
theorem dX7_payment_280 : decode cX7_payment 280 = .ok (.iaload, 1) := by decide +kernel
theorem dX7_payment_281 : decode cX7_payment 281 = .ok (.goto 5, 3) := by decide +kernel
theorem dX7_payment_176 : decode cX7_payment 176 = .ok (.aload_n 0, 1) := by decide +kernel
theorem dX7_payment_177 : decode cX7_payment 177 = .ok (.getfield 60, 3) := by decide +kernel
theorem dX7_payment_180 : decode cX7_payment 180 = .ok (.iload_n 1, 1) := by decide +kernel
theorem dX7_payment_181 : decode cX7_payment 181 = .ok (.iaload, 1) := by decide +kernel
theorem dX7_payment_182 : decode cX7_payment 182 = .ok (.sipush 1000, 3) := by decide +kernel
theorem dX7_payment_185 : decode cX7_payment 185 = .ok (.if_icmp .ge 78, 3) := by decide +kernel
theorem dX7_payment_188 : decode cX7_payment 188 = .ok (.iconst 0, 1) := by decide +kernel
theorem dX7_payment_189 : decode cX7_payment 189 = .ok (.istore 4, 2) := by decide +kernel
theorem dX7_payment_191 : decode cX7_payment 191 = .ok (.iload 4, 2) := by decide +kernel
theorem dX7_payment_193 : decode cX7_payment 193 = .ok (.aload_n 0, 1) := by decide +kernel
theorem dX7_payment_194 : decode cX7_payment 194 = .ok (.getfield 60, 3) := by decide +kernel
theorem dX7_payment_197 : decode cX7_payment 197 = .ok (.bipush 61, 2) := by decide +kernel
theorem dX7_payment_199 : decode cX7_payment 199 = .ok (.iload_n 3, 1) := by decide +kernel
theorem dX7_payment_200 : decode cX7_payment 200 = .ok (.iconst 1, 1) := by decide +kernel
theorem dX7_payment_201 : decode cX7_payment 201 = .ok (.iadd, 1) := by decide +kernel
theorem dX7_payment_202 : decode cX7_payment 202 = .ok (.imul, 1) := by decide +kernel
theorem dX7_payment_203 : decode cX7_payment 203 = .ok (.iload_n 2, 1) := by decide +kernel
theorem dX7_payment_204 : decode cX7_payment 204 = .ok (.iadd, 1) := by decide +kernel
theorem dX7_payment_205 : decode cX7_payment 205 = .ok (.iload 4, 2) := by decide +kernel
theorem dX7_payment_207 : decode cX7_payment 207 = .ok (.aload_n 0, 1) := by decide +kernel
theorem dX7_payment_208 : decode cX7_payment 208 = .ok (.getfield 20, 3) := by decide +kernel
theorem dX7_payment_211 : decode cX7_payment 211 = .ok (.iload_n 3, 1) := by decide +kernel
theorem dX7_payment_212 : decode cX7_payment 212 = .ok (.iaload, 1) := by decide +kernel
theorem dX7_payment_213 : decode cX7_payment 213 = .ok (.imul, 1) := by decide +kernel
theorem dX7_payment_214 : decode cX7_payment 214 = .ok (.isub, 1) := by decide +kernel
theorem dX7_payment_215 : decode cX7_payment 215 = .ok (.iaload, 1) := by decide +kernel
theorem dX7_payment_216 : decode cX7_payment 216 = .ok (.iadd, 1) := by decide +kernel
theorem dX7_payment_217 : decode cX7_payment 217 = .ok (.aload_n 0, 1) := by decide +kernel
theorem dX7_payment_218 : decode cX7_payment 218 = .ok (.getfield 60, 3) := by decide +kernel
theorem dX7_payment_221 : decode cX7_payment 221 = .ok (.bipush 61, 2) := by decide +kernel
theorem dX7_payment_223 : decode cX7_payment 223 = .ok (.iload_n 3, 1) := by decide +kernel
theorem dX7_payment_224 : decode cX7_payment 224 = .ok (.imul, 1) := by decide +kernel
theorem dX7_payment_225 : decode cX7_payment 225 = .ok (.iload_n 2, 1) := by decide +kernel
theorem dX7_payment_226 : decode cX7_payment 226 = .ok (.iadd, 1) := by decide +kernel
theorem dX7_payment_227 : decode cX7_payment 227 = .ok (.iaload, 1) := by decide +kernel
theorem dX7_payment_228 : decode cX7_payment 228 = .ok (.if_icmp .eq 9, 3) := by decide +kernel
theorem dX7_payment_237 : decode cX7_payment 237 = .ok (.aload_n 0, 1) := by decide +kernel
theorem dX7_payment_238 : decode cX7_payment 238 = .ok (.getfield 63, 3) := by decide +kernel
theorem dX7_payment_241 : decode cX7_payment 241 = .ok (.iload_n 3, 1) := by decide +kernel
theorem dX7_payment_242 : decode cX7_payment 242 = .ok (.iload 4, 2) := by decide +kernel
theorem dX7_payment_244 : decode cX7_payment 244 = .ok (.iastore, 1) := by decide +kernel
theorem dX7_payment_245 : decode cX7_payment 245 = .ok (.iload_n 2, 1) := by decide +kernel
theorem dX7_payment_246 : decode cX7_payment 246 = .ok (.iload 4, 2) := by decide +kernel
theorem dX7_payment_248 : decode cX7_payment 248 = .ok (.aload_n 0, 1) := by decide +kernel
theorem dX7_payment_249 : decode cX7_payment 249 = .ok (.getfield 20, 3) := by decide +kernel
theorem dX7_payment_252 : decode cX7_payment 252 = .ok (.iload_n 3, 1) := by decide +kernel
theorem dX7_payment_253 : decode cX7_payment 253 = .ok (.iaload, 1) := by decide +kernel
theorem dX7_payment_254 : decode cX7_payment 254 = .ok (.imul, 1) := by decide +kernel
theorem dX7_payment_255 : decode cX7_payment 255 = .ok (.isub, 1) := by decide +kernel
theorem dX7_payment_256 : decode cX7_payment 256 = .ok (.istore_n 2, 1) := by decide +kernel
theorem dX7_payment_257 : decode cX7_payment 257 = .ok (.iinc 3 1, 3) := by decide +kernel
theorem dX7_payment_260 : decode cX7_payment 260 = .ok (.goto (-90), 3) := by decide +kernel
theorem dX7_payment_231 : decode cX7_payment 231 = .ok (.iinc 4 1, 3) := by decide +kernel
theorem dX7_payment_234 : decode cX7_payment 234 = .ok (.goto (-43), 3) := by decide +kernel
theorem dX7_payment_41 : decode cX7_payment 41 = .ok (.iconst 0, 1) := by decide +kernel
theorem dX7_payment_42 : decode cX7_payment 42 = .ok (.istore_n 3, 1) := by decide +kernel
theorem dX7_payment_43 : decode cX7_payment 43 = .ok (.iload_n 3, 1) := by decide +kernel
theorem dX7_payment_44 : decode cX7_payment 44 = .ok (.bipush 60, 2) := by decide +kernel
theorem dX7_payment_46 : decode cX7_payment 46 = .ok (.if_icmp .gt 114, 3) := by decide +kernel
theorem dX7_payment_160 : decode cX7_payment 160 = .ok (.iinc 2 (-1), 3) := by decide +kernel
theorem dX7_payment_163 : decode cX7_payment 163 = .ok (.goto (-126), 3) := by decide +kernel
theorem dX7_payment_49 : decode cX7_payment 49 = .ok (.aload_n 0, 1) := by decide +kernel
theorem dX7_payment_50 : decode cX7_payment 50 = .ok (.getfield 60, 3) := by decide +kernel
theorem dX7_payment_53 : decode cX7_payment 53 = .ok (.bipush 61, 2) := by decide +kernel
theorem dX7_payment_55 : decode cX7_payment 55 = .ok (.iload_n 2, 1) := by decide +kernel
theorem dX7_payment_56 : decode cX7_payment 56 = .ok (.iconst 1, 1) := by decide +kernel
theorem dX7_payment_57 : decode cX7_payment 57 = .ok (.iadd, 1) := by decide +kernel
theorem dX7_payment_58 : decode cX7_payment 58 = .ok (.imul, 1) := by decide +kernel
theorem dX7_payment_59 : decode cX7_payment 59 = .ok (.iload_n 3, 1) := by decide +kernel
theorem dX7_payment_60 : decode cX7_payment 60 = .ok (.iadd, 1) := by decide +kernel
theorem dX7_payment_61 : decode cX7_payment 61 = .ok (.iaload, 1) := by decide +kernel
theorem dX7_payment_62 : decode cX7_payment 62 = .ok (.istore 4, 2) := by decide +kernel
theorem dX7_payment_64 : decode cX7_payment 64 = .ok (.iconst 1, 1) := by decide +kernel
theorem dX7_payment_65 : decode cX7_payment 65 = .ok (.istore 5, 2) := by decide +kernel
theorem dX7_payment_67 : decode cX7_payment 67 = .ok (.iload 5, 2) := by decide +kernel
theorem dX7_payment_69 : decode cX7_payment 69 = .ok (.aload_n 0, 1) := by decide +kernel
theorem dX7_payment_70 : decode cX7_payment 70 = .ok (.getfield 57, 3) := by decide +kernel
theorem dX7_payment_73 : decode cX7_payment 73 = .ok (.iload_n 2, 1) := by decide +kernel
theorem dX7_payment_74 : decode cX7_payment 74 = .ok (.iaload, 1) := by decide +kernel
theorem dX7_payment_75 : decode cX7_payment 75 = .ok (.if_icmp .gt 66, 3) := by decide +kernel
theorem dX7_payment_141 : decode cX7_payment 141 = .ok (.aload_n 0, 1) := by decide +kernel
theorem dX7_payment_142 : decode cX7_payment 142 = .ok (.getfield 60, 3) := by decide +kernel
theorem dX7_payment_145 : decode cX7_payment 145 = .ok (.bipush 61, 2) := by decide +kernel
theorem dX7_payment_147 : decode cX7_payment 147 = .ok (.iload_n 2, 1) := by decide +kernel
theorem dX7_payment_148 : decode cX7_payment 148 = .ok (.imul, 1) := by decide +kernel
theorem dX7_payment_149 : decode cX7_payment 149 = .ok (.iload_n 3, 1) := by decide +kernel
theorem dX7_payment_150 : decode cX7_payment 150 = .ok (.iadd, 1) := by decide +kernel
theorem dX7_payment_151 : decode cX7_payment 151 = .ok (.iload 4, 2) := by decide +kernel
theorem dX7_payment_153 : decode cX7_payment 153 = .ok (.iastore, 1) := by decide +kernel
theorem dX7_payment_154 : decode cX7_payment 154 = .ok (.iinc 3 1, 3) := by decide +kernel
theorem dX7_payment_157 : decode cX7_payment 157 = .ok (.goto (-114), 3) := by decide +kernel
theorem dX7_payment_78 : decode cX7_payment 78 = .ok (.iload 5, 2) := by decide +kernel
theorem dX7_payment_80 : decode cX7_payment 80 = .ok (.aload_n 0, 1) := by decide +kernel
theorem dX7_payment_81 : decode cX7_payment 81 = .ok (.getfield 20, 3) := by decide +kernel
theorem dX7_payment_84 : decode cX7_payment 84 = .ok (.iload_n 2, 1) := by decide +kernel
theorem dX7_payment_85 : decode cX7_payment 85 = .ok (.iaload, 1) := by decide +kernel
theorem dX7_payment_86 : decode cX7_payment 86 = .ok (.imul, 1) := by decide +kernel
theorem dX7_payment_87 : decode cX7_payment 87 = .ok (.iload_n 3, 1) := by decide +kernel
theorem dX7_payment_88 : decode cX7_payment 88 = .ok (.if_icmp .gt 53, 3) := by decide +kernel
theorem dX7_payment_91 : decode cX7_payment 91 = .ok (.iload 5, 2) := by decide +kernel
theorem dX7_payment_93 : decode cX7_payment 93 = .ok (.aload_n 0, 1) := by decide +kernel
theorem dX7_payment_94 : decode cX7_payment 94 = .ok (.getfield 60, 3) := by decide +kernel
theorem dX7_payment_97 : decode cX7_payment 97 = .ok (.bipush 61, 2) := by decide +kernel
theorem dX7_payment_99 : decode cX7_payment 99 = .ok (.iload_n 2, 1) := by decide +kernel
theorem dX7_payment_100 : decode cX7_payment 100 = .ok (.iconst 1, 1) := by decide +kernel
theorem dX7_payment_101 : decode cX7_payment 101 = .ok (.iadd, 1) := by decide +kernel
theorem dX7_payment_102 : decode cX7_payment 102 = .ok (.imul, 1) := by decide +kernel
theorem dX7_payment_103 : decode cX7_payment 103 = .ok (.iload_n 3, 1) := by decide +kernel
theorem dX7_payment_104 : decode cX7_payment 104 = .ok (.iadd, 1) := by decide +kernel
theorem dX7_payment_105 : decode cX7_payment 105 = .ok (.iload 5, 2) := by decide +kernel
theorem dX7_payment_107 : decode cX7_payment 107 = .ok (.aload_n 0, 1) := by decide +kernel
theorem dX7_payment_108 : decode cX7_payment 108 = .ok (.getfield 20, 3) := by decide +kernel
theorem dX7_payment_111 : decode cX7_payment 111 = .ok (.iload_n 2, 1) := by decide +kernel
theorem dX7_payment_112 : decode cX7_payment 112 = .ok (.iaload, 1) := by decide +kernel
theorem dX7_payment_113 : decode cX7_payment 113 = .ok (.imul, 1) := by decide +kernel
theorem dX7_payment_114 : decode cX7_payment 114 = .ok (.isub, 1) := by decide +kernel
theorem dX7_payment_115 : decode cX7_payment 115 = .ok (.iaload, 1) := by decide +kernel
theorem dX7_payment_116 : decode cX7_payment 116 = .ok (.iadd, 1) := by decide +kernel
theorem dX7_payment_117 : decode cX7_payment 117 = .ok (.istore 6, 2) := by decide +kernel
theorem dX7_payment_119 : decode cX7_payment 119 = .ok (.iload 6, 2) := by decide +kernel
theorem dX7_payment_121 : decode cX7_payment 121 = .ok (.iload 4, 2) := by decide +kernel
theorem dX7_payment_123 : decode cX7_payment 123 = .ok (.if_icmp .ge 8, 3) := by decide +kernel
theorem dX7_payment_131 : decode cX7_payment 131 = .ok (.iload 4, 2) := by decide +kernel
theorem dX7_payment_133 : decode cX7_payment 133 = .ok (.istore 4, 2) := by decide +kernel
theorem dX7_payment_135 : decode cX7_payment 135 = .ok (.iinc 5 1, 3) := by decide +kernel
theorem dX7_payment_138 : decode cX7_payment 138 = .ok (.goto (-71), 3) := by decide +kernel
theorem dX7_payment_126 : decode cX7_payment 126 = .ok (.iload 6, 2) := by decide +kernel
theorem dX7_payment_128 : decode cX7_payment 128 = .ok (.goto 5, 3) := by decide +kernel
theorem dX7_payment_8 : decode cX7_payment 8 = .ok (.aload_n 0, 1) := by decide +kernel
theorem dX7_payment_9 : decode cX7_payment 9 = .ok (.getfield 60, 3) := by decide +kernel
theorem dX7_payment_12 : decode cX7_payment 12 = .ok (.sipush 366, 3) := by decide +kernel
theorem dX7_payment_15 : decode cX7_payment 15 = .ok (.iload_n 2, 1) := by decide +kernel
theorem dX7_payment_16 : decode cX7_payment 16 = .ok (.iadd, 1) := by decide +kernel
theorem dX7_payment_17 : decode cX7_payment 17 = .ok (.iload_n 2, 1) := by decide +kernel
theorem dX7_payment_18 : decode cX7_payment 18 = .ok (.ifCond .ne 7, 3) := by decide +kernel
theorem dX7_payment_25 : decode cX7_payment 25 = .ok (.sipush 1000, 3) := by decide +kernel
theorem dX7_payment_28 : decode cX7_payment 28 = .ok (.iastore, 1) := by decide +kernel
theorem dX7_payment_29 : decode cX7_payment 29 = .ok (.iinc 2 1, 3) := by decide +kernel
theorem dX7_payment_32 : decode cX7_payment 32 = .ok (.goto (-30), 3) := by decide +kernel
theorem dX7_payment_21 : decode cX7_payment 21 = .ok (.iconst 0, 1) := by decide +kernel
theorem dX7_payment_22 : decode cX7_payment 22 = .ok (.goto 6, 3) := by decide +kernel
set_option maxHeartbeats 4000000 in
set_option maxRecDepth 100000 in
theorem z_payment (l : Launch) (D : va_G) (cI cB cZ cN : ClassId) (Zh : Nat) (Za1 : Nat) (Za3 : Nat) (Za4 : Nat) (Za5 : Nat) (Za6 : Nat) (Za7 : Nat) (Za8 : Nat) (Za9 : Nat) (Za10 : Nat) (Za11 : Nat) (Za12 : Nat) (Za13 : Nat) (Za20 : Nat) (Za21 : Nat) (Za22 : Nat) (Za23 : Nat) (Za24 : Nat) (Za25 : Nat) (Za26 : Nat) (Za27 : Nat) (Zt : Int64) (ZS : Nat → Nat → Nat) (v_z : Nat) (hZ : ZOk ZS) (hz : v_z ≤ 60) : Ci (S := (Nat → Nat → Nat)) l D cI cB cZ cN yX7_payment wsX7_payment ({ frames := 0, cells := 0, slots := 0, locals := 0 } : Room) [.ref Zh, .int (nI v_z)] [(Zh, .inr (7, [.long Zt, .ref Za1, .int (nI (ZS 2 0)), .ref Za3, .ref Za4, .ref Za5, .ref Za6, .ref Za7, .ref Za8, .ref Za9, .ref Za10, .ref Za11, .ref Za12, .ref Za13, .int (nI (ZS 14 0)), .int (nI (ZS 15 0)), .int (nI (ZS 16 0)), .int (nI (ZS 17 0)), .int (nI (ZS 18 0)), .int (nI (ZS 19 0) - nI 9), .ref Za20, .ref Za21, .ref Za22, .ref Za23, .ref Za24, .ref Za25, .ref Za26, .ref Za27, .int (nI (ZS 28 0))])), (Za1, .inl (cB, 180, .inl (bF (ZS 1)))), (Za3, .inl (cI, 2, .inl (nF (ZS 3)))), (Za4, .inl (cI, 12, .inl (nF (ZS 4)))), (Za5, .inl (cI, 12, .inl (nF (ZS 5)))), (Za6, .inl (cI, 2, .inl (nF (ZS 6)))), (Za7, .inl (cI, 10, .inl (nF (ZS 7)))), (Za8, .inl (cI, 30, .inl (nF (ZS 8)))), (Za9, .inl (cI, 2, .inl (nF (ZS 9)))), (Za10, .inl (cI, 10, .inl (nF (ZS 10)))), (Za11, .inl (cI, 5, .inl (nF (ZS 11)))), (Za12, .inl (cI, 10, .inl (nF (ZS 12)))), (Za13, .inl (cI, 2, .inl (nF (ZS 13)))), (Za20, .inl (cI, 1191, .inl (nF (ZS 20)))), (Za21, .inl (cZ, 2, .inl (nF (ZS 21)))), (Za22, .inl (cI, 36, .inl (nF (ZS 22)))), (Za23, .inl (cI, 6, .inl (nF (ZS 23)))), (Za24, .inl (cI, 427, .inl (nF (ZS 24)))), (Za25, .inl (cI, 6, .inl (nF (ZS 25)))), (Za26, .inl (cI, 5, .inl (nF (ZS 26)))), (Za27, .inl (cI, 6, .inl (nF (ZS 27))))] (fun (r : Int32) (u : (Nat → Nat → Nat)) => ∃ F P, u = ua (ua ZS 24 F) 25 P ∧ (∀ j, F j ≤ zb 24 j) ∧ (∀ j, P j ≤ zb 25 j) ∧ PZ (ZS 5) (ZS 23) v_z r P) (fun u => [(Zh, .inr (7, [.long Zt, .ref Za1, .int (nI (u 2 0)), .ref Za3, .ref Za4, .ref Za5, .ref Za6, .ref Za7, .ref Za8, .ref Za9, .ref Za10, .ref Za11, .ref Za12, .ref Za13, .int (nI (u 14 0)), .int (nI (u 15 0)), .int (nI (u 16 0)), .int (nI (u 17 0)), .int (nI (u 18 0)), .int (nI (u 19 0) - nI 9), .ref Za20, .ref Za21, .ref Za22, .ref Za23, .ref Za24, .ref Za25, .ref Za26, .ref Za27, .int (nI (u 28 0))])), (Za1, .inl (cB, 180, .inl (bF (u 1)))), (Za3, .inl (cI, 2, .inl (nF (u 3)))), (Za4, .inl (cI, 12, .inl (nF (u 4)))), (Za5, .inl (cI, 12, .inl (nF (u 5)))), (Za6, .inl (cI, 2, .inl (nF (u 6)))), (Za7, .inl (cI, 10, .inl (nF (u 7)))), (Za8, .inl (cI, 30, .inl (nF (u 8)))), (Za9, .inl (cI, 2, .inl (nF (u 9)))), (Za10, .inl (cI, 10, .inl (nF (u 10)))), (Za11, .inl (cI, 5, .inl (nF (u 11)))), (Za12, .inl (cI, 10, .inl (nF (u 12)))), (Za13, .inl (cI, 2, .inl (nF (u 13)))), (Za20, .inl (cI, 1191, .inl (nF (u 20)))), (Za21, .inl (cZ, 2, .inl (nF (u 21)))), (Za22, .inl (cI, 36, .inl (nF (u 22)))), (Za23, .inl (cI, 6, .inl (nF (u 23)))), (Za24, .inl (cI, 427, .inl (nF (u 24)))), (Za25, .inl (cI, 6, .inl (nF (u 25)))), (Za26, .inl (cI, 5, .inl (nF (u 26)))), (Za27, .inl (cI, 6, .inl (nF (u 27))))]) := by
  refine bx_of (D := D) (cI := cI) (cB := cB) (cZ := cZ) (cN := cN) (y := yX7_payment) (wd := wsX7_payment) (rm := ({ frames := 0, cells := 0, slots := 0, locals := 0 } : Room)) (av := [.ref Zh, .int (nI v_z)]) (wc := [(Zh, .inr (7, [.long Zt, .ref Za1, .int (nI (ZS 2 0)), .ref Za3, .ref Za4, .ref Za5, .ref Za6, .ref Za7, .ref Za8, .ref Za9, .ref Za10, .ref Za11, .ref Za12, .ref Za13, .int (nI (ZS 14 0)), .int (nI (ZS 15 0)), .int (nI (ZS 16 0)), .int (nI (ZS 17 0)), .int (nI (ZS 18 0)), .int (nI (ZS 19 0) - nI 9), .ref Za20, .ref Za21, .ref Za22, .ref Za23, .ref Za24, .ref Za25, .ref Za26, .ref Za27, .int (nI (ZS 28 0))])), (Za1, .inl (cB, 180, .inl (bF (ZS 1)))), (Za3, .inl (cI, 2, .inl (nF (ZS 3)))), (Za4, .inl (cI, 12, .inl (nF (ZS 4)))), (Za5, .inl (cI, 12, .inl (nF (ZS 5)))), (Za6, .inl (cI, 2, .inl (nF (ZS 6)))), (Za7, .inl (cI, 10, .inl (nF (ZS 7)))), (Za8, .inl (cI, 30, .inl (nF (ZS 8)))), (Za9, .inl (cI, 2, .inl (nF (ZS 9)))), (Za10, .inl (cI, 10, .inl (nF (ZS 10)))), (Za11, .inl (cI, 5, .inl (nF (ZS 11)))), (Za12, .inl (cI, 10, .inl (nF (ZS 12)))), (Za13, .inl (cI, 2, .inl (nF (ZS 13)))), (Za20, .inl (cI, 1191, .inl (nF (ZS 20)))), (Za21, .inl (cZ, 2, .inl (nF (ZS 21)))), (Za22, .inl (cI, 36, .inl (nF (ZS 22)))), (Za23, .inl (cI, 6, .inl (nF (ZS 23)))), (Za24, .inl (cI, 427, .inl (nF (ZS 24)))), (Za25, .inl (cI, 6, .inl (nF (ZS 25)))), (Za26, .inl (cI, 5, .inl (nF (ZS 26)))), (Za27, .inl (cI, 6, .inl (nF (ZS 27))))]) (cc := cX7_payment) (maxL := 7) (ret := (some .int)) (Qc := fun _ A => va_Qi (S := (Nat → Nat → Nat)) (fun (r : Int32) (u : (Nat → Nat → Nat)) => ∃ F P, u = ua (ua ZS 24 F) 25 P ∧ (∀ j, F j ≤ zb 24 j) ∧ (∀ j, P j ≤ zb 25 j) ∧ PZ (ZS 5) (ZS 23) v_z r P) (Aft D (fun (u : (Nat → Nat → Nat)) => [(Zh, .inr (7, [.long Zt, .ref Za1, .int (nI (u 2 0)), .ref Za3, .ref Za4, .ref Za5, .ref Za6, .ref Za7, .ref Za8, .ref Za9, .ref Za10, .ref Za11, .ref Za12, .ref Za13, .int (nI (u 14 0)), .int (nI (u 15 0)), .int (nI (u 16 0)), .int (nI (u 17 0)), .int (nI (u 18 0)), .int (nI (u 19 0) - nI 9), .ref Za20, .ref Za21, .ref Za22, .ref Za23, .ref Za24, .ref Za25, .ref Za26, .ref Za27, .int (nI (u 28 0))])), (Za1, .inl (cB, 180, .inl (bF (u 1)))), (Za3, .inl (cI, 2, .inl (nF (u 3)))), (Za4, .inl (cI, 12, .inl (nF (u 4)))), (Za5, .inl (cI, 12, .inl (nF (u 5)))), (Za6, .inl (cI, 2, .inl (nF (u 6)))), (Za7, .inl (cI, 10, .inl (nF (u 7)))), (Za8, .inl (cI, 30, .inl (nF (u 8)))), (Za9, .inl (cI, 2, .inl (nF (u 9)))), (Za10, .inl (cI, 10, .inl (nF (u 10)))), (Za11, .inl (cI, 5, .inl (nF (u 11)))), (Za12, .inl (cI, 10, .inl (nF (u 12)))), (Za13, .inl (cI, 2, .inl (nF (u 13)))), (Za20, .inl (cI, 1191, .inl (nF (u 20)))), (Za21, .inl (cZ, 2, .inl (nF (u 21)))), (Za22, .inl (cI, 36, .inl (nF (u 22)))), (Za23, .inl (cI, 6, .inl (nF (u 23)))), (Za24, .inl (cI, 427, .inl (nF (u 24)))), (Za25, .inl (cI, 6, .inl (nF (u 25)))), (Za26, .inl (cI, 5, .inl (nF (u 26)))), (Za27, .inl (cI, 6, .inl (nF (u 27))))]) A) A) (by decide) rfl (Nat.le_of_ble_eq_true rfl) ?_
  intro p e s m below meth c A H locs ⟨hx, hb, hr, hml, hown, hts, hlk, hnm⟩ hK hP hD hS hA ls hl
  have hl : lv_has ls 7 [(0, .ref Zh), (1, .int (nI v_z))] := hl
  have hown : s.vm.findClass RX7 = some m.cls := hown
  have bz6 : ZS 6 0 ≤ 5 := hZ 6 0
  have bz3 : ZS 3 0 ≤ 6 := hZ 3 0
  have bz9 : ZS 9 0 ≤ 5 := hZ 9 0
  have bz28 : ZS 28 0 ≤ 6 := hZ 28 0
  refine lv_iconst (v := nI 0) hx hb dX7_payment_0 (by decide) ?_
  refine lv_istore_n (lv' := [(2, .int (nI 0)), (0, .ref Zh), (1, .int (nI v_z))]) hx hb dX7_payment_1 rfl hl (by decide) rfl (fun ls hl => ?_)
  refine loopS (σ := Nat → Nat) (D := D) (A := A) (fun i1 z1 => (∀ j, z1 j ≤ 1000) ∧ (∀ s, s < i1 → z1 (366 + s) = (if s = 0 then 0 else 1000))) (fun i1 z1 => [(Zh, .inr (7, [.long Zt, .ref Za1, .int (nI (ZS 2 0)), .ref Za3, .ref Za4, .ref Za5, .ref Za6, .ref Za7, .ref Za8, .ref Za9, .ref Za10, .ref Za11, .ref Za12, .ref Za13, .int (nI (ZS 14 0)), .int (nI (ZS 15 0)), .int (nI (ZS 16 0)), .int (nI (ZS 17 0)), .int (nI (ZS 18 0)), .int (nI (ZS 19 0) - nI 9), .ref Za20, .ref Za21, .ref Za22, .ref Za23, .ref Za24, .ref Za25, .ref Za26, .ref Za27, .int (nI (ZS 28 0))])), (Za1, .inl (cB, 180, .inl (bF (ZS 1)))), (Za3, .inl (cI, 2, .inl (nF (ZS 3)))), (Za4, .inl (cI, 12, .inl (nF (ZS 4)))), (Za5, .inl (cI, 12, .inl (nF (ZS 5)))), (Za6, .inl (cI, 2, .inl (nF (ZS 6)))), (Za7, .inl (cI, 10, .inl (nF (ZS 7)))), (Za8, .inl (cI, 30, .inl (nF (ZS 8)))), (Za9, .inl (cI, 2, .inl (nF (ZS 9)))), (Za10, .inl (cI, 10, .inl (nF (ZS 10)))), (Za11, .inl (cI, 5, .inl (nF (ZS 11)))), (Za12, .inl (cI, 10, .inl (nF (ZS 12)))), (Za13, .inl (cI, 2, .inl (nF (ZS 13)))), (Za20, .inl (cI, 1191, .inl (nF (ZS 20)))), (Za21, .inl (cZ, 2, .inl (nF (ZS 21)))), (Za22, .inl (cI, 36, .inl (nF (ZS 22)))), (Za23, .inl (cI, 6, .inl (nF (ZS 23)))), (Za24, .inl (cI, 427, .inl (nF (z1)))), (Za25, .inl (cI, 6, .inl (nF (ZS 25)))), (Za26, .inl (cI, 5, .inl (nF (ZS 26)))), (Za27, .inl (cI, 6, .inl (nF (ZS 27))))]) (fun i1 z1 => [(0, .ref Zh), (1, .int (nI v_z)), (2, .int (nI i1))]) 2 7 61 0 (Nat.zero_le _) ?_ ?_ (ZS 24) ⟨hZ 24, fun s q => absurd q (by omega)⟩ _ _ ls (by first | exact hP) (by first | exact hD) hS (lv_sub hl [1, 2, 0] rfl)
  · intro z1 hI1 H locs ls hP hD hS hl
    have hl : lv_has ls 7 [(0, .ref Zh), (1, .int (nI v_z)), (2, .int (nI 61))] := hl
    obtain ⟨hP, hD⟩ : wPD D A [(Zh, .inr (7, [.long Zt, .ref Za1, .int (nI (ZS 2 0)), .ref Za3, .ref Za4, .ref Za5, .ref Za6, .ref Za7, .ref Za8, .ref Za9, .ref Za10, .ref Za11, .ref Za12, .ref Za13, .int (nI (ZS 14 0)), .int (nI (ZS 15 0)), .int (nI (ZS 16 0)), .int (nI (ZS 17 0)), .int (nI (ZS 18 0)), .int (nI (ZS 19 0) - nI 9), .ref Za20, .ref Za21, .ref Za22, .ref Za23, .ref Za24, .ref Za25, .ref Za26, .ref Za27, .int (nI (ZS 28 0))])), (Za1, .inl (cB, 180, .inl (bF (ZS 1)))), (Za3, .inl (cI, 2, .inl (nF (ZS 3)))), (Za4, .inl (cI, 12, .inl (nF (ZS 4)))), (Za5, .inl (cI, 12, .inl (nF (ZS 5)))), (Za6, .inl (cI, 2, .inl (nF (ZS 6)))), (Za7, .inl (cI, 10, .inl (nF (ZS 7)))), (Za8, .inl (cI, 30, .inl (nF (ZS 8)))), (Za9, .inl (cI, 2, .inl (nF (ZS 9)))), (Za10, .inl (cI, 10, .inl (nF (ZS 10)))), (Za11, .inl (cI, 5, .inl (nF (ZS 11)))), (Za12, .inl (cI, 10, .inl (nF (ZS 12)))), (Za13, .inl (cI, 2, .inl (nF (ZS 13)))), (Za20, .inl (cI, 1191, .inl (nF (ZS 20)))), (Za21, .inl (cZ, 2, .inl (nF (ZS 21)))), (Za22, .inl (cI, 36, .inl (nF (ZS 22)))), (Za23, .inl (cI, 6, .inl (nF (ZS 23)))), (Za24, .inl (cI, 427, .inl (nF (z1)))), (Za25, .inl (cI, 6, .inl (nF (ZS 25)))), (Za26, .inl (cI, 5, .inl (nF (ZS 26)))), (Za27, .inl (cI, 6, .inl (nF (ZS 27))))] H := ⟨hP, hD⟩
    refine lv_iload_n hx hb dX7_payment_2 rfl (lv_at hl 2 rfl) ?_
    refine lv_bipush (v := nI 60) hx hb dX7_payment_3 (by decide) ?_
    refine nb_icmp_gt (tgt := 35) hx hb dX7_payment_5 (by decide) (by omega) (by omega) (fun hq1 => ?_) (fun hq1 => absurd hq1 (by omega))
    refine lv_iconst (v := nI 5) hx hb dX7_payment_35 (by decide) ?_
    refine set_i (y := nI (6 - 0) - nI 1) (by decide) ?_
    refine lv_istore_n (lv' := [(2, .int (nI (6 - 0) - nI 1)), (0, .ref Zh), (1, .int (nI v_z))]) hx hb dX7_payment_36 rfl hl (by decide) rfl (fun ls hl => ?_)
    refine loopS (σ := Nat → Nat) (D := D) (A := A) (fun i2 z2 => (∀ j, z2 j ≤ 1000) ∧ (∀ s, s < 61 → z2 (366 + s) = (if s = 0 then 0 else 1000)) ∧ ∀ c s, 6 - i2 ≤ c → c < 6 → s ≤ 60 → PRX z2 (ZS 5) (ZS 23) c s) (fun i2 z2 => [(Zh, .inr (7, [.long Zt, .ref Za1, .int (nI (ZS 2 0)), .ref Za3, .ref Za4, .ref Za5, .ref Za6, .ref Za7, .ref Za8, .ref Za9, .ref Za10, .ref Za11, .ref Za12, .ref Za13, .int (nI (ZS 14 0)), .int (nI (ZS 15 0)), .int (nI (ZS 16 0)), .int (nI (ZS 17 0)), .int (nI (ZS 18 0)), .int (nI (ZS 19 0) - nI 9), .ref Za20, .ref Za21, .ref Za22, .ref Za23, .ref Za24, .ref Za25, .ref Za26, .ref Za27, .int (nI (ZS 28 0))])), (Za1, .inl (cB, 180, .inl (bF (ZS 1)))), (Za3, .inl (cI, 2, .inl (nF (ZS 3)))), (Za4, .inl (cI, 12, .inl (nF (ZS 4)))), (Za5, .inl (cI, 12, .inl (nF (ZS 5)))), (Za6, .inl (cI, 2, .inl (nF (ZS 6)))), (Za7, .inl (cI, 10, .inl (nF (ZS 7)))), (Za8, .inl (cI, 30, .inl (nF (ZS 8)))), (Za9, .inl (cI, 2, .inl (nF (ZS 9)))), (Za10, .inl (cI, 10, .inl (nF (ZS 10)))), (Za11, .inl (cI, 5, .inl (nF (ZS 11)))), (Za12, .inl (cI, 10, .inl (nF (ZS 12)))), (Za13, .inl (cI, 2, .inl (nF (ZS 13)))), (Za20, .inl (cI, 1191, .inl (nF (ZS 20)))), (Za21, .inl (cZ, 2, .inl (nF (ZS 21)))), (Za22, .inl (cI, 36, .inl (nF (ZS 22)))), (Za23, .inl (cI, 6, .inl (nF (ZS 23)))), (Za24, .inl (cI, 427, .inl (nF (z2)))), (Za25, .inl (cI, 6, .inl (nF (ZS 25)))), (Za26, .inl (cI, 5, .inl (nF (ZS 26)))), (Za27, .inl (cI, 6, .inl (nF (ZS 27))))]) (fun i2 z2 => [(0, .ref Zh), (1, .int (nI v_z)), (2, .int (nI (6 - i2) - nI 1))]) 37 7 6 0 (Nat.zero_le _) ?_ ?_ z1 ⟨hI1.1, hI1.2, fun c s q1 q2 => absurd q2 (by omega)⟩ _ _ ls (by first | exact hP) (by first | exact hD) hS (lv_sub hl [1, 2, 0] rfl)
    · intro z2 hI2 H locs ls hP hD hS hl
      have hl : lv_has ls 7 [(0, .ref Zh), (1, .int (nI v_z)), (2, .int (nI (6 - 6) - nI 1))] := hl
      obtain ⟨hP, hD⟩ : wPD D A [(Zh, .inr (7, [.long Zt, .ref Za1, .int (nI (ZS 2 0)), .ref Za3, .ref Za4, .ref Za5, .ref Za6, .ref Za7, .ref Za8, .ref Za9, .ref Za10, .ref Za11, .ref Za12, .ref Za13, .int (nI (ZS 14 0)), .int (nI (ZS 15 0)), .int (nI (ZS 16 0)), .int (nI (ZS 17 0)), .int (nI (ZS 18 0)), .int (nI (ZS 19 0) - nI 9), .ref Za20, .ref Za21, .ref Za22, .ref Za23, .ref Za24, .ref Za25, .ref Za26, .ref Za27, .int (nI (ZS 28 0))])), (Za1, .inl (cB, 180, .inl (bF (ZS 1)))), (Za3, .inl (cI, 2, .inl (nF (ZS 3)))), (Za4, .inl (cI, 12, .inl (nF (ZS 4)))), (Za5, .inl (cI, 12, .inl (nF (ZS 5)))), (Za6, .inl (cI, 2, .inl (nF (ZS 6)))), (Za7, .inl (cI, 10, .inl (nF (ZS 7)))), (Za8, .inl (cI, 30, .inl (nF (ZS 8)))), (Za9, .inl (cI, 2, .inl (nF (ZS 9)))), (Za10, .inl (cI, 10, .inl (nF (ZS 10)))), (Za11, .inl (cI, 5, .inl (nF (ZS 11)))), (Za12, .inl (cI, 10, .inl (nF (ZS 12)))), (Za13, .inl (cI, 2, .inl (nF (ZS 13)))), (Za20, .inl (cI, 1191, .inl (nF (ZS 20)))), (Za21, .inl (cZ, 2, .inl (nF (ZS 21)))), (Za22, .inl (cI, 36, .inl (nF (ZS 22)))), (Za23, .inl (cI, 6, .inl (nF (ZS 23)))), (Za24, .inl (cI, 427, .inl (nF (z2)))), (Za25, .inl (cI, 6, .inl (nF (ZS 25)))), (Za26, .inl (cI, 5, .inl (nF (ZS 26)))), (Za27, .inl (cI, 6, .inl (nF (ZS 27))))] H := ⟨hP, hD⟩
      refine lv_iload_n hx hb dX7_payment_37 rfl (lv_at hl 2 rfl) ?_
      refine nb_if_lts (tgt := 166) hx hb dX7_payment_38 (by decide) (by omega) (by omega) (fun hq2 => ?_) (fun hq2 => absurd hq2 (by omega))
      refine lv_iload_n hx hb dX7_payment_166 rfl (lv_at hl 1 rfl) ?_
      refine lv_istore_n (lv' := [(2, .int (nI v_z)), (0, .ref Zh), (1, .int (nI v_z))]) hx hb dX7_payment_167 rfl hl (by decide) rfl (fun ls hl => ?_)
      refine lv_iconst (v := nI 0) hx hb dX7_payment_168 (by decide) ?_
      refine lv_istore_n (lv' := [(3, .int (nI 0)), (2, .int (nI v_z)), (0, .ref Zh), (1, .int (nI v_z))]) hx hb dX7_payment_169 rfl hl (by decide) rfl (fun ls hl => ?_)
      refine loopS (σ := (Nat → Nat) × Nat) (D := D) (A := A) (fun i5 z5 => (∀ j, z5.1 j ≤ 495) ∧ z5.2 ≤ 60 ∧ ChI z2 (ZS 5) (ZS 23) v_z z5.1 i5 z5.2) (fun i5 z5 => [(Zh, .inr (7, [.long Zt, .ref Za1, .int (nI (ZS 2 0)), .ref Za3, .ref Za4, .ref Za5, .ref Za6, .ref Za7, .ref Za8, .ref Za9, .ref Za10, .ref Za11, .ref Za12, .ref Za13, .int (nI (ZS 14 0)), .int (nI (ZS 15 0)), .int (nI (ZS 16 0)), .int (nI (ZS 17 0)), .int (nI (ZS 18 0)), .int (nI (ZS 19 0) - nI 9), .ref Za20, .ref Za21, .ref Za22, .ref Za23, .ref Za24, .ref Za25, .ref Za26, .ref Za27, .int (nI (ZS 28 0))])), (Za1, .inl (cB, 180, .inl (bF (ZS 1)))), (Za3, .inl (cI, 2, .inl (nF (ZS 3)))), (Za4, .inl (cI, 12, .inl (nF (ZS 4)))), (Za5, .inl (cI, 12, .inl (nF (ZS 5)))), (Za6, .inl (cI, 2, .inl (nF (ZS 6)))), (Za7, .inl (cI, 10, .inl (nF (ZS 7)))), (Za8, .inl (cI, 30, .inl (nF (ZS 8)))), (Za9, .inl (cI, 2, .inl (nF (ZS 9)))), (Za10, .inl (cI, 10, .inl (nF (ZS 10)))), (Za11, .inl (cI, 5, .inl (nF (ZS 11)))), (Za12, .inl (cI, 10, .inl (nF (ZS 12)))), (Za13, .inl (cI, 2, .inl (nF (ZS 13)))), (Za20, .inl (cI, 1191, .inl (nF (ZS 20)))), (Za21, .inl (cZ, 2, .inl (nF (ZS 21)))), (Za22, .inl (cI, 36, .inl (nF (ZS 22)))), (Za23, .inl (cI, 6, .inl (nF (ZS 23)))), (Za24, .inl (cI, 427, .inl (nF (z2)))), (Za25, .inl (cI, 6, .inl (nF (z5.1)))), (Za26, .inl (cI, 5, .inl (nF (ZS 26)))), (Za27, .inl (cI, 6, .inl (nF (ZS 27))))]) (fun i5 z5 => [(0, .ref Zh), (1, .int (nI v_z)), (2, .int (nI z5.2)), (3, .int (nI i5))]) 170 7 6 0 (Nat.zero_le _) ?_ ?_ (ZS 25, v_z) ⟨hZ 25, hz, ChI_0 _ _ _ _ _⟩ _ _ ls (by first | exact hP) (by first | exact hD) hS (lv_sub hl [2, 3, 1, 0] rfl)
      · intro z5 hI5 H locs ls hP hD hS hl
        have hl : lv_has ls 7 [(0, .ref Zh), (1, .int (nI v_z)), (2, .int (nI z5.2)), (3, .int (nI 6))] := hl
        obtain ⟨hP, hD⟩ : wPD D A [(Zh, .inr (7, [.long Zt, .ref Za1, .int (nI (ZS 2 0)), .ref Za3, .ref Za4, .ref Za5, .ref Za6, .ref Za7, .ref Za8, .ref Za9, .ref Za10, .ref Za11, .ref Za12, .ref Za13, .int (nI (ZS 14 0)), .int (nI (ZS 15 0)), .int (nI (ZS 16 0)), .int (nI (ZS 17 0)), .int (nI (ZS 18 0)), .int (nI (ZS 19 0) - nI 9), .ref Za20, .ref Za21, .ref Za22, .ref Za23, .ref Za24, .ref Za25, .ref Za26, .ref Za27, .int (nI (ZS 28 0))])), (Za1, .inl (cB, 180, .inl (bF (ZS 1)))), (Za3, .inl (cI, 2, .inl (nF (ZS 3)))), (Za4, .inl (cI, 12, .inl (nF (ZS 4)))), (Za5, .inl (cI, 12, .inl (nF (ZS 5)))), (Za6, .inl (cI, 2, .inl (nF (ZS 6)))), (Za7, .inl (cI, 10, .inl (nF (ZS 7)))), (Za8, .inl (cI, 30, .inl (nF (ZS 8)))), (Za9, .inl (cI, 2, .inl (nF (ZS 9)))), (Za10, .inl (cI, 10, .inl (nF (ZS 10)))), (Za11, .inl (cI, 5, .inl (nF (ZS 11)))), (Za12, .inl (cI, 10, .inl (nF (ZS 12)))), (Za13, .inl (cI, 2, .inl (nF (ZS 13)))), (Za20, .inl (cI, 1191, .inl (nF (ZS 20)))), (Za21, .inl (cZ, 2, .inl (nF (ZS 21)))), (Za22, .inl (cI, 36, .inl (nF (ZS 22)))), (Za23, .inl (cI, 6, .inl (nF (ZS 23)))), (Za24, .inl (cI, 427, .inl (nF (z2)))), (Za25, .inl (cI, 6, .inl (nF (z5.1)))), (Za26, .inl (cI, 5, .inl (nF (ZS 26)))), (Za27, .inl (cI, 6, .inl (nF (ZS 27))))] H := ⟨hP, hD⟩
        refine lv_iload_n hx hb dX7_payment_170 rfl (lv_at hl 3 rfl) ?_
        refine lv_bipush (v := nI 6) hx hb dX7_payment_171 (by decide) ?_
        refine nb_icmp_ge (tgt := 263) hx hb dX7_payment_173 (by decide) (by omega) (by omega) (fun hq3 => ?_) (fun hq3 => absurd hq3 (by omega))
        refine lv_aload_n hx hb dX7_payment_263 rfl (lv_at hl 0 rfl) ?_
        refine va_get (D := D) (ci := 7) (v := .ref Za24) (C := RX7) (T := TX7) (N := 29) hx hb hts in_X7_payment_7 hown hK.1 hP 0 rfl rfl 24 (by decide) (hts (.fieldLink RX7 60 "ChildCoinsModel" "fewest" "[I") (List.mem_of_getElem? (i := 1) rfl)) (fun _ h9 => h9) rfl dX7_payment_264 ?_
        refine lv_iload_n hx hb dX7_payment_267 rfl (lv_at hl 1 rfl) ?_
        refine va_iald hx hb hK.1 hP 17 0 rfl rfl (vp_in_nI (n := v_z) (N := 427) (by omega) (by decide)) dX7_payment_268 ?_
        refine set_i (y := nI (z2 v_z)) (nF_ld (by omega)) ?_
        have b4 : z2 v_z ≤ 1000 := (zok_set (k := 25) (zok_set (k := 24) hZ hI2.1) hI5.1) 24 v_z
        refine lv_sipush (v := nI 1000) hx hb dX7_payment_269 (by decide) ?_
        refine nb_icmp_ge (tgt := 284) hx hb dX7_payment_272 (by decide) (by omega) (by omega) (fun hq5 => ?_) (fun hq5 => ?_)
        · skip
          refine lv_bipush (v := -9) hx hb dX7_payment_284 (by decide) ?_
          exact en_i hx hb hr hlk hP hD hS (ua (ua ZS 24 (z2)) 25 (z5.1)) [0, 1, 2, 3, 4, 5, 6, 7, 8, 9, 10, 11, 12, 13, 14, 15, 16, 17, 18, 19, 20] (by decide) rfl (Nat.le_of_ble_eq_true rfl) (Nat.le_of_ble_eq_true rfl) dX7_payment_286 ⟨_, _, rfl, hI2.1, hI5.1, ⟨z2, ⟨fun s q => hI2.2.1 s (by omega), fun c s q1 q2 => hI2.2.2 c s (by omega) q1 q2⟩, Or.inl ⟨rfl, by omega⟩⟩⟩
        · skip
          refine lv_aload_n hx hb dX7_payment_275 rfl (lv_at hl 0 rfl) ?_
          refine va_get (D := D) (ci := 7) (v := .ref Za24) (C := RX7) (T := TX7) (N := 29) hx hb hts in_X7_payment_7 hown hK.1 hP 0 rfl rfl 24 (by decide) (hts (.fieldLink RX7 60 "ChildCoinsModel" "fewest" "[I") (List.mem_of_getElem? (i := 1) rfl)) (fun _ h9 => h9) rfl dX7_payment_276 ?_
          refine lv_iload_n hx hb dX7_payment_279 rfl (lv_at hl 1 rfl) ?_
          refine va_iald hx hb hK.1 hP 17 0 rfl rfl (vp_in_nI (n := v_z) (N := 427) (by omega) (by decide)) dX7_payment_280 ?_
          refine set_i (y := nI (z2 v_z)) (nF_ld (by omega)) ?_
          have b6 : z2 v_z ≤ 1000 := (zok_set (k := 25) (zok_set (k := 24) hZ hI2.1) hI5.1) 24 v_z
          refine lv_goto (tgt := 286) hx hb dX7_payment_281 (by decide) ?_
          exact en_i hx hb hr hlk hP hD hS (ua (ua ZS 24 (z2)) 25 (z5.1)) [0, 1, 2, 3, 4, 5, 6, 7, 8, 9, 10, 11, 12, 13, 14, 15, 16, 17, 18, 19, 20] (by decide) rfl (Nat.le_of_ble_eq_true rfl) (Nat.le_of_ble_eq_true rfl) dX7_payment_286 ⟨_, _, rfl, hI2.1, hI5.1, ⟨z2, ⟨fun s q => hI2.2.1 s (by omega), fun c s q1 q2 => hI2.2.2 c s (by omega) q1 q2⟩, Or.inr ⟨by omega, rfl, _, hI5.2.2⟩⟩⟩
      · intro i5 hi05 hi5 z5 hI5 ih5 H locs ls hP hD hS hl
        have hl : lv_has ls 7 [(0, .ref Zh), (1, .int (nI v_z)), (2, .int (nI z5.2)), (3, .int (nI i5))] := hl
        obtain ⟨hP, hD⟩ : wPD D A [(Zh, .inr (7, [.long Zt, .ref Za1, .int (nI (ZS 2 0)), .ref Za3, .ref Za4, .ref Za5, .ref Za6, .ref Za7, .ref Za8, .ref Za9, .ref Za10, .ref Za11, .ref Za12, .ref Za13, .int (nI (ZS 14 0)), .int (nI (ZS 15 0)), .int (nI (ZS 16 0)), .int (nI (ZS 17 0)), .int (nI (ZS 18 0)), .int (nI (ZS 19 0) - nI 9), .ref Za20, .ref Za21, .ref Za22, .ref Za23, .ref Za24, .ref Za25, .ref Za26, .ref Za27, .int (nI (ZS 28 0))])), (Za1, .inl (cB, 180, .inl (bF (ZS 1)))), (Za3, .inl (cI, 2, .inl (nF (ZS 3)))), (Za4, .inl (cI, 12, .inl (nF (ZS 4)))), (Za5, .inl (cI, 12, .inl (nF (ZS 5)))), (Za6, .inl (cI, 2, .inl (nF (ZS 6)))), (Za7, .inl (cI, 10, .inl (nF (ZS 7)))), (Za8, .inl (cI, 30, .inl (nF (ZS 8)))), (Za9, .inl (cI, 2, .inl (nF (ZS 9)))), (Za10, .inl (cI, 10, .inl (nF (ZS 10)))), (Za11, .inl (cI, 5, .inl (nF (ZS 11)))), (Za12, .inl (cI, 10, .inl (nF (ZS 12)))), (Za13, .inl (cI, 2, .inl (nF (ZS 13)))), (Za20, .inl (cI, 1191, .inl (nF (ZS 20)))), (Za21, .inl (cZ, 2, .inl (nF (ZS 21)))), (Za22, .inl (cI, 36, .inl (nF (ZS 22)))), (Za23, .inl (cI, 6, .inl (nF (ZS 23)))), (Za24, .inl (cI, 427, .inl (nF (z2)))), (Za25, .inl (cI, 6, .inl (nF (z5.1)))), (Za26, .inl (cI, 5, .inl (nF (ZS 26)))), (Za27, .inl (cI, 6, .inl (nF (ZS 27))))] H := ⟨hP, hD⟩
        refine lv_iload_n hx hb dX7_payment_170 rfl (lv_at hl 3 rfl) ?_
        refine lv_bipush (v := nI 6) hx hb dX7_payment_171 (by decide) ?_
        refine nb_icmp_ge (tgt := 263) hx hb dX7_payment_173 (by decide) (by omega) (by omega) (fun hq7 => absurd hq7 (by omega)) (fun hq7 => ?_)
        refine lv_aload_n hx hb dX7_payment_176 rfl (lv_at hl 0 rfl) ?_
        refine va_get (D := D) (ci := 7) (v := .ref Za24) (C := RX7) (T := TX7) (N := 29) hx hb hts in_X7_payment_7 hown hK.1 hP 0 rfl rfl 24 (by decide) (hts (.fieldLink RX7 60 "ChildCoinsModel" "fewest" "[I") (List.mem_of_getElem? (i := 1) rfl)) (fun _ h9 => h9) rfl dX7_payment_177 ?_
        refine lv_iload_n hx hb dX7_payment_180 rfl (lv_at hl 1 rfl) ?_
        refine va_iald hx hb hK.1 hP 17 0 rfl rfl (vp_in_nI (n := v_z) (N := 427) (by omega) (by decide)) dX7_payment_181 ?_
        refine set_i (y := nI (z2 v_z)) (nF_ld (by omega)) ?_
        have b8 : z2 v_z ≤ 1000 := (zok_set (k := 25) (zok_set (k := 24) hZ hI2.1) hI5.1) 24 v_z
        refine lv_sipush (v := nI 1000) hx hb dX7_payment_182 (by decide) ?_
        refine nb_icmp_ge (tgt := 263) hx hb dX7_payment_185 (by decide) (by omega) (by omega) (fun hq9 => ?_) (fun hq9 => ?_)
        · skip
          refine lv_aload_n hx hb dX7_payment_263 rfl (lv_at hl 0 rfl) ?_
          refine va_get (D := D) (ci := 7) (v := .ref Za24) (C := RX7) (T := TX7) (N := 29) hx hb hts in_X7_payment_7 hown hK.1 hP 0 rfl rfl 24 (by decide) (hts (.fieldLink RX7 60 "ChildCoinsModel" "fewest" "[I") (List.mem_of_getElem? (i := 1) rfl)) (fun _ h9 => h9) rfl dX7_payment_264 ?_
          refine lv_iload_n hx hb dX7_payment_267 rfl (lv_at hl 1 rfl) ?_
          refine va_iald hx hb hK.1 hP 17 0 rfl rfl (vp_in_nI (n := v_z) (N := 427) (by omega) (by decide)) dX7_payment_268 ?_
          refine set_i (y := nI (z2 v_z)) (nF_ld (by omega)) ?_
          have b10 : z2 v_z ≤ 1000 := (zok_set (k := 25) (zok_set (k := 24) hZ hI2.1) hI5.1) 24 v_z
          refine lv_sipush (v := nI 1000) hx hb dX7_payment_269 (by decide) ?_
          refine nb_icmp_ge (tgt := 284) hx hb dX7_payment_272 (by decide) (by omega) (by omega) (fun hq11 => ?_) (fun hq11 => absurd hq11 (by omega))
          refine lv_bipush (v := -9) hx hb dX7_payment_284 (by decide) ?_
          exact en_i hx hb hr hlk hP hD hS (ua (ua ZS 24 (z2)) 25 (z5.1)) [0, 1, 2, 3, 4, 5, 6, 7, 8, 9, 10, 11, 12, 13, 14, 15, 16, 17, 18, 19, 20] (by decide) rfl (Nat.le_of_ble_eq_true rfl) (Nat.le_of_ble_eq_true rfl) dX7_payment_286 ⟨_, _, rfl, hI2.1, hI5.1, ⟨z2, ⟨fun s q => hI2.2.1 s (by omega), fun c s q1 q2 => hI2.2.2 c s (by omega) q1 q2⟩, Or.inl ⟨rfl, by omega⟩⟩⟩
        · skip
          refine lv_iconst (v := nI 0) hx hb dX7_payment_188 (by decide) ?_
          refine lv_istore (lv' := [(4, .int (nI 0)), (0, .ref Zh), (1, .int (nI v_z)), (2, .int (nI z5.2)), (3, .int (nI i5))]) hx hb dX7_payment_189 hl (by decide) rfl (fun ls hl => ?_)
          have hr5 : z5.2 ≤ 60 := hI5.2.1
          obtain ⟨m, hm1, hm2, hm3⟩ := (hI2.2.2 i5 z5.2 (by omega) (by omega) hr5).1
          have bt23 : ZS 23 i5 ≤ 495 := hZ 23 i5
          have bw5 : ZS 5 i5 ≤ 999 := hZ 5 i5
          refine whileS (σ := Nat) (D := D) (A := A) (fun z6 => z6 ≤ m ∧ ∀ k, k < z6 → z2 (61 * i5 + z5.2) ≠ k + z2 (61 * (i5 + 1) + z5.2 - k * ZS 5 i5)) (fun z6 => m - z6) (fun z6 => [(Zh, .inr (7, [.long Zt, .ref Za1, .int (nI (ZS 2 0)), .ref Za3, .ref Za4, .ref Za5, .ref Za6, .ref Za7, .ref Za8, .ref Za9, .ref Za10, .ref Za11, .ref Za12, .ref Za13, .int (nI (ZS 14 0)), .int (nI (ZS 15 0)), .int (nI (ZS 16 0)), .int (nI (ZS 17 0)), .int (nI (ZS 18 0)), .int (nI (ZS 19 0) - nI 9), .ref Za20, .ref Za21, .ref Za22, .ref Za23, .ref Za24, .ref Za25, .ref Za26, .ref Za27, .int (nI (ZS 28 0))])), (Za1, .inl (cB, 180, .inl (bF (ZS 1)))), (Za3, .inl (cI, 2, .inl (nF (ZS 3)))), (Za4, .inl (cI, 12, .inl (nF (ZS 4)))), (Za5, .inl (cI, 12, .inl (nF (ZS 5)))), (Za6, .inl (cI, 2, .inl (nF (ZS 6)))), (Za7, .inl (cI, 10, .inl (nF (ZS 7)))), (Za8, .inl (cI, 30, .inl (nF (ZS 8)))), (Za9, .inl (cI, 2, .inl (nF (ZS 9)))), (Za10, .inl (cI, 10, .inl (nF (ZS 10)))), (Za11, .inl (cI, 5, .inl (nF (ZS 11)))), (Za12, .inl (cI, 10, .inl (nF (ZS 12)))), (Za13, .inl (cI, 2, .inl (nF (ZS 13)))), (Za20, .inl (cI, 1191, .inl (nF (ZS 20)))), (Za21, .inl (cZ, 2, .inl (nF (ZS 21)))), (Za22, .inl (cI, 36, .inl (nF (ZS 22)))), (Za23, .inl (cI, 6, .inl (nF (ZS 23)))), (Za24, .inl (cI, 427, .inl (nF (z2)))), (Za25, .inl (cI, 6, .inl (nF (z5.1)))), (Za26, .inl (cI, 5, .inl (nF (ZS 26)))), (Za27, .inl (cI, 6, .inl (nF (ZS 27))))]) (fun z6 => [(0, .ref Zh), (1, .int (nI v_z)), (2, .int (nI z5.2)), (3, .int (nI i5)), (4, .int (nI z6))]) 191 7 ?_ 0 ⟨Nat.zero_le _, fun k h => absurd h (Nat.not_lt_zero k)⟩ _ _ ls hP hD hS (lv_sub hl [1, 2, 3, 4, 0] rfl)
          intro z6 hI6 ih6 H locs ls hP hD hS hl
          have hl : lv_has ls 7 [(0, .ref Zh), (1, .int (nI v_z)), (2, .int (nI z5.2)), (3, .int (nI i5)), (4, .int (nI z6))] := hl
          have hI6a := hI6.1
          have hnw := Nat.mul_le_mul_right (ZS 5 i5) hI6.1
          refine lv_iload hx hb dX7_payment_191 (lv_at hl 4 rfl) ?_
          obtain ⟨hP, hD⟩ : wPD D A [(Zh, .inr (7, [.long Zt, .ref Za1, .int (nI (ZS 2 0)), .ref Za3, .ref Za4, .ref Za5, .ref Za6, .ref Za7, .ref Za8, .ref Za9, .ref Za10, .ref Za11, .ref Za12, .ref Za13, .int (nI (ZS 14 0)), .int (nI (ZS 15 0)), .int (nI (ZS 16 0)), .int (nI (ZS 17 0)), .int (nI (ZS 18 0)), .int (nI (ZS 19 0) - nI 9), .ref Za20, .ref Za21, .ref Za22, .ref Za23, .ref Za24, .ref Za25, .ref Za26, .ref Za27, .int (nI (ZS 28 0))])), (Za1, .inl (cB, 180, .inl (bF (ZS 1)))), (Za3, .inl (cI, 2, .inl (nF (ZS 3)))), (Za4, .inl (cI, 12, .inl (nF (ZS 4)))), (Za5, .inl (cI, 12, .inl (nF (ZS 5)))), (Za6, .inl (cI, 2, .inl (nF (ZS 6)))), (Za7, .inl (cI, 10, .inl (nF (ZS 7)))), (Za8, .inl (cI, 30, .inl (nF (ZS 8)))), (Za9, .inl (cI, 2, .inl (nF (ZS 9)))), (Za10, .inl (cI, 10, .inl (nF (ZS 10)))), (Za11, .inl (cI, 5, .inl (nF (ZS 11)))), (Za12, .inl (cI, 10, .inl (nF (ZS 12)))), (Za13, .inl (cI, 2, .inl (nF (ZS 13)))), (Za20, .inl (cI, 1191, .inl (nF (ZS 20)))), (Za21, .inl (cZ, 2, .inl (nF (ZS 21)))), (Za22, .inl (cI, 36, .inl (nF (ZS 22)))), (Za23, .inl (cI, 6, .inl (nF (ZS 23)))), (Za24, .inl (cI, 427, .inl (nF (z2)))), (Za25, .inl (cI, 6, .inl (nF (z5.1)))), (Za26, .inl (cI, 5, .inl (nF (ZS 26)))), (Za27, .inl (cI, 6, .inl (nF (ZS 27))))] H := ⟨hP, hD⟩
          refine lv_aload_n hx hb dX7_payment_193 rfl (lv_at hl 0 rfl) ?_
          refine va_get (D := D) (ci := 7) (v := .ref Za24) (C := RX7) (T := TX7) (N := 29) hx hb hts in_X7_payment_7 hown hK.1 hP 0 rfl rfl 24 (by decide) (hts (.fieldLink RX7 60 "ChildCoinsModel" "fewest" "[I") (List.mem_of_getElem? (i := 1) rfl)) (fun _ h9 => h9) rfl dX7_payment_194 ?_
          refine lv_bipush (v := nI 61) hx hb dX7_payment_197 (by decide) ?_
          refine lv_iload_n hx hb dX7_payment_199 rfl (lv_at hl 3 rfl) ?_
          refine lv_iconst (v := nI 1) hx hb dX7_payment_200 (by decide) ?_
          refine lv_iadd hx hb dX7_payment_201 ?_
          refine set_i (y := nI (i5 + 1)) (nI_add i5 1) ?_
          refine lv_imul hx hb dX7_payment_202 ?_
          refine set_i (y := nI (61 * (i5 + 1))) (pk_mul 61 (i5 + 1)) ?_
          refine lv_iload_n hx hb dX7_payment_203 rfl (lv_at hl 2 rfl) ?_
          refine lv_iadd hx hb dX7_payment_204 ?_
          refine set_i (y := nI ((61 * (i5 + 1)) + z5.2)) (nI_add (61 * (i5 + 1)) z5.2) ?_
          refine lv_iload hx hb dX7_payment_205 (lv_at hl 4 rfl) ?_
          refine lv_aload_n hx hb dX7_payment_207 rfl (lv_at hl 0 rfl) ?_
          refine va_get (D := D) (ci := 7) (v := .ref Za5) (C := RX7) (T := TX7) (N := 29) hx hb hts in_X7_payment_7 hown hK.1 hP 0 rfl rfl 5 (by decide) (hts (.fieldLink RX7 20 "ChildCoinsModel" "worth" "[I") (List.mem_of_getElem? (i := 3) rfl)) (fun _ h9 => h9) rfl dX7_payment_208 ?_
          refine lv_iload_n hx hb dX7_payment_211 rfl (lv_at hl 3 rfl) ?_
          refine va_iald hx hb hK.1 hP 4 0 rfl rfl (vp_in_nI (n := i5) (N := 12) (by omega) (by decide)) dX7_payment_212 ?_
          refine set_i (y := nI (ZS 5 i5)) (nF_ld (by omega)) ?_
          have b12 : ZS 5 i5 ≤ 999 := (zok_set (k := 25) (zok_set (k := 24) hZ hI2.1) hI5.1) 5 i5
          refine lv_imul hx hb dX7_payment_213 ?_
          refine set_i (y := nI (z6 * (ZS 5 i5))) (pk_mul z6 (ZS 5 i5)) ?_
          refine lv_isub hx hb dX7_payment_214 ?_
          refine set_i (y := nI (((61 * (i5 + 1)) + z5.2) - (z6 * (ZS 5 i5)))) (pk_sub (by omega)) ?_
          refine va_iald hx hb hK.1 hP 17 0 rfl rfl (vp_in_nI (n := ((61 * (i5 + 1)) + z5.2) - (z6 * (ZS 5 i5))) (N := 427) (by omega) (by decide)) dX7_payment_215 ?_
          refine set_i (y := nI (z2 (((61 * (i5 + 1)) + z5.2) - (z6 * (ZS 5 i5))))) (nF_ld (by omega)) ?_
          have b13 : z2 (((61 * (i5 + 1)) + z5.2) - (z6 * (ZS 5 i5))) ≤ 1000 := (zok_set (k := 25) (zok_set (k := 24) hZ hI2.1) hI5.1) 24 (((61 * (i5 + 1)) + z5.2) - (z6 * (ZS 5 i5)))
          refine lv_iadd hx hb dX7_payment_216 ?_
          refine set_i (y := nI (z6 + (z2 (((61 * (i5 + 1)) + z5.2) - (z6 * (ZS 5 i5)))))) (nI_add z6 (z2 (((61 * (i5 + 1)) + z5.2) - (z6 * (ZS 5 i5))))) ?_
          refine lv_aload_n hx hb dX7_payment_217 rfl (lv_at hl 0 rfl) ?_
          refine va_get (D := D) (ci := 7) (v := .ref Za24) (C := RX7) (T := TX7) (N := 29) hx hb hts in_X7_payment_7 hown hK.1 hP 0 rfl rfl 24 (by decide) (hts (.fieldLink RX7 60 "ChildCoinsModel" "fewest" "[I") (List.mem_of_getElem? (i := 1) rfl)) (fun _ h9 => h9) rfl dX7_payment_218 ?_
          refine lv_bipush (v := nI 61) hx hb dX7_payment_221 (by decide) ?_
          refine lv_iload_n hx hb dX7_payment_223 rfl (lv_at hl 3 rfl) ?_
          refine lv_imul hx hb dX7_payment_224 ?_
          refine set_i (y := nI (61 * i5)) (pk_mul 61 i5) ?_
          refine lv_iload_n hx hb dX7_payment_225 rfl (lv_at hl 2 rfl) ?_
          refine lv_iadd hx hb dX7_payment_226 ?_
          refine set_i (y := nI ((61 * i5) + z5.2)) (nI_add (61 * i5) z5.2) ?_
          refine va_iald hx hb hK.1 hP 17 0 rfl rfl (vp_in_nI (n := (61 * i5) + z5.2) (N := 427) (by omega) (by decide)) dX7_payment_227 ?_
          refine set_i (y := nI (z2 ((61 * i5) + z5.2))) (nF_ld (by omega)) ?_
          have b14 : z2 ((61 * i5) + z5.2) ≤ 1000 := (zok_set (k := 25) (zok_set (k := 24) hZ hI2.1) hI5.1) 24 ((61 * i5) + z5.2)
          refine nb_icmp_eq (tgt := 237) hx hb dX7_payment_228 (by decide) (by omega) (by omega) (fun hq15 => ?_) (fun hq15 => ?_)
          · skip
            refine lv_aload_n hx hb dX7_payment_237 rfl (lv_at hl 0 rfl) ?_
            refine va_get (D := D) (ci := 7) (v := .ref Za25) (C := RX7) (T := TX7) (N := 29) hx hb hts in_X7_payment_7 hown hK.1 hP 0 rfl rfl 25 (by decide) (hts (.fieldLink RX7 63 "ChildCoinsModel" "paid" "[I") (List.mem_of_getElem? (i := 4) rfl)) (fun _ h9 => h9) rfl dX7_payment_238 ?_
            refine lv_iload_n hx hb dX7_payment_241 rfl (lv_at hl 3 rfl) ?_
            refine lv_iload hx hb dX7_payment_242 (lv_at hl 4 rfl) ?_
            refine va_iast hx hb hK.1 hP hD hS 18 0 rfl rfl (vp_in_nI (n := i5) (N := 6) (by omega) (by decide)) dX7_payment_244 (fun H locs hP hD hS => ?_)
            obtain ⟨hP, hD⟩ : wPD D A [(Zh, .inr (7, [.long Zt, .ref Za1, .int (nI (ZS 2 0)), .ref Za3, .ref Za4, .ref Za5, .ref Za6, .ref Za7, .ref Za8, .ref Za9, .ref Za10, .ref Za11, .ref Za12, .ref Za13, .int (nI (ZS 14 0)), .int (nI (ZS 15 0)), .int (nI (ZS 16 0)), .int (nI (ZS 17 0)), .int (nI (ZS 18 0)), .int (nI (ZS 19 0) - nI 9), .ref Za20, .ref Za21, .ref Za22, .ref Za23, .ref Za24, .ref Za25, .ref Za26, .ref Za27, .int (nI (ZS 28 0))])), (Za1, .inl (cB, 180, .inl (bF (ZS 1)))), (Za3, .inl (cI, 2, .inl (nF (ZS 3)))), (Za4, .inl (cI, 12, .inl (nF (ZS 4)))), (Za5, .inl (cI, 12, .inl (nF (ZS 5)))), (Za6, .inl (cI, 2, .inl (nF (ZS 6)))), (Za7, .inl (cI, 10, .inl (nF (ZS 7)))), (Za8, .inl (cI, 30, .inl (nF (ZS 8)))), (Za9, .inl (cI, 2, .inl (nF (ZS 9)))), (Za10, .inl (cI, 10, .inl (nF (ZS 10)))), (Za11, .inl (cI, 5, .inl (nF (ZS 11)))), (Za12, .inl (cI, 10, .inl (nF (ZS 12)))), (Za13, .inl (cI, 2, .inl (nF (ZS 13)))), (Za20, .inl (cI, 1191, .inl (nF (ZS 20)))), (Za21, .inl (cZ, 2, .inl (nF (ZS 21)))), (Za22, .inl (cI, 36, .inl (nF (ZS 22)))), (Za23, .inl (cI, 6, .inl (nF (ZS 23)))), (Za24, .inl (cI, 427, .inl (nF (z2)))), (Za25, .inl (cI, 6, .inl (upd (nF (z5.1)) (nI i5).toNatClampNeg (nI z6)))), (Za26, .inl (cI, 5, .inl (nF (ZS 26)))), (Za27, .inl (cI, 6, .inl (nF (ZS 27))))] H := ⟨hP, hD⟩
            rw [nF_st (by omega)] at hP hD
            refine lv_iload_n hx hb dX7_payment_245 rfl (lv_at hl 2 rfl) ?_
            refine lv_iload hx hb dX7_payment_246 (lv_at hl 4 rfl) ?_
            refine lv_aload_n hx hb dX7_payment_248 rfl (lv_at hl 0 rfl) ?_
            refine va_get (D := D) (ci := 7) (v := .ref Za5) (C := RX7) (T := TX7) (N := 29) hx hb hts in_X7_payment_7 hown hK.1 hP 0 rfl rfl 5 (by decide) (hts (.fieldLink RX7 20 "ChildCoinsModel" "worth" "[I") (List.mem_of_getElem? (i := 3) rfl)) (fun _ h9 => h9) rfl dX7_payment_249 ?_
            refine lv_iload_n hx hb dX7_payment_252 rfl (lv_at hl 3 rfl) ?_
            refine va_iald hx hb hK.1 hP 4 0 rfl rfl (vp_in_nI (n := i5) (N := 12) (by omega) (by decide)) dX7_payment_253 ?_
            refine set_i (y := nI (ZS 5 i5)) (nF_ld (by omega)) ?_
            have b16 : ZS 5 i5 ≤ 999 := (zok_set (k := 25) (zok_set (k := 24) hZ hI2.1) hI5.1) 5 i5
            refine lv_imul hx hb dX7_payment_254 ?_
            refine set_i (y := nI (z6 * (ZS 5 i5))) (pk_mul z6 (ZS 5 i5)) ?_
            refine lv_isub hx hb dX7_payment_255 ?_
            refine set_i (y := nI (z5.2 - (z6 * (ZS 5 i5)))) (pk_sub (by omega)) ?_
            refine lv_istore_n (lv' := [(2, .int (nI (z5.2 - (z6 * (ZS 5 i5))))), (0, .ref Zh), (1, .int (nI v_z)), (3, .int (nI i5)), (4, .int (nI z6))]) hx hb dX7_payment_256 rfl hl (by decide) rfl (fun ls hl => ?_)
            refine lv_iinc (v := nI (i5 + 1)) (lv' := [(3, .int (nI (i5 + 1))), (2, .int (nI (z5.2 - (z6 * (ZS 5 i5))))), (0, .ref Zh), (1, .int (nI v_z)), (4, .int (nI z6))]) hx hb dX7_payment_257 hl (k := 3) rfl (nI_add i5 1) (by decide) rfl (fun ls hl => ?_)
            refine lv_goto (tgt := 170) hx hb dX7_payment_260 (by decide) ?_
            have hl : lv_has ls 7 [(0, .ref Zh), (1, .int (nI v_z)), (2, .int (nI (z5.2 - (z6 * (ZS 5 i5))))), (3, .int (nI (i5 + 1)))] := lv_sub hl [2, 3, 1, 0] rfl
            exact ih5 (un (z5.1) i5 z6, z5.2 - (z6 * (ZS 5 i5))) ⟨un_leM hI5.1 (by omega), (by show _ ≤ 60; omega), ChI_s hI5.2.2 (by omega) (by omega) (by omega) hI6.2⟩ _ _ _ hP hD hS hl
          · skip
            refine lv_iinc (v := nI (z6 + 1)) (lv' := [(4, .int (nI (z6 + 1))), (0, .ref Zh), (1, .int (nI v_z)), (2, .int (nI z5.2)), (3, .int (nI i5))]) hx hb dX7_payment_231 hl (k := 4) rfl (nI_add z6 1) (by decide) rfl (fun ls hl => ?_)
            refine lv_goto (tgt := 191) hx hb dX7_payment_234 (by decide) ?_
            have hlt6 : z6 < m := by rcases Nat.lt_or_ge z6 m with y | y; exact y; exact absurd (by have y2 : z6 = m := (by omega); rw [y2]; exact hm3.symm) hq15
            have hl : lv_has ls 7 [(0, .ref Zh), (1, .int (nI v_z)), (2, .int (nI z5.2)), (3, .int (nI i5)), (4, .int (nI (z6 + 1)))] := lv_sub hl [1, 2, 3, 4, 0] rfl
            exact ih6 (z6 + 1) ⟨hlt6, fun k hk => by rcases (show k < z6 ∨ k = z6 by omega) with y | y; exact hI6.2 k y; rw [y]; exact fun e => hq15 e.symm⟩ (by first | omega | (dsimp only; omega)) _ _ _ hP hD hS hl
    · intro i2 hi02 hi2 z2 hI2 ih2 H locs ls hP hD hS hl
      have hl : lv_has ls 7 [(0, .ref Zh), (1, .int (nI v_z)), (2, .int (nI (6 - i2) - nI 1))] := hl
      obtain ⟨hP, hD⟩ : wPD D A [(Zh, .inr (7, [.long Zt, .ref Za1, .int (nI (ZS 2 0)), .ref Za3, .ref Za4, .ref Za5, .ref Za6, .ref Za7, .ref Za8, .ref Za9, .ref Za10, .ref Za11, .ref Za12, .ref Za13, .int (nI (ZS 14 0)), .int (nI (ZS 15 0)), .int (nI (ZS 16 0)), .int (nI (ZS 17 0)), .int (nI (ZS 18 0)), .int (nI (ZS 19 0) - nI 9), .ref Za20, .ref Za21, .ref Za22, .ref Za23, .ref Za24, .ref Za25, .ref Za26, .ref Za27, .int (nI (ZS 28 0))])), (Za1, .inl (cB, 180, .inl (bF (ZS 1)))), (Za3, .inl (cI, 2, .inl (nF (ZS 3)))), (Za4, .inl (cI, 12, .inl (nF (ZS 4)))), (Za5, .inl (cI, 12, .inl (nF (ZS 5)))), (Za6, .inl (cI, 2, .inl (nF (ZS 6)))), (Za7, .inl (cI, 10, .inl (nF (ZS 7)))), (Za8, .inl (cI, 30, .inl (nF (ZS 8)))), (Za9, .inl (cI, 2, .inl (nF (ZS 9)))), (Za10, .inl (cI, 10, .inl (nF (ZS 10)))), (Za11, .inl (cI, 5, .inl (nF (ZS 11)))), (Za12, .inl (cI, 10, .inl (nF (ZS 12)))), (Za13, .inl (cI, 2, .inl (nF (ZS 13)))), (Za20, .inl (cI, 1191, .inl (nF (ZS 20)))), (Za21, .inl (cZ, 2, .inl (nF (ZS 21)))), (Za22, .inl (cI, 36, .inl (nF (ZS 22)))), (Za23, .inl (cI, 6, .inl (nF (ZS 23)))), (Za24, .inl (cI, 427, .inl (nF (z2)))), (Za25, .inl (cI, 6, .inl (nF (ZS 25)))), (Za26, .inl (cI, 5, .inl (nF (ZS 26)))), (Za27, .inl (cI, 6, .inl (nF (ZS 27))))] H := ⟨hP, hD⟩
      refine lv_iload_n hx hb dX7_payment_37 rfl (lv_at hl 2 rfl) ?_
      refine nb_if_lts (tgt := 166) hx hb dX7_payment_38 (by decide) (by omega) (by omega) (fun hq17 => absurd hq17 (by omega)) (fun hq17 => ?_)
      rw [pk_sub (a := 6 - i2) (b := 1) (by omega)] at hl
      obtain ⟨c2, hc2⟩ : ∃ c, c = 6 - i2 - 1 := ⟨_, rfl⟩
      rw [← hc2] at hl
      refine lv_iconst (v := nI 0) hx hb dX7_payment_41 (by decide) ?_
      refine lv_istore_n (lv' := [(3, .int (nI 0)), (0, .ref Zh), (1, .int (nI v_z)), (2, .int (nI c2))]) hx hb dX7_payment_42 rfl hl (by decide) rfl (fun ls hl => ?_)
      refine loopS (σ := Nat → Nat) (D := D) (A := A) (fun i3 z3 => (∀ j, z3 j ≤ 1000) ∧ (∀ s, s < 61 → z3 (366 + s) = (if s = 0 then 0 else 1000)) ∧ (∀ c s, 6 - i2 ≤ c → c < 6 → s ≤ 60 → PRX z3 (ZS 5) (ZS 23) c s) ∧ ∀ s, s < i3 → PRX z3 (ZS 5) (ZS 23) c2 s) (fun i3 z3 => [(Zh, .inr (7, [.long Zt, .ref Za1, .int (nI (ZS 2 0)), .ref Za3, .ref Za4, .ref Za5, .ref Za6, .ref Za7, .ref Za8, .ref Za9, .ref Za10, .ref Za11, .ref Za12, .ref Za13, .int (nI (ZS 14 0)), .int (nI (ZS 15 0)), .int (nI (ZS 16 0)), .int (nI (ZS 17 0)), .int (nI (ZS 18 0)), .int (nI (ZS 19 0) - nI 9), .ref Za20, .ref Za21, .ref Za22, .ref Za23, .ref Za24, .ref Za25, .ref Za26, .ref Za27, .int (nI (ZS 28 0))])), (Za1, .inl (cB, 180, .inl (bF (ZS 1)))), (Za3, .inl (cI, 2, .inl (nF (ZS 3)))), (Za4, .inl (cI, 12, .inl (nF (ZS 4)))), (Za5, .inl (cI, 12, .inl (nF (ZS 5)))), (Za6, .inl (cI, 2, .inl (nF (ZS 6)))), (Za7, .inl (cI, 10, .inl (nF (ZS 7)))), (Za8, .inl (cI, 30, .inl (nF (ZS 8)))), (Za9, .inl (cI, 2, .inl (nF (ZS 9)))), (Za10, .inl (cI, 10, .inl (nF (ZS 10)))), (Za11, .inl (cI, 5, .inl (nF (ZS 11)))), (Za12, .inl (cI, 10, .inl (nF (ZS 12)))), (Za13, .inl (cI, 2, .inl (nF (ZS 13)))), (Za20, .inl (cI, 1191, .inl (nF (ZS 20)))), (Za21, .inl (cZ, 2, .inl (nF (ZS 21)))), (Za22, .inl (cI, 36, .inl (nF (ZS 22)))), (Za23, .inl (cI, 6, .inl (nF (ZS 23)))), (Za24, .inl (cI, 427, .inl (nF (z3)))), (Za25, .inl (cI, 6, .inl (nF (ZS 25)))), (Za26, .inl (cI, 5, .inl (nF (ZS 26)))), (Za27, .inl (cI, 6, .inl (nF (ZS 27))))]) (fun i3 z3 => [(0, .ref Zh), (1, .int (nI v_z)), (2, .int (nI c2)), (3, .int (nI i3))]) 43 7 61 0 (Nat.zero_le _) ?_ ?_ z2 ⟨hI2.1, hI2.2.1, hI2.2.2, fun s q => absurd q (by omega)⟩ _ _ ls (by first | exact hP) (by first | exact hD) hS (lv_sub hl [1, 2, 3, 0] rfl)
      · intro z3 hI3 H locs ls hP hD hS hl
        have hl : lv_has ls 7 [(0, .ref Zh), (1, .int (nI v_z)), (2, .int (nI c2)), (3, .int (nI 61))] := hl
        obtain ⟨hP, hD⟩ : wPD D A [(Zh, .inr (7, [.long Zt, .ref Za1, .int (nI (ZS 2 0)), .ref Za3, .ref Za4, .ref Za5, .ref Za6, .ref Za7, .ref Za8, .ref Za9, .ref Za10, .ref Za11, .ref Za12, .ref Za13, .int (nI (ZS 14 0)), .int (nI (ZS 15 0)), .int (nI (ZS 16 0)), .int (nI (ZS 17 0)), .int (nI (ZS 18 0)), .int (nI (ZS 19 0) - nI 9), .ref Za20, .ref Za21, .ref Za22, .ref Za23, .ref Za24, .ref Za25, .ref Za26, .ref Za27, .int (nI (ZS 28 0))])), (Za1, .inl (cB, 180, .inl (bF (ZS 1)))), (Za3, .inl (cI, 2, .inl (nF (ZS 3)))), (Za4, .inl (cI, 12, .inl (nF (ZS 4)))), (Za5, .inl (cI, 12, .inl (nF (ZS 5)))), (Za6, .inl (cI, 2, .inl (nF (ZS 6)))), (Za7, .inl (cI, 10, .inl (nF (ZS 7)))), (Za8, .inl (cI, 30, .inl (nF (ZS 8)))), (Za9, .inl (cI, 2, .inl (nF (ZS 9)))), (Za10, .inl (cI, 10, .inl (nF (ZS 10)))), (Za11, .inl (cI, 5, .inl (nF (ZS 11)))), (Za12, .inl (cI, 10, .inl (nF (ZS 12)))), (Za13, .inl (cI, 2, .inl (nF (ZS 13)))), (Za20, .inl (cI, 1191, .inl (nF (ZS 20)))), (Za21, .inl (cZ, 2, .inl (nF (ZS 21)))), (Za22, .inl (cI, 36, .inl (nF (ZS 22)))), (Za23, .inl (cI, 6, .inl (nF (ZS 23)))), (Za24, .inl (cI, 427, .inl (nF (z3)))), (Za25, .inl (cI, 6, .inl (nF (ZS 25)))), (Za26, .inl (cI, 5, .inl (nF (ZS 26)))), (Za27, .inl (cI, 6, .inl (nF (ZS 27))))] H := ⟨hP, hD⟩
        refine lv_iload_n hx hb dX7_payment_43 rfl (lv_at hl 3 rfl) ?_
        refine lv_bipush (v := nI 60) hx hb dX7_payment_44 (by decide) ?_
        refine nb_icmp_gt (tgt := 160) hx hb dX7_payment_46 (by decide) (by omega) (by omega) (fun hq18 => ?_) (fun hq18 => absurd hq18 (by omega))
        refine lv_iinc (v := nI c2 - nI 1) (lv' := [(2, .int (nI c2 - nI 1)), (0, .ref Zh), (1, .int (nI v_z)), (3, .int (nI 61))]) hx hb dX7_payment_160 hl (k := 2) rfl (m1_sub c2) (by decide) rfl (fun ls hl => ?_)
        refine lv_goto (tgt := 37) hx hb dX7_payment_163 (by decide) ?_
        rw [show c2 = 6 - (i2 + 1) by omega] at hl
        have hl : lv_has ls 7 [(0, .ref Zh), (1, .int (nI v_z)), (2, .int (nI (6 - (i2 + 1)) - nI 1))] := lv_sub hl [1, 2, 0] rfl
        exact ih2 z3 ⟨hI3.1, hI3.2.1, fun c s q1 q2 q3 => by by_cases y : c = c2; rw [y]; exact hI3.2.2.2 s (by omega); exact hI3.2.2.1 c s (by omega) q2 q3⟩ _ _ _ hP hD hS hl
      · intro i3 hi03 hi3 z3 hI3 ih3 H locs ls hP hD hS hl
        have hl : lv_has ls 7 [(0, .ref Zh), (1, .int (nI v_z)), (2, .int (nI c2)), (3, .int (nI i3))] := hl
        obtain ⟨hP, hD⟩ : wPD D A [(Zh, .inr (7, [.long Zt, .ref Za1, .int (nI (ZS 2 0)), .ref Za3, .ref Za4, .ref Za5, .ref Za6, .ref Za7, .ref Za8, .ref Za9, .ref Za10, .ref Za11, .ref Za12, .ref Za13, .int (nI (ZS 14 0)), .int (nI (ZS 15 0)), .int (nI (ZS 16 0)), .int (nI (ZS 17 0)), .int (nI (ZS 18 0)), .int (nI (ZS 19 0) - nI 9), .ref Za20, .ref Za21, .ref Za22, .ref Za23, .ref Za24, .ref Za25, .ref Za26, .ref Za27, .int (nI (ZS 28 0))])), (Za1, .inl (cB, 180, .inl (bF (ZS 1)))), (Za3, .inl (cI, 2, .inl (nF (ZS 3)))), (Za4, .inl (cI, 12, .inl (nF (ZS 4)))), (Za5, .inl (cI, 12, .inl (nF (ZS 5)))), (Za6, .inl (cI, 2, .inl (nF (ZS 6)))), (Za7, .inl (cI, 10, .inl (nF (ZS 7)))), (Za8, .inl (cI, 30, .inl (nF (ZS 8)))), (Za9, .inl (cI, 2, .inl (nF (ZS 9)))), (Za10, .inl (cI, 10, .inl (nF (ZS 10)))), (Za11, .inl (cI, 5, .inl (nF (ZS 11)))), (Za12, .inl (cI, 10, .inl (nF (ZS 12)))), (Za13, .inl (cI, 2, .inl (nF (ZS 13)))), (Za20, .inl (cI, 1191, .inl (nF (ZS 20)))), (Za21, .inl (cZ, 2, .inl (nF (ZS 21)))), (Za22, .inl (cI, 36, .inl (nF (ZS 22)))), (Za23, .inl (cI, 6, .inl (nF (ZS 23)))), (Za24, .inl (cI, 427, .inl (nF (z3)))), (Za25, .inl (cI, 6, .inl (nF (ZS 25)))), (Za26, .inl (cI, 5, .inl (nF (ZS 26)))), (Za27, .inl (cI, 6, .inl (nF (ZS 27))))] H := ⟨hP, hD⟩
        refine lv_iload_n hx hb dX7_payment_43 rfl (lv_at hl 3 rfl) ?_
        refine lv_bipush (v := nI 60) hx hb dX7_payment_44 (by decide) ?_
        refine nb_icmp_gt (tgt := 160) hx hb dX7_payment_46 (by decide) (by omega) (by omega) (fun hq19 => absurd hq19 (by omega)) (fun hq19 => ?_)
        refine lv_aload_n hx hb dX7_payment_49 rfl (lv_at hl 0 rfl) ?_
        refine va_get (D := D) (ci := 7) (v := .ref Za24) (C := RX7) (T := TX7) (N := 29) hx hb hts in_X7_payment_7 hown hK.1 hP 0 rfl rfl 24 (by decide) (hts (.fieldLink RX7 60 "ChildCoinsModel" "fewest" "[I") (List.mem_of_getElem? (i := 1) rfl)) (fun _ h9 => h9) rfl dX7_payment_50 ?_
        refine lv_bipush (v := nI 61) hx hb dX7_payment_53 (by decide) ?_
        refine lv_iload_n hx hb dX7_payment_55 rfl (lv_at hl 2 rfl) ?_
        refine lv_iconst (v := nI 1) hx hb dX7_payment_56 (by decide) ?_
        refine lv_iadd hx hb dX7_payment_57 ?_
        refine set_i (y := nI (c2 + 1)) (nI_add c2 1) ?_
        refine lv_imul hx hb dX7_payment_58 ?_
        refine set_i (y := nI (61 * (c2 + 1))) (pk_mul 61 (c2 + 1)) ?_
        refine lv_iload_n hx hb dX7_payment_59 rfl (lv_at hl 3 rfl) ?_
        refine lv_iadd hx hb dX7_payment_60 ?_
        refine set_i (y := nI ((61 * (c2 + 1)) + i3)) (nI_add (61 * (c2 + 1)) i3) ?_
        refine va_iald hx hb hK.1 hP 17 0 rfl rfl (vp_in_nI (n := (61 * (c2 + 1)) + i3) (N := 427) (by omega) (by decide)) dX7_payment_61 ?_
        refine set_i (y := nI (z3 ((61 * (c2 + 1)) + i3))) (nF_ld (by omega)) ?_
        have b20 : z3 ((61 * (c2 + 1)) + i3) ≤ 1000 := (zok_set (k := 24) hZ hI3.1) 24 ((61 * (c2 + 1)) + i3)
        refine lv_istore (lv' := [(4, .int (nI (z3 ((61 * (c2 + 1)) + i3)))), (0, .ref Zh), (1, .int (nI v_z)), (2, .int (nI c2)), (3, .int (nI i3))]) hx hb dX7_payment_62 hl (by decide) rfl (fun ls hl => ?_)
        refine lv_iconst (v := nI 1) hx hb dX7_payment_64 (by decide) ?_
        refine lv_istore (lv' := [(5, .int (nI 1)), (4, .int (nI (z3 ((61 * (c2 + 1)) + i3)))), (0, .ref Zh), (1, .int (nI v_z)), (2, .int (nI c2)), (3, .int (nI i3))]) hx hb dX7_payment_65 hl (by decide) rfl (fun ls hl => ?_)
        refine loopS (σ := Nat) (D := D) (A := A) (fun i4 z4 => MNI z3 (ZS 5 c2) c2 i3 i4 z4 ∧ z4 ≤ 1000) (fun i4 z4 => [(Zh, .inr (7, [.long Zt, .ref Za1, .int (nI (ZS 2 0)), .ref Za3, .ref Za4, .ref Za5, .ref Za6, .ref Za7, .ref Za8, .ref Za9, .ref Za10, .ref Za11, .ref Za12, .ref Za13, .int (nI (ZS 14 0)), .int (nI (ZS 15 0)), .int (nI (ZS 16 0)), .int (nI (ZS 17 0)), .int (nI (ZS 18 0)), .int (nI (ZS 19 0) - nI 9), .ref Za20, .ref Za21, .ref Za22, .ref Za23, .ref Za24, .ref Za25, .ref Za26, .ref Za27, .int (nI (ZS 28 0))])), (Za1, .inl (cB, 180, .inl (bF (ZS 1)))), (Za3, .inl (cI, 2, .inl (nF (ZS 3)))), (Za4, .inl (cI, 12, .inl (nF (ZS 4)))), (Za5, .inl (cI, 12, .inl (nF (ZS 5)))), (Za6, .inl (cI, 2, .inl (nF (ZS 6)))), (Za7, .inl (cI, 10, .inl (nF (ZS 7)))), (Za8, .inl (cI, 30, .inl (nF (ZS 8)))), (Za9, .inl (cI, 2, .inl (nF (ZS 9)))), (Za10, .inl (cI, 10, .inl (nF (ZS 10)))), (Za11, .inl (cI, 5, .inl (nF (ZS 11)))), (Za12, .inl (cI, 10, .inl (nF (ZS 12)))), (Za13, .inl (cI, 2, .inl (nF (ZS 13)))), (Za20, .inl (cI, 1191, .inl (nF (ZS 20)))), (Za21, .inl (cZ, 2, .inl (nF (ZS 21)))), (Za22, .inl (cI, 36, .inl (nF (ZS 22)))), (Za23, .inl (cI, 6, .inl (nF (ZS 23)))), (Za24, .inl (cI, 427, .inl (nF (z3)))), (Za25, .inl (cI, 6, .inl (nF (ZS 25)))), (Za26, .inl (cI, 5, .inl (nF (ZS 26)))), (Za27, .inl (cI, 6, .inl (nF (ZS 27))))]) (fun i4 z4 => [(0, .ref Zh), (1, .int (nI v_z)), (2, .int (nI c2)), (3, .int (nI i3)), (4, .int (nI z4)), (5, .int (nI i4))]) 67 7 (ZS 23 c2 + 1) 1 (by omega) ?_ ?_ (z3 ((61 * (c2 + 1)) + i3)) ⟨MNI_0 z3 (ZS 5 c2) c2 i3, hI3.1 _⟩ _ _ ls (by first | exact hP) (by first | exact hD) hS (lv_sub hl [2, 3, 4, 5, 1, 0] rfl)
        · intro z4 hI4 H locs ls hP hD hS hl
          have hl : lv_has ls 7 [(0, .ref Zh), (1, .int (nI v_z)), (2, .int (nI c2)), (3, .int (nI i3)), (4, .int (nI z4)), (5, .int (nI (ZS 23 c2 + 1)))] := hl
          have hb4 := hI4.2
          obtain ⟨hP, hD⟩ : wPD D A [(Zh, .inr (7, [.long Zt, .ref Za1, .int (nI (ZS 2 0)), .ref Za3, .ref Za4, .ref Za5, .ref Za6, .ref Za7, .ref Za8, .ref Za9, .ref Za10, .ref Za11, .ref Za12, .ref Za13, .int (nI (ZS 14 0)), .int (nI (ZS 15 0)), .int (nI (ZS 16 0)), .int (nI (ZS 17 0)), .int (nI (ZS 18 0)), .int (nI (ZS 19 0) - nI 9), .ref Za20, .ref Za21, .ref Za22, .ref Za23, .ref Za24, .ref Za25, .ref Za26, .ref Za27, .int (nI (ZS 28 0))])), (Za1, .inl (cB, 180, .inl (bF (ZS 1)))), (Za3, .inl (cI, 2, .inl (nF (ZS 3)))), (Za4, .inl (cI, 12, .inl (nF (ZS 4)))), (Za5, .inl (cI, 12, .inl (nF (ZS 5)))), (Za6, .inl (cI, 2, .inl (nF (ZS 6)))), (Za7, .inl (cI, 10, .inl (nF (ZS 7)))), (Za8, .inl (cI, 30, .inl (nF (ZS 8)))), (Za9, .inl (cI, 2, .inl (nF (ZS 9)))), (Za10, .inl (cI, 10, .inl (nF (ZS 10)))), (Za11, .inl (cI, 5, .inl (nF (ZS 11)))), (Za12, .inl (cI, 10, .inl (nF (ZS 12)))), (Za13, .inl (cI, 2, .inl (nF (ZS 13)))), (Za20, .inl (cI, 1191, .inl (nF (ZS 20)))), (Za21, .inl (cZ, 2, .inl (nF (ZS 21)))), (Za22, .inl (cI, 36, .inl (nF (ZS 22)))), (Za23, .inl (cI, 6, .inl (nF (ZS 23)))), (Za24, .inl (cI, 427, .inl (nF (z3)))), (Za25, .inl (cI, 6, .inl (nF (ZS 25)))), (Za26, .inl (cI, 5, .inl (nF (ZS 26)))), (Za27, .inl (cI, 6, .inl (nF (ZS 27))))] H := ⟨hP, hD⟩
          refine lv_iload hx hb dX7_payment_67 (lv_at hl 5 rfl) ?_
          refine lv_aload_n hx hb dX7_payment_69 rfl (lv_at hl 0 rfl) ?_
          refine va_get (D := D) (ci := 7) (v := .ref Za23) (C := RX7) (T := TX7) (N := 29) hx hb hts in_X7_payment_7 hown hK.1 hP 0 rfl rfl 23 (by decide) (hts (.fieldLink RX7 57 "ChildCoinsModel" "there" "[I") (List.mem_of_getElem? (i := 2) rfl)) (fun _ h9 => h9) rfl dX7_payment_70 ?_
          refine lv_iload_n hx hb dX7_payment_73 rfl (lv_at hl 2 rfl) ?_
          refine va_iald hx hb hK.1 hP 16 0 rfl rfl (vp_in_nI (n := c2) (N := 6) (by omega) (by decide)) dX7_payment_74 ?_
          refine set_i (y := nI (ZS 23 c2)) (nF_ld (by omega)) ?_
          have b21 : ZS 23 c2 ≤ 495 := (zok_set (k := 24) hZ hI3.1) 23 c2
          refine nb_icmp_gt (tgt := 141) hx hb dX7_payment_75 (by decide) (by omega) (by omega) (fun hq22 => ?_) (fun hq22 => absurd hq22 (by omega))
          refine lv_aload_n hx hb dX7_payment_141 rfl (lv_at hl 0 rfl) ?_
          refine va_get (D := D) (ci := 7) (v := .ref Za24) (C := RX7) (T := TX7) (N := 29) hx hb hts in_X7_payment_7 hown hK.1 hP 0 rfl rfl 24 (by decide) (hts (.fieldLink RX7 60 "ChildCoinsModel" "fewest" "[I") (List.mem_of_getElem? (i := 1) rfl)) (fun _ h9 => h9) rfl dX7_payment_142 ?_
          refine lv_bipush (v := nI 61) hx hb dX7_payment_145 (by decide) ?_
          refine lv_iload_n hx hb dX7_payment_147 rfl (lv_at hl 2 rfl) ?_
          refine lv_imul hx hb dX7_payment_148 ?_
          refine set_i (y := nI (61 * c2)) (pk_mul 61 c2) ?_
          refine lv_iload_n hx hb dX7_payment_149 rfl (lv_at hl 3 rfl) ?_
          refine lv_iadd hx hb dX7_payment_150 ?_
          refine set_i (y := nI ((61 * c2) + i3)) (nI_add (61 * c2) i3) ?_
          refine lv_iload hx hb dX7_payment_151 (lv_at hl 4 rfl) ?_
          refine va_iast hx hb hK.1 hP hD hS 17 0 rfl rfl (vp_in_nI (n := (61 * c2) + i3) (N := 427) (by omega) (by decide)) dX7_payment_153 (fun H locs hP hD hS => ?_)
          obtain ⟨hP, hD⟩ : wPD D A [(Zh, .inr (7, [.long Zt, .ref Za1, .int (nI (ZS 2 0)), .ref Za3, .ref Za4, .ref Za5, .ref Za6, .ref Za7, .ref Za8, .ref Za9, .ref Za10, .ref Za11, .ref Za12, .ref Za13, .int (nI (ZS 14 0)), .int (nI (ZS 15 0)), .int (nI (ZS 16 0)), .int (nI (ZS 17 0)), .int (nI (ZS 18 0)), .int (nI (ZS 19 0) - nI 9), .ref Za20, .ref Za21, .ref Za22, .ref Za23, .ref Za24, .ref Za25, .ref Za26, .ref Za27, .int (nI (ZS 28 0))])), (Za1, .inl (cB, 180, .inl (bF (ZS 1)))), (Za3, .inl (cI, 2, .inl (nF (ZS 3)))), (Za4, .inl (cI, 12, .inl (nF (ZS 4)))), (Za5, .inl (cI, 12, .inl (nF (ZS 5)))), (Za6, .inl (cI, 2, .inl (nF (ZS 6)))), (Za7, .inl (cI, 10, .inl (nF (ZS 7)))), (Za8, .inl (cI, 30, .inl (nF (ZS 8)))), (Za9, .inl (cI, 2, .inl (nF (ZS 9)))), (Za10, .inl (cI, 10, .inl (nF (ZS 10)))), (Za11, .inl (cI, 5, .inl (nF (ZS 11)))), (Za12, .inl (cI, 10, .inl (nF (ZS 12)))), (Za13, .inl (cI, 2, .inl (nF (ZS 13)))), (Za20, .inl (cI, 1191, .inl (nF (ZS 20)))), (Za21, .inl (cZ, 2, .inl (nF (ZS 21)))), (Za22, .inl (cI, 36, .inl (nF (ZS 22)))), (Za23, .inl (cI, 6, .inl (nF (ZS 23)))), (Za24, .inl (cI, 427, .inl (upd (nF (z3)) (nI ((61 * c2) + i3)).toNatClampNeg (nI z4)))), (Za25, .inl (cI, 6, .inl (nF (ZS 25)))), (Za26, .inl (cI, 5, .inl (nF (ZS 26)))), (Za27, .inl (cI, 6, .inl (nF (ZS 27))))] H := ⟨hP, hD⟩
          rw [nF_st (by omega)] at hP hD
          refine lv_iinc (v := nI (i3 + 1)) (lv' := [(3, .int (nI (i3 + 1))), (0, .ref Zh), (1, .int (nI v_z)), (2, .int (nI c2)), (4, .int (nI z4)), (5, .int (nI (ZS 23 c2 + 1)))]) hx hb dX7_payment_154 hl (k := 3) rfl (nI_add i3 1) (by decide) rfl (fun ls hl => ?_)
          refine lv_goto (tgt := 43) hx hb dX7_payment_157 (by decide) ?_
          have hl : lv_has ls 7 [(0, .ref Zh), (1, .int (nI v_z)), (2, .int (nI c2)), (3, .int (nI (i3 + 1)))] := lv_sub hl [1, 2, 3, 0] rfl
          exact ih3 (un (z3) ((61 * c2) + i3) z4) ⟨un_leM hI3.1 (by omega), (fun s q => by rw [un_n (by omega)]; exact hI3.2.1 s q), fun c s q1 q2 q3 => PRX_un (hI3.2.2.1 c s q1 q2 q3) (by omega) (by omega), fun s q => by rcases (show s < i3 ∨ s = i3 by omega) with y | y; exact PRX_un (hI3.2.2.2 s y) (by omega) (by omega); rw [y]; exact PRX_of (by omega) (MNI_e hI4.1 (by omega) (by omega))⟩ _ _ _ hP hD hS hl
        · intro i4 hi04 hi4 z4 hI4 ih4 H locs ls hP hD hS hl
          have hl : lv_has ls 7 [(0, .ref Zh), (1, .int (nI v_z)), (2, .int (nI c2)), (3, .int (nI i3)), (4, .int (nI z4)), (5, .int (nI i4))] := hl
          have hb4 := hI4.2
          obtain ⟨hP, hD⟩ : wPD D A [(Zh, .inr (7, [.long Zt, .ref Za1, .int (nI (ZS 2 0)), .ref Za3, .ref Za4, .ref Za5, .ref Za6, .ref Za7, .ref Za8, .ref Za9, .ref Za10, .ref Za11, .ref Za12, .ref Za13, .int (nI (ZS 14 0)), .int (nI (ZS 15 0)), .int (nI (ZS 16 0)), .int (nI (ZS 17 0)), .int (nI (ZS 18 0)), .int (nI (ZS 19 0) - nI 9), .ref Za20, .ref Za21, .ref Za22, .ref Za23, .ref Za24, .ref Za25, .ref Za26, .ref Za27, .int (nI (ZS 28 0))])), (Za1, .inl (cB, 180, .inl (bF (ZS 1)))), (Za3, .inl (cI, 2, .inl (nF (ZS 3)))), (Za4, .inl (cI, 12, .inl (nF (ZS 4)))), (Za5, .inl (cI, 12, .inl (nF (ZS 5)))), (Za6, .inl (cI, 2, .inl (nF (ZS 6)))), (Za7, .inl (cI, 10, .inl (nF (ZS 7)))), (Za8, .inl (cI, 30, .inl (nF (ZS 8)))), (Za9, .inl (cI, 2, .inl (nF (ZS 9)))), (Za10, .inl (cI, 10, .inl (nF (ZS 10)))), (Za11, .inl (cI, 5, .inl (nF (ZS 11)))), (Za12, .inl (cI, 10, .inl (nF (ZS 12)))), (Za13, .inl (cI, 2, .inl (nF (ZS 13)))), (Za20, .inl (cI, 1191, .inl (nF (ZS 20)))), (Za21, .inl (cZ, 2, .inl (nF (ZS 21)))), (Za22, .inl (cI, 36, .inl (nF (ZS 22)))), (Za23, .inl (cI, 6, .inl (nF (ZS 23)))), (Za24, .inl (cI, 427, .inl (nF (z3)))), (Za25, .inl (cI, 6, .inl (nF (ZS 25)))), (Za26, .inl (cI, 5, .inl (nF (ZS 26)))), (Za27, .inl (cI, 6, .inl (nF (ZS 27))))] H := ⟨hP, hD⟩
          refine lv_iload hx hb dX7_payment_67 (lv_at hl 5 rfl) ?_
          refine lv_aload_n hx hb dX7_payment_69 rfl (lv_at hl 0 rfl) ?_
          refine va_get (D := D) (ci := 7) (v := .ref Za23) (C := RX7) (T := TX7) (N := 29) hx hb hts in_X7_payment_7 hown hK.1 hP 0 rfl rfl 23 (by decide) (hts (.fieldLink RX7 57 "ChildCoinsModel" "there" "[I") (List.mem_of_getElem? (i := 2) rfl)) (fun _ h9 => h9) rfl dX7_payment_70 ?_
          refine lv_iload_n hx hb dX7_payment_73 rfl (lv_at hl 2 rfl) ?_
          refine va_iald hx hb hK.1 hP 16 0 rfl rfl (vp_in_nI (n := c2) (N := 6) (by omega) (by decide)) dX7_payment_74 ?_
          refine set_i (y := nI (ZS 23 c2)) (nF_ld (by omega)) ?_
          have b23 : ZS 23 c2 ≤ 495 := (zok_set (k := 24) hZ hI3.1) 23 c2
          refine nb_icmp_gt (tgt := 141) hx hb dX7_payment_75 (by decide) (by omega) (by omega) (fun hq24 => absurd hq24 (by omega)) (fun hq24 => ?_)
          have bw5 : ZS 5 c2 ≤ 999 := hZ 5 c2
          have bt23 : ZS 23 c2 ≤ 495 := hZ 23 c2
          have bw := Nat.mul_le_mul (show i4 ≤ 495 by omega) bw5
          refine lv_iload hx hb dX7_payment_78 (lv_at hl 5 rfl) ?_
          refine lv_aload_n hx hb dX7_payment_80 rfl (lv_at hl 0 rfl) ?_
          refine va_get (D := D) (ci := 7) (v := .ref Za5) (C := RX7) (T := TX7) (N := 29) hx hb hts in_X7_payment_7 hown hK.1 hP 0 rfl rfl 5 (by decide) (hts (.fieldLink RX7 20 "ChildCoinsModel" "worth" "[I") (List.mem_of_getElem? (i := 3) rfl)) (fun _ h9 => h9) rfl dX7_payment_81 ?_
          refine lv_iload_n hx hb dX7_payment_84 rfl (lv_at hl 2 rfl) ?_
          refine va_iald hx hb hK.1 hP 4 0 rfl rfl (vp_in_nI (n := c2) (N := 12) (by omega) (by decide)) dX7_payment_85 ?_
          refine set_i (y := nI (ZS 5 c2)) (nF_ld (by omega)) ?_
          have b25 : ZS 5 c2 ≤ 999 := (zok_set (k := 24) hZ hI3.1) 5 c2
          refine lv_imul hx hb dX7_payment_86 ?_
          refine set_i (y := nI (i4 * (ZS 5 c2))) (pk_mul i4 (ZS 5 c2)) ?_
          refine lv_iload_n hx hb dX7_payment_87 rfl (lv_at hl 3 rfl) ?_
          refine nb_icmp_gt (tgt := 141) hx hb dX7_payment_88 (by decide) (by omega) (by omega) (fun hq26 => ?_) (fun hq26 => ?_)
          · skip
            refine lv_aload_n hx hb dX7_payment_141 rfl (lv_at hl 0 rfl) ?_
            refine va_get (D := D) (ci := 7) (v := .ref Za24) (C := RX7) (T := TX7) (N := 29) hx hb hts in_X7_payment_7 hown hK.1 hP 0 rfl rfl 24 (by decide) (hts (.fieldLink RX7 60 "ChildCoinsModel" "fewest" "[I") (List.mem_of_getElem? (i := 1) rfl)) (fun _ h9 => h9) rfl dX7_payment_142 ?_
            refine lv_bipush (v := nI 61) hx hb dX7_payment_145 (by decide) ?_
            refine lv_iload_n hx hb dX7_payment_147 rfl (lv_at hl 2 rfl) ?_
            refine lv_imul hx hb dX7_payment_148 ?_
            refine set_i (y := nI (61 * c2)) (pk_mul 61 c2) ?_
            refine lv_iload_n hx hb dX7_payment_149 rfl (lv_at hl 3 rfl) ?_
            refine lv_iadd hx hb dX7_payment_150 ?_
            refine set_i (y := nI ((61 * c2) + i3)) (nI_add (61 * c2) i3) ?_
            refine lv_iload hx hb dX7_payment_151 (lv_at hl 4 rfl) ?_
            refine va_iast hx hb hK.1 hP hD hS 17 0 rfl rfl (vp_in_nI (n := (61 * c2) + i3) (N := 427) (by omega) (by decide)) dX7_payment_153 (fun H locs hP hD hS => ?_)
            obtain ⟨hP, hD⟩ : wPD D A [(Zh, .inr (7, [.long Zt, .ref Za1, .int (nI (ZS 2 0)), .ref Za3, .ref Za4, .ref Za5, .ref Za6, .ref Za7, .ref Za8, .ref Za9, .ref Za10, .ref Za11, .ref Za12, .ref Za13, .int (nI (ZS 14 0)), .int (nI (ZS 15 0)), .int (nI (ZS 16 0)), .int (nI (ZS 17 0)), .int (nI (ZS 18 0)), .int (nI (ZS 19 0) - nI 9), .ref Za20, .ref Za21, .ref Za22, .ref Za23, .ref Za24, .ref Za25, .ref Za26, .ref Za27, .int (nI (ZS 28 0))])), (Za1, .inl (cB, 180, .inl (bF (ZS 1)))), (Za3, .inl (cI, 2, .inl (nF (ZS 3)))), (Za4, .inl (cI, 12, .inl (nF (ZS 4)))), (Za5, .inl (cI, 12, .inl (nF (ZS 5)))), (Za6, .inl (cI, 2, .inl (nF (ZS 6)))), (Za7, .inl (cI, 10, .inl (nF (ZS 7)))), (Za8, .inl (cI, 30, .inl (nF (ZS 8)))), (Za9, .inl (cI, 2, .inl (nF (ZS 9)))), (Za10, .inl (cI, 10, .inl (nF (ZS 10)))), (Za11, .inl (cI, 5, .inl (nF (ZS 11)))), (Za12, .inl (cI, 10, .inl (nF (ZS 12)))), (Za13, .inl (cI, 2, .inl (nF (ZS 13)))), (Za20, .inl (cI, 1191, .inl (nF (ZS 20)))), (Za21, .inl (cZ, 2, .inl (nF (ZS 21)))), (Za22, .inl (cI, 36, .inl (nF (ZS 22)))), (Za23, .inl (cI, 6, .inl (nF (ZS 23)))), (Za24, .inl (cI, 427, .inl (upd (nF (z3)) (nI ((61 * c2) + i3)).toNatClampNeg (nI z4)))), (Za25, .inl (cI, 6, .inl (nF (ZS 25)))), (Za26, .inl (cI, 5, .inl (nF (ZS 26)))), (Za27, .inl (cI, 6, .inl (nF (ZS 27))))] H := ⟨hP, hD⟩
            rw [nF_st (by omega)] at hP hD
            refine lv_iinc (v := nI (i3 + 1)) (lv' := [(3, .int (nI (i3 + 1))), (0, .ref Zh), (1, .int (nI v_z)), (2, .int (nI c2)), (4, .int (nI z4)), (5, .int (nI i4))]) hx hb dX7_payment_154 hl (k := 3) rfl (nI_add i3 1) (by decide) rfl (fun ls hl => ?_)
            refine lv_goto (tgt := 43) hx hb dX7_payment_157 (by decide) ?_
            have hl : lv_has ls 7 [(0, .ref Zh), (1, .int (nI v_z)), (2, .int (nI c2)), (3, .int (nI (i3 + 1)))] := lv_sub hl [1, 2, 3, 0] rfl
            exact ih3 (un (z3) ((61 * c2) + i3) z4) ⟨un_leM hI3.1 (by omega), (fun s q => by rw [un_n (by omega)]; exact hI3.2.1 s q), fun c s q1 q2 q3 => PRX_un (hI3.2.2.1 c s q1 q2 q3) (by omega) (by omega), fun s q => by rcases (show s < i3 ∨ s = i3 by omega) with y | y; exact PRX_un (hI3.2.2.2 s y) (by omega) (by omega); rw [y]; exact PRX_of (by omega) (MNI_e hI4.1 (by omega) (by omega))⟩ _ _ _ hP hD hS hl
          · skip
            refine lv_iload hx hb dX7_payment_91 (lv_at hl 5 rfl) ?_
            refine lv_aload_n hx hb dX7_payment_93 rfl (lv_at hl 0 rfl) ?_
            refine va_get (D := D) (ci := 7) (v := .ref Za24) (C := RX7) (T := TX7) (N := 29) hx hb hts in_X7_payment_7 hown hK.1 hP 0 rfl rfl 24 (by decide) (hts (.fieldLink RX7 60 "ChildCoinsModel" "fewest" "[I") (List.mem_of_getElem? (i := 1) rfl)) (fun _ h9 => h9) rfl dX7_payment_94 ?_
            refine lv_bipush (v := nI 61) hx hb dX7_payment_97 (by decide) ?_
            refine lv_iload_n hx hb dX7_payment_99 rfl (lv_at hl 2 rfl) ?_
            refine lv_iconst (v := nI 1) hx hb dX7_payment_100 (by decide) ?_
            refine lv_iadd hx hb dX7_payment_101 ?_
            refine set_i (y := nI (c2 + 1)) (nI_add c2 1) ?_
            refine lv_imul hx hb dX7_payment_102 ?_
            refine set_i (y := nI (61 * (c2 + 1))) (pk_mul 61 (c2 + 1)) ?_
            refine lv_iload_n hx hb dX7_payment_103 rfl (lv_at hl 3 rfl) ?_
            refine lv_iadd hx hb dX7_payment_104 ?_
            refine set_i (y := nI ((61 * (c2 + 1)) + i3)) (nI_add (61 * (c2 + 1)) i3) ?_
            refine lv_iload hx hb dX7_payment_105 (lv_at hl 5 rfl) ?_
            refine lv_aload_n hx hb dX7_payment_107 rfl (lv_at hl 0 rfl) ?_
            refine va_get (D := D) (ci := 7) (v := .ref Za5) (C := RX7) (T := TX7) (N := 29) hx hb hts in_X7_payment_7 hown hK.1 hP 0 rfl rfl 5 (by decide) (hts (.fieldLink RX7 20 "ChildCoinsModel" "worth" "[I") (List.mem_of_getElem? (i := 3) rfl)) (fun _ h9 => h9) rfl dX7_payment_108 ?_
            refine lv_iload_n hx hb dX7_payment_111 rfl (lv_at hl 2 rfl) ?_
            refine va_iald hx hb hK.1 hP 4 0 rfl rfl (vp_in_nI (n := c2) (N := 12) (by omega) (by decide)) dX7_payment_112 ?_
            refine set_i (y := nI (ZS 5 c2)) (nF_ld (by omega)) ?_
            have b27 : ZS 5 c2 ≤ 999 := (zok_set (k := 24) hZ hI3.1) 5 c2
            refine lv_imul hx hb dX7_payment_113 ?_
            refine set_i (y := nI (i4 * (ZS 5 c2))) (pk_mul i4 (ZS 5 c2)) ?_
            refine lv_isub hx hb dX7_payment_114 ?_
            refine set_i (y := nI (((61 * (c2 + 1)) + i3) - (i4 * (ZS 5 c2)))) (pk_sub (by omega)) ?_
            refine va_iald hx hb hK.1 hP 17 0 rfl rfl (vp_in_nI (n := ((61 * (c2 + 1)) + i3) - (i4 * (ZS 5 c2))) (N := 427) (by omega) (by decide)) dX7_payment_115 ?_
            refine set_i (y := nI (z3 (((61 * (c2 + 1)) + i3) - (i4 * (ZS 5 c2))))) (nF_ld (by omega)) ?_
            have b28 : z3 (((61 * (c2 + 1)) + i3) - (i4 * (ZS 5 c2))) ≤ 1000 := (zok_set (k := 24) hZ hI3.1) 24 (((61 * (c2 + 1)) + i3) - (i4 * (ZS 5 c2)))
            refine lv_iadd hx hb dX7_payment_116 ?_
            refine set_i (y := nI (i4 + (z3 (((61 * (c2 + 1)) + i3) - (i4 * (ZS 5 c2)))))) (nI_add i4 (z3 (((61 * (c2 + 1)) + i3) - (i4 * (ZS 5 c2))))) ?_
            refine lv_istore (lv' := [(6, .int (nI (i4 + (z3 (((61 * (c2 + 1)) + i3) - (i4 * (ZS 5 c2))))))), (0, .ref Zh), (1, .int (nI v_z)), (2, .int (nI c2)), (3, .int (nI i3)), (4, .int (nI z4)), (5, .int (nI i4))]) hx hb dX7_payment_117 hl (by decide) rfl (fun ls hl => ?_)
            refine lv_iload hx hb dX7_payment_119 (lv_at hl 0 rfl) ?_
            refine lv_iload hx hb dX7_payment_121 (lv_at hl 5 rfl) ?_
            refine nb_icmp_ge (tgt := 131) hx hb dX7_payment_123 (by decide) (by omega) (by omega) (fun hq29 => ?_) (fun hq29 => ?_)
            · skip
              refine lv_iload hx hb dX7_payment_131 (lv_at hl 5 rfl) ?_
              refine lv_istore (lv' := [(4, .int (nI z4)), (6, .int (nI (i4 + (z3 (((61 * (c2 + 1)) + i3) - (i4 * (ZS 5 c2))))))), (0, .ref Zh), (1, .int (nI v_z)), (2, .int (nI c2)), (3, .int (nI i3)), (5, .int (nI i4))]) hx hb dX7_payment_133 hl (by decide) rfl (fun ls hl => ?_)
              refine lv_iinc (v := nI (i4 + 1)) (lv' := [(5, .int (nI (i4 + 1))), (4, .int (nI z4)), (6, .int (nI (i4 + (z3 (((61 * (c2 + 1)) + i3) - (i4 * (ZS 5 c2))))))), (0, .ref Zh), (1, .int (nI v_z)), (2, .int (nI c2)), (3, .int (nI i3))]) hx hb dX7_payment_135 hl (k := 6) rfl (nI_add i4 1) (by decide) rfl (fun ls hl => ?_)
              refine lv_goto (tgt := 67) hx hb dX7_payment_138 (by decide) ?_
              have hl : lv_has ls 7 [(0, .ref Zh), (1, .int (nI v_z)), (2, .int (nI c2)), (3, .int (nI i3)), (4, .int (nI z4)), (5, .int (nI (i4 + 1)))] := lv_sub hl [3, 4, 5, 6, 1, 0] rfl
              exact ih4 z4 ⟨MNI_k hI4.1 hq29, hI4.2⟩ _ _ _ hP hD hS hl
            · skip
              refine lv_iload hx hb dX7_payment_126 (lv_at hl 0 rfl) ?_
              refine lv_goto (tgt := 133) hx hb dX7_payment_128 (by decide) ?_
              refine lv_istore (lv' := [(4, .int (nI (i4 + (z3 (((61 * (c2 + 1)) + i3) - (i4 * (ZS 5 c2))))))), (6, .int (nI (i4 + (z3 (((61 * (c2 + 1)) + i3) - (i4 * (ZS 5 c2))))))), (0, .ref Zh), (1, .int (nI v_z)), (2, .int (nI c2)), (3, .int (nI i3)), (5, .int (nI i4))]) hx hb dX7_payment_133 hl (by decide) rfl (fun ls hl => ?_)
              refine lv_iinc (v := nI (i4 + 1)) (lv' := [(5, .int (nI (i4 + 1))), (4, .int (nI (i4 + (z3 (((61 * (c2 + 1)) + i3) - (i4 * (ZS 5 c2))))))), (6, .int (nI (i4 + (z3 (((61 * (c2 + 1)) + i3) - (i4 * (ZS 5 c2))))))), (0, .ref Zh), (1, .int (nI v_z)), (2, .int (nI c2)), (3, .int (nI i3))]) hx hb dX7_payment_135 hl (k := 6) rfl (nI_add i4 1) (by decide) rfl (fun ls hl => ?_)
              refine lv_goto (tgt := 67) hx hb dX7_payment_138 (by decide) ?_
              have hl : lv_has ls 7 [(0, .ref Zh), (1, .int (nI v_z)), (2, .int (nI c2)), (3, .int (nI i3)), (4, .int (nI (i4 + (z3 (((61 * (c2 + 1)) + i3) - (i4 * (ZS 5 c2))))))), (5, .int (nI (i4 + 1)))] := lv_sub hl [3, 4, 5, 6, 1, 0] rfl
              exact ih4 (i4 + (z3 (((61 * (c2 + 1)) + i3) - (i4 * (ZS 5 c2))))) ⟨MNI_n hI4.1 (by omega) (Nat.le_of_lt hq29), by omega⟩ _ _ _ hP hD hS hl
  · intro i1 hi01 hi1 z1 hI1 ih1 H locs ls hP hD hS hl
    have hl : lv_has ls 7 [(0, .ref Zh), (1, .int (nI v_z)), (2, .int (nI i1))] := hl
    obtain ⟨hP, hD⟩ : wPD D A [(Zh, .inr (7, [.long Zt, .ref Za1, .int (nI (ZS 2 0)), .ref Za3, .ref Za4, .ref Za5, .ref Za6, .ref Za7, .ref Za8, .ref Za9, .ref Za10, .ref Za11, .ref Za12, .ref Za13, .int (nI (ZS 14 0)), .int (nI (ZS 15 0)), .int (nI (ZS 16 0)), .int (nI (ZS 17 0)), .int (nI (ZS 18 0)), .int (nI (ZS 19 0) - nI 9), .ref Za20, .ref Za21, .ref Za22, .ref Za23, .ref Za24, .ref Za25, .ref Za26, .ref Za27, .int (nI (ZS 28 0))])), (Za1, .inl (cB, 180, .inl (bF (ZS 1)))), (Za3, .inl (cI, 2, .inl (nF (ZS 3)))), (Za4, .inl (cI, 12, .inl (nF (ZS 4)))), (Za5, .inl (cI, 12, .inl (nF (ZS 5)))), (Za6, .inl (cI, 2, .inl (nF (ZS 6)))), (Za7, .inl (cI, 10, .inl (nF (ZS 7)))), (Za8, .inl (cI, 30, .inl (nF (ZS 8)))), (Za9, .inl (cI, 2, .inl (nF (ZS 9)))), (Za10, .inl (cI, 10, .inl (nF (ZS 10)))), (Za11, .inl (cI, 5, .inl (nF (ZS 11)))), (Za12, .inl (cI, 10, .inl (nF (ZS 12)))), (Za13, .inl (cI, 2, .inl (nF (ZS 13)))), (Za20, .inl (cI, 1191, .inl (nF (ZS 20)))), (Za21, .inl (cZ, 2, .inl (nF (ZS 21)))), (Za22, .inl (cI, 36, .inl (nF (ZS 22)))), (Za23, .inl (cI, 6, .inl (nF (ZS 23)))), (Za24, .inl (cI, 427, .inl (nF (z1)))), (Za25, .inl (cI, 6, .inl (nF (ZS 25)))), (Za26, .inl (cI, 5, .inl (nF (ZS 26)))), (Za27, .inl (cI, 6, .inl (nF (ZS 27))))] H := ⟨hP, hD⟩
    refine lv_iload_n hx hb dX7_payment_2 rfl (lv_at hl 2 rfl) ?_
    refine lv_bipush (v := nI 60) hx hb dX7_payment_3 (by decide) ?_
    refine nb_icmp_gt (tgt := 35) hx hb dX7_payment_5 (by decide) (by omega) (by omega) (fun hq30 => absurd hq30 (by omega)) (fun hq30 => ?_)
    refine lv_aload_n hx hb dX7_payment_8 rfl (lv_at hl 0 rfl) ?_
    refine va_get (D := D) (ci := 7) (v := .ref Za24) (C := RX7) (T := TX7) (N := 29) hx hb hts in_X7_payment_7 hown hK.1 hP 0 rfl rfl 24 (by decide) (hts (.fieldLink RX7 60 "ChildCoinsModel" "fewest" "[I") (List.mem_of_getElem? (i := 1) rfl)) (fun _ h9 => h9) rfl dX7_payment_9 ?_
    refine lv_sipush (v := nI 366) hx hb dX7_payment_12 (by decide) ?_
    refine lv_iload_n hx hb dX7_payment_15 rfl (lv_at hl 2 rfl) ?_
    refine lv_iadd hx hb dX7_payment_16 ?_
    refine set_i (y := nI (366 + i1)) (nI_add 366 i1) ?_
    refine lv_iload_n hx hb dX7_payment_17 rfl (lv_at hl 2 rfl) ?_
    refine nb_if_ne (tgt := 25) hx hb dX7_payment_18 (by decide) (by omega) (fun hq31 => ?_) (fun hq31 => ?_)
    · skip
      refine lv_sipush (v := nI 1000) hx hb dX7_payment_25 (by decide) ?_
      refine va_iast hx hb hK.1 hP hD hS 17 0 rfl rfl (vp_in_nI (n := 366 + i1) (N := 427) (by omega) (by decide)) dX7_payment_28 (fun H locs hP hD hS => ?_)
      obtain ⟨hP, hD⟩ : wPD D A [(Zh, .inr (7, [.long Zt, .ref Za1, .int (nI (ZS 2 0)), .ref Za3, .ref Za4, .ref Za5, .ref Za6, .ref Za7, .ref Za8, .ref Za9, .ref Za10, .ref Za11, .ref Za12, .ref Za13, .int (nI (ZS 14 0)), .int (nI (ZS 15 0)), .int (nI (ZS 16 0)), .int (nI (ZS 17 0)), .int (nI (ZS 18 0)), .int (nI (ZS 19 0) - nI 9), .ref Za20, .ref Za21, .ref Za22, .ref Za23, .ref Za24, .ref Za25, .ref Za26, .ref Za27, .int (nI (ZS 28 0))])), (Za1, .inl (cB, 180, .inl (bF (ZS 1)))), (Za3, .inl (cI, 2, .inl (nF (ZS 3)))), (Za4, .inl (cI, 12, .inl (nF (ZS 4)))), (Za5, .inl (cI, 12, .inl (nF (ZS 5)))), (Za6, .inl (cI, 2, .inl (nF (ZS 6)))), (Za7, .inl (cI, 10, .inl (nF (ZS 7)))), (Za8, .inl (cI, 30, .inl (nF (ZS 8)))), (Za9, .inl (cI, 2, .inl (nF (ZS 9)))), (Za10, .inl (cI, 10, .inl (nF (ZS 10)))), (Za11, .inl (cI, 5, .inl (nF (ZS 11)))), (Za12, .inl (cI, 10, .inl (nF (ZS 12)))), (Za13, .inl (cI, 2, .inl (nF (ZS 13)))), (Za20, .inl (cI, 1191, .inl (nF (ZS 20)))), (Za21, .inl (cZ, 2, .inl (nF (ZS 21)))), (Za22, .inl (cI, 36, .inl (nF (ZS 22)))), (Za23, .inl (cI, 6, .inl (nF (ZS 23)))), (Za24, .inl (cI, 427, .inl (upd (nF (z1)) (nI (366 + i1)).toNatClampNeg (nI 1000)))), (Za25, .inl (cI, 6, .inl (nF (ZS 25)))), (Za26, .inl (cI, 5, .inl (nF (ZS 26)))), (Za27, .inl (cI, 6, .inl (nF (ZS 27))))] H := ⟨hP, hD⟩
      rw [nF_st (by omega)] at hP hD
      refine lv_iinc (v := nI (i1 + 1)) (lv' := [(2, .int (nI (i1 + 1))), (0, .ref Zh), (1, .int (nI v_z))]) hx hb dX7_payment_29 hl (k := 2) rfl (nI_add i1 1) (by decide) rfl (fun ls hl => ?_)
      refine lv_goto (tgt := 2) hx hb dX7_payment_32 (by decide) ?_
      have hl : lv_has ls 7 [(0, .ref Zh), (1, .int (nI v_z)), (2, .int (nI (i1 + 1)))] := lv_sub hl [1, 2, 0] rfl
      exact ih1 (un (z1) (366 + i1) 1000) ⟨un_leM hI1.1 (by decide), fun s q => by rcases (show s < i1 ∨ s = i1 by omega) with y | y; rw [un_n (by omega)]; exact hI1.2 s y; rw [y, un_s]; first | rw [if_pos (by omega)] | rw [if_neg (by omega)]⟩ _ _ _ hP hD hS hl
    · skip
      refine lv_iconst (v := nI 0) hx hb dX7_payment_21 (by decide) ?_
      refine lv_goto (tgt := 28) hx hb dX7_payment_22 (by decide) ?_
      refine va_iast hx hb hK.1 hP hD hS 17 0 rfl rfl (vp_in_nI (n := 366 + i1) (N := 427) (by omega) (by decide)) dX7_payment_28 (fun H locs hP hD hS => ?_)
      obtain ⟨hP, hD⟩ : wPD D A [(Zh, .inr (7, [.long Zt, .ref Za1, .int (nI (ZS 2 0)), .ref Za3, .ref Za4, .ref Za5, .ref Za6, .ref Za7, .ref Za8, .ref Za9, .ref Za10, .ref Za11, .ref Za12, .ref Za13, .int (nI (ZS 14 0)), .int (nI (ZS 15 0)), .int (nI (ZS 16 0)), .int (nI (ZS 17 0)), .int (nI (ZS 18 0)), .int (nI (ZS 19 0) - nI 9), .ref Za20, .ref Za21, .ref Za22, .ref Za23, .ref Za24, .ref Za25, .ref Za26, .ref Za27, .int (nI (ZS 28 0))])), (Za1, .inl (cB, 180, .inl (bF (ZS 1)))), (Za3, .inl (cI, 2, .inl (nF (ZS 3)))), (Za4, .inl (cI, 12, .inl (nF (ZS 4)))), (Za5, .inl (cI, 12, .inl (nF (ZS 5)))), (Za6, .inl (cI, 2, .inl (nF (ZS 6)))), (Za7, .inl (cI, 10, .inl (nF (ZS 7)))), (Za8, .inl (cI, 30, .inl (nF (ZS 8)))), (Za9, .inl (cI, 2, .inl (nF (ZS 9)))), (Za10, .inl (cI, 10, .inl (nF (ZS 10)))), (Za11, .inl (cI, 5, .inl (nF (ZS 11)))), (Za12, .inl (cI, 10, .inl (nF (ZS 12)))), (Za13, .inl (cI, 2, .inl (nF (ZS 13)))), (Za20, .inl (cI, 1191, .inl (nF (ZS 20)))), (Za21, .inl (cZ, 2, .inl (nF (ZS 21)))), (Za22, .inl (cI, 36, .inl (nF (ZS 22)))), (Za23, .inl (cI, 6, .inl (nF (ZS 23)))), (Za24, .inl (cI, 427, .inl (upd (nF (z1)) (nI (366 + i1)).toNatClampNeg (nI 0)))), (Za25, .inl (cI, 6, .inl (nF (ZS 25)))), (Za26, .inl (cI, 5, .inl (nF (ZS 26)))), (Za27, .inl (cI, 6, .inl (nF (ZS 27))))] H := ⟨hP, hD⟩
      rw [nF_st (by omega)] at hP hD
      refine lv_iinc (v := nI (i1 + 1)) (lv' := [(2, .int (nI (i1 + 1))), (0, .ref Zh), (1, .int (nI v_z))]) hx hb dX7_payment_29 hl (k := 2) rfl (nI_add i1 1) (by decide) rfl (fun ls hl => ?_)
      refine lv_goto (tgt := 2) hx hb dX7_payment_32 (by decide) ?_
      have hl : lv_has ls 7 [(0, .ref Zh), (1, .int (nI v_z)), (2, .int (nI (i1 + 1)))] := lv_sub hl [1, 2, 0] rfl
      exact ih1 (un (z1) (366 + i1) 0) ⟨un_leM hI1.1 (by decide), fun s q => by rcases (show s < i1 ∨ s = i1 by omega) with y | y; rw [un_n (by omega)]; exact hI1.2 s y; rw [y, un_s]; first | rw [if_pos (by omega)] | rw [if_neg (by omega)]⟩ _ _ _ hP hD hS hl
