theorem dX12_mustBe_0 : decode cX12_mustBe 0 = .ok (.aload_n 0, 1) := by decide +kernel
theorem dX12_mustBe_1 : decode cX12_mustBe 1 = .ok (.iload_n 1, 1) := by decide +kernel
theorem dX12_mustBe_2 : decode cX12_mustBe 2 = .ok (.ifCond .eq 10, 3) := by decide +kernel
theorem dX12_mustBe_12 : decode cX12_mustBe 12 = .ok (.iconst 1, 1) := by decide +kernel
theorem dX12_mustBe_13 : decode cX12_mustBe 13 = .ok (.putfield 118, 3) := by decide +kernel
theorem dX12_mustBe_16 : decode cX12_mustBe 16 = .ok (.iload_n 1, 1) := by decide +kernel
theorem dX12_mustBe_17 : decode cX12_mustBe 17 = .ok (.ireturn, 1) := by decide +kernel
theorem dX12_mustBe_5 : decode cX12_mustBe 5 = .ok (.aload_n 0, 1) := by decide +kernel
theorem dX12_mustBe_6 : decode cX12_mustBe 6 = .ok (.getfield 118, 3) := by decide +kernel
theorem dX12_mustBe_9 : decode cX12_mustBe 9 = .ok (.goto 4, 3) := by decide +kernel
theorem dX12_hasRoom_0 : decode cX12_hasRoom 0 = .ok (.aload_n 0, 1) := by decide +kernel
theorem dX12_hasRoom_1 : decode cX12_hasRoom 1 = .ok (.iload_n 1, 1) := by decide +kernel
theorem dX12_hasRoom_2 : decode cX12_hasRoom 2 = .ok (.ifCond .eq 10, 3) := by decide +kernel
theorem dX12_hasRoom_12 : decode cX12_hasRoom 12 = .ok (.iconst 3, 1) := by decide +kernel
theorem dX12_hasRoom_13 : decode cX12_hasRoom 13 = .ok (.putfield 118, 3) := by decide +kernel
theorem dX12_hasRoom_16 : decode cX12_hasRoom 16 = .ok (.iload_n 1, 1) := by decide +kernel
theorem dX12_hasRoom_17 : decode cX12_hasRoom 17 = .ok (.ireturn, 1) := by decide +kernel
theorem dX12_hasRoom_5 : decode cX12_hasRoom 5 = .ok (.aload_n 0, 1) := by decide +kernel
theorem dX12_hasRoom_6 : decode cX12_hasRoom 6 = .ok (.getfield 118, 3) := by decide +kernel
theorem dX12_hasRoom_9 : decode cX12_hasRoom 9 = .ok (.goto 4, 3) := by decide +kernel
theorem dX12_begins_0 : decode cX12_begins 0 = .ok (.aload_n 0, 1) := by decide +kernel
theorem dX12_begins_1 : decode cX12_begins 1 = .ok (.getfield 100, 3) := by decide +kernel
theorem dX12_begins_4 : decode cX12_begins 4 = .ok (.iconst 1, 1) := by decide +kernel
theorem dX12_begins_5 : decode cX12_begins 5 = .ok (.if_icmp .eq 7, 3) := by decide +kernel
theorem dX12_begins_12 : decode cX12_begins 12 = .ok (.aload_n 0, 1) := by decide +kernel
theorem dX12_begins_13 : decode cX12_begins 13 = .ok (.getfield 103, 3) := by decide +kernel
theorem dX12_begins_16 : decode cX12_begins 16 = .ok (.ldc2_w 161, 3) := by decide +kernel
theorem dX12_begins_19 : decode cX12_begins 19 = .ok (.lcmp, 1) := by decide +kernel
theorem dX12_begins_20 : decode cX12_begins 20 = .ok (.ifCond .ne 7, 3) := by decide +kernel
theorem dX12_begins_27 : decode cX12_begins 27 = .ok (.aload_n 0, 1) := by decide +kernel
theorem dX12_begins_28 : decode cX12_begins 28 = .ok (.getfield 103, 3) := by decide +kernel
theorem dX12_begins_31 : decode cX12_begins 31 = .ok (.ldc2_w 163, 3) := by decide +kernel
theorem dX12_begins_34 : decode cX12_begins 34 = .ok (.lcmp, 1) := by decide +kernel
theorem dX12_begins_35 : decode cX12_begins 35 = .ok (.ifCond .ne 7, 3) := by decide +kernel
theorem dX12_begins_42 : decode cX12_begins 42 = .ok (.aload_n 0, 1) := by decide +kernel
theorem dX12_begins_43 : decode cX12_begins 43 = .ok (.getfield 103, 3) := by decide +kernel
theorem dX12_begins_46 : decode cX12_begins 46 = .ok (.ldc2_w 165, 3) := by decide +kernel
theorem dX12_begins_49 : decode cX12_begins 49 = .ok (.lcmp, 1) := by decide +kernel
theorem dX12_begins_50 : decode cX12_begins 50 = .ok (.ifCond .ne 7, 3) := by decide +kernel
theorem dX12_begins_57 : decode cX12_begins 57 = .ok (.iconst 0, 1) := by decide +kernel
theorem dX12_begins_58 : decode cX12_begins 58 = .ok (.ireturn, 1) := by decide +kernel
theorem dX12_begins_53 : decode cX12_begins 53 = .ok (.iconst 3, 1) := by decide +kernel
theorem dX12_begins_54 : decode cX12_begins 54 = .ok (.goto 4, 3) := by decide +kernel
theorem dX12_begins_38 : decode cX12_begins 38 = .ok (.iconst 2, 1) := by decide +kernel
theorem dX12_begins_39 : decode cX12_begins 39 = .ok (.goto 19, 3) := by decide +kernel
theorem dX12_begins_23 : decode cX12_begins 23 = .ok (.iconst 1, 1) := by decide +kernel
theorem dX12_begins_24 : decode cX12_begins 24 = .ok (.goto 34, 3) := by decide +kernel
theorem dX12_begins_8 : decode cX12_begins 8 = .ok (.iconst 0, 1) := by decide +kernel
theorem dX12_begins_9 : decode cX12_begins 9 = .ok (.goto 49, 3) := by decide +kernel
theorem dX12_next_0 : decode cX12_next 0 = .ok (.aload_n 0, 1) := by decide +kernel
theorem dX12_next_1 : decode cX12_next 1 = .ok (.getfield 88, 3) := by decide +kernel
theorem dX12_next_4 : decode cX12_next 4 = .ok (.aload_n 0, 1) := by decide +kernel
theorem dX12_next_5 : decode cX12_next 5 = .ok (.getfield 91, 3) := by decide +kernel
theorem dX12_next_8 : decode cX12_next 8 = .ok (.if_icmp .ge 44, 3) := by decide +kernel
theorem dX12_next_52 : decode cX12_next 52 = .ok (.aload_n 0, 1) := by decide +kernel
theorem dX12_next_53 : decode cX12_next 53 = .ok (.aload_n 0, 1) := by decide +kernel
theorem dX12_next_54 : decode cX12_next 54 = .ok (.getfield 88, 3) := by decide +kernel
theorem dX12_next_57 : decode cX12_next 57 = .ok (.putfield 94, 3) := by decide +kernel
theorem dX12_next_60 : decode cX12_next 60 = .ok (.aload_n 0, 1) := by decide +kernel
theorem dX12_next_61 : decode cX12_next 61 = .ok (.aload_n 0, 1) := by decide +kernel
theorem dX12_next_62 : decode cX12_next 62 = .ok (.getfield 88, 3) := by decide +kernel
theorem dX12_next_65 : decode cX12_next 65 = .ok (.aload_n 0, 1) := by decide +kernel
theorem dX12_next_66 : decode cX12_next 66 = .ok (.getfield 91, 3) := by decide +kernel
theorem dX12_next_69 : decode cX12_next 69 = .ok (.if_icmp .ge 18, 3) := by decide +kernel
theorem dX12_next_87 : decode cX12_next 87 = .ok (.iconst 0, 1) := by decide +kernel
theorem dX12_next_88 : decode cX12_next 88 = .ok (.putfield 100, 3) := by decide +kernel
theorem dX12_next_91 : decode cX12_next 91 = .ok (.aload_n 0, 1) := by decide +kernel
theorem dX12_next_92 : decode cX12_next 92 = .ok (.lconst 0, 1) := by decide +kernel
theorem dX12_next_93 : decode cX12_next 93 = .ok (.putfield 103, 3) := by decide +kernel
theorem dX12_next_96 : decode cX12_next 96 = .ok (.aload_n 0, 1) := by decide +kernel
theorem dX12_next_97 : decode cX12_next 97 = .ok (.dup, 1) := by decide +kernel
theorem dX12_next_98 : decode cX12_next 98 = .ok (.getfield 88, 3) := by decide +kernel
theorem dX12_next_101 : decode cX12_next 101 = .ok (.aload_n 0, 1) := by decide +kernel
theorem dX12_next_102 : decode cX12_next 102 = .ok (.getfield 100, 3) := by decide +kernel
theorem dX12_next_105 : decode cX12_next 105 = .ok (.iconst 2, 1) := by decide +kernel
theorem dX12_next_106 : decode cX12_next 106 = .ok (.if_icmp .le 7, 3) := by decide +kernel
theorem dX12_next_113 : decode cX12_next 113 = .ok (.iconst 0, 1) := by decide +kernel
theorem dX12_next_114 : decode cX12_next 114 = .ok (.iadd, 1) := by decide +kernel
theorem dX12_next_115 : decode cX12_next 115 = .ok (.putfield 88, 3) := by decide +kernel
theorem dX12_next_118 : decode cX12_next 118 = .ok (.aload_n 0, 1) := by decide +kernel
theorem dX12_next_119 : decode cX12_next 119 = .ok (.getfield 100, 3) := by decide +kernel
theorem dX12_next_122 : decode cX12_next 122 = .ok (.ifCond .le 129, 3) := by decide +kernel
theorem dX12_next_251 : decode cX12_next 251 = .ok (.aload_n 0, 1) := by decide +kernel
theorem dX12_next_252 : decode cX12_next 252 = .ok (.aload_n 0, 1) := by decide +kernel
theorem dX12_next_253 : decode cX12_next 253 = .ok (.getfield 100, 3) := by decide +kernel
theorem dX12_next_256 : decode cX12_next 256 = .ok (.iconst 2, 1) := by decide +kernel
theorem dX12_next_257 : decode cX12_next 257 = .ok (.if_icmp .ne 20, 3) := by decide +kernel
theorem dX12_next_277 : decode cX12_next 277 = .ok (.aload_n 0, 1) := by decide +kernel
theorem dX12_next_278 : decode cX12_next 278 = .ok (.getfield 100, 3) := by decide +kernel
theorem dX12_next_281 : decode cX12_next 281 = .ok (.putfield 100, 3) := by decide +kernel
theorem dX12_next_284 : decode cX12_next 284 = .ok (.return_, 1) := by decide +kernel
theorem dX12_next_260 : decode cX12_next 260 = .ok (.aload_n 0, 1) := by decide +kernel
theorem dX12_next_261 : decode cX12_next 261 = .ok (.getfield 88, 3) := by decide +kernel
theorem dX12_next_264 : decode cX12_next 264 = .ok (.aload_n 0, 1) := by decide +kernel
theorem dX12_next_265 : decode cX12_next 265 = .ok (.getfield 94, 3) := by decide +kernel
theorem dX12_next_268 : decode cX12_next 268 = .ok (.isub, 1) := by decide +kernel
theorem dX12_next_269 : decode cX12_next 269 = .ok (.iconst 3, 1) := by decide +kernel
theorem dX12_next_270 : decode cX12_next 270 = .ok (.if_icmp .le 7, 3) := by decide +kernel
theorem dX12_next_273 : decode cX12_next 273 = .ok (.iconst 4, 1) := by decide +kernel
theorem dX12_next_274 : decode cX12_next 274 = .ok (.goto 7, 3) := by decide +kernel
theorem dX12_next_125 : decode cX12_next 125 = .ok (.aload_n 0, 1) := by decide +kernel
theorem dX12_next_126 : decode cX12_next 126 = .ok (.getfield 100, 3) := by decide +kernel
theorem dX12_next_129 : decode cX12_next 129 = .ok (.iconst 3, 1) := by decide +kernel
theorem dX12_next_130 : decode cX12_next 130 = .ok (.if_icmp .ge 121, 3) := by decide +kernel
theorem dX12_next_133 : decode cX12_next 133 = .ok (.aload_n 0, 1) := by decide +kernel
theorem dX12_next_134 : decode cX12_next 134 = .ok (.getfield 88, 3) := by decide +kernel
theorem dX12_next_137 : decode cX12_next 137 = .ok (.aload_n 0, 1) := by decide +kernel
theorem dX12_next_138 : decode cX12_next 138 = .ok (.getfield 91, 3) := by decide +kernel
theorem dX12_next_141 : decode cX12_next 141 = .ok (.if_icmp .ge 110, 3) := by decide +kernel
theorem dX12_next_144 : decode cX12_next 144 = .ok (.aload_n 0, 1) := by decide +kernel
theorem dX12_next_145 : decode cX12_next 145 = .ok (.getfield 19, 3) := by decide +kernel
theorem dX12_next_148 : decode cX12_next 148 = .ok (.aload_n 0, 1) := by decide +kernel
theorem dX12_next_149 : decode cX12_next 149 = .ok (.getfield 88, 3) := by decide +kernel
theorem dX12_next_152 : decode cX12_next 152 = .ok (.iaload, 1) := by decide +kernel
set_option maxRecDepth 20000 in
theorem ggX12_next_X12_sort : GoodIn wsX12_next wsX12_sort := goodIn_r _ [15, 16, 17, 11, 18, 19, 20, 14, 21] (by decide +kernel) (by decide +kernel)
set_option maxRecDepth 20000 in
theorem gX12_next_X12_sort : GoodIn wsX12_next (va_wsS RX12 97 yX12_sort wsX12_sort) := goodIn_app (goodIn_of _ (by decide +kernel)) ggX12_next_X12_sort
theorem dX12_next_153 : decode cX12_next 153 = .ok (.invokestatic 97, 3) := by decide +kernel
theorem dX12_next_156 : decode cX12_next 156 = .ok (.aload_n 0, 1) := by decide +kernel
theorem dX12_next_157 : decode cX12_next 157 = .ok (.getfield 100, 3) := by decide +kernel
theorem dX12_next_160 : decode cX12_next 160 = .ok (.if_icmp .ne 91, 3) := by decide +kernel
theorem dX12_next_163 : decode cX12_next 163 = .ok (.aload_n 0, 1) := by decide +kernel
theorem dX12_next_164 : decode cX12_next 164 = .ok (.getfield 19, 3) := by decide +kernel
theorem dX12_next_167 : decode cX12_next 167 = .ok (.aload_n 0, 1) := by decide +kernel
theorem dX12_next_168 : decode cX12_next 168 = .ok (.getfield 88, 3) := by decide +kernel
theorem dX12_next_171 : decode cX12_next 171 = .ok (.iaload, 1) := by decide +kernel
theorem dX12_next_172 : decode cX12_next 172 = .ok (.istore_n 1, 1) := by decide +kernel
theorem dX12_next_173 : decode cX12_next 173 = .ok (.aload_n 0, 1) := by decide +kernel
theorem dX12_next_174 : decode cX12_next 174 = .ok (.aload_n 0, 1) := by decide +kernel
theorem dX12_next_175 : decode cX12_next 175 = .ok (.getfield 88, 3) := by decide +kernel
theorem dX12_next_178 : decode cX12_next 178 = .ok (.aload_n 0, 1) := by decide +kernel
theorem dX12_next_179 : decode cX12_next 179 = .ok (.getfield 94, 3) := by decide +kernel
theorem dX12_next_182 : decode cX12_next 182 = .ok (.isub, 1) := by decide +kernel
theorem dX12_next_183 : decode cX12_next 183 = .ok (.bipush 7, 2) := by decide +kernel
theorem dX12_next_185 : decode cX12_next 185 = .ok (.if_icmp .le 9, 3) := by decide +kernel
theorem dX12_next_194 : decode cX12_next 194 = .ok (.aload_n 0, 1) := by decide +kernel
theorem dX12_next_195 : decode cX12_next 195 = .ok (.getfield 100, 3) := by decide +kernel
theorem dX12_next_198 : decode cX12_next 198 = .ok (.iconst 1, 1) := by decide +kernel
theorem dX12_next_199 : decode cX12_next 199 = .ok (.if_icmp .ne 21, 3) := by decide +kernel
theorem dX12_next_220 : decode cX12_next 220 = .ok (.ldc2_w 113, 3) := by decide +kernel
theorem dX12_next_223 : decode cX12_next 223 = .ok (.aload_n 0, 1) := by decide +kernel
theorem dX12_next_224 : decode cX12_next 224 = .ok (.getfield 103, 3) := by decide +kernel
theorem dX12_next_227 : decode cX12_next 227 = .ok (.lmul, 1) := by decide +kernel
theorem dX12_next_228 : decode cX12_next 228 = .ok (.iload_n 1, 1) := by decide +kernel
theorem dX12_next_229 : decode cX12_next 229 = .ok (.i2l, 1) := by decide +kernel
theorem dX12_next_230 : decode cX12_next 230 = .ok (.ladd, 1) := by decide +kernel
theorem dX12_next_231 : decode cX12_next 231 = .ok (.ldc2_w 84, 3) := by decide +kernel
theorem dX12_next_234 : decode cX12_next 234 = .ok (.lsub, 1) := by decide +kernel
theorem dX12_next_235 : decode cX12_next 235 = .ok (.putfield 103, 3) := by decide +kernel
theorem dX12_next_238 : decode cX12_next 238 = .ok (.aload_n 0, 1) := by decide +kernel
theorem dX12_next_239 : decode cX12_next 239 = .ok (.dup, 1) := by decide +kernel
theorem dX12_next_240 : decode cX12_next 240 = .ok (.getfield 88, 3) := by decide +kernel
theorem dX12_next_243 : decode cX12_next 243 = .ok (.iconst 1, 1) := by decide +kernel
theorem dX12_next_244 : decode cX12_next 244 = .ok (.iadd, 1) := by decide +kernel
theorem dX12_next_245 : decode cX12_next 245 = .ok (.putfield 88, 3) := by decide +kernel
theorem dX12_next_248 : decode cX12_next 248 = .ok (.goto (-130), 3) := by decide +kernel
theorem dX12_next_202 : decode cX12_next 202 = .ok (.ldc2_w 109, 3) := by decide +kernel
theorem dX12_next_205 : decode cX12_next 205 = .ok (.aload_n 0, 1) := by decide +kernel
theorem dX12_next_206 : decode cX12_next 206 = .ok (.getfield 103, 3) := by decide +kernel
theorem dX12_next_209 : decode cX12_next 209 = .ok (.lmul, 1) := by decide +kernel
theorem dX12_next_210 : decode cX12_next 210 = .ok (.iload_n 1, 1) := by decide +kernel
theorem dX12_next_211 : decode cX12_next 211 = .ok (.i2l, 1) := by decide +kernel
theorem dX12_next_212 : decode cX12_next 212 = .ok (.ladd, 1) := by decide +kernel
theorem dX12_next_213 : decode cX12_next 213 = .ok (.ldc2_w 111, 3) := by decide +kernel
theorem dX12_next_216 : decode cX12_next 216 = .ok (.lsub, 1) := by decide +kernel
theorem dX12_next_217 : decode cX12_next 217 = .ok (.goto 18, 3) := by decide +kernel
theorem dX12_next_188 : decode cX12_next 188 = .ok (.ldc2_w 107, 3) := by decide +kernel
theorem dX12_next_191 : decode cX12_next 191 = .ok (.goto 44, 3) := by decide +kernel
theorem dX12_next_109 : decode cX12_next 109 = .ok (.iconst 1, 1) := by decide +kernel
theorem dX12_next_110 : decode cX12_next 110 = .ok (.goto 4, 3) := by decide +kernel
theorem dX12_next_72 : decode cX12_next 72 = .ok (.aload_n 0, 1) := by decide +kernel
theorem dX12_next_73 : decode cX12_next 73 = .ok (.getfield 19, 3) := by decide +kernel
theorem dX12_next_76 : decode cX12_next 76 = .ok (.aload_n 0, 1) := by decide +kernel
theorem dX12_next_77 : decode cX12_next 77 = .ok (.getfield 88, 3) := by decide +kernel
theorem dX12_next_80 : decode cX12_next 80 = .ok (.iaload, 1) := by decide +kernel
theorem dX12_next_81 : decode cX12_next 81 = .ok (.invokestatic 97, 3) := by decide +kernel
theorem dX12_next_84 : decode cX12_next 84 = .ok (.goto 4, 3) := by decide +kernel
theorem dX12_next_11 : decode cX12_next 11 = .ok (.aload_n 0, 1) := by decide +kernel
theorem dX12_next_12 : decode cX12_next 12 = .ok (.getfield 19, 3) := by decide +kernel
theorem dX12_next_15 : decode cX12_next 15 = .ok (.aload_n 0, 1) := by decide +kernel
theorem dX12_next_16 : decode cX12_next 16 = .ok (.getfield 88, 3) := by decide +kernel
theorem dX12_next_19 : decode cX12_next 19 = .ok (.iaload, 1) := by decide +kernel
theorem dX12_next_20 : decode cX12_next 20 = .ok (.bipush 32, 2) := by decide +kernel
theorem dX12_next_22 : decode cX12_next 22 = .ok (.if_icmp .eq 17, 3) := by decide +kernel
theorem dX12_next_39 : decode cX12_next 39 = .ok (.aload_n 0, 1) := by decide +kernel
theorem dX12_next_40 : decode cX12_next 40 = .ok (.dup, 1) := by decide +kernel
theorem dX12_next_41 : decode cX12_next 41 = .ok (.getfield 88, 3) := by decide +kernel
theorem dX12_next_44 : decode cX12_next 44 = .ok (.iconst 1, 1) := by decide +kernel
theorem dX12_next_45 : decode cX12_next 45 = .ok (.iadd, 1) := by decide +kernel
theorem dX12_next_46 : decode cX12_next 46 = .ok (.putfield 88, 3) := by decide +kernel
theorem dX12_next_49 : decode cX12_next 49 = .ok (.goto (-49), 3) := by decide +kernel
theorem dX12_next_25 : decode cX12_next 25 = .ok (.aload_n 0, 1) := by decide +kernel
theorem dX12_next_26 : decode cX12_next 26 = .ok (.getfield 19, 3) := by decide +kernel
theorem dX12_next_29 : decode cX12_next 29 = .ok (.aload_n 0, 1) := by decide +kernel
theorem dX12_next_30 : decode cX12_next 30 = .ok (.getfield 88, 3) := by decide +kernel
theorem dX12_next_33 : decode cX12_next 33 = .ok (.iaload, 1) := by decide +kernel
theorem dX12_next_34 : decode cX12_next 34 = .ok (.bipush 10, 2) := by decide +kernel
theorem dX12_next_36 : decode cX12_next 36 = .ok (.if_icmp .ne 16, 3) := by decide +kernel
set_option maxRecDepth 100000 in
set_option maxHeartbeats 4000000 in
theorem c_X12_mustBe {E : XE} {B N : Nat} {v : Nat → va_E} {F : Nat → Int} {V b : Int} (hc0 : Cel N v 161 (oM B F V)) (hq0 : 0 ≤ b ∧ b ≤ 1) : gM yX12_mustBe wsX12_mustBe ({ frames := 0, cells := 0, slots := 0, locals := 0 }) E B N v [.ref (B + 161), .int (zI b)] (po0 N (fun ρ v' => ∃ (f2 : Int), (f2 = (if b = 1 then F 6 else 1)) ∧ ρ = some (.int (zI b)) ∧ (va_up v 161 (oM B (va_up F 6 f2) V)) = v')) := by
  refine x_met (nm := "mustBe") (by decide +kernel) rfl (Nat.le_of_ble_eq_true rfl) rfl (fun Γ K KR hnL hnm => ?_)
  show XW Γ N v [(0, .ref (B + 161)), (1, .int (zI b))] 0 0 0 []
  refine x_v (cel_pad hc0) ?_
  refine x_aload_n (pc := 0) 0 K rfl rfl dX12_mustBe_0 ?_
  refine x_iload_n (pc := 1) 1 K rfl rfl dX12_mustBe_1 ?_
  refine x_if_eq (pc := 2) (tgt := 12) K (by omega) dX12_mustBe_2 (by decide) (fun h_2 => ?_) (fun h_2 => ?_)
  · skip
    refine x_iconst (pc := 12) K dX12_mustBe_12 ?_
    refine x_put (pc := 13) (C := RX12) (T := TX12) (n := 26) (ci := 11) (idx := 118) (ref := "BorderBedsModel") (ty := .int)  K (cel_self hc0.1) rfl (by decide +kernel) tyX12 tyX12_ok nmX12 6 (by decide) (by decide +kernel) rfl rfl (by decide +kernel) rfl rfl (Nat.le_of_ble_eq_true rfl) dX12_mustBe_13 ?_
    refine x_v (w := (va_up v 161 (oM B (va_up F 6 1) V))) (up_at0).symm ?_
    refine x_iload_n (pc := 16) 1 K rfl rfl dX12_mustBe_16 ?_
    refine x_zret (pc := 17) K KR (by omega) (Nat.le_of_ble_eq_true rfl) (Nat.le_of_ble_eq_true rfl) (nb_ok (by omega)) dX12_mustBe_17 ?_
    exact ⟨rfl, 1, (by first | rw [if_pos (by omega)] | rw [if_neg (by omega)]), rfl, rfl⟩
  · skip
    refine x_aload_n (pc := 5) 0 K rfl rfl dX12_mustBe_5 ?_
    refine x_get (pc := 6) (C := RX12) (T := TX12) (n := 26) (ci := 11) (idx := 118) (ref := "BorderBedsModel") (x := .int (zI (F 6)))  K (cel_self hc0.1) rfl (by decide +kernel) 6 (by decide) (by decide +kernel) rfl rfl dX12_mustBe_6 ?_
    refine x_goto (pc := 9) (tgt := 13) K dX12_mustBe_9 (by decide) ?_
    refine x_put (pc := 13) (C := RX12) (T := TX12) (n := 26) (ci := 11) (idx := 118) (ref := "BorderBedsModel") (ty := .int)  K (cel_self hc0.1) rfl (by decide +kernel) tyX12 tyX12_ok nmX12 6 (by decide) (by decide +kernel) rfl rfl (by decide +kernel) rfl rfl (Nat.le_of_ble_eq_true rfl) dX12_mustBe_13 ?_
    refine x_v (w := (va_up v 161 (oM B (va_up F 6 (F 6)) V))) (up_at0).symm ?_
    refine x_iload_n (pc := 16) 1 K rfl rfl dX12_mustBe_16 ?_
    refine x_zret (pc := 17) K KR (by omega) (Nat.le_of_ble_eq_true rfl) (Nat.le_of_ble_eq_true rfl) (nb_ok (by omega)) dX12_mustBe_17 ?_
    exact ⟨rfl, (F 6), (by first | rw [if_pos (by omega)] | rw [if_neg (by omega)]), rfl, rfl⟩

set_option maxRecDepth 100000 in
set_option maxHeartbeats 4000000 in
theorem c_X12_hasRoom {E : XE} {B N : Nat} {v : Nat → va_E} {F : Nat → Int} {V b : Int} (hc0 : Cel N v 161 (oM B F V)) (hq0 : 0 ≤ b ∧ b ≤ 1) : gM yX12_hasRoom wsX12_hasRoom ({ frames := 0, cells := 0, slots := 0, locals := 0 }) E B N v [.ref (B + 161), .int (zI b)] (po0 N (fun ρ v' => ∃ (f2 : Int), (f2 = (if b = 1 then F 6 else 3)) ∧ ρ = some (.int (zI b)) ∧ (va_up v 161 (oM B (va_up F 6 f2) V)) = v')) := by
  refine x_met (nm := "hasRoom") (by decide +kernel) rfl (Nat.le_of_ble_eq_true rfl) rfl (fun Γ K KR hnL hnm => ?_)
  show XW Γ N v [(0, .ref (B + 161)), (1, .int (zI b))] 0 0 0 []
  refine x_v (cel_pad hc0) ?_
  refine x_aload_n (pc := 0) 0 K rfl rfl dX12_hasRoom_0 ?_
  refine x_iload_n (pc := 1) 1 K rfl rfl dX12_hasRoom_1 ?_
  refine x_if_eq (pc := 2) (tgt := 12) K (by omega) dX12_hasRoom_2 (by decide) (fun h_2 => ?_) (fun h_2 => ?_)
  · skip
    refine x_iconst (pc := 12) K dX12_hasRoom_12 ?_
    refine x_put (pc := 13) (C := RX12) (T := TX12) (n := 26) (ci := 11) (idx := 118) (ref := "BorderBedsModel") (ty := .int)  K (cel_self hc0.1) rfl (by decide +kernel) tyX12 tyX12_ok nmX12 6 (by decide) (by decide +kernel) rfl rfl (by decide +kernel) rfl rfl (Nat.le_of_ble_eq_true rfl) dX12_hasRoom_13 ?_
    refine x_v (w := (va_up v 161 (oM B (va_up F 6 3) V))) (up_at0).symm ?_
    refine x_iload_n (pc := 16) 1 K rfl rfl dX12_hasRoom_16 ?_
    refine x_zret (pc := 17) K KR (by omega) (Nat.le_of_ble_eq_true rfl) (Nat.le_of_ble_eq_true rfl) (nb_ok (by omega)) dX12_hasRoom_17 ?_
    exact ⟨rfl, 3, (by first | rw [if_pos (by omega)] | rw [if_neg (by omega)]), rfl, rfl⟩
  · skip
    refine x_aload_n (pc := 5) 0 K rfl rfl dX12_hasRoom_5 ?_
    refine x_get (pc := 6) (C := RX12) (T := TX12) (n := 26) (ci := 11) (idx := 118) (ref := "BorderBedsModel") (x := .int (zI (F 6)))  K (cel_self hc0.1) rfl (by decide +kernel) 6 (by decide) (by decide +kernel) rfl rfl dX12_hasRoom_6 ?_
    refine x_goto (pc := 9) (tgt := 13) K dX12_hasRoom_9 (by decide) ?_
    refine x_put (pc := 13) (C := RX12) (T := TX12) (n := 26) (ci := 11) (idx := 118) (ref := "BorderBedsModel") (ty := .int)  K (cel_self hc0.1) rfl (by decide +kernel) tyX12 tyX12_ok nmX12 6 (by decide) (by decide +kernel) rfl rfl (by decide +kernel) rfl rfl (Nat.le_of_ble_eq_true rfl) dX12_hasRoom_13 ?_
    refine x_v (w := (va_up v 161 (oM B (va_up F 6 (F 6)) V))) (up_at0).symm ?_
    refine x_iload_n (pc := 16) 1 K rfl rfl dX12_hasRoom_16 ?_
    refine x_zret (pc := 17) K KR (by omega) (Nat.le_of_ble_eq_true rfl) (Nat.le_of_ble_eq_true rfl) (nb_ok (by omega)) dX12_hasRoom_17 ?_
    exact ⟨rfl, (F 6), (by first | rw [if_pos (by omega)] | rw [if_neg (by omega)]), rfl, rfl⟩

set_option maxRecDepth 100000 in
set_option maxHeartbeats 4000000 in
theorem c_X12_begins {E : XE} {B N : Nat} {v : Nat → va_E} {F : Nat → Int} {V : Int} (hc0 : Cel N v 161 (oM B F V)) (hq0 : (-2147483648 ≤ F 17 ∧ F 17 ≤ 2147483647)) (hq1 : (-9223372036854775808 ≤ V ∧ V ≤ 9223372036854775807)) : gM yX12_begins wsX12_begins ({ frames := 0, cells := 0, slots := 0, locals := 0 }) E B N v [.ref (B + 161)] (po0 N (fun ρ v' => ∃ (res : Int), (res = (if F 17 = 1 then (if V = 23937287397 then 1 else if V = 8029764 then 2 else if V = 542723566 then 3 else 0) else 0)) ∧ ρ = some (.int (zI res)) ∧ v = v')) := by
  refine x_met (nm := "begins") (by decide +kernel) rfl (Nat.le_of_ble_eq_true rfl) rfl (fun Γ K KR hnL hnm => ?_)
  show XW Γ N v [(0, .ref (B + 161))] 0 0 0 []
  refine x_aload_n (pc := 0) 0 K rfl rfl dX12_begins_0 ?_
  refine x_get (pc := 1) (C := RX12) (T := TX12) (n := 26) (ci := 11) (idx := 100) (ref := "BorderBedsModel") (x := .int (zI (F 17)))  K hc0 rfl (by decide +kernel) 17 (by decide) (by decide +kernel) rfl rfl dX12_begins_1 ?_
  refine x_iconst (pc := 4) K dX12_begins_4 ?_
  refine x_icmp_eq (pc := 5) (tgt := 12) K (by omega) (by decide) dX12_begins_5 (by decide) (fun h_5 => ?_) (fun h_5 => ?_)
  · skip
    refine x_aload_n (pc := 12) 0 K rfl rfl dX12_begins_12 ?_
    refine x_get (pc := 13) (C := RX12) (T := TX12) (n := 26) (ci := 11) (idx := 103) (ref := "BorderBedsModel") (x := .long (zL V))  K hc0 rfl (by decide +kernel) 18 (by decide) (by decide +kernel) rfl rfl dX12_begins_13 ?_
    refine x_ldc2 (pc := 16) (x := (23937287397)) (23937287397) K (by decide) (by decide +kernel) dX12_begins_16 ?_
    refine x_lcmp (pc := 19) K (by omega) (by omega) dX12_begins_19 ?_
    refine x_if_ne (pc := 20) (tgt := 27) K (cmpZ_rng _ _) dX12_begins_20 (by decide) (fun h_20 => ?_) (fun h_20 => ?_)
    · skip
      have h_20 := cz_eq_n h_20
      refine x_aload_n (pc := 27) 0 K rfl rfl dX12_begins_27 ?_
      refine x_get (pc := 28) (C := RX12) (T := TX12) (n := 26) (ci := 11) (idx := 103) (ref := "BorderBedsModel") (x := .long (zL V))  K hc0 rfl (by decide +kernel) 18 (by decide) (by decide +kernel) rfl rfl dX12_begins_28 ?_
      refine x_ldc2 (pc := 31) (x := (8029764)) (8029764) K (by decide) (by decide +kernel) dX12_begins_31 ?_
      refine x_lcmp (pc := 34) K (by omega) (by omega) dX12_begins_34 ?_
      refine x_if_ne (pc := 35) (tgt := 42) K (cmpZ_rng _ _) dX12_begins_35 (by decide) (fun h_35 => ?_) (fun h_35 => ?_)
      · skip
        have h_35 := cz_eq_n h_35
        refine x_aload_n (pc := 42) 0 K rfl rfl dX12_begins_42 ?_
        refine x_get (pc := 43) (C := RX12) (T := TX12) (n := 26) (ci := 11) (idx := 103) (ref := "BorderBedsModel") (x := .long (zL V))  K hc0 rfl (by decide +kernel) 18 (by decide) (by decide +kernel) rfl rfl dX12_begins_43 ?_
        refine x_ldc2 (pc := 46) (x := (542723566)) (542723566) K (by decide) (by decide +kernel) dX12_begins_46 ?_
        refine x_lcmp (pc := 49) K (by omega) (by omega) dX12_begins_49 ?_
        refine x_if_ne (pc := 50) (tgt := 57) K (cmpZ_rng _ _) dX12_begins_50 (by decide) (fun h_50 => ?_) (fun h_50 => ?_)
        · skip
          have h_50 := cz_eq_n h_50
          refine x_iconst (pc := 57) K dX12_begins_57 ?_
          refine x_iret (pc := 58) K KR (by omega) (Nat.le_of_ble_eq_true rfl) (Nat.le_of_ble_eq_true rfl) dX12_begins_58 ?_
          exact ⟨rfl, 0, (by split <;> (try split) <;> (try split) <;> (try split) <;> omega), rfl, rfl⟩
        · skip
          have h_50 := cz_eq h_50
          refine x_iconst (pc := 53) K dX12_begins_53 ?_
          refine x_goto (pc := 54) (tgt := 58) K dX12_begins_54 (by decide) ?_
          refine x_iret (pc := 58) K KR (by omega) (Nat.le_of_ble_eq_true rfl) (Nat.le_of_ble_eq_true rfl) dX12_begins_58 ?_
          exact ⟨rfl, 3, (by split <;> (try split) <;> (try split) <;> (try split) <;> omega), rfl, rfl⟩
      · skip
        have h_35 := cz_eq h_35
        refine x_iconst (pc := 38) K dX12_begins_38 ?_
        refine x_goto (pc := 39) (tgt := 58) K dX12_begins_39 (by decide) ?_
        refine x_iret (pc := 58) K KR (by omega) (Nat.le_of_ble_eq_true rfl) (Nat.le_of_ble_eq_true rfl) dX12_begins_58 ?_
        exact ⟨rfl, 2, (by split <;> (try split) <;> (try split) <;> (try split) <;> omega), rfl, rfl⟩
    · skip
      have h_20 := cz_eq h_20
      refine x_iconst (pc := 23) K dX12_begins_23 ?_
      refine x_goto (pc := 24) (tgt := 58) K dX12_begins_24 (by decide) ?_
      refine x_iret (pc := 58) K KR (by omega) (Nat.le_of_ble_eq_true rfl) (Nat.le_of_ble_eq_true rfl) dX12_begins_58 ?_
      exact ⟨rfl, 1, (by split <;> (try split) <;> (try split) <;> (try split) <;> omega), rfl, rfl⟩
  · skip
    refine x_iconst (pc := 8) K dX12_begins_8 ?_
    refine x_goto (pc := 9) (tgt := 58) K dX12_begins_9 (by decide) ?_
    refine x_iret (pc := 58) K KR (by omega) (Nat.le_of_ble_eq_true rfl) (Nat.le_of_ble_eq_true rfl) dX12_begins_58 ?_
    exact ⟨rfl, 0, (by split <;> (try split) <;> (try split) <;> (try split) <;> omega), rfl, rfl⟩

set_option maxRecDepth 100000 in
set_option maxHeartbeats 4000000 in
theorem c_X12_next {E : XE} {B N : Nat} {v : Nat → va_E} {F t : Nat → Int} {V : Int} {a n : Nat} (hc0 : Cel N v 161 (oM B F V)) (hc1 : Cel N v 165 (iarr E 400 t)) (hq0 : F 15 = (a : Int)) (hq1 : F 19 = (n : Int)) (hq2 : a ≤ n ∧ n ≤ 400) (hq3 : ∀ i : Nat, 0 ≤ t i ∧ t i ≤ 255) : gM yX12_next wsX12_next ({ frames := 2, cells := 0, slots := 0, locals := 45 }) E B N v [.ref (B + 161)] (po0 N (fun ρ v' => ρ = none ∧ (va_up v 161 (oM B (va_up (va_up (va_up F 15 (tokE t n a : Int)) 16 (skT t n a : Int)) 17 (tokK t n a)) (tokV t n a))) = v')) := by
  refine x_met (nm := "next") (by decide +kernel) rfl (Nat.le_of_ble_eq_true rfl) rfl (fun Γ K KR hnL hnm => ?_)
  show XW Γ N v [(0, .ref (B + 161))] 0 0 0 []
  refine x_v (cel_pad hc0) ?_
  refine x_v (w := (va_up v 161 (oM B (va_up F 15 (a : Int)) V))) (by rw [up_same hq0]) ?_
  have LOOP0 : ∀ (n_0 : Nat) (at1 : Nat), (at1 ≤ n) → (skT t n at1 = skT t n a) → (n - at1) < n_0 → XW Γ N (va_up v 161 (oM B (va_up F 15 (at1 : Int)) V)) [(0, .ref (B + 161))] 0 0 0 [] := by
    intro n_0
    induction n_0 with
    | zero =>
      intro at1 hi0_0 hi0_1 hm_0
      exfalso; omega
    | succ n_0 ih0 =>
      intro at1 hi0_0 hi0_1 hm_0
      refine x_aload_n (pc := 0) 0 K rfl rfl dX12_next_0 ?_
      refine x_get (pc := 1) (C := RX12) (T := TX12) (n := 26) (ci := 11) (idx := 88) (ref := "BorderBedsModel") (x := .int (zI (at1 : Int)))  K (cel_self hc0.1) rfl (by decide +kernel) 15 (by decide) (by decide +kernel) rfl rfl dX12_next_1 ?_
      refine x_aload_n (pc := 4) 0 K rfl rfl dX12_next_4 ?_
      refine x_get (pc := 5) (C := RX12) (T := TX12) (n := 26) (ci := 11) (idx := 91) (ref := "BorderBedsModel") (x := .int (zI (F 19)))  K (cel_self hc0.1) rfl (by decide +kernel) 19 (by decide) (by decide +kernel) rfl rfl dX12_next_5 ?_
      refine x_icmp_ge (pc := 8) (tgt := 52) K (by omega) (by omega) dX12_next_8 (by decide) (fun h_8 => ?_) (fun h_8 => ?_)
      · skip
        have hsk : skT t n a = at1 := by rw [← hi0_1]; exact skT_end (by omega)
        refine x_aload_n (pc := 52) 0 K rfl rfl dX12_next_52 ?_
        refine x_aload_n (pc := 53) 0 K rfl rfl dX12_next_53 ?_
        refine x_get (pc := 54) (C := RX12) (T := TX12) (n := 26) (ci := 11) (idx := 88) (ref := "BorderBedsModel") (x := .int (zI (at1 : Int)))  K (cel_self hc0.1) rfl (by decide +kernel) 15 (by decide) (by decide +kernel) rfl rfl dX12_next_54 ?_
        refine x_put (pc := 57) (C := RX12) (T := TX12) (n := 26) (ci := 11) (idx := 94) (ref := "BorderBedsModel") (ty := .int)  K (cel_self hc0.1) rfl (by decide +kernel) tyX12 tyX12_ok nmX12 16 (by decide) (by decide +kernel) rfl rfl (by decide +kernel) rfl rfl (Nat.le_of_ble_eq_true rfl) dX12_next_57 ?_
        refine x_v (w := (va_up v 161 (oM B (va_up (va_up F 15 (at1 : Int)) 16 (at1 : Int)) V))) (up_at0).symm ?_
        refine x_aload_n (pc := 60) 0 K rfl rfl dX12_next_60 ?_
        refine x_aload_n (pc := 61) 0 K rfl rfl dX12_next_61 ?_
        refine x_get (pc := 62) (C := RX12) (T := TX12) (n := 26) (ci := 11) (idx := 88) (ref := "BorderBedsModel") (x := .int (zI (at1 : Int)))  K (cel_self hc0.1) rfl (by decide +kernel) 15 (by decide) (by decide +kernel) rfl rfl dX12_next_62 ?_
        refine x_aload_n (pc := 65) 0 K rfl rfl dX12_next_65 ?_
        refine x_get (pc := 66) (C := RX12) (T := TX12) (n := 26) (ci := 11) (idx := 91) (ref := "BorderBedsModel") (x := .int (zI (F 19)))  K (cel_self hc0.1) rfl (by decide +kernel) 19 (by decide) (by decide +kernel) rfl rfl dX12_next_66 ?_
        refine x_icmp_ge (pc := 69) (tgt := 87) K (by omega) (by omega) dX12_next_69 (by decide) (fun h_69 => ?_) (fun h_69 => ?_)
        · skip
          refine x_iconst (pc := 87) K dX12_next_87 ?_
          refine x_nm (fun tk htk0 => ?_)
          have htk : tk = if at1 < n then srt (t at1) else 0 := by rw [htk0, if_neg (by omega)]
          have htr : 0 ≤ tk ∧ tk ≤ 4 := by have := srt_rng (t at1); rw [htk]; split <;> omega
          refine x_put (pc := 88) (C := RX12) (T := TX12) (n := 26) (ci := 11) (idx := 100) (ref := "BorderBedsModel") (ty := .int)  K (cel_self hc0.1) rfl (by decide +kernel) tyX12 tyX12_ok nmX12 17 (by decide) (by decide +kernel) rfl rfl (by decide +kernel) rfl rfl (Nat.le_of_ble_eq_true rfl) dX12_next_88 ?_
          refine x_v (w := (va_up v 161 (oM B (va_up (va_up (va_up F 15 (at1 : Int)) 16 (at1 : Int)) 17 tk) V))) (up_at0).symm ?_
          refine x_aload_n (pc := 91) 0 K rfl rfl dX12_next_91 ?_
          refine x_lconst (pc := 92) (0) K (by decide) dX12_next_92 ?_
          refine x_put (pc := 93) (C := RX12) (T := TX12) (n := 26) (ci := 11) (idx := 103) (ref := "BorderBedsModel") (ty := .long)  K (cel_self hc0.1) rfl (by decide +kernel) tyX12 tyX12_ok nmX12 18 (by decide) (by decide +kernel) rfl rfl (by decide +kernel) rfl rfl (Nat.le_of_ble_eq_true rfl) dX12_next_93 ?_
          refine x_v (w := (va_up v 161 (oM B (va_up (va_up (va_up F 15 (at1 : Int)) 16 (at1 : Int)) 17 tk) 0))) (up_at0).symm ?_
          refine x_aload_n (pc := 96) 0 K rfl rfl dX12_next_96 ?_
          refine x_dup (pc := 97) K rfl dX12_next_97 ?_
          refine x_get (pc := 98) (C := RX12) (T := TX12) (n := 26) (ci := 11) (idx := 88) (ref := "BorderBedsModel") (x := .int (zI (at1 : Int)))  K (cel_self hc0.1) rfl (by decide +kernel) 15 (by decide) (by decide +kernel) rfl rfl dX12_next_98 ?_
          refine x_aload_n (pc := 101) 0 K rfl rfl dX12_next_101 ?_
          refine x_get (pc := 102) (C := RX12) (T := TX12) (n := 26) (ci := 11) (idx := 100) (ref := "BorderBedsModel") (x := .int (zI tk))  K (cel_self hc0.1) rfl (by decide +kernel) 17 (by decide) (by decide +kernel) rfl rfl dX12_next_102 ?_
          refine x_iconst (pc := 105) K dX12_next_105 ?_
          refine x_icmp_le (pc := 106) (tgt := 113) K (by omega) (by decide) dX12_next_106 (by decide) (fun h_106 => ?_) (fun h_106 => ?_)
          · skip
            refine x_iconst (pc := 113) K dX12_next_113 ?_
            refine x_iadd (pc := 114) K dX12_next_114 ?_
            refine x_put (pc := 115) (C := RX12) (T := TX12) (n := 26) (ci := 11) (idx := 88) (ref := "BorderBedsModel") (ty := .int)  K (cel_self hc0.1) rfl (by decide +kernel) tyX12 tyX12_ok nmX12 15 (by decide) (by decide +kernel) rfl rfl (by decide +kernel) rfl rfl (Nat.le_of_ble_eq_true rfl) dX12_next_115 ?_
            refine x_v (w := (va_up v 161 (oM B (va_up (va_up (va_up F 15 ((at1 : Int) + 0)) 16 (at1 : Int)) 17 tk) 0))) (up_at0).symm ?_
            have LOOP118 : ∀ (n_118 : Nat) (zq : Nat) (y : Int), (zq ≤ 400) → (((tk = 1 ∨ tk = 2) ∧ at1 ≤ zq ∧ reT t n tk zq = reT t n tk at1 ∧ y = valT t tk at1 (zq - at1)) ∨ (¬ (tk = 1 ∨ tk = 2) ∧ (zq : Int) = (at1 : Int) + (if 2 < tk then 1 else 0) ∧ y = 0)) → (n + 1 - zq) < n_118 → XW Γ N (va_up v 161 (oM B (va_up (va_up (va_up F 15 (zq : Int)) 16 (at1 : Int)) 17 tk) y)) [(0, .ref (B + 161))] 0 0 118 [] := by
              intro n_118
              induction n_118 with
              | zero =>
                intro zq y hi118_0 hi118_1 hm_118
                exfalso; omega
              | succ n_118 ih118 =>
                intro zq y hi118_0 hi118_1 hm_118
                refine x_aload_n (pc := 118) 0 K rfl rfl dX12_next_118 ?_
                refine x_get (pc := 119) (C := RX12) (T := TX12) (n := 26) (ci := 11) (idx := 100) (ref := "BorderBedsModel") (x := .int (zI tk))  K (cel_self hc0.1) rfl (by decide +kernel) 17 (by decide) (by decide +kernel) rfl rfl dX12_next_119 ?_
                refine x_if_le (pc := 122) (tgt := 251) K (by omega) dX12_next_122 (by decide) (fun h_122 => ?_) (fun h_122 => ?_)
                · skip
                  have hend : (tk = 1 ∨ tk = 2) → ¬ (zq < n ∧ srt (t zq) = tk) := by omega
                  refine x_aload_n (pc := 251) 0 K rfl rfl dX12_next_251 ?_
                  refine x_aload_n (pc := 252) 0 K rfl rfl dX12_next_252 ?_
                  refine x_get (pc := 253) (C := RX12) (T := TX12) (n := 26) (ci := 11) (idx := 100) (ref := "BorderBedsModel") (x := .int (zI tk))  K (cel_self hc0.1) rfl (by decide +kernel) 17 (by decide) (by decide +kernel) rfl rfl dX12_next_253 ?_
                  refine x_iconst (pc := 256) K dX12_next_256 ?_
                  refine x_icmp_ne (pc := 257) (tgt := 277) K (by omega) (by decide) dX12_next_257 (by decide) (fun h_257 => ?_) (fun h_257 => ?_)
                  · skip
                    refine x_aload_n (pc := 277) 0 K rfl rfl dX12_next_277 ?_
                    refine x_get (pc := 278) (C := RX12) (T := TX12) (n := 26) (ci := 11) (idx := 100) (ref := "BorderBedsModel") (x := .int (zI tk))  K (cel_self hc0.1) rfl (by decide +kernel) 17 (by decide) (by decide +kernel) rfl rfl dX12_next_278 ?_
                    refine x_put (pc := 281) (C := RX12) (T := TX12) (n := 26) (ci := 11) (idx := 100) (ref := "BorderBedsModel") (ty := .int)  K (cel_self hc0.1) rfl (by decide +kernel) tyX12 tyX12_ok nmX12 17 (by decide) (by decide +kernel) rfl rfl (by decide +kernel) rfl rfl (Nat.le_of_ble_eq_true rfl) dX12_next_281 ?_
                    refine x_v (w := (va_up v 161 (oM B (va_up (va_up (va_up F 15 (zq : Int)) 16 (at1 : Int)) 17 tk) y))) (up_at0).symm ?_
                    refine x_vret (pc := 284) K KR (by omega) (Nat.le_of_ble_eq_true rfl) (Nat.le_of_ble_eq_true rfl) dX12_next_284 ?_
                    obtain ⟨hE, hV, hK⟩ := tok_fin hsk htk hi118_1 hend
                    have hKK : tokK t n a = tk := by rw [hK]; split <;> omega
                    exact ⟨rfl, rfl, by rw [hE, hV, hKK, hsk]⟩
                  · skip
                    refine x_aload_n (pc := 260) 0 K rfl rfl dX12_next_260 ?_
                    refine x_get (pc := 261) (C := RX12) (T := TX12) (n := 26) (ci := 11) (idx := 88) (ref := "BorderBedsModel") (x := .int (zI (zq : Int)))  K (cel_self hc0.1) rfl (by decide +kernel) 15 (by decide) (by decide +kernel) rfl rfl dX12_next_261 ?_
                    refine x_aload_n (pc := 264) 0 K rfl rfl dX12_next_264 ?_
                    refine x_get (pc := 265) (C := RX12) (T := TX12) (n := 26) (ci := 11) (idx := 94) (ref := "BorderBedsModel") (x := .int (zI (at1 : Int)))  K (cel_self hc0.1) rfl (by decide +kernel) 16 (by decide) (by decide +kernel) rfl rfl dX12_next_265 ?_
                    refine x_isub (pc := 268) K dX12_next_268 ?_
                    refine x_iconst (pc := 269) K dX12_next_269 ?_
                    refine x_icmp_le (pc := 270) (tgt := 277) K (by omega) (by decide) dX12_next_270 (by decide) (fun h_270 => ?_) (fun h_270 => ?_)
                    · skip
                      refine x_aload_n (pc := 277) 0 K rfl rfl dX12_next_277 ?_
                      refine x_get (pc := 278) (C := RX12) (T := TX12) (n := 26) (ci := 11) (idx := 100) (ref := "BorderBedsModel") (x := .int (zI tk))  K (cel_self hc0.1) rfl (by decide +kernel) 17 (by decide) (by decide +kernel) rfl rfl dX12_next_278 ?_
                      refine x_put (pc := 281) (C := RX12) (T := TX12) (n := 26) (ci := 11) (idx := 100) (ref := "BorderBedsModel") (ty := .int)  K (cel_self hc0.1) rfl (by decide +kernel) tyX12 tyX12_ok nmX12 17 (by decide) (by decide +kernel) rfl rfl (by decide +kernel) rfl rfl (Nat.le_of_ble_eq_true rfl) dX12_next_281 ?_
                      refine x_v (w := (va_up v 161 (oM B (va_up (va_up (va_up F 15 (zq : Int)) 16 (at1 : Int)) 17 tk) y))) (up_at0).symm ?_
                      refine x_vret (pc := 284) K KR (by omega) (Nat.le_of_ble_eq_true rfl) (Nat.le_of_ble_eq_true rfl) dX12_next_284 ?_
                      obtain ⟨hE, hV, hK⟩ := tok_fin hsk htk hi118_1 hend
                      have hKK : tokK t n a = tk := by rw [hK]; split <;> omega
                      exact ⟨rfl, rfl, by rw [hE, hV, hKK, hsk]⟩
                    · skip
                      refine x_iconst (pc := 273) K dX12_next_273 ?_
                      refine x_goto (pc := 274) (tgt := 281) K dX12_next_274 (by decide) ?_
                      refine x_put (pc := 281) (C := RX12) (T := TX12) (n := 26) (ci := 11) (idx := 100) (ref := "BorderBedsModel") (ty := .int)  K (cel_self hc0.1) rfl (by decide +kernel) tyX12 tyX12_ok nmX12 17 (by decide) (by decide +kernel) rfl rfl (by decide +kernel) rfl rfl (Nat.le_of_ble_eq_true rfl) dX12_next_281 ?_
                      refine x_v (w := (va_up v 161 (oM B (va_up (va_up (va_up F 15 (zq : Int)) 16 (at1 : Int)) 17 4) y))) (up_at0).symm ?_
                      refine x_vret (pc := 284) K KR (by omega) (Nat.le_of_ble_eq_true rfl) (Nat.le_of_ble_eq_true rfl) dX12_next_284 ?_
                      obtain ⟨hE, hV, hK⟩ := tok_fin hsk htk hi118_1 hend
                      have hKK : tokK t n a = 4 := by rw [hK]; split <;> omega
                      exact ⟨rfl, rfl, by rw [hE, hV, hKK, hsk]⟩
                · skip
                  refine x_aload_n (pc := 125) 0 K rfl rfl dX12_next_125 ?_
                  refine x_get (pc := 126) (C := RX12) (T := TX12) (n := 26) (ci := 11) (idx := 100) (ref := "BorderBedsModel") (x := .int (zI tk))  K (cel_self hc0.1) rfl (by decide +kernel) 17 (by decide) (by decide +kernel) rfl rfl dX12_next_126 ?_
                  refine x_iconst (pc := 129) K dX12_next_129 ?_
                  refine x_icmp_ge (pc := 130) (tgt := 251) K (by omega) (by decide) dX12_next_130 (by decide) (fun h_130 => ?_) (fun h_130 => ?_)
                  · skip
                    have hend : (tk = 1 ∨ tk = 2) → ¬ (zq < n ∧ srt (t zq) = tk) := by omega
                    refine x_aload_n (pc := 251) 0 K rfl rfl dX12_next_251 ?_
                    refine x_aload_n (pc := 252) 0 K rfl rfl dX12_next_252 ?_
                    refine x_get (pc := 253) (C := RX12) (T := TX12) (n := 26) (ci := 11) (idx := 100) (ref := "BorderBedsModel") (x := .int (zI tk))  K (cel_self hc0.1) rfl (by decide +kernel) 17 (by decide) (by decide +kernel) rfl rfl dX12_next_253 ?_
                    refine x_iconst (pc := 256) K dX12_next_256 ?_
                    refine x_icmp_ne (pc := 257) (tgt := 277) K (by omega) (by decide) dX12_next_257 (by decide) (fun h_257 => ?_) (fun h_257 => ?_)
                    · skip
                      refine x_aload_n (pc := 277) 0 K rfl rfl dX12_next_277 ?_
                      refine x_get (pc := 278) (C := RX12) (T := TX12) (n := 26) (ci := 11) (idx := 100) (ref := "BorderBedsModel") (x := .int (zI tk))  K (cel_self hc0.1) rfl (by decide +kernel) 17 (by decide) (by decide +kernel) rfl rfl dX12_next_278 ?_
                      refine x_put (pc := 281) (C := RX12) (T := TX12) (n := 26) (ci := 11) (idx := 100) (ref := "BorderBedsModel") (ty := .int)  K (cel_self hc0.1) rfl (by decide +kernel) tyX12 tyX12_ok nmX12 17 (by decide) (by decide +kernel) rfl rfl (by decide +kernel) rfl rfl (Nat.le_of_ble_eq_true rfl) dX12_next_281 ?_
                      refine x_v (w := (va_up v 161 (oM B (va_up (va_up (va_up F 15 (zq : Int)) 16 (at1 : Int)) 17 tk) y))) (up_at0).symm ?_
                      refine x_vret (pc := 284) K KR (by omega) (Nat.le_of_ble_eq_true rfl) (Nat.le_of_ble_eq_true rfl) dX12_next_284 ?_
                      obtain ⟨hE, hV, hK⟩ := tok_fin hsk htk hi118_1 hend
                      have hKK : tokK t n a = tk := by rw [hK]; split <;> omega
                      exact ⟨rfl, rfl, by rw [hE, hV, hKK, hsk]⟩
                    · skip
                      refine x_aload_n (pc := 260) 0 K rfl rfl dX12_next_260 ?_
                      refine x_get (pc := 261) (C := RX12) (T := TX12) (n := 26) (ci := 11) (idx := 88) (ref := "BorderBedsModel") (x := .int (zI (zq : Int)))  K (cel_self hc0.1) rfl (by decide +kernel) 15 (by decide) (by decide +kernel) rfl rfl dX12_next_261 ?_
                      refine x_aload_n (pc := 264) 0 K rfl rfl dX12_next_264 ?_
                      refine x_get (pc := 265) (C := RX12) (T := TX12) (n := 26) (ci := 11) (idx := 94) (ref := "BorderBedsModel") (x := .int (zI (at1 : Int)))  K (cel_self hc0.1) rfl (by decide +kernel) 16 (by decide) (by decide +kernel) rfl rfl dX12_next_265 ?_
                      refine x_isub (pc := 268) K dX12_next_268 ?_
                      refine x_iconst (pc := 269) K dX12_next_269 ?_
                      refine x_icmp_le (pc := 270) (tgt := 277) K (by omega) (by decide) dX12_next_270 (by decide) (fun h_270 => ?_) (fun h_270 => ?_)
                      · skip
                        refine x_aload_n (pc := 277) 0 K rfl rfl dX12_next_277 ?_
                        refine x_get (pc := 278) (C := RX12) (T := TX12) (n := 26) (ci := 11) (idx := 100) (ref := "BorderBedsModel") (x := .int (zI tk))  K (cel_self hc0.1) rfl (by decide +kernel) 17 (by decide) (by decide +kernel) rfl rfl dX12_next_278 ?_
                        refine x_put (pc := 281) (C := RX12) (T := TX12) (n := 26) (ci := 11) (idx := 100) (ref := "BorderBedsModel") (ty := .int)  K (cel_self hc0.1) rfl (by decide +kernel) tyX12 tyX12_ok nmX12 17 (by decide) (by decide +kernel) rfl rfl (by decide +kernel) rfl rfl (Nat.le_of_ble_eq_true rfl) dX12_next_281 ?_
                        refine x_v (w := (va_up v 161 (oM B (va_up (va_up (va_up F 15 (zq : Int)) 16 (at1 : Int)) 17 tk) y))) (up_at0).symm ?_
                        refine x_vret (pc := 284) K KR (by omega) (Nat.le_of_ble_eq_true rfl) (Nat.le_of_ble_eq_true rfl) dX12_next_284 ?_
                        obtain ⟨hE, hV, hK⟩ := tok_fin hsk htk hi118_1 hend
                        have hKK : tokK t n a = tk := by rw [hK]; split <;> omega
                        exact ⟨rfl, rfl, by rw [hE, hV, hKK, hsk]⟩
                      · skip
                        refine x_iconst (pc := 273) K dX12_next_273 ?_
                        refine x_goto (pc := 274) (tgt := 281) K dX12_next_274 (by decide) ?_
                        refine x_put (pc := 281) (C := RX12) (T := TX12) (n := 26) (ci := 11) (idx := 100) (ref := "BorderBedsModel") (ty := .int)  K (cel_self hc0.1) rfl (by decide +kernel) tyX12 tyX12_ok nmX12 17 (by decide) (by decide +kernel) rfl rfl (by decide +kernel) rfl rfl (Nat.le_of_ble_eq_true rfl) dX12_next_281 ?_
                        refine x_v (w := (va_up v 161 (oM B (va_up (va_up (va_up F 15 (zq : Int)) 16 (at1 : Int)) 17 4) y))) (up_at0).symm ?_
                        refine x_vret (pc := 284) K KR (by omega) (Nat.le_of_ble_eq_true rfl) (Nat.le_of_ble_eq_true rfl) dX12_next_284 ?_
                        obtain ⟨hE, hV, hK⟩ := tok_fin hsk htk hi118_1 hend
                        have hKK : tokK t n a = 4 := by rw [hK]; split <;> omega
                        exact ⟨rfl, rfl, by rw [hE, hV, hKK, hsk]⟩
                  · skip
                    refine x_aload_n (pc := 133) 0 K rfl rfl dX12_next_133 ?_
                    refine x_get (pc := 134) (C := RX12) (T := TX12) (n := 26) (ci := 11) (idx := 88) (ref := "BorderBedsModel") (x := .int (zI (zq : Int)))  K (cel_self hc0.1) rfl (by decide +kernel) 15 (by decide) (by decide +kernel) rfl rfl dX12_next_134 ?_
                    refine x_aload_n (pc := 137) 0 K rfl rfl dX12_next_137 ?_
                    refine x_get (pc := 138) (C := RX12) (T := TX12) (n := 26) (ci := 11) (idx := 91) (ref := "BorderBedsModel") (x := .int (zI (F 19)))  K (cel_self hc0.1) rfl (by decide +kernel) 19 (by decide) (by decide +kernel) rfl rfl dX12_next_138 ?_
                    refine x_icmp_ge (pc := 141) (tgt := 251) K (by omega) (by omega) dX12_next_141 (by decide) (fun h_141 => ?_) (fun h_141 => ?_)
                    · skip
                      have hend : (tk = 1 ∨ tk = 2) → ¬ (zq < n ∧ srt (t zq) = tk) := by omega
                      refine x_aload_n (pc := 251) 0 K rfl rfl dX12_next_251 ?_
                      refine x_aload_n (pc := 252) 0 K rfl rfl dX12_next_252 ?_
                      refine x_get (pc := 253) (C := RX12) (T := TX12) (n := 26) (ci := 11) (idx := 100) (ref := "BorderBedsModel") (x := .int (zI tk))  K (cel_self hc0.1) rfl (by decide +kernel) 17 (by decide) (by decide +kernel) rfl rfl dX12_next_253 ?_
                      refine x_iconst (pc := 256) K dX12_next_256 ?_
                      refine x_icmp_ne (pc := 257) (tgt := 277) K (by omega) (by decide) dX12_next_257 (by decide) (fun h_257 => ?_) (fun h_257 => ?_)
                      · skip
                        refine x_aload_n (pc := 277) 0 K rfl rfl dX12_next_277 ?_
                        refine x_get (pc := 278) (C := RX12) (T := TX12) (n := 26) (ci := 11) (idx := 100) (ref := "BorderBedsModel") (x := .int (zI tk))  K (cel_self hc0.1) rfl (by decide +kernel) 17 (by decide) (by decide +kernel) rfl rfl dX12_next_278 ?_
                        refine x_put (pc := 281) (C := RX12) (T := TX12) (n := 26) (ci := 11) (idx := 100) (ref := "BorderBedsModel") (ty := .int)  K (cel_self hc0.1) rfl (by decide +kernel) tyX12 tyX12_ok nmX12 17 (by decide) (by decide +kernel) rfl rfl (by decide +kernel) rfl rfl (Nat.le_of_ble_eq_true rfl) dX12_next_281 ?_
                        refine x_v (w := (va_up v 161 (oM B (va_up (va_up (va_up F 15 (zq : Int)) 16 (at1 : Int)) 17 tk) y))) (up_at0).symm ?_
                        refine x_vret (pc := 284) K KR (by omega) (Nat.le_of_ble_eq_true rfl) (Nat.le_of_ble_eq_true rfl) dX12_next_284 ?_
                        obtain ⟨hE, hV, hK⟩ := tok_fin hsk htk hi118_1 hend
                        have hKK : tokK t n a = tk := by rw [hK]; split <;> omega
                        exact ⟨rfl, rfl, by rw [hE, hV, hKK, hsk]⟩
                      · skip
                        refine x_aload_n (pc := 260) 0 K rfl rfl dX12_next_260 ?_
                        refine x_get (pc := 261) (C := RX12) (T := TX12) (n := 26) (ci := 11) (idx := 88) (ref := "BorderBedsModel") (x := .int (zI (zq : Int)))  K (cel_self hc0.1) rfl (by decide +kernel) 15 (by decide) (by decide +kernel) rfl rfl dX12_next_261 ?_
                        refine x_aload_n (pc := 264) 0 K rfl rfl dX12_next_264 ?_
                        refine x_get (pc := 265) (C := RX12) (T := TX12) (n := 26) (ci := 11) (idx := 94) (ref := "BorderBedsModel") (x := .int (zI (at1 : Int)))  K (cel_self hc0.1) rfl (by decide +kernel) 16 (by decide) (by decide +kernel) rfl rfl dX12_next_265 ?_
                        refine x_isub (pc := 268) K dX12_next_268 ?_
                        refine x_iconst (pc := 269) K dX12_next_269 ?_
                        refine x_icmp_le (pc := 270) (tgt := 277) K (by omega) (by decide) dX12_next_270 (by decide) (fun h_270 => ?_) (fun h_270 => ?_)
                        · skip
                          refine x_aload_n (pc := 277) 0 K rfl rfl dX12_next_277 ?_
                          refine x_get (pc := 278) (C := RX12) (T := TX12) (n := 26) (ci := 11) (idx := 100) (ref := "BorderBedsModel") (x := .int (zI tk))  K (cel_self hc0.1) rfl (by decide +kernel) 17 (by decide) (by decide +kernel) rfl rfl dX12_next_278 ?_
                          refine x_put (pc := 281) (C := RX12) (T := TX12) (n := 26) (ci := 11) (idx := 100) (ref := "BorderBedsModel") (ty := .int)  K (cel_self hc0.1) rfl (by decide +kernel) tyX12 tyX12_ok nmX12 17 (by decide) (by decide +kernel) rfl rfl (by decide +kernel) rfl rfl (Nat.le_of_ble_eq_true rfl) dX12_next_281 ?_
                          refine x_v (w := (va_up v 161 (oM B (va_up (va_up (va_up F 15 (zq : Int)) 16 (at1 : Int)) 17 tk) y))) (up_at0).symm ?_
                          refine x_vret (pc := 284) K KR (by omega) (Nat.le_of_ble_eq_true rfl) (Nat.le_of_ble_eq_true rfl) dX12_next_284 ?_
                          obtain ⟨hE, hV, hK⟩ := tok_fin hsk htk hi118_1 hend
                          have hKK : tokK t n a = tk := by rw [hK]; split <;> omega
                          exact ⟨rfl, rfl, by rw [hE, hV, hKK, hsk]⟩
                        · skip
                          refine x_iconst (pc := 273) K dX12_next_273 ?_
                          refine x_goto (pc := 274) (tgt := 281) K dX12_next_274 (by decide) ?_
                          refine x_put (pc := 281) (C := RX12) (T := TX12) (n := 26) (ci := 11) (idx := 100) (ref := "BorderBedsModel") (ty := .int)  K (cel_self hc0.1) rfl (by decide +kernel) tyX12 tyX12_ok nmX12 17 (by decide) (by decide +kernel) rfl rfl (by decide +kernel) rfl rfl (Nat.le_of_ble_eq_true rfl) dX12_next_281 ?_
                          refine x_v (w := (va_up v 161 (oM B (va_up (va_up (va_up F 15 (zq : Int)) 16 (at1 : Int)) 17 4) y))) (up_at0).symm ?_
                          refine x_vret (pc := 284) K KR (by omega) (Nat.le_of_ble_eq_true rfl) (Nat.le_of_ble_eq_true rfl) dX12_next_284 ?_
                          obtain ⟨hE, hV, hK⟩ := tok_fin hsk htk hi118_1 hend
                          have hKK : tokK t n a = 4 := by rw [hK]; split <;> omega
                          exact ⟨rfl, rfl, by rw [hE, hV, hKK, hsk]⟩
                    · skip
                      have b152 := hq3 zq
                      have s152 := srt_rng (t zq)
                      refine x_aload_n (pc := 144) 0 K rfl rfl dX12_next_144 ?_
                      refine x_get (pc := 145) (C := RX12) (T := TX12) (n := 26) (ci := 11) (idx := 19) (ref := "BorderBedsModel") (x := .ref (B + 165))  K (cel_self hc0.1) rfl (by decide +kernel) 4 (by decide) (by decide +kernel) rfl rfl dX12_next_145 ?_
                      refine x_aload_n (pc := 148) 0 K rfl rfl dX12_next_148 ?_
                      refine x_get (pc := 149) (C := RX12) (T := TX12) (n := 26) (ci := 11) (idx := 88) (ref := "BorderBedsModel") (x := .int (zI (zq : Int)))  K (cel_self hc0.1) rfl (by decide +kernel) 15 (by decide) (by decide +kernel) rfl rfl dX12_next_149 ?_
                      refine x_iald (pc := 152) zq K (cel_ne hc1 (by decide)) rfl (by omega) (by decide) dX12_next_152 ?_
                      refine x_callS (pc := 153) (As := [.int (zI (t zq))]) K (c_X12_sort (E := E) (B := B) (N := N)    (by omega)) gX12_next_X12_sort rfl (na := 1) (by decide +kernel) rfl ⟨(Nat.le_of_ble_eq_true rfl), (Nat.le_of_ble_eq_true rfl)⟩ (st := []) rfl (Nat.le_of_ble_eq_true rfl) ⟨(Nat.le_of_ble_eq_true rfl), (Nat.le_of_ble_eq_true rfl)⟩ dX12_next_153 (fun r153 N153 w153 hpo153 hN153 => ?_)
                      obtain ⟨rfl, rfl, rfl⟩ := hpo153
                      refine x_st (st' := [.int (zI (srt (t zq)))]) rfl ?_
                      refine x_aload_n (pc := 156) 0 K rfl rfl dX12_next_156 ?_
                      refine x_get (pc := 157) (C := RX12) (T := TX12) (n := 26) (ci := 11) (idx := 100) (ref := "BorderBedsModel") (x := .int (zI tk))  K (cel_self hc0.1) rfl (by decide +kernel) 17 (by decide) (by decide +kernel) rfl rfl dX12_next_157 ?_
                      refine x_icmp_ne (pc := 160) (tgt := 251) K (by omega) (by omega) dX12_next_160 (by decide) (fun h_160 => ?_) (fun h_160 => ?_)
                      · skip
                        have hend : (tk = 1 ∨ tk = 2) → ¬ (zq < n ∧ srt (t zq) = tk) := by omega
                        refine x_aload_n (pc := 251) 0 K rfl rfl dX12_next_251 ?_
                        refine x_aload_n (pc := 252) 0 K rfl rfl dX12_next_252 ?_
                        refine x_get (pc := 253) (C := RX12) (T := TX12) (n := 26) (ci := 11) (idx := 100) (ref := "BorderBedsModel") (x := .int (zI tk))  K (cel_self hc0.1) rfl (by decide +kernel) 17 (by decide) (by decide +kernel) rfl rfl dX12_next_253 ?_
                        refine x_iconst (pc := 256) K dX12_next_256 ?_
                        refine x_icmp_ne (pc := 257) (tgt := 277) K (by omega) (by decide) dX12_next_257 (by decide) (fun h_257 => ?_) (fun h_257 => ?_)
                        · skip
                          refine x_aload_n (pc := 277) 0 K rfl rfl dX12_next_277 ?_
                          refine x_get (pc := 278) (C := RX12) (T := TX12) (n := 26) (ci := 11) (idx := 100) (ref := "BorderBedsModel") (x := .int (zI tk))  K (cel_self hc0.1) rfl (by decide +kernel) 17 (by decide) (by decide +kernel) rfl rfl dX12_next_278 ?_
                          refine x_put (pc := 281) (C := RX12) (T := TX12) (n := 26) (ci := 11) (idx := 100) (ref := "BorderBedsModel") (ty := .int)  K (cel_self hc0.1) rfl (by decide +kernel) tyX12 tyX12_ok nmX12 17 (by decide) (by decide +kernel) rfl rfl (by decide +kernel) rfl rfl (Nat.le_of_ble_eq_true rfl) dX12_next_281 ?_
                          refine x_v (w := (va_up v 161 (oM B (va_up (va_up (va_up F 15 (zq : Int)) 16 (at1 : Int)) 17 tk) y))) (up_at0).symm ?_
                          refine x_vret (pc := 284) K KR (by omega) (Nat.le_of_ble_eq_true rfl) (Nat.le_of_ble_eq_true rfl) dX12_next_284 ?_
                          obtain ⟨hE, hV, hK⟩ := tok_fin hsk htk hi118_1 hend
                          have hKK : tokK t n a = tk := by rw [hK]; split <;> omega
                          exact ⟨rfl, rfl, by rw [hE, hV, hKK, hsk]⟩
                        · skip
                          refine x_aload_n (pc := 260) 0 K rfl rfl dX12_next_260 ?_
                          refine x_get (pc := 261) (C := RX12) (T := TX12) (n := 26) (ci := 11) (idx := 88) (ref := "BorderBedsModel") (x := .int (zI (zq : Int)))  K (cel_self hc0.1) rfl (by decide +kernel) 15 (by decide) (by decide +kernel) rfl rfl dX12_next_261 ?_
                          refine x_aload_n (pc := 264) 0 K rfl rfl dX12_next_264 ?_
                          refine x_get (pc := 265) (C := RX12) (T := TX12) (n := 26) (ci := 11) (idx := 94) (ref := "BorderBedsModel") (x := .int (zI (at1 : Int)))  K (cel_self hc0.1) rfl (by decide +kernel) 16 (by decide) (by decide +kernel) rfl rfl dX12_next_265 ?_
                          refine x_isub (pc := 268) K dX12_next_268 ?_
                          refine x_iconst (pc := 269) K dX12_next_269 ?_
                          refine x_icmp_le (pc := 270) (tgt := 277) K (by omega) (by decide) dX12_next_270 (by decide) (fun h_270 => ?_) (fun h_270 => ?_)
                          · skip
                            refine x_aload_n (pc := 277) 0 K rfl rfl dX12_next_277 ?_
                            refine x_get (pc := 278) (C := RX12) (T := TX12) (n := 26) (ci := 11) (idx := 100) (ref := "BorderBedsModel") (x := .int (zI tk))  K (cel_self hc0.1) rfl (by decide +kernel) 17 (by decide) (by decide +kernel) rfl rfl dX12_next_278 ?_
                            refine x_put (pc := 281) (C := RX12) (T := TX12) (n := 26) (ci := 11) (idx := 100) (ref := "BorderBedsModel") (ty := .int)  K (cel_self hc0.1) rfl (by decide +kernel) tyX12 tyX12_ok nmX12 17 (by decide) (by decide +kernel) rfl rfl (by decide +kernel) rfl rfl (Nat.le_of_ble_eq_true rfl) dX12_next_281 ?_
                            refine x_v (w := (va_up v 161 (oM B (va_up (va_up (va_up F 15 (zq : Int)) 16 (at1 : Int)) 17 tk) y))) (up_at0).symm ?_
                            refine x_vret (pc := 284) K KR (by omega) (Nat.le_of_ble_eq_true rfl) (Nat.le_of_ble_eq_true rfl) dX12_next_284 ?_
                            obtain ⟨hE, hV, hK⟩ := tok_fin hsk htk hi118_1 hend
                            have hKK : tokK t n a = tk := by rw [hK]; split <;> omega
                            exact ⟨rfl, rfl, by rw [hE, hV, hKK, hsk]⟩
                          · skip
                            refine x_iconst (pc := 273) K dX12_next_273 ?_
                            refine x_goto (pc := 274) (tgt := 281) K dX12_next_274 (by decide) ?_
                            refine x_put (pc := 281) (C := RX12) (T := TX12) (n := 26) (ci := 11) (idx := 100) (ref := "BorderBedsModel") (ty := .int)  K (cel_self hc0.1) rfl (by decide +kernel) tyX12 tyX12_ok nmX12 17 (by decide) (by decide +kernel) rfl rfl (by decide +kernel) rfl rfl (Nat.le_of_ble_eq_true rfl) dX12_next_281 ?_
                            refine x_v (w := (va_up v 161 (oM B (va_up (va_up (va_up F 15 (zq : Int)) 16 (at1 : Int)) 17 4) y))) (up_at0).symm ?_
                            refine x_vret (pc := 284) K KR (by omega) (Nat.le_of_ble_eq_true rfl) (Nat.le_of_ble_eq_true rfl) dX12_next_284 ?_
                            obtain ⟨hE, hV, hK⟩ := tok_fin hsk htk hi118_1 hend
                            have hKK : tokK t n a = 4 := by rw [hK]; split <;> omega
                            exact ⟨rfl, rfl, by rw [hE, hV, hKK, hsk]⟩
                      · skip
                        have hgo : reT t n tk (zq + 1) = reT t n tk zq := reT_go (by omega) (by omega)
                        have hold : (tk = 1 ∨ tk = 2) ∧ at1 ≤ zq ∧ reT t n tk zq = reT t n tk at1 ∧ y = valT t tk at1 (zq - at1) := by
                          rcases hi118_1 with h | h
                          · exact h
                          · exfalso; have := h.1; omega
                        have hvs : valT t tk at1 (zq + 1 - at1) = if 7 < zq - at1 then -1 else if tk = 1 then 32 * valT t tk at1 (zq - at1) + t (at1 + (zq - at1)) - 96 else 10 * valT t tk at1 (zq - at1) + t (at1 + (zq - at1)) - 48 := by rw [show zq + 1 - at1 = (zq - at1) + 1 by omega]; rfl
                        rw [show at1 + (zq - at1) = zq by omega, ← hold.2.2.2] at hvs
                        refine x_aload_n (pc := 163) 0 K rfl rfl dX12_next_163 ?_
                        refine x_get (pc := 164) (C := RX12) (T := TX12) (n := 26) (ci := 11) (idx := 19) (ref := "BorderBedsModel") (x := .ref (B + 165))  K (cel_self hc0.1) rfl (by decide +kernel) 4 (by decide) (by decide +kernel) rfl rfl dX12_next_164 ?_
                        refine x_aload_n (pc := 167) 0 K rfl rfl dX12_next_167 ?_
                        refine x_get (pc := 168) (C := RX12) (T := TX12) (n := 26) (ci := 11) (idx := 88) (ref := "BorderBedsModel") (x := .int (zI (zq : Int)))  K (cel_self hc0.1) rfl (by decide +kernel) 15 (by decide) (by decide +kernel) rfl rfl dX12_next_168 ?_
                        refine x_iald (pc := 171) zq K (cel_ne hc1 (by decide)) rfl (by omega) (by decide) dX12_next_171 ?_
                        refine x_nm (fun z1 hz1 => ?_)
                        refine x_istore_n (pc := 172) K (L' := [(1, .int (zI z1)), (0, .ref (B + 161))]) hnL rfl (by decide) rfl dX12_next_172 ?_
                        refine x_aload_n (pc := 173) 1 K rfl rfl dX12_next_173 ?_
                        refine x_aload_n (pc := 174) 1 K rfl rfl dX12_next_174 ?_
                        refine x_get (pc := 175) (C := RX12) (T := TX12) (n := 26) (ci := 11) (idx := 88) (ref := "BorderBedsModel") (x := .int (zI (zq : Int)))  K (cel_self hc0.1) rfl (by decide +kernel) 15 (by decide) (by decide +kernel) rfl rfl dX12_next_175 ?_
                        refine x_aload_n (pc := 178) 1 K rfl rfl dX12_next_178 ?_
                        refine x_get (pc := 179) (C := RX12) (T := TX12) (n := 26) (ci := 11) (idx := 94) (ref := "BorderBedsModel") (x := .int (zI (at1 : Int)))  K (cel_self hc0.1) rfl (by decide +kernel) 16 (by decide) (by decide +kernel) rfl rfl dX12_next_179 ?_
                        refine x_isub (pc := 182) K dX12_next_182 ?_
                        refine x_bipush (pc := 183) K (by decide) dX12_next_183 ?_
                        refine x_icmp_le (pc := 185) (tgt := 194) K (by omega) (by decide) dX12_next_185 (by decide) (fun h_185 => ?_) (fun h_185 => ?_)
                        · skip
                          refine x_aload_n (pc := 194) 1 K rfl rfl dX12_next_194 ?_
                          refine x_get (pc := 195) (C := RX12) (T := TX12) (n := 26) (ci := 11) (idx := 100) (ref := "BorderBedsModel") (x := .int (zI tk))  K (cel_self hc0.1) rfl (by decide +kernel) 17 (by decide) (by decide +kernel) rfl rfl dX12_next_195 ?_
                          refine x_iconst (pc := 198) K dX12_next_198 ?_
                          refine x_icmp_ne (pc := 199) (tgt := 220) K (by omega) (by decide) dX12_next_199 (by decide) (fun h_199 => ?_) (fun h_199 => ?_)
                          · skip
                            refine x_ldc2 (pc := 220) (x := (10)) (10) K (by decide) (by decide +kernel) dX12_next_220 ?_
                            refine x_aload_n (pc := 223) 1 K rfl rfl dX12_next_223 ?_
                            refine x_get (pc := 224) (C := RX12) (T := TX12) (n := 26) (ci := 11) (idx := 103) (ref := "BorderBedsModel") (x := .long (zL y))  K (cel_self hc0.1) rfl (by decide +kernel) 18 (by decide) (by decide +kernel) rfl rfl dX12_next_224 ?_
                            refine x_lmul (pc := 227) K dX12_next_227 ?_
                            refine x_iload_n (pc := 228) 0 K rfl rfl dX12_next_228 ?_
                            refine x_i2l (pc := 229) K (by omega) dX12_next_229 ?_
                            refine x_ladd (pc := 230) K dX12_next_230 ?_
                            refine x_ldc2 (pc := 231) (x := (48)) (48) K (by decide) (by decide +kernel) dX12_next_231 ?_
                            refine x_lsub (pc := 234) K dX12_next_234 ?_
                            refine x_put (pc := 235) (C := RX12) (T := TX12) (n := 26) (ci := 11) (idx := 103) (ref := "BorderBedsModel") (ty := .long)  K (cel_self hc0.1) rfl (by decide +kernel) tyX12 tyX12_ok nmX12 18 (by decide) (by decide +kernel) rfl rfl (by decide +kernel) rfl rfl (Nat.le_of_ble_eq_true rfl) dX12_next_235 ?_
                            refine x_v (w := (va_up v 161 (oM B (va_up (va_up (va_up F 15 (zq : Int)) 16 (at1 : Int)) 17 tk) (((10 * y) + z1) - 48)))) (up_at0).symm ?_
                            refine x_aload_n (pc := 238) 1 K rfl rfl dX12_next_238 ?_
                            refine x_dup (pc := 239) K rfl dX12_next_239 ?_
                            refine x_get (pc := 240) (C := RX12) (T := TX12) (n := 26) (ci := 11) (idx := 88) (ref := "BorderBedsModel") (x := .int (zI (zq : Int)))  K (cel_self hc0.1) rfl (by decide +kernel) 15 (by decide) (by decide +kernel) rfl rfl dX12_next_240 ?_
                            refine x_iconst (pc := 243) K dX12_next_243 ?_
                            refine x_iadd (pc := 244) K dX12_next_244 ?_
                            refine x_put (pc := 245) (C := RX12) (T := TX12) (n := 26) (ci := 11) (idx := 88) (ref := "BorderBedsModel") (ty := .int)  K (cel_self hc0.1) rfl (by decide +kernel) tyX12 tyX12_ok nmX12 15 (by decide) (by decide +kernel) rfl rfl (by decide +kernel) rfl rfl (Nat.le_of_ble_eq_true rfl) dX12_next_245 ?_
                            refine x_v (w := (va_up v 161 (oM B (va_up (va_up (va_up F 15 ((zq : Int) + 1)) 16 (at1 : Int)) 17 tk) (((10 * y) + z1) - 48)))) (up_at0).symm ?_
                            refine x_goto (pc := 248) (tgt := 118) K dX12_next_248 (by decide) ?_
                            refine x_sub (L' := [(0, .ref (B + 161))]) [1] rfl ?_
                            exact ih118 (zq + 1) (((10 * y) + z1) - 48) (by omega) (by exact Or.inl ⟨hold.1, by omega, by rw [hgo]; exact hold.2.2.1, by rw [hvs]; split <;> (try split) <;> omega⟩) (by omega)
                          · skip
                            refine x_ldc2 (pc := 202) (x := (32)) (32) K (by decide) (by decide +kernel) dX12_next_202 ?_
                            refine x_aload_n (pc := 205) 1 K rfl rfl dX12_next_205 ?_
                            refine x_get (pc := 206) (C := RX12) (T := TX12) (n := 26) (ci := 11) (idx := 103) (ref := "BorderBedsModel") (x := .long (zL y))  K (cel_self hc0.1) rfl (by decide +kernel) 18 (by decide) (by decide +kernel) rfl rfl dX12_next_206 ?_
                            refine x_lmul (pc := 209) K dX12_next_209 ?_
                            refine x_iload_n (pc := 210) 0 K rfl rfl dX12_next_210 ?_
                            refine x_i2l (pc := 211) K (by omega) dX12_next_211 ?_
                            refine x_ladd (pc := 212) K dX12_next_212 ?_
                            refine x_ldc2 (pc := 213) (x := (96)) (96) K (by decide) (by decide +kernel) dX12_next_213 ?_
                            refine x_lsub (pc := 216) K dX12_next_216 ?_
                            refine x_goto (pc := 217) (tgt := 235) K dX12_next_217 (by decide) ?_
                            refine x_put (pc := 235) (C := RX12) (T := TX12) (n := 26) (ci := 11) (idx := 103) (ref := "BorderBedsModel") (ty := .long)  K (cel_self hc0.1) rfl (by decide +kernel) tyX12 tyX12_ok nmX12 18 (by decide) (by decide +kernel) rfl rfl (by decide +kernel) rfl rfl (Nat.le_of_ble_eq_true rfl) dX12_next_235 ?_
                            refine x_v (w := (va_up v 161 (oM B (va_up (va_up (va_up F 15 (zq : Int)) 16 (at1 : Int)) 17 tk) (((32 * y) + z1) - 96)))) (up_at0).symm ?_
                            refine x_aload_n (pc := 238) 1 K rfl rfl dX12_next_238 ?_
                            refine x_dup (pc := 239) K rfl dX12_next_239 ?_
                            refine x_get (pc := 240) (C := RX12) (T := TX12) (n := 26) (ci := 11) (idx := 88) (ref := "BorderBedsModel") (x := .int (zI (zq : Int)))  K (cel_self hc0.1) rfl (by decide +kernel) 15 (by decide) (by decide +kernel) rfl rfl dX12_next_240 ?_
                            refine x_iconst (pc := 243) K dX12_next_243 ?_
                            refine x_iadd (pc := 244) K dX12_next_244 ?_
                            refine x_put (pc := 245) (C := RX12) (T := TX12) (n := 26) (ci := 11) (idx := 88) (ref := "BorderBedsModel") (ty := .int)  K (cel_self hc0.1) rfl (by decide +kernel) tyX12 tyX12_ok nmX12 15 (by decide) (by decide +kernel) rfl rfl (by decide +kernel) rfl rfl (Nat.le_of_ble_eq_true rfl) dX12_next_245 ?_
                            refine x_v (w := (va_up v 161 (oM B (va_up (va_up (va_up F 15 ((zq : Int) + 1)) 16 (at1 : Int)) 17 tk) (((32 * y) + z1) - 96)))) (up_at0).symm ?_
                            refine x_goto (pc := 248) (tgt := 118) K dX12_next_248 (by decide) ?_
                            refine x_sub (L' := [(0, .ref (B + 161))]) [1] rfl ?_
                            exact ih118 (zq + 1) (((32 * y) + z1) - 96) (by omega) (by exact Or.inl ⟨hold.1, by omega, by rw [hgo]; exact hold.2.2.1, by rw [hvs]; split <;> (try split) <;> omega⟩) (by omega)
                        · skip
                          refine x_ldc2 (pc := 188) (x := (-1)) (-1) K (by decide) (by decide +kernel) dX12_next_188 ?_
                          refine x_goto (pc := 191) (tgt := 235) K dX12_next_191 (by decide) ?_
                          refine x_put (pc := 235) (C := RX12) (T := TX12) (n := 26) (ci := 11) (idx := 103) (ref := "BorderBedsModel") (ty := .long)  K (cel_self hc0.1) rfl (by decide +kernel) tyX12 tyX12_ok nmX12 18 (by decide) (by decide +kernel) rfl rfl (by decide +kernel) rfl rfl (Nat.le_of_ble_eq_true rfl) dX12_next_235 ?_
                          refine x_v (w := (va_up v 161 (oM B (va_up (va_up (va_up F 15 (zq : Int)) 16 (at1 : Int)) 17 tk) (-1)))) (up_at0).symm ?_
                          refine x_aload_n (pc := 238) 1 K rfl rfl dX12_next_238 ?_
                          refine x_dup (pc := 239) K rfl dX12_next_239 ?_
                          refine x_get (pc := 240) (C := RX12) (T := TX12) (n := 26) (ci := 11) (idx := 88) (ref := "BorderBedsModel") (x := .int (zI (zq : Int)))  K (cel_self hc0.1) rfl (by decide +kernel) 15 (by decide) (by decide +kernel) rfl rfl dX12_next_240 ?_
                          refine x_iconst (pc := 243) K dX12_next_243 ?_
                          refine x_iadd (pc := 244) K dX12_next_244 ?_
                          refine x_put (pc := 245) (C := RX12) (T := TX12) (n := 26) (ci := 11) (idx := 88) (ref := "BorderBedsModel") (ty := .int)  K (cel_self hc0.1) rfl (by decide +kernel) tyX12 tyX12_ok nmX12 15 (by decide) (by decide +kernel) rfl rfl (by decide +kernel) rfl rfl (Nat.le_of_ble_eq_true rfl) dX12_next_245 ?_
                          refine x_v (w := (va_up v 161 (oM B (va_up (va_up (va_up F 15 ((zq : Int) + 1)) 16 (at1 : Int)) 17 tk) (-1)))) (up_at0).symm ?_
                          refine x_goto (pc := 248) (tgt := 118) K dX12_next_248 (by decide) ?_
                          refine x_sub (L' := [(0, .ref (B + 161))]) [1] rfl ?_
                          exact ih118 (zq + 1) (-1) (by omega) (by exact Or.inl ⟨hold.1, by omega, by rw [hgo]; exact hold.2.2.1, by rw [hvs]; split <;> (try split) <;> omega⟩) (by omega)
            exact LOOP118 (_) (at1 + 0) 0 (by (first | omega | (have : at1 < n := by (by_cases q : at1 < n; exact q; rw [if_neg q] at htk; omega); omega))) (by first | (refine Or.inr ⟨by omega, ?_, rfl⟩; rw [if_pos (by omega)]; omega) | (by_cases q : tk = 1 ∨ tk = 2; exact Or.inl ⟨q, by omega, rfl, by rw [show at1 + 0 - at1 = 0 by omega]; rfl⟩; exact Or.inr ⟨q, by rw [if_neg (by omega)]; omega, rfl⟩)) (Nat.lt_succ_self _)
          · skip
            refine x_iconst (pc := 109) K dX12_next_109 ?_
            refine x_goto (pc := 110) (tgt := 114) K dX12_next_110 (by decide) ?_
            refine x_iadd (pc := 114) K dX12_next_114 ?_
            refine x_put (pc := 115) (C := RX12) (T := TX12) (n := 26) (ci := 11) (idx := 88) (ref := "BorderBedsModel") (ty := .int)  K (cel_self hc0.1) rfl (by decide +kernel) tyX12 tyX12_ok nmX12 15 (by decide) (by decide +kernel) rfl rfl (by decide +kernel) rfl rfl (Nat.le_of_ble_eq_true rfl) dX12_next_115 ?_
            refine x_v (w := (va_up v 161 (oM B (va_up (va_up (va_up F 15 ((at1 : Int) + 1)) 16 (at1 : Int)) 17 tk) 0))) (up_at0).symm ?_
            have LOOP118 : ∀ (n_118 : Nat) (zq : Nat) (y : Int), (zq ≤ 400) → (((tk = 1 ∨ tk = 2) ∧ at1 ≤ zq ∧ reT t n tk zq = reT t n tk at1 ∧ y = valT t tk at1 (zq - at1)) ∨ (¬ (tk = 1 ∨ tk = 2) ∧ (zq : Int) = (at1 : Int) + (if 2 < tk then 1 else 0) ∧ y = 0)) → (n + 1 - zq) < n_118 → XW Γ N (va_up v 161 (oM B (va_up (va_up (va_up F 15 (zq : Int)) 16 (at1 : Int)) 17 tk) y)) [(0, .ref (B + 161))] 0 0 118 [] := by
              intro n_118
              induction n_118 with
              | zero =>
                intro zq y hi118_0 hi118_1 hm_118
                exfalso; omega
              | succ n_118 ih118 =>
                intro zq y hi118_0 hi118_1 hm_118
                refine x_aload_n (pc := 118) 0 K rfl rfl dX12_next_118 ?_
                refine x_get (pc := 119) (C := RX12) (T := TX12) (n := 26) (ci := 11) (idx := 100) (ref := "BorderBedsModel") (x := .int (zI tk))  K (cel_self hc0.1) rfl (by decide +kernel) 17 (by decide) (by decide +kernel) rfl rfl dX12_next_119 ?_
                refine x_if_le (pc := 122) (tgt := 251) K (by omega) dX12_next_122 (by decide) (fun h_122 => ?_) (fun h_122 => ?_)
                · skip
                  have hend : (tk = 1 ∨ tk = 2) → ¬ (zq < n ∧ srt (t zq) = tk) := by omega
                  refine x_aload_n (pc := 251) 0 K rfl rfl dX12_next_251 ?_
                  refine x_aload_n (pc := 252) 0 K rfl rfl dX12_next_252 ?_
                  refine x_get (pc := 253) (C := RX12) (T := TX12) (n := 26) (ci := 11) (idx := 100) (ref := "BorderBedsModel") (x := .int (zI tk))  K (cel_self hc0.1) rfl (by decide +kernel) 17 (by decide) (by decide +kernel) rfl rfl dX12_next_253 ?_
                  refine x_iconst (pc := 256) K dX12_next_256 ?_
                  refine x_icmp_ne (pc := 257) (tgt := 277) K (by omega) (by decide) dX12_next_257 (by decide) (fun h_257 => ?_) (fun h_257 => ?_)
                  · skip
                    refine x_aload_n (pc := 277) 0 K rfl rfl dX12_next_277 ?_
                    refine x_get (pc := 278) (C := RX12) (T := TX12) (n := 26) (ci := 11) (idx := 100) (ref := "BorderBedsModel") (x := .int (zI tk))  K (cel_self hc0.1) rfl (by decide +kernel) 17 (by decide) (by decide +kernel) rfl rfl dX12_next_278 ?_
                    refine x_put (pc := 281) (C := RX12) (T := TX12) (n := 26) (ci := 11) (idx := 100) (ref := "BorderBedsModel") (ty := .int)  K (cel_self hc0.1) rfl (by decide +kernel) tyX12 tyX12_ok nmX12 17 (by decide) (by decide +kernel) rfl rfl (by decide +kernel) rfl rfl (Nat.le_of_ble_eq_true rfl) dX12_next_281 ?_
                    refine x_v (w := (va_up v 161 (oM B (va_up (va_up (va_up F 15 (zq : Int)) 16 (at1 : Int)) 17 tk) y))) (up_at0).symm ?_
                    refine x_vret (pc := 284) K KR (by omega) (Nat.le_of_ble_eq_true rfl) (Nat.le_of_ble_eq_true rfl) dX12_next_284 ?_
                    obtain ⟨hE, hV, hK⟩ := tok_fin hsk htk hi118_1 hend
                    have hKK : tokK t n a = tk := by rw [hK]; split <;> omega
                    exact ⟨rfl, rfl, by rw [hE, hV, hKK, hsk]⟩
                  · skip
                    refine x_aload_n (pc := 260) 0 K rfl rfl dX12_next_260 ?_
                    refine x_get (pc := 261) (C := RX12) (T := TX12) (n := 26) (ci := 11) (idx := 88) (ref := "BorderBedsModel") (x := .int (zI (zq : Int)))  K (cel_self hc0.1) rfl (by decide +kernel) 15 (by decide) (by decide +kernel) rfl rfl dX12_next_261 ?_
                    refine x_aload_n (pc := 264) 0 K rfl rfl dX12_next_264 ?_
                    refine x_get (pc := 265) (C := RX12) (T := TX12) (n := 26) (ci := 11) (idx := 94) (ref := "BorderBedsModel") (x := .int (zI (at1 : Int)))  K (cel_self hc0.1) rfl (by decide +kernel) 16 (by decide) (by decide +kernel) rfl rfl dX12_next_265 ?_
                    refine x_isub (pc := 268) K dX12_next_268 ?_
                    refine x_iconst (pc := 269) K dX12_next_269 ?_
                    refine x_icmp_le (pc := 270) (tgt := 277) K (by omega) (by decide) dX12_next_270 (by decide) (fun h_270 => ?_) (fun h_270 => ?_)
                    · skip
                      refine x_aload_n (pc := 277) 0 K rfl rfl dX12_next_277 ?_
                      refine x_get (pc := 278) (C := RX12) (T := TX12) (n := 26) (ci := 11) (idx := 100) (ref := "BorderBedsModel") (x := .int (zI tk))  K (cel_self hc0.1) rfl (by decide +kernel) 17 (by decide) (by decide +kernel) rfl rfl dX12_next_278 ?_
                      refine x_put (pc := 281) (C := RX12) (T := TX12) (n := 26) (ci := 11) (idx := 100) (ref := "BorderBedsModel") (ty := .int)  K (cel_self hc0.1) rfl (by decide +kernel) tyX12 tyX12_ok nmX12 17 (by decide) (by decide +kernel) rfl rfl (by decide +kernel) rfl rfl (Nat.le_of_ble_eq_true rfl) dX12_next_281 ?_
                      refine x_v (w := (va_up v 161 (oM B (va_up (va_up (va_up F 15 (zq : Int)) 16 (at1 : Int)) 17 tk) y))) (up_at0).symm ?_
                      refine x_vret (pc := 284) K KR (by omega) (Nat.le_of_ble_eq_true rfl) (Nat.le_of_ble_eq_true rfl) dX12_next_284 ?_
                      obtain ⟨hE, hV, hK⟩ := tok_fin hsk htk hi118_1 hend
                      have hKK : tokK t n a = tk := by rw [hK]; split <;> omega
                      exact ⟨rfl, rfl, by rw [hE, hV, hKK, hsk]⟩
                    · skip
                      refine x_iconst (pc := 273) K dX12_next_273 ?_
                      refine x_goto (pc := 274) (tgt := 281) K dX12_next_274 (by decide) ?_
                      refine x_put (pc := 281) (C := RX12) (T := TX12) (n := 26) (ci := 11) (idx := 100) (ref := "BorderBedsModel") (ty := .int)  K (cel_self hc0.1) rfl (by decide +kernel) tyX12 tyX12_ok nmX12 17 (by decide) (by decide +kernel) rfl rfl (by decide +kernel) rfl rfl (Nat.le_of_ble_eq_true rfl) dX12_next_281 ?_
                      refine x_v (w := (va_up v 161 (oM B (va_up (va_up (va_up F 15 (zq : Int)) 16 (at1 : Int)) 17 4) y))) (up_at0).symm ?_
                      refine x_vret (pc := 284) K KR (by omega) (Nat.le_of_ble_eq_true rfl) (Nat.le_of_ble_eq_true rfl) dX12_next_284 ?_
                      obtain ⟨hE, hV, hK⟩ := tok_fin hsk htk hi118_1 hend
                      have hKK : tokK t n a = 4 := by rw [hK]; split <;> omega
                      exact ⟨rfl, rfl, by rw [hE, hV, hKK, hsk]⟩
                · skip
                  refine x_aload_n (pc := 125) 0 K rfl rfl dX12_next_125 ?_
                  refine x_get (pc := 126) (C := RX12) (T := TX12) (n := 26) (ci := 11) (idx := 100) (ref := "BorderBedsModel") (x := .int (zI tk))  K (cel_self hc0.1) rfl (by decide +kernel) 17 (by decide) (by decide +kernel) rfl rfl dX12_next_126 ?_
                  refine x_iconst (pc := 129) K dX12_next_129 ?_
                  refine x_icmp_ge (pc := 130) (tgt := 251) K (by omega) (by decide) dX12_next_130 (by decide) (fun h_130 => ?_) (fun h_130 => ?_)
                  · skip
                    have hend : (tk = 1 ∨ tk = 2) → ¬ (zq < n ∧ srt (t zq) = tk) := by omega
                    refine x_aload_n (pc := 251) 0 K rfl rfl dX12_next_251 ?_
                    refine x_aload_n (pc := 252) 0 K rfl rfl dX12_next_252 ?_
                    refine x_get (pc := 253) (C := RX12) (T := TX12) (n := 26) (ci := 11) (idx := 100) (ref := "BorderBedsModel") (x := .int (zI tk))  K (cel_self hc0.1) rfl (by decide +kernel) 17 (by decide) (by decide +kernel) rfl rfl dX12_next_253 ?_
                    refine x_iconst (pc := 256) K dX12_next_256 ?_
                    refine x_icmp_ne (pc := 257) (tgt := 277) K (by omega) (by decide) dX12_next_257 (by decide) (fun h_257 => ?_) (fun h_257 => ?_)
                    · skip
                      refine x_aload_n (pc := 277) 0 K rfl rfl dX12_next_277 ?_
                      refine x_get (pc := 278) (C := RX12) (T := TX12) (n := 26) (ci := 11) (idx := 100) (ref := "BorderBedsModel") (x := .int (zI tk))  K (cel_self hc0.1) rfl (by decide +kernel) 17 (by decide) (by decide +kernel) rfl rfl dX12_next_278 ?_
                      refine x_put (pc := 281) (C := RX12) (T := TX12) (n := 26) (ci := 11) (idx := 100) (ref := "BorderBedsModel") (ty := .int)  K (cel_self hc0.1) rfl (by decide +kernel) tyX12 tyX12_ok nmX12 17 (by decide) (by decide +kernel) rfl rfl (by decide +kernel) rfl rfl (Nat.le_of_ble_eq_true rfl) dX12_next_281 ?_
                      refine x_v (w := (va_up v 161 (oM B (va_up (va_up (va_up F 15 (zq : Int)) 16 (at1 : Int)) 17 tk) y))) (up_at0).symm ?_
                      refine x_vret (pc := 284) K KR (by omega) (Nat.le_of_ble_eq_true rfl) (Nat.le_of_ble_eq_true rfl) dX12_next_284 ?_
                      obtain ⟨hE, hV, hK⟩ := tok_fin hsk htk hi118_1 hend
                      have hKK : tokK t n a = tk := by rw [hK]; split <;> omega
                      exact ⟨rfl, rfl, by rw [hE, hV, hKK, hsk]⟩
                    · skip
                      refine x_aload_n (pc := 260) 0 K rfl rfl dX12_next_260 ?_
                      refine x_get (pc := 261) (C := RX12) (T := TX12) (n := 26) (ci := 11) (idx := 88) (ref := "BorderBedsModel") (x := .int (zI (zq : Int)))  K (cel_self hc0.1) rfl (by decide +kernel) 15 (by decide) (by decide +kernel) rfl rfl dX12_next_261 ?_
                      refine x_aload_n (pc := 264) 0 K rfl rfl dX12_next_264 ?_
                      refine x_get (pc := 265) (C := RX12) (T := TX12) (n := 26) (ci := 11) (idx := 94) (ref := "BorderBedsModel") (x := .int (zI (at1 : Int)))  K (cel_self hc0.1) rfl (by decide +kernel) 16 (by decide) (by decide +kernel) rfl rfl dX12_next_265 ?_
                      refine x_isub (pc := 268) K dX12_next_268 ?_
                      refine x_iconst (pc := 269) K dX12_next_269 ?_
                      refine x_icmp_le (pc := 270) (tgt := 277) K (by omega) (by decide) dX12_next_270 (by decide) (fun h_270 => ?_) (fun h_270 => ?_)
                      · skip
                        refine x_aload_n (pc := 277) 0 K rfl rfl dX12_next_277 ?_
                        refine x_get (pc := 278) (C := RX12) (T := TX12) (n := 26) (ci := 11) (idx := 100) (ref := "BorderBedsModel") (x := .int (zI tk))  K (cel_self hc0.1) rfl (by decide +kernel) 17 (by decide) (by decide +kernel) rfl rfl dX12_next_278 ?_
                        refine x_put (pc := 281) (C := RX12) (T := TX12) (n := 26) (ci := 11) (idx := 100) (ref := "BorderBedsModel") (ty := .int)  K (cel_self hc0.1) rfl (by decide +kernel) tyX12 tyX12_ok nmX12 17 (by decide) (by decide +kernel) rfl rfl (by decide +kernel) rfl rfl (Nat.le_of_ble_eq_true rfl) dX12_next_281 ?_
                        refine x_v (w := (va_up v 161 (oM B (va_up (va_up (va_up F 15 (zq : Int)) 16 (at1 : Int)) 17 tk) y))) (up_at0).symm ?_
                        refine x_vret (pc := 284) K KR (by omega) (Nat.le_of_ble_eq_true rfl) (Nat.le_of_ble_eq_true rfl) dX12_next_284 ?_
                        obtain ⟨hE, hV, hK⟩ := tok_fin hsk htk hi118_1 hend
                        have hKK : tokK t n a = tk := by rw [hK]; split <;> omega
                        exact ⟨rfl, rfl, by rw [hE, hV, hKK, hsk]⟩
                      · skip
                        refine x_iconst (pc := 273) K dX12_next_273 ?_
                        refine x_goto (pc := 274) (tgt := 281) K dX12_next_274 (by decide) ?_
                        refine x_put (pc := 281) (C := RX12) (T := TX12) (n := 26) (ci := 11) (idx := 100) (ref := "BorderBedsModel") (ty := .int)  K (cel_self hc0.1) rfl (by decide +kernel) tyX12 tyX12_ok nmX12 17 (by decide) (by decide +kernel) rfl rfl (by decide +kernel) rfl rfl (Nat.le_of_ble_eq_true rfl) dX12_next_281 ?_
                        refine x_v (w := (va_up v 161 (oM B (va_up (va_up (va_up F 15 (zq : Int)) 16 (at1 : Int)) 17 4) y))) (up_at0).symm ?_
                        refine x_vret (pc := 284) K KR (by omega) (Nat.le_of_ble_eq_true rfl) (Nat.le_of_ble_eq_true rfl) dX12_next_284 ?_
                        obtain ⟨hE, hV, hK⟩ := tok_fin hsk htk hi118_1 hend
                        have hKK : tokK t n a = 4 := by rw [hK]; split <;> omega
                        exact ⟨rfl, rfl, by rw [hE, hV, hKK, hsk]⟩
                  · skip
                    refine x_aload_n (pc := 133) 0 K rfl rfl dX12_next_133 ?_
                    refine x_get (pc := 134) (C := RX12) (T := TX12) (n := 26) (ci := 11) (idx := 88) (ref := "BorderBedsModel") (x := .int (zI (zq : Int)))  K (cel_self hc0.1) rfl (by decide +kernel) 15 (by decide) (by decide +kernel) rfl rfl dX12_next_134 ?_
                    refine x_aload_n (pc := 137) 0 K rfl rfl dX12_next_137 ?_
                    refine x_get (pc := 138) (C := RX12) (T := TX12) (n := 26) (ci := 11) (idx := 91) (ref := "BorderBedsModel") (x := .int (zI (F 19)))  K (cel_self hc0.1) rfl (by decide +kernel) 19 (by decide) (by decide +kernel) rfl rfl dX12_next_138 ?_
                    refine x_icmp_ge (pc := 141) (tgt := 251) K (by omega) (by omega) dX12_next_141 (by decide) (fun h_141 => ?_) (fun h_141 => ?_)
                    · skip
                      have hend : (tk = 1 ∨ tk = 2) → ¬ (zq < n ∧ srt (t zq) = tk) := by omega
                      refine x_aload_n (pc := 251) 0 K rfl rfl dX12_next_251 ?_
                      refine x_aload_n (pc := 252) 0 K rfl rfl dX12_next_252 ?_
                      refine x_get (pc := 253) (C := RX12) (T := TX12) (n := 26) (ci := 11) (idx := 100) (ref := "BorderBedsModel") (x := .int (zI tk))  K (cel_self hc0.1) rfl (by decide +kernel) 17 (by decide) (by decide +kernel) rfl rfl dX12_next_253 ?_
                      refine x_iconst (pc := 256) K dX12_next_256 ?_
                      refine x_icmp_ne (pc := 257) (tgt := 277) K (by omega) (by decide) dX12_next_257 (by decide) (fun h_257 => ?_) (fun h_257 => ?_)
                      · skip
                        refine x_aload_n (pc := 277) 0 K rfl rfl dX12_next_277 ?_
                        refine x_get (pc := 278) (C := RX12) (T := TX12) (n := 26) (ci := 11) (idx := 100) (ref := "BorderBedsModel") (x := .int (zI tk))  K (cel_self hc0.1) rfl (by decide +kernel) 17 (by decide) (by decide +kernel) rfl rfl dX12_next_278 ?_
                        refine x_put (pc := 281) (C := RX12) (T := TX12) (n := 26) (ci := 11) (idx := 100) (ref := "BorderBedsModel") (ty := .int)  K (cel_self hc0.1) rfl (by decide +kernel) tyX12 tyX12_ok nmX12 17 (by decide) (by decide +kernel) rfl rfl (by decide +kernel) rfl rfl (Nat.le_of_ble_eq_true rfl) dX12_next_281 ?_
                        refine x_v (w := (va_up v 161 (oM B (va_up (va_up (va_up F 15 (zq : Int)) 16 (at1 : Int)) 17 tk) y))) (up_at0).symm ?_
                        refine x_vret (pc := 284) K KR (by omega) (Nat.le_of_ble_eq_true rfl) (Nat.le_of_ble_eq_true rfl) dX12_next_284 ?_
                        obtain ⟨hE, hV, hK⟩ := tok_fin hsk htk hi118_1 hend
                        have hKK : tokK t n a = tk := by rw [hK]; split <;> omega
                        exact ⟨rfl, rfl, by rw [hE, hV, hKK, hsk]⟩
                      · skip
                        refine x_aload_n (pc := 260) 0 K rfl rfl dX12_next_260 ?_
                        refine x_get (pc := 261) (C := RX12) (T := TX12) (n := 26) (ci := 11) (idx := 88) (ref := "BorderBedsModel") (x := .int (zI (zq : Int)))  K (cel_self hc0.1) rfl (by decide +kernel) 15 (by decide) (by decide +kernel) rfl rfl dX12_next_261 ?_
                        refine x_aload_n (pc := 264) 0 K rfl rfl dX12_next_264 ?_
                        refine x_get (pc := 265) (C := RX12) (T := TX12) (n := 26) (ci := 11) (idx := 94) (ref := "BorderBedsModel") (x := .int (zI (at1 : Int)))  K (cel_self hc0.1) rfl (by decide +kernel) 16 (by decide) (by decide +kernel) rfl rfl dX12_next_265 ?_
                        refine x_isub (pc := 268) K dX12_next_268 ?_
                        refine x_iconst (pc := 269) K dX12_next_269 ?_
                        refine x_icmp_le (pc := 270) (tgt := 277) K (by omega) (by decide) dX12_next_270 (by decide) (fun h_270 => ?_) (fun h_270 => ?_)
                        · skip
                          refine x_aload_n (pc := 277) 0 K rfl rfl dX12_next_277 ?_
                          refine x_get (pc := 278) (C := RX12) (T := TX12) (n := 26) (ci := 11) (idx := 100) (ref := "BorderBedsModel") (x := .int (zI tk))  K (cel_self hc0.1) rfl (by decide +kernel) 17 (by decide) (by decide +kernel) rfl rfl dX12_next_278 ?_
                          refine x_put (pc := 281) (C := RX12) (T := TX12) (n := 26) (ci := 11) (idx := 100) (ref := "BorderBedsModel") (ty := .int)  K (cel_self hc0.1) rfl (by decide +kernel) tyX12 tyX12_ok nmX12 17 (by decide) (by decide +kernel) rfl rfl (by decide +kernel) rfl rfl (Nat.le_of_ble_eq_true rfl) dX12_next_281 ?_
                          refine x_v (w := (va_up v 161 (oM B (va_up (va_up (va_up F 15 (zq : Int)) 16 (at1 : Int)) 17 tk) y))) (up_at0).symm ?_
                          refine x_vret (pc := 284) K KR (by omega) (Nat.le_of_ble_eq_true rfl) (Nat.le_of_ble_eq_true rfl) dX12_next_284 ?_
                          obtain ⟨hE, hV, hK⟩ := tok_fin hsk htk hi118_1 hend
                          have hKK : tokK t n a = tk := by rw [hK]; split <;> omega
                          exact ⟨rfl, rfl, by rw [hE, hV, hKK, hsk]⟩
                        · skip
                          refine x_iconst (pc := 273) K dX12_next_273 ?_
                          refine x_goto (pc := 274) (tgt := 281) K dX12_next_274 (by decide) ?_
                          refine x_put (pc := 281) (C := RX12) (T := TX12) (n := 26) (ci := 11) (idx := 100) (ref := "BorderBedsModel") (ty := .int)  K (cel_self hc0.1) rfl (by decide +kernel) tyX12 tyX12_ok nmX12 17 (by decide) (by decide +kernel) rfl rfl (by decide +kernel) rfl rfl (Nat.le_of_ble_eq_true rfl) dX12_next_281 ?_
                          refine x_v (w := (va_up v 161 (oM B (va_up (va_up (va_up F 15 (zq : Int)) 16 (at1 : Int)) 17 4) y))) (up_at0).symm ?_
                          refine x_vret (pc := 284) K KR (by omega) (Nat.le_of_ble_eq_true rfl) (Nat.le_of_ble_eq_true rfl) dX12_next_284 ?_
                          obtain ⟨hE, hV, hK⟩ := tok_fin hsk htk hi118_1 hend
                          have hKK : tokK t n a = 4 := by rw [hK]; split <;> omega
                          exact ⟨rfl, rfl, by rw [hE, hV, hKK, hsk]⟩
                    · skip
                      have b152 := hq3 zq
                      have s152 := srt_rng (t zq)
                      refine x_aload_n (pc := 144) 0 K rfl rfl dX12_next_144 ?_
                      refine x_get (pc := 145) (C := RX12) (T := TX12) (n := 26) (ci := 11) (idx := 19) (ref := "BorderBedsModel") (x := .ref (B + 165))  K (cel_self hc0.1) rfl (by decide +kernel) 4 (by decide) (by decide +kernel) rfl rfl dX12_next_145 ?_
                      refine x_aload_n (pc := 148) 0 K rfl rfl dX12_next_148 ?_
                      refine x_get (pc := 149) (C := RX12) (T := TX12) (n := 26) (ci := 11) (idx := 88) (ref := "BorderBedsModel") (x := .int (zI (zq : Int)))  K (cel_self hc0.1) rfl (by decide +kernel) 15 (by decide) (by decide +kernel) rfl rfl dX12_next_149 ?_
                      refine x_iald (pc := 152) zq K (cel_ne hc1 (by decide)) rfl (by omega) (by decide) dX12_next_152 ?_
                      refine x_callS (pc := 153) (As := [.int (zI (t zq))]) K (c_X12_sort (E := E) (B := B) (N := N)    (by omega)) gX12_next_X12_sort rfl (na := 1) (by decide +kernel) rfl ⟨(Nat.le_of_ble_eq_true rfl), (Nat.le_of_ble_eq_true rfl)⟩ (st := []) rfl (Nat.le_of_ble_eq_true rfl) ⟨(Nat.le_of_ble_eq_true rfl), (Nat.le_of_ble_eq_true rfl)⟩ dX12_next_153 (fun r153 N153 w153 hpo153 hN153 => ?_)
                      obtain ⟨rfl, rfl, rfl⟩ := hpo153
                      refine x_st (st' := [.int (zI (srt (t zq)))]) rfl ?_
                      refine x_aload_n (pc := 156) 0 K rfl rfl dX12_next_156 ?_
                      refine x_get (pc := 157) (C := RX12) (T := TX12) (n := 26) (ci := 11) (idx := 100) (ref := "BorderBedsModel") (x := .int (zI tk))  K (cel_self hc0.1) rfl (by decide +kernel) 17 (by decide) (by decide +kernel) rfl rfl dX12_next_157 ?_
                      refine x_icmp_ne (pc := 160) (tgt := 251) K (by omega) (by omega) dX12_next_160 (by decide) (fun h_160 => ?_) (fun h_160 => ?_)
                      · skip
                        have hend : (tk = 1 ∨ tk = 2) → ¬ (zq < n ∧ srt (t zq) = tk) := by omega
                        refine x_aload_n (pc := 251) 0 K rfl rfl dX12_next_251 ?_
                        refine x_aload_n (pc := 252) 0 K rfl rfl dX12_next_252 ?_
                        refine x_get (pc := 253) (C := RX12) (T := TX12) (n := 26) (ci := 11) (idx := 100) (ref := "BorderBedsModel") (x := .int (zI tk))  K (cel_self hc0.1) rfl (by decide +kernel) 17 (by decide) (by decide +kernel) rfl rfl dX12_next_253 ?_
                        refine x_iconst (pc := 256) K dX12_next_256 ?_
                        refine x_icmp_ne (pc := 257) (tgt := 277) K (by omega) (by decide) dX12_next_257 (by decide) (fun h_257 => ?_) (fun h_257 => ?_)
                        · skip
                          refine x_aload_n (pc := 277) 0 K rfl rfl dX12_next_277 ?_
                          refine x_get (pc := 278) (C := RX12) (T := TX12) (n := 26) (ci := 11) (idx := 100) (ref := "BorderBedsModel") (x := .int (zI tk))  K (cel_self hc0.1) rfl (by decide +kernel) 17 (by decide) (by decide +kernel) rfl rfl dX12_next_278 ?_
                          refine x_put (pc := 281) (C := RX12) (T := TX12) (n := 26) (ci := 11) (idx := 100) (ref := "BorderBedsModel") (ty := .int)  K (cel_self hc0.1) rfl (by decide +kernel) tyX12 tyX12_ok nmX12 17 (by decide) (by decide +kernel) rfl rfl (by decide +kernel) rfl rfl (Nat.le_of_ble_eq_true rfl) dX12_next_281 ?_
                          refine x_v (w := (va_up v 161 (oM B (va_up (va_up (va_up F 15 (zq : Int)) 16 (at1 : Int)) 17 tk) y))) (up_at0).symm ?_
                          refine x_vret (pc := 284) K KR (by omega) (Nat.le_of_ble_eq_true rfl) (Nat.le_of_ble_eq_true rfl) dX12_next_284 ?_
                          obtain ⟨hE, hV, hK⟩ := tok_fin hsk htk hi118_1 hend
                          have hKK : tokK t n a = tk := by rw [hK]; split <;> omega
                          exact ⟨rfl, rfl, by rw [hE, hV, hKK, hsk]⟩
                        · skip
                          refine x_aload_n (pc := 260) 0 K rfl rfl dX12_next_260 ?_
                          refine x_get (pc := 261) (C := RX12) (T := TX12) (n := 26) (ci := 11) (idx := 88) (ref := "BorderBedsModel") (x := .int (zI (zq : Int)))  K (cel_self hc0.1) rfl (by decide +kernel) 15 (by decide) (by decide +kernel) rfl rfl dX12_next_261 ?_
                          refine x_aload_n (pc := 264) 0 K rfl rfl dX12_next_264 ?_
                          refine x_get (pc := 265) (C := RX12) (T := TX12) (n := 26) (ci := 11) (idx := 94) (ref := "BorderBedsModel") (x := .int (zI (at1 : Int)))  K (cel_self hc0.1) rfl (by decide +kernel) 16 (by decide) (by decide +kernel) rfl rfl dX12_next_265 ?_
                          refine x_isub (pc := 268) K dX12_next_268 ?_
                          refine x_iconst (pc := 269) K dX12_next_269 ?_
                          refine x_icmp_le (pc := 270) (tgt := 277) K (by omega) (by decide) dX12_next_270 (by decide) (fun h_270 => ?_) (fun h_270 => ?_)
                          · skip
                            refine x_aload_n (pc := 277) 0 K rfl rfl dX12_next_277 ?_
                            refine x_get (pc := 278) (C := RX12) (T := TX12) (n := 26) (ci := 11) (idx := 100) (ref := "BorderBedsModel") (x := .int (zI tk))  K (cel_self hc0.1) rfl (by decide +kernel) 17 (by decide) (by decide +kernel) rfl rfl dX12_next_278 ?_
                            refine x_put (pc := 281) (C := RX12) (T := TX12) (n := 26) (ci := 11) (idx := 100) (ref := "BorderBedsModel") (ty := .int)  K (cel_self hc0.1) rfl (by decide +kernel) tyX12 tyX12_ok nmX12 17 (by decide) (by decide +kernel) rfl rfl (by decide +kernel) rfl rfl (Nat.le_of_ble_eq_true rfl) dX12_next_281 ?_
                            refine x_v (w := (va_up v 161 (oM B (va_up (va_up (va_up F 15 (zq : Int)) 16 (at1 : Int)) 17 tk) y))) (up_at0).symm ?_
                            refine x_vret (pc := 284) K KR (by omega) (Nat.le_of_ble_eq_true rfl) (Nat.le_of_ble_eq_true rfl) dX12_next_284 ?_
                            obtain ⟨hE, hV, hK⟩ := tok_fin hsk htk hi118_1 hend
                            have hKK : tokK t n a = tk := by rw [hK]; split <;> omega
                            exact ⟨rfl, rfl, by rw [hE, hV, hKK, hsk]⟩
                          · skip
                            refine x_iconst (pc := 273) K dX12_next_273 ?_
                            refine x_goto (pc := 274) (tgt := 281) K dX12_next_274 (by decide) ?_
                            refine x_put (pc := 281) (C := RX12) (T := TX12) (n := 26) (ci := 11) (idx := 100) (ref := "BorderBedsModel") (ty := .int)  K (cel_self hc0.1) rfl (by decide +kernel) tyX12 tyX12_ok nmX12 17 (by decide) (by decide +kernel) rfl rfl (by decide +kernel) rfl rfl (Nat.le_of_ble_eq_true rfl) dX12_next_281 ?_
                            refine x_v (w := (va_up v 161 (oM B (va_up (va_up (va_up F 15 (zq : Int)) 16 (at1 : Int)) 17 4) y))) (up_at0).symm ?_
                            refine x_vret (pc := 284) K KR (by omega) (Nat.le_of_ble_eq_true rfl) (Nat.le_of_ble_eq_true rfl) dX12_next_284 ?_
                            obtain ⟨hE, hV, hK⟩ := tok_fin hsk htk hi118_1 hend
                            have hKK : tokK t n a = 4 := by rw [hK]; split <;> omega
                            exact ⟨rfl, rfl, by rw [hE, hV, hKK, hsk]⟩
                      · skip
                        have hgo : reT t n tk (zq + 1) = reT t n tk zq := reT_go (by omega) (by omega)
                        have hold : (tk = 1 ∨ tk = 2) ∧ at1 ≤ zq ∧ reT t n tk zq = reT t n tk at1 ∧ y = valT t tk at1 (zq - at1) := by
                          rcases hi118_1 with h | h
                          · exact h
                          · exfalso; have := h.1; omega
                        have hvs : valT t tk at1 (zq + 1 - at1) = if 7 < zq - at1 then -1 else if tk = 1 then 32 * valT t tk at1 (zq - at1) + t (at1 + (zq - at1)) - 96 else 10 * valT t tk at1 (zq - at1) + t (at1 + (zq - at1)) - 48 := by rw [show zq + 1 - at1 = (zq - at1) + 1 by omega]; rfl
                        rw [show at1 + (zq - at1) = zq by omega, ← hold.2.2.2] at hvs
                        refine x_aload_n (pc := 163) 0 K rfl rfl dX12_next_163 ?_
                        refine x_get (pc := 164) (C := RX12) (T := TX12) (n := 26) (ci := 11) (idx := 19) (ref := "BorderBedsModel") (x := .ref (B + 165))  K (cel_self hc0.1) rfl (by decide +kernel) 4 (by decide) (by decide +kernel) rfl rfl dX12_next_164 ?_
                        refine x_aload_n (pc := 167) 0 K rfl rfl dX12_next_167 ?_
                        refine x_get (pc := 168) (C := RX12) (T := TX12) (n := 26) (ci := 11) (idx := 88) (ref := "BorderBedsModel") (x := .int (zI (zq : Int)))  K (cel_self hc0.1) rfl (by decide +kernel) 15 (by decide) (by decide +kernel) rfl rfl dX12_next_168 ?_
                        refine x_iald (pc := 171) zq K (cel_ne hc1 (by decide)) rfl (by omega) (by decide) dX12_next_171 ?_
                        refine x_nm (fun z2 hz2 => ?_)
                        refine x_istore_n (pc := 172) K (L' := [(1, .int (zI z2)), (0, .ref (B + 161))]) hnL rfl (by decide) rfl dX12_next_172 ?_
                        refine x_aload_n (pc := 173) 1 K rfl rfl dX12_next_173 ?_
                        refine x_aload_n (pc := 174) 1 K rfl rfl dX12_next_174 ?_
                        refine x_get (pc := 175) (C := RX12) (T := TX12) (n := 26) (ci := 11) (idx := 88) (ref := "BorderBedsModel") (x := .int (zI (zq : Int)))  K (cel_self hc0.1) rfl (by decide +kernel) 15 (by decide) (by decide +kernel) rfl rfl dX12_next_175 ?_
                        refine x_aload_n (pc := 178) 1 K rfl rfl dX12_next_178 ?_
                        refine x_get (pc := 179) (C := RX12) (T := TX12) (n := 26) (ci := 11) (idx := 94) (ref := "BorderBedsModel") (x := .int (zI (at1 : Int)))  K (cel_self hc0.1) rfl (by decide +kernel) 16 (by decide) (by decide +kernel) rfl rfl dX12_next_179 ?_
                        refine x_isub (pc := 182) K dX12_next_182 ?_
                        refine x_bipush (pc := 183) K (by decide) dX12_next_183 ?_
                        refine x_icmp_le (pc := 185) (tgt := 194) K (by omega) (by decide) dX12_next_185 (by decide) (fun h_185 => ?_) (fun h_185 => ?_)
                        · skip
                          refine x_aload_n (pc := 194) 1 K rfl rfl dX12_next_194 ?_
                          refine x_get (pc := 195) (C := RX12) (T := TX12) (n := 26) (ci := 11) (idx := 100) (ref := "BorderBedsModel") (x := .int (zI tk))  K (cel_self hc0.1) rfl (by decide +kernel) 17 (by decide) (by decide +kernel) rfl rfl dX12_next_195 ?_
                          refine x_iconst (pc := 198) K dX12_next_198 ?_
                          refine x_icmp_ne (pc := 199) (tgt := 220) K (by omega) (by decide) dX12_next_199 (by decide) (fun h_199 => ?_) (fun h_199 => ?_)
                          · skip
                            refine x_ldc2 (pc := 220) (x := (10)) (10) K (by decide) (by decide +kernel) dX12_next_220 ?_
                            refine x_aload_n (pc := 223) 1 K rfl rfl dX12_next_223 ?_
                            refine x_get (pc := 224) (C := RX12) (T := TX12) (n := 26) (ci := 11) (idx := 103) (ref := "BorderBedsModel") (x := .long (zL y))  K (cel_self hc0.1) rfl (by decide +kernel) 18 (by decide) (by decide +kernel) rfl rfl dX12_next_224 ?_
                            refine x_lmul (pc := 227) K dX12_next_227 ?_
                            refine x_iload_n (pc := 228) 0 K rfl rfl dX12_next_228 ?_
                            refine x_i2l (pc := 229) K (by omega) dX12_next_229 ?_
                            refine x_ladd (pc := 230) K dX12_next_230 ?_
                            refine x_ldc2 (pc := 231) (x := (48)) (48) K (by decide) (by decide +kernel) dX12_next_231 ?_
                            refine x_lsub (pc := 234) K dX12_next_234 ?_
                            refine x_put (pc := 235) (C := RX12) (T := TX12) (n := 26) (ci := 11) (idx := 103) (ref := "BorderBedsModel") (ty := .long)  K (cel_self hc0.1) rfl (by decide +kernel) tyX12 tyX12_ok nmX12 18 (by decide) (by decide +kernel) rfl rfl (by decide +kernel) rfl rfl (Nat.le_of_ble_eq_true rfl) dX12_next_235 ?_
                            refine x_v (w := (va_up v 161 (oM B (va_up (va_up (va_up F 15 (zq : Int)) 16 (at1 : Int)) 17 tk) (((10 * y) + z2) - 48)))) (up_at0).symm ?_
                            refine x_aload_n (pc := 238) 1 K rfl rfl dX12_next_238 ?_
                            refine x_dup (pc := 239) K rfl dX12_next_239 ?_
                            refine x_get (pc := 240) (C := RX12) (T := TX12) (n := 26) (ci := 11) (idx := 88) (ref := "BorderBedsModel") (x := .int (zI (zq : Int)))  K (cel_self hc0.1) rfl (by decide +kernel) 15 (by decide) (by decide +kernel) rfl rfl dX12_next_240 ?_
                            refine x_iconst (pc := 243) K dX12_next_243 ?_
                            refine x_iadd (pc := 244) K dX12_next_244 ?_
                            refine x_put (pc := 245) (C := RX12) (T := TX12) (n := 26) (ci := 11) (idx := 88) (ref := "BorderBedsModel") (ty := .int)  K (cel_self hc0.1) rfl (by decide +kernel) tyX12 tyX12_ok nmX12 15 (by decide) (by decide +kernel) rfl rfl (by decide +kernel) rfl rfl (Nat.le_of_ble_eq_true rfl) dX12_next_245 ?_
                            refine x_v (w := (va_up v 161 (oM B (va_up (va_up (va_up F 15 ((zq : Int) + 1)) 16 (at1 : Int)) 17 tk) (((10 * y) + z2) - 48)))) (up_at0).symm ?_
                            refine x_goto (pc := 248) (tgt := 118) K dX12_next_248 (by decide) ?_
                            refine x_sub (L' := [(0, .ref (B + 161))]) [1] rfl ?_
                            exact ih118 (zq + 1) (((10 * y) + z2) - 48) (by omega) (by exact Or.inl ⟨hold.1, by omega, by rw [hgo]; exact hold.2.2.1, by rw [hvs]; split <;> (try split) <;> omega⟩) (by omega)
                          · skip
                            refine x_ldc2 (pc := 202) (x := (32)) (32) K (by decide) (by decide +kernel) dX12_next_202 ?_
                            refine x_aload_n (pc := 205) 1 K rfl rfl dX12_next_205 ?_
                            refine x_get (pc := 206) (C := RX12) (T := TX12) (n := 26) (ci := 11) (idx := 103) (ref := "BorderBedsModel") (x := .long (zL y))  K (cel_self hc0.1) rfl (by decide +kernel) 18 (by decide) (by decide +kernel) rfl rfl dX12_next_206 ?_
                            refine x_lmul (pc := 209) K dX12_next_209 ?_
                            refine x_iload_n (pc := 210) 0 K rfl rfl dX12_next_210 ?_
                            refine x_i2l (pc := 211) K (by omega) dX12_next_211 ?_
                            refine x_ladd (pc := 212) K dX12_next_212 ?_
                            refine x_ldc2 (pc := 213) (x := (96)) (96) K (by decide) (by decide +kernel) dX12_next_213 ?_
                            refine x_lsub (pc := 216) K dX12_next_216 ?_
                            refine x_goto (pc := 217) (tgt := 235) K dX12_next_217 (by decide) ?_
                            refine x_put (pc := 235) (C := RX12) (T := TX12) (n := 26) (ci := 11) (idx := 103) (ref := "BorderBedsModel") (ty := .long)  K (cel_self hc0.1) rfl (by decide +kernel) tyX12 tyX12_ok nmX12 18 (by decide) (by decide +kernel) rfl rfl (by decide +kernel) rfl rfl (Nat.le_of_ble_eq_true rfl) dX12_next_235 ?_
                            refine x_v (w := (va_up v 161 (oM B (va_up (va_up (va_up F 15 (zq : Int)) 16 (at1 : Int)) 17 tk) (((32 * y) + z2) - 96)))) (up_at0).symm ?_
                            refine x_aload_n (pc := 238) 1 K rfl rfl dX12_next_238 ?_
                            refine x_dup (pc := 239) K rfl dX12_next_239 ?_
                            refine x_get (pc := 240) (C := RX12) (T := TX12) (n := 26) (ci := 11) (idx := 88) (ref := "BorderBedsModel") (x := .int (zI (zq : Int)))  K (cel_self hc0.1) rfl (by decide +kernel) 15 (by decide) (by decide +kernel) rfl rfl dX12_next_240 ?_
                            refine x_iconst (pc := 243) K dX12_next_243 ?_
                            refine x_iadd (pc := 244) K dX12_next_244 ?_
                            refine x_put (pc := 245) (C := RX12) (T := TX12) (n := 26) (ci := 11) (idx := 88) (ref := "BorderBedsModel") (ty := .int)  K (cel_self hc0.1) rfl (by decide +kernel) tyX12 tyX12_ok nmX12 15 (by decide) (by decide +kernel) rfl rfl (by decide +kernel) rfl rfl (Nat.le_of_ble_eq_true rfl) dX12_next_245 ?_
                            refine x_v (w := (va_up v 161 (oM B (va_up (va_up (va_up F 15 ((zq : Int) + 1)) 16 (at1 : Int)) 17 tk) (((32 * y) + z2) - 96)))) (up_at0).symm ?_
                            refine x_goto (pc := 248) (tgt := 118) K dX12_next_248 (by decide) ?_
                            refine x_sub (L' := [(0, .ref (B + 161))]) [1] rfl ?_
                            exact ih118 (zq + 1) (((32 * y) + z2) - 96) (by omega) (by exact Or.inl ⟨hold.1, by omega, by rw [hgo]; exact hold.2.2.1, by rw [hvs]; split <;> (try split) <;> omega⟩) (by omega)
                        · skip
                          refine x_ldc2 (pc := 188) (x := (-1)) (-1) K (by decide) (by decide +kernel) dX12_next_188 ?_
                          refine x_goto (pc := 191) (tgt := 235) K dX12_next_191 (by decide) ?_
                          refine x_put (pc := 235) (C := RX12) (T := TX12) (n := 26) (ci := 11) (idx := 103) (ref := "BorderBedsModel") (ty := .long)  K (cel_self hc0.1) rfl (by decide +kernel) tyX12 tyX12_ok nmX12 18 (by decide) (by decide +kernel) rfl rfl (by decide +kernel) rfl rfl (Nat.le_of_ble_eq_true rfl) dX12_next_235 ?_
                          refine x_v (w := (va_up v 161 (oM B (va_up (va_up (va_up F 15 (zq : Int)) 16 (at1 : Int)) 17 tk) (-1)))) (up_at0).symm ?_
                          refine x_aload_n (pc := 238) 1 K rfl rfl dX12_next_238 ?_
                          refine x_dup (pc := 239) K rfl dX12_next_239 ?_
                          refine x_get (pc := 240) (C := RX12) (T := TX12) (n := 26) (ci := 11) (idx := 88) (ref := "BorderBedsModel") (x := .int (zI (zq : Int)))  K (cel_self hc0.1) rfl (by decide +kernel) 15 (by decide) (by decide +kernel) rfl rfl dX12_next_240 ?_
                          refine x_iconst (pc := 243) K dX12_next_243 ?_
                          refine x_iadd (pc := 244) K dX12_next_244 ?_
                          refine x_put (pc := 245) (C := RX12) (T := TX12) (n := 26) (ci := 11) (idx := 88) (ref := "BorderBedsModel") (ty := .int)  K (cel_self hc0.1) rfl (by decide +kernel) tyX12 tyX12_ok nmX12 15 (by decide) (by decide +kernel) rfl rfl (by decide +kernel) rfl rfl (Nat.le_of_ble_eq_true rfl) dX12_next_245 ?_
                          refine x_v (w := (va_up v 161 (oM B (va_up (va_up (va_up F 15 ((zq : Int) + 1)) 16 (at1 : Int)) 17 tk) (-1)))) (up_at0).symm ?_
                          refine x_goto (pc := 248) (tgt := 118) K dX12_next_248 (by decide) ?_
                          refine x_sub (L' := [(0, .ref (B + 161))]) [1] rfl ?_
                          exact ih118 (zq + 1) (-1) (by omega) (by exact Or.inl ⟨hold.1, by omega, by rw [hgo]; exact hold.2.2.1, by rw [hvs]; split <;> (try split) <;> omega⟩) (by omega)
            exact LOOP118 (_) (at1 + 1) 0 (by (first | omega | (have : at1 < n := by (by_cases q : at1 < n; exact q; rw [if_neg q] at htk; omega); omega))) (by first | (refine Or.inr ⟨by omega, ?_, rfl⟩; rw [if_pos (by omega)]; omega) | (by_cases q : tk = 1 ∨ tk = 2; exact Or.inl ⟨q, by omega, rfl, by rw [show at1 + 0 - at1 = 0 by omega]; rfl⟩; exact Or.inr ⟨q, by rw [if_neg (by omega)]; omega, rfl⟩)) (Nat.lt_succ_self _)
        · skip
          refine x_aload_n (pc := 72) 0 K rfl rfl dX12_next_72 ?_
          refine x_get (pc := 73) (C := RX12) (T := TX12) (n := 26) (ci := 11) (idx := 19) (ref := "BorderBedsModel") (x := .ref (B + 165))  K (cel_self hc0.1) rfl (by decide +kernel) 4 (by decide) (by decide +kernel) rfl rfl dX12_next_73 ?_
          refine x_aload_n (pc := 76) 0 K rfl rfl dX12_next_76 ?_
          refine x_get (pc := 77) (C := RX12) (T := TX12) (n := 26) (ci := 11) (idx := 88) (ref := "BorderBedsModel") (x := .int (zI (at1 : Int)))  K (cel_self hc0.1) rfl (by decide +kernel) 15 (by decide) (by decide +kernel) rfl rfl dX12_next_77 ?_
          refine x_iald (pc := 80) at1 K (cel_ne hc1 (by decide)) rfl (by omega) (by decide) dX12_next_80 ?_
          refine x_callS (pc := 81) (As := [.int (zI (t at1))]) K (c_X12_sort (E := E) (B := B) (N := N)    (by omega)) gX12_next_X12_sort rfl (na := 1) (by decide +kernel) rfl ⟨(Nat.le_of_ble_eq_true rfl), (Nat.le_of_ble_eq_true rfl)⟩ (st := [.ref (B + 161)]) rfl (Nat.le_of_ble_eq_true rfl) ⟨(Nat.le_of_ble_eq_true rfl), (Nat.le_of_ble_eq_true rfl)⟩ dX12_next_81 (fun r81 N81 w81 hpo81 hN81 => ?_)
          obtain ⟨rfl, rfl, rfl⟩ := hpo81
          refine x_st (st' := [.int (zI (srt (t at1))), .ref (B + 161)]) rfl ?_
          refine x_goto (pc := 84) (tgt := 88) K dX12_next_84 (by decide) ?_
          refine x_nm (fun tk htk0 => ?_)
          have htk : tk = if at1 < n then srt (t at1) else 0 := by rw [htk0, if_pos (by omega)]
          have htr : 0 ≤ tk ∧ tk ≤ 4 := by have := srt_rng (t at1); rw [htk]; split <;> omega
          refine x_put (pc := 88) (C := RX12) (T := TX12) (n := 26) (ci := 11) (idx := 100) (ref := "BorderBedsModel") (ty := .int)  K (cel_self hc0.1) rfl (by decide +kernel) tyX12 tyX12_ok nmX12 17 (by decide) (by decide +kernel) rfl rfl (by decide +kernel) rfl rfl (Nat.le_of_ble_eq_true rfl) dX12_next_88 ?_
          refine x_v (w := (va_up v 161 (oM B (va_up (va_up (va_up F 15 (at1 : Int)) 16 (at1 : Int)) 17 tk) V))) (up_at0).symm ?_
          refine x_aload_n (pc := 91) 0 K rfl rfl dX12_next_91 ?_
          refine x_lconst (pc := 92) (0) K (by decide) dX12_next_92 ?_
          refine x_put (pc := 93) (C := RX12) (T := TX12) (n := 26) (ci := 11) (idx := 103) (ref := "BorderBedsModel") (ty := .long)  K (cel_self hc0.1) rfl (by decide +kernel) tyX12 tyX12_ok nmX12 18 (by decide) (by decide +kernel) rfl rfl (by decide +kernel) rfl rfl (Nat.le_of_ble_eq_true rfl) dX12_next_93 ?_
          refine x_v (w := (va_up v 161 (oM B (va_up (va_up (va_up F 15 (at1 : Int)) 16 (at1 : Int)) 17 tk) 0))) (up_at0).symm ?_
          refine x_aload_n (pc := 96) 0 K rfl rfl dX12_next_96 ?_
          refine x_dup (pc := 97) K rfl dX12_next_97 ?_
          refine x_get (pc := 98) (C := RX12) (T := TX12) (n := 26) (ci := 11) (idx := 88) (ref := "BorderBedsModel") (x := .int (zI (at1 : Int)))  K (cel_self hc0.1) rfl (by decide +kernel) 15 (by decide) (by decide +kernel) rfl rfl dX12_next_98 ?_
          refine x_aload_n (pc := 101) 0 K rfl rfl dX12_next_101 ?_
          refine x_get (pc := 102) (C := RX12) (T := TX12) (n := 26) (ci := 11) (idx := 100) (ref := "BorderBedsModel") (x := .int (zI tk))  K (cel_self hc0.1) rfl (by decide +kernel) 17 (by decide) (by decide +kernel) rfl rfl dX12_next_102 ?_
          refine x_iconst (pc := 105) K dX12_next_105 ?_
          refine x_icmp_le (pc := 106) (tgt := 113) K (by omega) (by decide) dX12_next_106 (by decide) (fun h_106 => ?_) (fun h_106 => ?_)
          · skip
            refine x_iconst (pc := 113) K dX12_next_113 ?_
            refine x_iadd (pc := 114) K dX12_next_114 ?_
            refine x_put (pc := 115) (C := RX12) (T := TX12) (n := 26) (ci := 11) (idx := 88) (ref := "BorderBedsModel") (ty := .int)  K (cel_self hc0.1) rfl (by decide +kernel) tyX12 tyX12_ok nmX12 15 (by decide) (by decide +kernel) rfl rfl (by decide +kernel) rfl rfl (Nat.le_of_ble_eq_true rfl) dX12_next_115 ?_
            refine x_v (w := (va_up v 161 (oM B (va_up (va_up (va_up F 15 ((at1 : Int) + 0)) 16 (at1 : Int)) 17 tk) 0))) (up_at0).symm ?_
            have LOOP118 : ∀ (n_118 : Nat) (zq : Nat) (y : Int), (zq ≤ 400) → (((tk = 1 ∨ tk = 2) ∧ at1 ≤ zq ∧ reT t n tk zq = reT t n tk at1 ∧ y = valT t tk at1 (zq - at1)) ∨ (¬ (tk = 1 ∨ tk = 2) ∧ (zq : Int) = (at1 : Int) + (if 2 < tk then 1 else 0) ∧ y = 0)) → (n + 1 - zq) < n_118 → XW Γ N (va_up v 161 (oM B (va_up (va_up (va_up F 15 (zq : Int)) 16 (at1 : Int)) 17 tk) y)) [(0, .ref (B + 161))] 0 0 118 [] := by
              intro n_118
              induction n_118 with
              | zero =>
                intro zq y hi118_0 hi118_1 hm_118
                exfalso; omega
              | succ n_118 ih118 =>
                intro zq y hi118_0 hi118_1 hm_118
                refine x_aload_n (pc := 118) 0 K rfl rfl dX12_next_118 ?_
                refine x_get (pc := 119) (C := RX12) (T := TX12) (n := 26) (ci := 11) (idx := 100) (ref := "BorderBedsModel") (x := .int (zI tk))  K (cel_self hc0.1) rfl (by decide +kernel) 17 (by decide) (by decide +kernel) rfl rfl dX12_next_119 ?_
                refine x_if_le (pc := 122) (tgt := 251) K (by omega) dX12_next_122 (by decide) (fun h_122 => ?_) (fun h_122 => ?_)
                · skip
                  have hend : (tk = 1 ∨ tk = 2) → ¬ (zq < n ∧ srt (t zq) = tk) := by omega
                  refine x_aload_n (pc := 251) 0 K rfl rfl dX12_next_251 ?_
                  refine x_aload_n (pc := 252) 0 K rfl rfl dX12_next_252 ?_
                  refine x_get (pc := 253) (C := RX12) (T := TX12) (n := 26) (ci := 11) (idx := 100) (ref := "BorderBedsModel") (x := .int (zI tk))  K (cel_self hc0.1) rfl (by decide +kernel) 17 (by decide) (by decide +kernel) rfl rfl dX12_next_253 ?_
                  refine x_iconst (pc := 256) K dX12_next_256 ?_
                  refine x_icmp_ne (pc := 257) (tgt := 277) K (by omega) (by decide) dX12_next_257 (by decide) (fun h_257 => ?_) (fun h_257 => ?_)
                  · skip
                    refine x_aload_n (pc := 277) 0 K rfl rfl dX12_next_277 ?_
                    refine x_get (pc := 278) (C := RX12) (T := TX12) (n := 26) (ci := 11) (idx := 100) (ref := "BorderBedsModel") (x := .int (zI tk))  K (cel_self hc0.1) rfl (by decide +kernel) 17 (by decide) (by decide +kernel) rfl rfl dX12_next_278 ?_
                    refine x_put (pc := 281) (C := RX12) (T := TX12) (n := 26) (ci := 11) (idx := 100) (ref := "BorderBedsModel") (ty := .int)  K (cel_self hc0.1) rfl (by decide +kernel) tyX12 tyX12_ok nmX12 17 (by decide) (by decide +kernel) rfl rfl (by decide +kernel) rfl rfl (Nat.le_of_ble_eq_true rfl) dX12_next_281 ?_
                    refine x_v (w := (va_up v 161 (oM B (va_up (va_up (va_up F 15 (zq : Int)) 16 (at1 : Int)) 17 tk) y))) (up_at0).symm ?_
                    refine x_vret (pc := 284) K KR (by omega) (Nat.le_of_ble_eq_true rfl) (Nat.le_of_ble_eq_true rfl) dX12_next_284 ?_
                    obtain ⟨hE, hV, hK⟩ := tok_fin hsk htk hi118_1 hend
                    have hKK : tokK t n a = tk := by rw [hK]; split <;> omega
                    exact ⟨rfl, rfl, by rw [hE, hV, hKK, hsk]⟩
                  · skip
                    refine x_aload_n (pc := 260) 0 K rfl rfl dX12_next_260 ?_
                    refine x_get (pc := 261) (C := RX12) (T := TX12) (n := 26) (ci := 11) (idx := 88) (ref := "BorderBedsModel") (x := .int (zI (zq : Int)))  K (cel_self hc0.1) rfl (by decide +kernel) 15 (by decide) (by decide +kernel) rfl rfl dX12_next_261 ?_
                    refine x_aload_n (pc := 264) 0 K rfl rfl dX12_next_264 ?_
                    refine x_get (pc := 265) (C := RX12) (T := TX12) (n := 26) (ci := 11) (idx := 94) (ref := "BorderBedsModel") (x := .int (zI (at1 : Int)))  K (cel_self hc0.1) rfl (by decide +kernel) 16 (by decide) (by decide +kernel) rfl rfl dX12_next_265 ?_
                    refine x_isub (pc := 268) K dX12_next_268 ?_
                    refine x_iconst (pc := 269) K dX12_next_269 ?_
                    refine x_icmp_le (pc := 270) (tgt := 277) K (by omega) (by decide) dX12_next_270 (by decide) (fun h_270 => ?_) (fun h_270 => ?_)
                    · skip
                      refine x_aload_n (pc := 277) 0 K rfl rfl dX12_next_277 ?_
                      refine x_get (pc := 278) (C := RX12) (T := TX12) (n := 26) (ci := 11) (idx := 100) (ref := "BorderBedsModel") (x := .int (zI tk))  K (cel_self hc0.1) rfl (by decide +kernel) 17 (by decide) (by decide +kernel) rfl rfl dX12_next_278 ?_
                      refine x_put (pc := 281) (C := RX12) (T := TX12) (n := 26) (ci := 11) (idx := 100) (ref := "BorderBedsModel") (ty := .int)  K (cel_self hc0.1) rfl (by decide +kernel) tyX12 tyX12_ok nmX12 17 (by decide) (by decide +kernel) rfl rfl (by decide +kernel) rfl rfl (Nat.le_of_ble_eq_true rfl) dX12_next_281 ?_
                      refine x_v (w := (va_up v 161 (oM B (va_up (va_up (va_up F 15 (zq : Int)) 16 (at1 : Int)) 17 tk) y))) (up_at0).symm ?_
                      refine x_vret (pc := 284) K KR (by omega) (Nat.le_of_ble_eq_true rfl) (Nat.le_of_ble_eq_true rfl) dX12_next_284 ?_
                      obtain ⟨hE, hV, hK⟩ := tok_fin hsk htk hi118_1 hend
                      have hKK : tokK t n a = tk := by rw [hK]; split <;> omega
                      exact ⟨rfl, rfl, by rw [hE, hV, hKK, hsk]⟩
                    · skip
                      refine x_iconst (pc := 273) K dX12_next_273 ?_
                      refine x_goto (pc := 274) (tgt := 281) K dX12_next_274 (by decide) ?_
                      refine x_put (pc := 281) (C := RX12) (T := TX12) (n := 26) (ci := 11) (idx := 100) (ref := "BorderBedsModel") (ty := .int)  K (cel_self hc0.1) rfl (by decide +kernel) tyX12 tyX12_ok nmX12 17 (by decide) (by decide +kernel) rfl rfl (by decide +kernel) rfl rfl (Nat.le_of_ble_eq_true rfl) dX12_next_281 ?_
                      refine x_v (w := (va_up v 161 (oM B (va_up (va_up (va_up F 15 (zq : Int)) 16 (at1 : Int)) 17 4) y))) (up_at0).symm ?_
                      refine x_vret (pc := 284) K KR (by omega) (Nat.le_of_ble_eq_true rfl) (Nat.le_of_ble_eq_true rfl) dX12_next_284 ?_
                      obtain ⟨hE, hV, hK⟩ := tok_fin hsk htk hi118_1 hend
                      have hKK : tokK t n a = 4 := by rw [hK]; split <;> omega
                      exact ⟨rfl, rfl, by rw [hE, hV, hKK, hsk]⟩
                · skip
                  refine x_aload_n (pc := 125) 0 K rfl rfl dX12_next_125 ?_
                  refine x_get (pc := 126) (C := RX12) (T := TX12) (n := 26) (ci := 11) (idx := 100) (ref := "BorderBedsModel") (x := .int (zI tk))  K (cel_self hc0.1) rfl (by decide +kernel) 17 (by decide) (by decide +kernel) rfl rfl dX12_next_126 ?_
                  refine x_iconst (pc := 129) K dX12_next_129 ?_
                  refine x_icmp_ge (pc := 130) (tgt := 251) K (by omega) (by decide) dX12_next_130 (by decide) (fun h_130 => ?_) (fun h_130 => ?_)
                  · skip
                    have hend : (tk = 1 ∨ tk = 2) → ¬ (zq < n ∧ srt (t zq) = tk) := by omega
                    refine x_aload_n (pc := 251) 0 K rfl rfl dX12_next_251 ?_
                    refine x_aload_n (pc := 252) 0 K rfl rfl dX12_next_252 ?_
                    refine x_get (pc := 253) (C := RX12) (T := TX12) (n := 26) (ci := 11) (idx := 100) (ref := "BorderBedsModel") (x := .int (zI tk))  K (cel_self hc0.1) rfl (by decide +kernel) 17 (by decide) (by decide +kernel) rfl rfl dX12_next_253 ?_
                    refine x_iconst (pc := 256) K dX12_next_256 ?_
                    refine x_icmp_ne (pc := 257) (tgt := 277) K (by omega) (by decide) dX12_next_257 (by decide) (fun h_257 => ?_) (fun h_257 => ?_)
                    · skip
                      refine x_aload_n (pc := 277) 0 K rfl rfl dX12_next_277 ?_
                      refine x_get (pc := 278) (C := RX12) (T := TX12) (n := 26) (ci := 11) (idx := 100) (ref := "BorderBedsModel") (x := .int (zI tk))  K (cel_self hc0.1) rfl (by decide +kernel) 17 (by decide) (by decide +kernel) rfl rfl dX12_next_278 ?_
                      refine x_put (pc := 281) (C := RX12) (T := TX12) (n := 26) (ci := 11) (idx := 100) (ref := "BorderBedsModel") (ty := .int)  K (cel_self hc0.1) rfl (by decide +kernel) tyX12 tyX12_ok nmX12 17 (by decide) (by decide +kernel) rfl rfl (by decide +kernel) rfl rfl (Nat.le_of_ble_eq_true rfl) dX12_next_281 ?_
                      refine x_v (w := (va_up v 161 (oM B (va_up (va_up (va_up F 15 (zq : Int)) 16 (at1 : Int)) 17 tk) y))) (up_at0).symm ?_
                      refine x_vret (pc := 284) K KR (by omega) (Nat.le_of_ble_eq_true rfl) (Nat.le_of_ble_eq_true rfl) dX12_next_284 ?_
                      obtain ⟨hE, hV, hK⟩ := tok_fin hsk htk hi118_1 hend
                      have hKK : tokK t n a = tk := by rw [hK]; split <;> omega
                      exact ⟨rfl, rfl, by rw [hE, hV, hKK, hsk]⟩
                    · skip
                      refine x_aload_n (pc := 260) 0 K rfl rfl dX12_next_260 ?_
                      refine x_get (pc := 261) (C := RX12) (T := TX12) (n := 26) (ci := 11) (idx := 88) (ref := "BorderBedsModel") (x := .int (zI (zq : Int)))  K (cel_self hc0.1) rfl (by decide +kernel) 15 (by decide) (by decide +kernel) rfl rfl dX12_next_261 ?_
                      refine x_aload_n (pc := 264) 0 K rfl rfl dX12_next_264 ?_
                      refine x_get (pc := 265) (C := RX12) (T := TX12) (n := 26) (ci := 11) (idx := 94) (ref := "BorderBedsModel") (x := .int (zI (at1 : Int)))  K (cel_self hc0.1) rfl (by decide +kernel) 16 (by decide) (by decide +kernel) rfl rfl dX12_next_265 ?_
                      refine x_isub (pc := 268) K dX12_next_268 ?_
                      refine x_iconst (pc := 269) K dX12_next_269 ?_
                      refine x_icmp_le (pc := 270) (tgt := 277) K (by omega) (by decide) dX12_next_270 (by decide) (fun h_270 => ?_) (fun h_270 => ?_)
                      · skip
                        refine x_aload_n (pc := 277) 0 K rfl rfl dX12_next_277 ?_
                        refine x_get (pc := 278) (C := RX12) (T := TX12) (n := 26) (ci := 11) (idx := 100) (ref := "BorderBedsModel") (x := .int (zI tk))  K (cel_self hc0.1) rfl (by decide +kernel) 17 (by decide) (by decide +kernel) rfl rfl dX12_next_278 ?_
                        refine x_put (pc := 281) (C := RX12) (T := TX12) (n := 26) (ci := 11) (idx := 100) (ref := "BorderBedsModel") (ty := .int)  K (cel_self hc0.1) rfl (by decide +kernel) tyX12 tyX12_ok nmX12 17 (by decide) (by decide +kernel) rfl rfl (by decide +kernel) rfl rfl (Nat.le_of_ble_eq_true rfl) dX12_next_281 ?_
                        refine x_v (w := (va_up v 161 (oM B (va_up (va_up (va_up F 15 (zq : Int)) 16 (at1 : Int)) 17 tk) y))) (up_at0).symm ?_
                        refine x_vret (pc := 284) K KR (by omega) (Nat.le_of_ble_eq_true rfl) (Nat.le_of_ble_eq_true rfl) dX12_next_284 ?_
                        obtain ⟨hE, hV, hK⟩ := tok_fin hsk htk hi118_1 hend
                        have hKK : tokK t n a = tk := by rw [hK]; split <;> omega
                        exact ⟨rfl, rfl, by rw [hE, hV, hKK, hsk]⟩
                      · skip
                        refine x_iconst (pc := 273) K dX12_next_273 ?_
                        refine x_goto (pc := 274) (tgt := 281) K dX12_next_274 (by decide) ?_
                        refine x_put (pc := 281) (C := RX12) (T := TX12) (n := 26) (ci := 11) (idx := 100) (ref := "BorderBedsModel") (ty := .int)  K (cel_self hc0.1) rfl (by decide +kernel) tyX12 tyX12_ok nmX12 17 (by decide) (by decide +kernel) rfl rfl (by decide +kernel) rfl rfl (Nat.le_of_ble_eq_true rfl) dX12_next_281 ?_
                        refine x_v (w := (va_up v 161 (oM B (va_up (va_up (va_up F 15 (zq : Int)) 16 (at1 : Int)) 17 4) y))) (up_at0).symm ?_
                        refine x_vret (pc := 284) K KR (by omega) (Nat.le_of_ble_eq_true rfl) (Nat.le_of_ble_eq_true rfl) dX12_next_284 ?_
                        obtain ⟨hE, hV, hK⟩ := tok_fin hsk htk hi118_1 hend
                        have hKK : tokK t n a = 4 := by rw [hK]; split <;> omega
                        exact ⟨rfl, rfl, by rw [hE, hV, hKK, hsk]⟩
                  · skip
                    refine x_aload_n (pc := 133) 0 K rfl rfl dX12_next_133 ?_
                    refine x_get (pc := 134) (C := RX12) (T := TX12) (n := 26) (ci := 11) (idx := 88) (ref := "BorderBedsModel") (x := .int (zI (zq : Int)))  K (cel_self hc0.1) rfl (by decide +kernel) 15 (by decide) (by decide +kernel) rfl rfl dX12_next_134 ?_
                    refine x_aload_n (pc := 137) 0 K rfl rfl dX12_next_137 ?_
                    refine x_get (pc := 138) (C := RX12) (T := TX12) (n := 26) (ci := 11) (idx := 91) (ref := "BorderBedsModel") (x := .int (zI (F 19)))  K (cel_self hc0.1) rfl (by decide +kernel) 19 (by decide) (by decide +kernel) rfl rfl dX12_next_138 ?_
                    refine x_icmp_ge (pc := 141) (tgt := 251) K (by omega) (by omega) dX12_next_141 (by decide) (fun h_141 => ?_) (fun h_141 => ?_)
                    · skip
                      have hend : (tk = 1 ∨ tk = 2) → ¬ (zq < n ∧ srt (t zq) = tk) := by omega
                      refine x_aload_n (pc := 251) 0 K rfl rfl dX12_next_251 ?_
                      refine x_aload_n (pc := 252) 0 K rfl rfl dX12_next_252 ?_
                      refine x_get (pc := 253) (C := RX12) (T := TX12) (n := 26) (ci := 11) (idx := 100) (ref := "BorderBedsModel") (x := .int (zI tk))  K (cel_self hc0.1) rfl (by decide +kernel) 17 (by decide) (by decide +kernel) rfl rfl dX12_next_253 ?_
                      refine x_iconst (pc := 256) K dX12_next_256 ?_
                      refine x_icmp_ne (pc := 257) (tgt := 277) K (by omega) (by decide) dX12_next_257 (by decide) (fun h_257 => ?_) (fun h_257 => ?_)
                      · skip
                        refine x_aload_n (pc := 277) 0 K rfl rfl dX12_next_277 ?_
                        refine x_get (pc := 278) (C := RX12) (T := TX12) (n := 26) (ci := 11) (idx := 100) (ref := "BorderBedsModel") (x := .int (zI tk))  K (cel_self hc0.1) rfl (by decide +kernel) 17 (by decide) (by decide +kernel) rfl rfl dX12_next_278 ?_
                        refine x_put (pc := 281) (C := RX12) (T := TX12) (n := 26) (ci := 11) (idx := 100) (ref := "BorderBedsModel") (ty := .int)  K (cel_self hc0.1) rfl (by decide +kernel) tyX12 tyX12_ok nmX12 17 (by decide) (by decide +kernel) rfl rfl (by decide +kernel) rfl rfl (Nat.le_of_ble_eq_true rfl) dX12_next_281 ?_
                        refine x_v (w := (va_up v 161 (oM B (va_up (va_up (va_up F 15 (zq : Int)) 16 (at1 : Int)) 17 tk) y))) (up_at0).symm ?_
                        refine x_vret (pc := 284) K KR (by omega) (Nat.le_of_ble_eq_true rfl) (Nat.le_of_ble_eq_true rfl) dX12_next_284 ?_
                        obtain ⟨hE, hV, hK⟩ := tok_fin hsk htk hi118_1 hend
                        have hKK : tokK t n a = tk := by rw [hK]; split <;> omega
                        exact ⟨rfl, rfl, by rw [hE, hV, hKK, hsk]⟩
                      · skip
                        refine x_aload_n (pc := 260) 0 K rfl rfl dX12_next_260 ?_
                        refine x_get (pc := 261) (C := RX12) (T := TX12) (n := 26) (ci := 11) (idx := 88) (ref := "BorderBedsModel") (x := .int (zI (zq : Int)))  K (cel_self hc0.1) rfl (by decide +kernel) 15 (by decide) (by decide +kernel) rfl rfl dX12_next_261 ?_
                        refine x_aload_n (pc := 264) 0 K rfl rfl dX12_next_264 ?_
                        refine x_get (pc := 265) (C := RX12) (T := TX12) (n := 26) (ci := 11) (idx := 94) (ref := "BorderBedsModel") (x := .int (zI (at1 : Int)))  K (cel_self hc0.1) rfl (by decide +kernel) 16 (by decide) (by decide +kernel) rfl rfl dX12_next_265 ?_
                        refine x_isub (pc := 268) K dX12_next_268 ?_
                        refine x_iconst (pc := 269) K dX12_next_269 ?_
                        refine x_icmp_le (pc := 270) (tgt := 277) K (by omega) (by decide) dX12_next_270 (by decide) (fun h_270 => ?_) (fun h_270 => ?_)
                        · skip
                          refine x_aload_n (pc := 277) 0 K rfl rfl dX12_next_277 ?_
                          refine x_get (pc := 278) (C := RX12) (T := TX12) (n := 26) (ci := 11) (idx := 100) (ref := "BorderBedsModel") (x := .int (zI tk))  K (cel_self hc0.1) rfl (by decide +kernel) 17 (by decide) (by decide +kernel) rfl rfl dX12_next_278 ?_
                          refine x_put (pc := 281) (C := RX12) (T := TX12) (n := 26) (ci := 11) (idx := 100) (ref := "BorderBedsModel") (ty := .int)  K (cel_self hc0.1) rfl (by decide +kernel) tyX12 tyX12_ok nmX12 17 (by decide) (by decide +kernel) rfl rfl (by decide +kernel) rfl rfl (Nat.le_of_ble_eq_true rfl) dX12_next_281 ?_
                          refine x_v (w := (va_up v 161 (oM B (va_up (va_up (va_up F 15 (zq : Int)) 16 (at1 : Int)) 17 tk) y))) (up_at0).symm ?_
                          refine x_vret (pc := 284) K KR (by omega) (Nat.le_of_ble_eq_true rfl) (Nat.le_of_ble_eq_true rfl) dX12_next_284 ?_
                          obtain ⟨hE, hV, hK⟩ := tok_fin hsk htk hi118_1 hend
                          have hKK : tokK t n a = tk := by rw [hK]; split <;> omega
                          exact ⟨rfl, rfl, by rw [hE, hV, hKK, hsk]⟩
                        · skip
                          refine x_iconst (pc := 273) K dX12_next_273 ?_
                          refine x_goto (pc := 274) (tgt := 281) K dX12_next_274 (by decide) ?_
                          refine x_put (pc := 281) (C := RX12) (T := TX12) (n := 26) (ci := 11) (idx := 100) (ref := "BorderBedsModel") (ty := .int)  K (cel_self hc0.1) rfl (by decide +kernel) tyX12 tyX12_ok nmX12 17 (by decide) (by decide +kernel) rfl rfl (by decide +kernel) rfl rfl (Nat.le_of_ble_eq_true rfl) dX12_next_281 ?_
                          refine x_v (w := (va_up v 161 (oM B (va_up (va_up (va_up F 15 (zq : Int)) 16 (at1 : Int)) 17 4) y))) (up_at0).symm ?_
                          refine x_vret (pc := 284) K KR (by omega) (Nat.le_of_ble_eq_true rfl) (Nat.le_of_ble_eq_true rfl) dX12_next_284 ?_
                          obtain ⟨hE, hV, hK⟩ := tok_fin hsk htk hi118_1 hend
                          have hKK : tokK t n a = 4 := by rw [hK]; split <;> omega
                          exact ⟨rfl, rfl, by rw [hE, hV, hKK, hsk]⟩
                    · skip
                      have b152 := hq3 zq
                      have s152 := srt_rng (t zq)
                      refine x_aload_n (pc := 144) 0 K rfl rfl dX12_next_144 ?_
                      refine x_get (pc := 145) (C := RX12) (T := TX12) (n := 26) (ci := 11) (idx := 19) (ref := "BorderBedsModel") (x := .ref (B + 165))  K (cel_self hc0.1) rfl (by decide +kernel) 4 (by decide) (by decide +kernel) rfl rfl dX12_next_145 ?_
                      refine x_aload_n (pc := 148) 0 K rfl rfl dX12_next_148 ?_
                      refine x_get (pc := 149) (C := RX12) (T := TX12) (n := 26) (ci := 11) (idx := 88) (ref := "BorderBedsModel") (x := .int (zI (zq : Int)))  K (cel_self hc0.1) rfl (by decide +kernel) 15 (by decide) (by decide +kernel) rfl rfl dX12_next_149 ?_
                      refine x_iald (pc := 152) zq K (cel_ne hc1 (by decide)) rfl (by omega) (by decide) dX12_next_152 ?_
                      refine x_callS (pc := 153) (As := [.int (zI (t zq))]) K (c_X12_sort (E := E) (B := B) (N := N)    (by omega)) gX12_next_X12_sort rfl (na := 1) (by decide +kernel) rfl ⟨(Nat.le_of_ble_eq_true rfl), (Nat.le_of_ble_eq_true rfl)⟩ (st := []) rfl (Nat.le_of_ble_eq_true rfl) ⟨(Nat.le_of_ble_eq_true rfl), (Nat.le_of_ble_eq_true rfl)⟩ dX12_next_153 (fun r153 N153 w153 hpo153 hN153 => ?_)
                      obtain ⟨rfl, rfl, rfl⟩ := hpo153
                      refine x_st (st' := [.int (zI (srt (t zq)))]) rfl ?_
                      refine x_aload_n (pc := 156) 0 K rfl rfl dX12_next_156 ?_
                      refine x_get (pc := 157) (C := RX12) (T := TX12) (n := 26) (ci := 11) (idx := 100) (ref := "BorderBedsModel") (x := .int (zI tk))  K (cel_self hc0.1) rfl (by decide +kernel) 17 (by decide) (by decide +kernel) rfl rfl dX12_next_157 ?_
                      refine x_icmp_ne (pc := 160) (tgt := 251) K (by omega) (by omega) dX12_next_160 (by decide) (fun h_160 => ?_) (fun h_160 => ?_)
                      · skip
                        have hend : (tk = 1 ∨ tk = 2) → ¬ (zq < n ∧ srt (t zq) = tk) := by omega
                        refine x_aload_n (pc := 251) 0 K rfl rfl dX12_next_251 ?_
                        refine x_aload_n (pc := 252) 0 K rfl rfl dX12_next_252 ?_
                        refine x_get (pc := 253) (C := RX12) (T := TX12) (n := 26) (ci := 11) (idx := 100) (ref := "BorderBedsModel") (x := .int (zI tk))  K (cel_self hc0.1) rfl (by decide +kernel) 17 (by decide) (by decide +kernel) rfl rfl dX12_next_253 ?_
                        refine x_iconst (pc := 256) K dX12_next_256 ?_
                        refine x_icmp_ne (pc := 257) (tgt := 277) K (by omega) (by decide) dX12_next_257 (by decide) (fun h_257 => ?_) (fun h_257 => ?_)
                        · skip
                          refine x_aload_n (pc := 277) 0 K rfl rfl dX12_next_277 ?_
                          refine x_get (pc := 278) (C := RX12) (T := TX12) (n := 26) (ci := 11) (idx := 100) (ref := "BorderBedsModel") (x := .int (zI tk))  K (cel_self hc0.1) rfl (by decide +kernel) 17 (by decide) (by decide +kernel) rfl rfl dX12_next_278 ?_
                          refine x_put (pc := 281) (C := RX12) (T := TX12) (n := 26) (ci := 11) (idx := 100) (ref := "BorderBedsModel") (ty := .int)  K (cel_self hc0.1) rfl (by decide +kernel) tyX12 tyX12_ok nmX12 17 (by decide) (by decide +kernel) rfl rfl (by decide +kernel) rfl rfl (Nat.le_of_ble_eq_true rfl) dX12_next_281 ?_
                          refine x_v (w := (va_up v 161 (oM B (va_up (va_up (va_up F 15 (zq : Int)) 16 (at1 : Int)) 17 tk) y))) (up_at0).symm ?_
                          refine x_vret (pc := 284) K KR (by omega) (Nat.le_of_ble_eq_true rfl) (Nat.le_of_ble_eq_true rfl) dX12_next_284 ?_
                          obtain ⟨hE, hV, hK⟩ := tok_fin hsk htk hi118_1 hend
                          have hKK : tokK t n a = tk := by rw [hK]; split <;> omega
                          exact ⟨rfl, rfl, by rw [hE, hV, hKK, hsk]⟩
                        · skip
                          refine x_aload_n (pc := 260) 0 K rfl rfl dX12_next_260 ?_
                          refine x_get (pc := 261) (C := RX12) (T := TX12) (n := 26) (ci := 11) (idx := 88) (ref := "BorderBedsModel") (x := .int (zI (zq : Int)))  K (cel_self hc0.1) rfl (by decide +kernel) 15 (by decide) (by decide +kernel) rfl rfl dX12_next_261 ?_
                          refine x_aload_n (pc := 264) 0 K rfl rfl dX12_next_264 ?_
                          refine x_get (pc := 265) (C := RX12) (T := TX12) (n := 26) (ci := 11) (idx := 94) (ref := "BorderBedsModel") (x := .int (zI (at1 : Int)))  K (cel_self hc0.1) rfl (by decide +kernel) 16 (by decide) (by decide +kernel) rfl rfl dX12_next_265 ?_
                          refine x_isub (pc := 268) K dX12_next_268 ?_
                          refine x_iconst (pc := 269) K dX12_next_269 ?_
                          refine x_icmp_le (pc := 270) (tgt := 277) K (by omega) (by decide) dX12_next_270 (by decide) (fun h_270 => ?_) (fun h_270 => ?_)
                          · skip
                            refine x_aload_n (pc := 277) 0 K rfl rfl dX12_next_277 ?_
                            refine x_get (pc := 278) (C := RX12) (T := TX12) (n := 26) (ci := 11) (idx := 100) (ref := "BorderBedsModel") (x := .int (zI tk))  K (cel_self hc0.1) rfl (by decide +kernel) 17 (by decide) (by decide +kernel) rfl rfl dX12_next_278 ?_
                            refine x_put (pc := 281) (C := RX12) (T := TX12) (n := 26) (ci := 11) (idx := 100) (ref := "BorderBedsModel") (ty := .int)  K (cel_self hc0.1) rfl (by decide +kernel) tyX12 tyX12_ok nmX12 17 (by decide) (by decide +kernel) rfl rfl (by decide +kernel) rfl rfl (Nat.le_of_ble_eq_true rfl) dX12_next_281 ?_
                            refine x_v (w := (va_up v 161 (oM B (va_up (va_up (va_up F 15 (zq : Int)) 16 (at1 : Int)) 17 tk) y))) (up_at0).symm ?_
                            refine x_vret (pc := 284) K KR (by omega) (Nat.le_of_ble_eq_true rfl) (Nat.le_of_ble_eq_true rfl) dX12_next_284 ?_
                            obtain ⟨hE, hV, hK⟩ := tok_fin hsk htk hi118_1 hend
                            have hKK : tokK t n a = tk := by rw [hK]; split <;> omega
                            exact ⟨rfl, rfl, by rw [hE, hV, hKK, hsk]⟩
                          · skip
                            refine x_iconst (pc := 273) K dX12_next_273 ?_
                            refine x_goto (pc := 274) (tgt := 281) K dX12_next_274 (by decide) ?_
                            refine x_put (pc := 281) (C := RX12) (T := TX12) (n := 26) (ci := 11) (idx := 100) (ref := "BorderBedsModel") (ty := .int)  K (cel_self hc0.1) rfl (by decide +kernel) tyX12 tyX12_ok nmX12 17 (by decide) (by decide +kernel) rfl rfl (by decide +kernel) rfl rfl (Nat.le_of_ble_eq_true rfl) dX12_next_281 ?_
                            refine x_v (w := (va_up v 161 (oM B (va_up (va_up (va_up F 15 (zq : Int)) 16 (at1 : Int)) 17 4) y))) (up_at0).symm ?_
                            refine x_vret (pc := 284) K KR (by omega) (Nat.le_of_ble_eq_true rfl) (Nat.le_of_ble_eq_true rfl) dX12_next_284 ?_
                            obtain ⟨hE, hV, hK⟩ := tok_fin hsk htk hi118_1 hend
                            have hKK : tokK t n a = 4 := by rw [hK]; split <;> omega
                            exact ⟨rfl, rfl, by rw [hE, hV, hKK, hsk]⟩
                      · skip
                        have hgo : reT t n tk (zq + 1) = reT t n tk zq := reT_go (by omega) (by omega)
                        have hold : (tk = 1 ∨ tk = 2) ∧ at1 ≤ zq ∧ reT t n tk zq = reT t n tk at1 ∧ y = valT t tk at1 (zq - at1) := by
                          rcases hi118_1 with h | h
                          · exact h
                          · exfalso; have := h.1; omega
                        have hvs : valT t tk at1 (zq + 1 - at1) = if 7 < zq - at1 then -1 else if tk = 1 then 32 * valT t tk at1 (zq - at1) + t (at1 + (zq - at1)) - 96 else 10 * valT t tk at1 (zq - at1) + t (at1 + (zq - at1)) - 48 := by rw [show zq + 1 - at1 = (zq - at1) + 1 by omega]; rfl
                        rw [show at1 + (zq - at1) = zq by omega, ← hold.2.2.2] at hvs
                        refine x_aload_n (pc := 163) 0 K rfl rfl dX12_next_163 ?_
                        refine x_get (pc := 164) (C := RX12) (T := TX12) (n := 26) (ci := 11) (idx := 19) (ref := "BorderBedsModel") (x := .ref (B + 165))  K (cel_self hc0.1) rfl (by decide +kernel) 4 (by decide) (by decide +kernel) rfl rfl dX12_next_164 ?_
                        refine x_aload_n (pc := 167) 0 K rfl rfl dX12_next_167 ?_
                        refine x_get (pc := 168) (C := RX12) (T := TX12) (n := 26) (ci := 11) (idx := 88) (ref := "BorderBedsModel") (x := .int (zI (zq : Int)))  K (cel_self hc0.1) rfl (by decide +kernel) 15 (by decide) (by decide +kernel) rfl rfl dX12_next_168 ?_
                        refine x_iald (pc := 171) zq K (cel_ne hc1 (by decide)) rfl (by omega) (by decide) dX12_next_171 ?_
                        refine x_nm (fun z3 hz3 => ?_)
                        refine x_istore_n (pc := 172) K (L' := [(1, .int (zI z3)), (0, .ref (B + 161))]) hnL rfl (by decide) rfl dX12_next_172 ?_
                        refine x_aload_n (pc := 173) 1 K rfl rfl dX12_next_173 ?_
                        refine x_aload_n (pc := 174) 1 K rfl rfl dX12_next_174 ?_
                        refine x_get (pc := 175) (C := RX12) (T := TX12) (n := 26) (ci := 11) (idx := 88) (ref := "BorderBedsModel") (x := .int (zI (zq : Int)))  K (cel_self hc0.1) rfl (by decide +kernel) 15 (by decide) (by decide +kernel) rfl rfl dX12_next_175 ?_
                        refine x_aload_n (pc := 178) 1 K rfl rfl dX12_next_178 ?_
                        refine x_get (pc := 179) (C := RX12) (T := TX12) (n := 26) (ci := 11) (idx := 94) (ref := "BorderBedsModel") (x := .int (zI (at1 : Int)))  K (cel_self hc0.1) rfl (by decide +kernel) 16 (by decide) (by decide +kernel) rfl rfl dX12_next_179 ?_
                        refine x_isub (pc := 182) K dX12_next_182 ?_
                        refine x_bipush (pc := 183) K (by decide) dX12_next_183 ?_
                        refine x_icmp_le (pc := 185) (tgt := 194) K (by omega) (by decide) dX12_next_185 (by decide) (fun h_185 => ?_) (fun h_185 => ?_)
                        · skip
                          refine x_aload_n (pc := 194) 1 K rfl rfl dX12_next_194 ?_
                          refine x_get (pc := 195) (C := RX12) (T := TX12) (n := 26) (ci := 11) (idx := 100) (ref := "BorderBedsModel") (x := .int (zI tk))  K (cel_self hc0.1) rfl (by decide +kernel) 17 (by decide) (by decide +kernel) rfl rfl dX12_next_195 ?_
                          refine x_iconst (pc := 198) K dX12_next_198 ?_
                          refine x_icmp_ne (pc := 199) (tgt := 220) K (by omega) (by decide) dX12_next_199 (by decide) (fun h_199 => ?_) (fun h_199 => ?_)
                          · skip
                            refine x_ldc2 (pc := 220) (x := (10)) (10) K (by decide) (by decide +kernel) dX12_next_220 ?_
                            refine x_aload_n (pc := 223) 1 K rfl rfl dX12_next_223 ?_
                            refine x_get (pc := 224) (C := RX12) (T := TX12) (n := 26) (ci := 11) (idx := 103) (ref := "BorderBedsModel") (x := .long (zL y))  K (cel_self hc0.1) rfl (by decide +kernel) 18 (by decide) (by decide +kernel) rfl rfl dX12_next_224 ?_
                            refine x_lmul (pc := 227) K dX12_next_227 ?_
                            refine x_iload_n (pc := 228) 0 K rfl rfl dX12_next_228 ?_
                            refine x_i2l (pc := 229) K (by omega) dX12_next_229 ?_
                            refine x_ladd (pc := 230) K dX12_next_230 ?_
                            refine x_ldc2 (pc := 231) (x := (48)) (48) K (by decide) (by decide +kernel) dX12_next_231 ?_
                            refine x_lsub (pc := 234) K dX12_next_234 ?_
                            refine x_put (pc := 235) (C := RX12) (T := TX12) (n := 26) (ci := 11) (idx := 103) (ref := "BorderBedsModel") (ty := .long)  K (cel_self hc0.1) rfl (by decide +kernel) tyX12 tyX12_ok nmX12 18 (by decide) (by decide +kernel) rfl rfl (by decide +kernel) rfl rfl (Nat.le_of_ble_eq_true rfl) dX12_next_235 ?_
                            refine x_v (w := (va_up v 161 (oM B (va_up (va_up (va_up F 15 (zq : Int)) 16 (at1 : Int)) 17 tk) (((10 * y) + z3) - 48)))) (up_at0).symm ?_
                            refine x_aload_n (pc := 238) 1 K rfl rfl dX12_next_238 ?_
                            refine x_dup (pc := 239) K rfl dX12_next_239 ?_
                            refine x_get (pc := 240) (C := RX12) (T := TX12) (n := 26) (ci := 11) (idx := 88) (ref := "BorderBedsModel") (x := .int (zI (zq : Int)))  K (cel_self hc0.1) rfl (by decide +kernel) 15 (by decide) (by decide +kernel) rfl rfl dX12_next_240 ?_
                            refine x_iconst (pc := 243) K dX12_next_243 ?_
                            refine x_iadd (pc := 244) K dX12_next_244 ?_
                            refine x_put (pc := 245) (C := RX12) (T := TX12) (n := 26) (ci := 11) (idx := 88) (ref := "BorderBedsModel") (ty := .int)  K (cel_self hc0.1) rfl (by decide +kernel) tyX12 tyX12_ok nmX12 15 (by decide) (by decide +kernel) rfl rfl (by decide +kernel) rfl rfl (Nat.le_of_ble_eq_true rfl) dX12_next_245 ?_
                            refine x_v (w := (va_up v 161 (oM B (va_up (va_up (va_up F 15 ((zq : Int) + 1)) 16 (at1 : Int)) 17 tk) (((10 * y) + z3) - 48)))) (up_at0).symm ?_
                            refine x_goto (pc := 248) (tgt := 118) K dX12_next_248 (by decide) ?_
                            refine x_sub (L' := [(0, .ref (B + 161))]) [1] rfl ?_
                            exact ih118 (zq + 1) (((10 * y) + z3) - 48) (by omega) (by exact Or.inl ⟨hold.1, by omega, by rw [hgo]; exact hold.2.2.1, by rw [hvs]; split <;> (try split) <;> omega⟩) (by omega)
                          · skip
                            refine x_ldc2 (pc := 202) (x := (32)) (32) K (by decide) (by decide +kernel) dX12_next_202 ?_
                            refine x_aload_n (pc := 205) 1 K rfl rfl dX12_next_205 ?_
                            refine x_get (pc := 206) (C := RX12) (T := TX12) (n := 26) (ci := 11) (idx := 103) (ref := "BorderBedsModel") (x := .long (zL y))  K (cel_self hc0.1) rfl (by decide +kernel) 18 (by decide) (by decide +kernel) rfl rfl dX12_next_206 ?_
                            refine x_lmul (pc := 209) K dX12_next_209 ?_
                            refine x_iload_n (pc := 210) 0 K rfl rfl dX12_next_210 ?_
                            refine x_i2l (pc := 211) K (by omega) dX12_next_211 ?_
                            refine x_ladd (pc := 212) K dX12_next_212 ?_
                            refine x_ldc2 (pc := 213) (x := (96)) (96) K (by decide) (by decide +kernel) dX12_next_213 ?_
                            refine x_lsub (pc := 216) K dX12_next_216 ?_
                            refine x_goto (pc := 217) (tgt := 235) K dX12_next_217 (by decide) ?_
                            refine x_put (pc := 235) (C := RX12) (T := TX12) (n := 26) (ci := 11) (idx := 103) (ref := "BorderBedsModel") (ty := .long)  K (cel_self hc0.1) rfl (by decide +kernel) tyX12 tyX12_ok nmX12 18 (by decide) (by decide +kernel) rfl rfl (by decide +kernel) rfl rfl (Nat.le_of_ble_eq_true rfl) dX12_next_235 ?_
                            refine x_v (w := (va_up v 161 (oM B (va_up (va_up (va_up F 15 (zq : Int)) 16 (at1 : Int)) 17 tk) (((32 * y) + z3) - 96)))) (up_at0).symm ?_
                            refine x_aload_n (pc := 238) 1 K rfl rfl dX12_next_238 ?_
                            refine x_dup (pc := 239) K rfl dX12_next_239 ?_
                            refine x_get (pc := 240) (C := RX12) (T := TX12) (n := 26) (ci := 11) (idx := 88) (ref := "BorderBedsModel") (x := .int (zI (zq : Int)))  K (cel_self hc0.1) rfl (by decide +kernel) 15 (by decide) (by decide +kernel) rfl rfl dX12_next_240 ?_
                            refine x_iconst (pc := 243) K dX12_next_243 ?_
                            refine x_iadd (pc := 244) K dX12_next_244 ?_
                            refine x_put (pc := 245) (C := RX12) (T := TX12) (n := 26) (ci := 11) (idx := 88) (ref := "BorderBedsModel") (ty := .int)  K (cel_self hc0.1) rfl (by decide +kernel) tyX12 tyX12_ok nmX12 15 (by decide) (by decide +kernel) rfl rfl (by decide +kernel) rfl rfl (Nat.le_of_ble_eq_true rfl) dX12_next_245 ?_
                            refine x_v (w := (va_up v 161 (oM B (va_up (va_up (va_up F 15 ((zq : Int) + 1)) 16 (at1 : Int)) 17 tk) (((32 * y) + z3) - 96)))) (up_at0).symm ?_
                            refine x_goto (pc := 248) (tgt := 118) K dX12_next_248 (by decide) ?_
                            refine x_sub (L' := [(0, .ref (B + 161))]) [1] rfl ?_
                            exact ih118 (zq + 1) (((32 * y) + z3) - 96) (by omega) (by exact Or.inl ⟨hold.1, by omega, by rw [hgo]; exact hold.2.2.1, by rw [hvs]; split <;> (try split) <;> omega⟩) (by omega)
                        · skip
                          refine x_ldc2 (pc := 188) (x := (-1)) (-1) K (by decide) (by decide +kernel) dX12_next_188 ?_
                          refine x_goto (pc := 191) (tgt := 235) K dX12_next_191 (by decide) ?_
                          refine x_put (pc := 235) (C := RX12) (T := TX12) (n := 26) (ci := 11) (idx := 103) (ref := "BorderBedsModel") (ty := .long)  K (cel_self hc0.1) rfl (by decide +kernel) tyX12 tyX12_ok nmX12 18 (by decide) (by decide +kernel) rfl rfl (by decide +kernel) rfl rfl (Nat.le_of_ble_eq_true rfl) dX12_next_235 ?_
                          refine x_v (w := (va_up v 161 (oM B (va_up (va_up (va_up F 15 (zq : Int)) 16 (at1 : Int)) 17 tk) (-1)))) (up_at0).symm ?_
                          refine x_aload_n (pc := 238) 1 K rfl rfl dX12_next_238 ?_
                          refine x_dup (pc := 239) K rfl dX12_next_239 ?_
                          refine x_get (pc := 240) (C := RX12) (T := TX12) (n := 26) (ci := 11) (idx := 88) (ref := "BorderBedsModel") (x := .int (zI (zq : Int)))  K (cel_self hc0.1) rfl (by decide +kernel) 15 (by decide) (by decide +kernel) rfl rfl dX12_next_240 ?_
                          refine x_iconst (pc := 243) K dX12_next_243 ?_
                          refine x_iadd (pc := 244) K dX12_next_244 ?_
                          refine x_put (pc := 245) (C := RX12) (T := TX12) (n := 26) (ci := 11) (idx := 88) (ref := "BorderBedsModel") (ty := .int)  K (cel_self hc0.1) rfl (by decide +kernel) tyX12 tyX12_ok nmX12 15 (by decide) (by decide +kernel) rfl rfl (by decide +kernel) rfl rfl (Nat.le_of_ble_eq_true rfl) dX12_next_245 ?_
                          refine x_v (w := (va_up v 161 (oM B (va_up (va_up (va_up F 15 ((zq : Int) + 1)) 16 (at1 : Int)) 17 tk) (-1)))) (up_at0).symm ?_
                          refine x_goto (pc := 248) (tgt := 118) K dX12_next_248 (by decide) ?_
                          refine x_sub (L' := [(0, .ref (B + 161))]) [1] rfl ?_
                          exact ih118 (zq + 1) (-1) (by omega) (by exact Or.inl ⟨hold.1, by omega, by rw [hgo]; exact hold.2.2.1, by rw [hvs]; split <;> (try split) <;> omega⟩) (by omega)
            exact LOOP118 (_) (at1 + 0) 0 (by (first | omega | (have : at1 < n := by (by_cases q : at1 < n; exact q; rw [if_neg q] at htk; omega); omega))) (by first | (refine Or.inr ⟨by omega, ?_, rfl⟩; rw [if_pos (by omega)]; omega) | (by_cases q : tk = 1 ∨ tk = 2; exact Or.inl ⟨q, by omega, rfl, by rw [show at1 + 0 - at1 = 0 by omega]; rfl⟩; exact Or.inr ⟨q, by rw [if_neg (by omega)]; omega, rfl⟩)) (Nat.lt_succ_self _)
          · skip
            refine x_iconst (pc := 109) K dX12_next_109 ?_
            refine x_goto (pc := 110) (tgt := 114) K dX12_next_110 (by decide) ?_
            refine x_iadd (pc := 114) K dX12_next_114 ?_
            refine x_put (pc := 115) (C := RX12) (T := TX12) (n := 26) (ci := 11) (idx := 88) (ref := "BorderBedsModel") (ty := .int)  K (cel_self hc0.1) rfl (by decide +kernel) tyX12 tyX12_ok nmX12 15 (by decide) (by decide +kernel) rfl rfl (by decide +kernel) rfl rfl (Nat.le_of_ble_eq_true rfl) dX12_next_115 ?_
            refine x_v (w := (va_up v 161 (oM B (va_up (va_up (va_up F 15 ((at1 : Int) + 1)) 16 (at1 : Int)) 17 tk) 0))) (up_at0).symm ?_
            have LOOP118 : ∀ (n_118 : Nat) (zq : Nat) (y : Int), (zq ≤ 400) → (((tk = 1 ∨ tk = 2) ∧ at1 ≤ zq ∧ reT t n tk zq = reT t n tk at1 ∧ y = valT t tk at1 (zq - at1)) ∨ (¬ (tk = 1 ∨ tk = 2) ∧ (zq : Int) = (at1 : Int) + (if 2 < tk then 1 else 0) ∧ y = 0)) → (n + 1 - zq) < n_118 → XW Γ N (va_up v 161 (oM B (va_up (va_up (va_up F 15 (zq : Int)) 16 (at1 : Int)) 17 tk) y)) [(0, .ref (B + 161))] 0 0 118 [] := by
              intro n_118
              induction n_118 with
              | zero =>
                intro zq y hi118_0 hi118_1 hm_118
                exfalso; omega
              | succ n_118 ih118 =>
                intro zq y hi118_0 hi118_1 hm_118
                refine x_aload_n (pc := 118) 0 K rfl rfl dX12_next_118 ?_
                refine x_get (pc := 119) (C := RX12) (T := TX12) (n := 26) (ci := 11) (idx := 100) (ref := "BorderBedsModel") (x := .int (zI tk))  K (cel_self hc0.1) rfl (by decide +kernel) 17 (by decide) (by decide +kernel) rfl rfl dX12_next_119 ?_
                refine x_if_le (pc := 122) (tgt := 251) K (by omega) dX12_next_122 (by decide) (fun h_122 => ?_) (fun h_122 => ?_)
                · skip
                  have hend : (tk = 1 ∨ tk = 2) → ¬ (zq < n ∧ srt (t zq) = tk) := by omega
                  refine x_aload_n (pc := 251) 0 K rfl rfl dX12_next_251 ?_
                  refine x_aload_n (pc := 252) 0 K rfl rfl dX12_next_252 ?_
                  refine x_get (pc := 253) (C := RX12) (T := TX12) (n := 26) (ci := 11) (idx := 100) (ref := "BorderBedsModel") (x := .int (zI tk))  K (cel_self hc0.1) rfl (by decide +kernel) 17 (by decide) (by decide +kernel) rfl rfl dX12_next_253 ?_
                  refine x_iconst (pc := 256) K dX12_next_256 ?_
                  refine x_icmp_ne (pc := 257) (tgt := 277) K (by omega) (by decide) dX12_next_257 (by decide) (fun h_257 => ?_) (fun h_257 => ?_)
                  · skip
                    refine x_aload_n (pc := 277) 0 K rfl rfl dX12_next_277 ?_
                    refine x_get (pc := 278) (C := RX12) (T := TX12) (n := 26) (ci := 11) (idx := 100) (ref := "BorderBedsModel") (x := .int (zI tk))  K (cel_self hc0.1) rfl (by decide +kernel) 17 (by decide) (by decide +kernel) rfl rfl dX12_next_278 ?_
                    refine x_put (pc := 281) (C := RX12) (T := TX12) (n := 26) (ci := 11) (idx := 100) (ref := "BorderBedsModel") (ty := .int)  K (cel_self hc0.1) rfl (by decide +kernel) tyX12 tyX12_ok nmX12 17 (by decide) (by decide +kernel) rfl rfl (by decide +kernel) rfl rfl (Nat.le_of_ble_eq_true rfl) dX12_next_281 ?_
                    refine x_v (w := (va_up v 161 (oM B (va_up (va_up (va_up F 15 (zq : Int)) 16 (at1 : Int)) 17 tk) y))) (up_at0).symm ?_
                    refine x_vret (pc := 284) K KR (by omega) (Nat.le_of_ble_eq_true rfl) (Nat.le_of_ble_eq_true rfl) dX12_next_284 ?_
                    obtain ⟨hE, hV, hK⟩ := tok_fin hsk htk hi118_1 hend
                    have hKK : tokK t n a = tk := by rw [hK]; split <;> omega
                    exact ⟨rfl, rfl, by rw [hE, hV, hKK, hsk]⟩
                  · skip
                    refine x_aload_n (pc := 260) 0 K rfl rfl dX12_next_260 ?_
                    refine x_get (pc := 261) (C := RX12) (T := TX12) (n := 26) (ci := 11) (idx := 88) (ref := "BorderBedsModel") (x := .int (zI (zq : Int)))  K (cel_self hc0.1) rfl (by decide +kernel) 15 (by decide) (by decide +kernel) rfl rfl dX12_next_261 ?_
                    refine x_aload_n (pc := 264) 0 K rfl rfl dX12_next_264 ?_
                    refine x_get (pc := 265) (C := RX12) (T := TX12) (n := 26) (ci := 11) (idx := 94) (ref := "BorderBedsModel") (x := .int (zI (at1 : Int)))  K (cel_self hc0.1) rfl (by decide +kernel) 16 (by decide) (by decide +kernel) rfl rfl dX12_next_265 ?_
                    refine x_isub (pc := 268) K dX12_next_268 ?_
                    refine x_iconst (pc := 269) K dX12_next_269 ?_
                    refine x_icmp_le (pc := 270) (tgt := 277) K (by omega) (by decide) dX12_next_270 (by decide) (fun h_270 => ?_) (fun h_270 => ?_)
                    · skip
                      refine x_aload_n (pc := 277) 0 K rfl rfl dX12_next_277 ?_
                      refine x_get (pc := 278) (C := RX12) (T := TX12) (n := 26) (ci := 11) (idx := 100) (ref := "BorderBedsModel") (x := .int (zI tk))  K (cel_self hc0.1) rfl (by decide +kernel) 17 (by decide) (by decide +kernel) rfl rfl dX12_next_278 ?_
                      refine x_put (pc := 281) (C := RX12) (T := TX12) (n := 26) (ci := 11) (idx := 100) (ref := "BorderBedsModel") (ty := .int)  K (cel_self hc0.1) rfl (by decide +kernel) tyX12 tyX12_ok nmX12 17 (by decide) (by decide +kernel) rfl rfl (by decide +kernel) rfl rfl (Nat.le_of_ble_eq_true rfl) dX12_next_281 ?_
                      refine x_v (w := (va_up v 161 (oM B (va_up (va_up (va_up F 15 (zq : Int)) 16 (at1 : Int)) 17 tk) y))) (up_at0).symm ?_
                      refine x_vret (pc := 284) K KR (by omega) (Nat.le_of_ble_eq_true rfl) (Nat.le_of_ble_eq_true rfl) dX12_next_284 ?_
                      obtain ⟨hE, hV, hK⟩ := tok_fin hsk htk hi118_1 hend
                      have hKK : tokK t n a = tk := by rw [hK]; split <;> omega
                      exact ⟨rfl, rfl, by rw [hE, hV, hKK, hsk]⟩
                    · skip
                      refine x_iconst (pc := 273) K dX12_next_273 ?_
                      refine x_goto (pc := 274) (tgt := 281) K dX12_next_274 (by decide) ?_
                      refine x_put (pc := 281) (C := RX12) (T := TX12) (n := 26) (ci := 11) (idx := 100) (ref := "BorderBedsModel") (ty := .int)  K (cel_self hc0.1) rfl (by decide +kernel) tyX12 tyX12_ok nmX12 17 (by decide) (by decide +kernel) rfl rfl (by decide +kernel) rfl rfl (Nat.le_of_ble_eq_true rfl) dX12_next_281 ?_
                      refine x_v (w := (va_up v 161 (oM B (va_up (va_up (va_up F 15 (zq : Int)) 16 (at1 : Int)) 17 4) y))) (up_at0).symm ?_
                      refine x_vret (pc := 284) K KR (by omega) (Nat.le_of_ble_eq_true rfl) (Nat.le_of_ble_eq_true rfl) dX12_next_284 ?_
                      obtain ⟨hE, hV, hK⟩ := tok_fin hsk htk hi118_1 hend
                      have hKK : tokK t n a = 4 := by rw [hK]; split <;> omega
                      exact ⟨rfl, rfl, by rw [hE, hV, hKK, hsk]⟩
                · skip
                  refine x_aload_n (pc := 125) 0 K rfl rfl dX12_next_125 ?_
                  refine x_get (pc := 126) (C := RX12) (T := TX12) (n := 26) (ci := 11) (idx := 100) (ref := "BorderBedsModel") (x := .int (zI tk))  K (cel_self hc0.1) rfl (by decide +kernel) 17 (by decide) (by decide +kernel) rfl rfl dX12_next_126 ?_
                  refine x_iconst (pc := 129) K dX12_next_129 ?_
                  refine x_icmp_ge (pc := 130) (tgt := 251) K (by omega) (by decide) dX12_next_130 (by decide) (fun h_130 => ?_) (fun h_130 => ?_)
                  · skip
                    have hend : (tk = 1 ∨ tk = 2) → ¬ (zq < n ∧ srt (t zq) = tk) := by omega
                    refine x_aload_n (pc := 251) 0 K rfl rfl dX12_next_251 ?_
                    refine x_aload_n (pc := 252) 0 K rfl rfl dX12_next_252 ?_
                    refine x_get (pc := 253) (C := RX12) (T := TX12) (n := 26) (ci := 11) (idx := 100) (ref := "BorderBedsModel") (x := .int (zI tk))  K (cel_self hc0.1) rfl (by decide +kernel) 17 (by decide) (by decide +kernel) rfl rfl dX12_next_253 ?_
                    refine x_iconst (pc := 256) K dX12_next_256 ?_
                    refine x_icmp_ne (pc := 257) (tgt := 277) K (by omega) (by decide) dX12_next_257 (by decide) (fun h_257 => ?_) (fun h_257 => ?_)
                    · skip
                      refine x_aload_n (pc := 277) 0 K rfl rfl dX12_next_277 ?_
                      refine x_get (pc := 278) (C := RX12) (T := TX12) (n := 26) (ci := 11) (idx := 100) (ref := "BorderBedsModel") (x := .int (zI tk))  K (cel_self hc0.1) rfl (by decide +kernel) 17 (by decide) (by decide +kernel) rfl rfl dX12_next_278 ?_
                      refine x_put (pc := 281) (C := RX12) (T := TX12) (n := 26) (ci := 11) (idx := 100) (ref := "BorderBedsModel") (ty := .int)  K (cel_self hc0.1) rfl (by decide +kernel) tyX12 tyX12_ok nmX12 17 (by decide) (by decide +kernel) rfl rfl (by decide +kernel) rfl rfl (Nat.le_of_ble_eq_true rfl) dX12_next_281 ?_
                      refine x_v (w := (va_up v 161 (oM B (va_up (va_up (va_up F 15 (zq : Int)) 16 (at1 : Int)) 17 tk) y))) (up_at0).symm ?_
                      refine x_vret (pc := 284) K KR (by omega) (Nat.le_of_ble_eq_true rfl) (Nat.le_of_ble_eq_true rfl) dX12_next_284 ?_
                      obtain ⟨hE, hV, hK⟩ := tok_fin hsk htk hi118_1 hend
                      have hKK : tokK t n a = tk := by rw [hK]; split <;> omega
                      exact ⟨rfl, rfl, by rw [hE, hV, hKK, hsk]⟩
                    · skip
                      refine x_aload_n (pc := 260) 0 K rfl rfl dX12_next_260 ?_
                      refine x_get (pc := 261) (C := RX12) (T := TX12) (n := 26) (ci := 11) (idx := 88) (ref := "BorderBedsModel") (x := .int (zI (zq : Int)))  K (cel_self hc0.1) rfl (by decide +kernel) 15 (by decide) (by decide +kernel) rfl rfl dX12_next_261 ?_
                      refine x_aload_n (pc := 264) 0 K rfl rfl dX12_next_264 ?_
                      refine x_get (pc := 265) (C := RX12) (T := TX12) (n := 26) (ci := 11) (idx := 94) (ref := "BorderBedsModel") (x := .int (zI (at1 : Int)))  K (cel_self hc0.1) rfl (by decide +kernel) 16 (by decide) (by decide +kernel) rfl rfl dX12_next_265 ?_
                      refine x_isub (pc := 268) K dX12_next_268 ?_
                      refine x_iconst (pc := 269) K dX12_next_269 ?_
                      refine x_icmp_le (pc := 270) (tgt := 277) K (by omega) (by decide) dX12_next_270 (by decide) (fun h_270 => ?_) (fun h_270 => ?_)
                      · skip
                        refine x_aload_n (pc := 277) 0 K rfl rfl dX12_next_277 ?_
                        refine x_get (pc := 278) (C := RX12) (T := TX12) (n := 26) (ci := 11) (idx := 100) (ref := "BorderBedsModel") (x := .int (zI tk))  K (cel_self hc0.1) rfl (by decide +kernel) 17 (by decide) (by decide +kernel) rfl rfl dX12_next_278 ?_
                        refine x_put (pc := 281) (C := RX12) (T := TX12) (n := 26) (ci := 11) (idx := 100) (ref := "BorderBedsModel") (ty := .int)  K (cel_self hc0.1) rfl (by decide +kernel) tyX12 tyX12_ok nmX12 17 (by decide) (by decide +kernel) rfl rfl (by decide +kernel) rfl rfl (Nat.le_of_ble_eq_true rfl) dX12_next_281 ?_
                        refine x_v (w := (va_up v 161 (oM B (va_up (va_up (va_up F 15 (zq : Int)) 16 (at1 : Int)) 17 tk) y))) (up_at0).symm ?_
                        refine x_vret (pc := 284) K KR (by omega) (Nat.le_of_ble_eq_true rfl) (Nat.le_of_ble_eq_true rfl) dX12_next_284 ?_
                        obtain ⟨hE, hV, hK⟩ := tok_fin hsk htk hi118_1 hend
                        have hKK : tokK t n a = tk := by rw [hK]; split <;> omega
                        exact ⟨rfl, rfl, by rw [hE, hV, hKK, hsk]⟩
                      · skip
                        refine x_iconst (pc := 273) K dX12_next_273 ?_
                        refine x_goto (pc := 274) (tgt := 281) K dX12_next_274 (by decide) ?_
                        refine x_put (pc := 281) (C := RX12) (T := TX12) (n := 26) (ci := 11) (idx := 100) (ref := "BorderBedsModel") (ty := .int)  K (cel_self hc0.1) rfl (by decide +kernel) tyX12 tyX12_ok nmX12 17 (by decide) (by decide +kernel) rfl rfl (by decide +kernel) rfl rfl (Nat.le_of_ble_eq_true rfl) dX12_next_281 ?_
                        refine x_v (w := (va_up v 161 (oM B (va_up (va_up (va_up F 15 (zq : Int)) 16 (at1 : Int)) 17 4) y))) (up_at0).symm ?_
                        refine x_vret (pc := 284) K KR (by omega) (Nat.le_of_ble_eq_true rfl) (Nat.le_of_ble_eq_true rfl) dX12_next_284 ?_
                        obtain ⟨hE, hV, hK⟩ := tok_fin hsk htk hi118_1 hend
                        have hKK : tokK t n a = 4 := by rw [hK]; split <;> omega
                        exact ⟨rfl, rfl, by rw [hE, hV, hKK, hsk]⟩
                  · skip
                    refine x_aload_n (pc := 133) 0 K rfl rfl dX12_next_133 ?_
                    refine x_get (pc := 134) (C := RX12) (T := TX12) (n := 26) (ci := 11) (idx := 88) (ref := "BorderBedsModel") (x := .int (zI (zq : Int)))  K (cel_self hc0.1) rfl (by decide +kernel) 15 (by decide) (by decide +kernel) rfl rfl dX12_next_134 ?_
                    refine x_aload_n (pc := 137) 0 K rfl rfl dX12_next_137 ?_
                    refine x_get (pc := 138) (C := RX12) (T := TX12) (n := 26) (ci := 11) (idx := 91) (ref := "BorderBedsModel") (x := .int (zI (F 19)))  K (cel_self hc0.1) rfl (by decide +kernel) 19 (by decide) (by decide +kernel) rfl rfl dX12_next_138 ?_
                    refine x_icmp_ge (pc := 141) (tgt := 251) K (by omega) (by omega) dX12_next_141 (by decide) (fun h_141 => ?_) (fun h_141 => ?_)
                    · skip
                      have hend : (tk = 1 ∨ tk = 2) → ¬ (zq < n ∧ srt (t zq) = tk) := by omega
                      refine x_aload_n (pc := 251) 0 K rfl rfl dX12_next_251 ?_
                      refine x_aload_n (pc := 252) 0 K rfl rfl dX12_next_252 ?_
                      refine x_get (pc := 253) (C := RX12) (T := TX12) (n := 26) (ci := 11) (idx := 100) (ref := "BorderBedsModel") (x := .int (zI tk))  K (cel_self hc0.1) rfl (by decide +kernel) 17 (by decide) (by decide +kernel) rfl rfl dX12_next_253 ?_
                      refine x_iconst (pc := 256) K dX12_next_256 ?_
                      refine x_icmp_ne (pc := 257) (tgt := 277) K (by omega) (by decide) dX12_next_257 (by decide) (fun h_257 => ?_) (fun h_257 => ?_)
                      · skip
                        refine x_aload_n (pc := 277) 0 K rfl rfl dX12_next_277 ?_
                        refine x_get (pc := 278) (C := RX12) (T := TX12) (n := 26) (ci := 11) (idx := 100) (ref := "BorderBedsModel") (x := .int (zI tk))  K (cel_self hc0.1) rfl (by decide +kernel) 17 (by decide) (by decide +kernel) rfl rfl dX12_next_278 ?_
                        refine x_put (pc := 281) (C := RX12) (T := TX12) (n := 26) (ci := 11) (idx := 100) (ref := "BorderBedsModel") (ty := .int)  K (cel_self hc0.1) rfl (by decide +kernel) tyX12 tyX12_ok nmX12 17 (by decide) (by decide +kernel) rfl rfl (by decide +kernel) rfl rfl (Nat.le_of_ble_eq_true rfl) dX12_next_281 ?_
                        refine x_v (w := (va_up v 161 (oM B (va_up (va_up (va_up F 15 (zq : Int)) 16 (at1 : Int)) 17 tk) y))) (up_at0).symm ?_
                        refine x_vret (pc := 284) K KR (by omega) (Nat.le_of_ble_eq_true rfl) (Nat.le_of_ble_eq_true rfl) dX12_next_284 ?_
                        obtain ⟨hE, hV, hK⟩ := tok_fin hsk htk hi118_1 hend
                        have hKK : tokK t n a = tk := by rw [hK]; split <;> omega
                        exact ⟨rfl, rfl, by rw [hE, hV, hKK, hsk]⟩
                      · skip
                        refine x_aload_n (pc := 260) 0 K rfl rfl dX12_next_260 ?_
                        refine x_get (pc := 261) (C := RX12) (T := TX12) (n := 26) (ci := 11) (idx := 88) (ref := "BorderBedsModel") (x := .int (zI (zq : Int)))  K (cel_self hc0.1) rfl (by decide +kernel) 15 (by decide) (by decide +kernel) rfl rfl dX12_next_261 ?_
                        refine x_aload_n (pc := 264) 0 K rfl rfl dX12_next_264 ?_
                        refine x_get (pc := 265) (C := RX12) (T := TX12) (n := 26) (ci := 11) (idx := 94) (ref := "BorderBedsModel") (x := .int (zI (at1 : Int)))  K (cel_self hc0.1) rfl (by decide +kernel) 16 (by decide) (by decide +kernel) rfl rfl dX12_next_265 ?_
                        refine x_isub (pc := 268) K dX12_next_268 ?_
                        refine x_iconst (pc := 269) K dX12_next_269 ?_
                        refine x_icmp_le (pc := 270) (tgt := 277) K (by omega) (by decide) dX12_next_270 (by decide) (fun h_270 => ?_) (fun h_270 => ?_)
                        · skip
                          refine x_aload_n (pc := 277) 0 K rfl rfl dX12_next_277 ?_
                          refine x_get (pc := 278) (C := RX12) (T := TX12) (n := 26) (ci := 11) (idx := 100) (ref := "BorderBedsModel") (x := .int (zI tk))  K (cel_self hc0.1) rfl (by decide +kernel) 17 (by decide) (by decide +kernel) rfl rfl dX12_next_278 ?_
                          refine x_put (pc := 281) (C := RX12) (T := TX12) (n := 26) (ci := 11) (idx := 100) (ref := "BorderBedsModel") (ty := .int)  K (cel_self hc0.1) rfl (by decide +kernel) tyX12 tyX12_ok nmX12 17 (by decide) (by decide +kernel) rfl rfl (by decide +kernel) rfl rfl (Nat.le_of_ble_eq_true rfl) dX12_next_281 ?_
                          refine x_v (w := (va_up v 161 (oM B (va_up (va_up (va_up F 15 (zq : Int)) 16 (at1 : Int)) 17 tk) y))) (up_at0).symm ?_
                          refine x_vret (pc := 284) K KR (by omega) (Nat.le_of_ble_eq_true rfl) (Nat.le_of_ble_eq_true rfl) dX12_next_284 ?_
                          obtain ⟨hE, hV, hK⟩ := tok_fin hsk htk hi118_1 hend
                          have hKK : tokK t n a = tk := by rw [hK]; split <;> omega
                          exact ⟨rfl, rfl, by rw [hE, hV, hKK, hsk]⟩
                        · skip
                          refine x_iconst (pc := 273) K dX12_next_273 ?_
                          refine x_goto (pc := 274) (tgt := 281) K dX12_next_274 (by decide) ?_
                          refine x_put (pc := 281) (C := RX12) (T := TX12) (n := 26) (ci := 11) (idx := 100) (ref := "BorderBedsModel") (ty := .int)  K (cel_self hc0.1) rfl (by decide +kernel) tyX12 tyX12_ok nmX12 17 (by decide) (by decide +kernel) rfl rfl (by decide +kernel) rfl rfl (Nat.le_of_ble_eq_true rfl) dX12_next_281 ?_
                          refine x_v (w := (va_up v 161 (oM B (va_up (va_up (va_up F 15 (zq : Int)) 16 (at1 : Int)) 17 4) y))) (up_at0).symm ?_
                          refine x_vret (pc := 284) K KR (by omega) (Nat.le_of_ble_eq_true rfl) (Nat.le_of_ble_eq_true rfl) dX12_next_284 ?_
                          obtain ⟨hE, hV, hK⟩ := tok_fin hsk htk hi118_1 hend
                          have hKK : tokK t n a = 4 := by rw [hK]; split <;> omega
                          exact ⟨rfl, rfl, by rw [hE, hV, hKK, hsk]⟩
                    · skip
                      have b152 := hq3 zq
                      have s152 := srt_rng (t zq)
                      refine x_aload_n (pc := 144) 0 K rfl rfl dX12_next_144 ?_
                      refine x_get (pc := 145) (C := RX12) (T := TX12) (n := 26) (ci := 11) (idx := 19) (ref := "BorderBedsModel") (x := .ref (B + 165))  K (cel_self hc0.1) rfl (by decide +kernel) 4 (by decide) (by decide +kernel) rfl rfl dX12_next_145 ?_
                      refine x_aload_n (pc := 148) 0 K rfl rfl dX12_next_148 ?_
                      refine x_get (pc := 149) (C := RX12) (T := TX12) (n := 26) (ci := 11) (idx := 88) (ref := "BorderBedsModel") (x := .int (zI (zq : Int)))  K (cel_self hc0.1) rfl (by decide +kernel) 15 (by decide) (by decide +kernel) rfl rfl dX12_next_149 ?_
                      refine x_iald (pc := 152) zq K (cel_ne hc1 (by decide)) rfl (by omega) (by decide) dX12_next_152 ?_
                      refine x_callS (pc := 153) (As := [.int (zI (t zq))]) K (c_X12_sort (E := E) (B := B) (N := N)    (by omega)) gX12_next_X12_sort rfl (na := 1) (by decide +kernel) rfl ⟨(Nat.le_of_ble_eq_true rfl), (Nat.le_of_ble_eq_true rfl)⟩ (st := []) rfl (Nat.le_of_ble_eq_true rfl) ⟨(Nat.le_of_ble_eq_true rfl), (Nat.le_of_ble_eq_true rfl)⟩ dX12_next_153 (fun r153 N153 w153 hpo153 hN153 => ?_)
                      obtain ⟨rfl, rfl, rfl⟩ := hpo153
                      refine x_st (st' := [.int (zI (srt (t zq)))]) rfl ?_
                      refine x_aload_n (pc := 156) 0 K rfl rfl dX12_next_156 ?_
                      refine x_get (pc := 157) (C := RX12) (T := TX12) (n := 26) (ci := 11) (idx := 100) (ref := "BorderBedsModel") (x := .int (zI tk))  K (cel_self hc0.1) rfl (by decide +kernel) 17 (by decide) (by decide +kernel) rfl rfl dX12_next_157 ?_
                      refine x_icmp_ne (pc := 160) (tgt := 251) K (by omega) (by omega) dX12_next_160 (by decide) (fun h_160 => ?_) (fun h_160 => ?_)
                      · skip
                        have hend : (tk = 1 ∨ tk = 2) → ¬ (zq < n ∧ srt (t zq) = tk) := by omega
                        refine x_aload_n (pc := 251) 0 K rfl rfl dX12_next_251 ?_
                        refine x_aload_n (pc := 252) 0 K rfl rfl dX12_next_252 ?_
                        refine x_get (pc := 253) (C := RX12) (T := TX12) (n := 26) (ci := 11) (idx := 100) (ref := "BorderBedsModel") (x := .int (zI tk))  K (cel_self hc0.1) rfl (by decide +kernel) 17 (by decide) (by decide +kernel) rfl rfl dX12_next_253 ?_
                        refine x_iconst (pc := 256) K dX12_next_256 ?_
                        refine x_icmp_ne (pc := 257) (tgt := 277) K (by omega) (by decide) dX12_next_257 (by decide) (fun h_257 => ?_) (fun h_257 => ?_)
                        · skip
                          refine x_aload_n (pc := 277) 0 K rfl rfl dX12_next_277 ?_
                          refine x_get (pc := 278) (C := RX12) (T := TX12) (n := 26) (ci := 11) (idx := 100) (ref := "BorderBedsModel") (x := .int (zI tk))  K (cel_self hc0.1) rfl (by decide +kernel) 17 (by decide) (by decide +kernel) rfl rfl dX12_next_278 ?_
                          refine x_put (pc := 281) (C := RX12) (T := TX12) (n := 26) (ci := 11) (idx := 100) (ref := "BorderBedsModel") (ty := .int)  K (cel_self hc0.1) rfl (by decide +kernel) tyX12 tyX12_ok nmX12 17 (by decide) (by decide +kernel) rfl rfl (by decide +kernel) rfl rfl (Nat.le_of_ble_eq_true rfl) dX12_next_281 ?_
                          refine x_v (w := (va_up v 161 (oM B (va_up (va_up (va_up F 15 (zq : Int)) 16 (at1 : Int)) 17 tk) y))) (up_at0).symm ?_
                          refine x_vret (pc := 284) K KR (by omega) (Nat.le_of_ble_eq_true rfl) (Nat.le_of_ble_eq_true rfl) dX12_next_284 ?_
                          obtain ⟨hE, hV, hK⟩ := tok_fin hsk htk hi118_1 hend
                          have hKK : tokK t n a = tk := by rw [hK]; split <;> omega
                          exact ⟨rfl, rfl, by rw [hE, hV, hKK, hsk]⟩
                        · skip
                          refine x_aload_n (pc := 260) 0 K rfl rfl dX12_next_260 ?_
                          refine x_get (pc := 261) (C := RX12) (T := TX12) (n := 26) (ci := 11) (idx := 88) (ref := "BorderBedsModel") (x := .int (zI (zq : Int)))  K (cel_self hc0.1) rfl (by decide +kernel) 15 (by decide) (by decide +kernel) rfl rfl dX12_next_261 ?_
                          refine x_aload_n (pc := 264) 0 K rfl rfl dX12_next_264 ?_
                          refine x_get (pc := 265) (C := RX12) (T := TX12) (n := 26) (ci := 11) (idx := 94) (ref := "BorderBedsModel") (x := .int (zI (at1 : Int)))  K (cel_self hc0.1) rfl (by decide +kernel) 16 (by decide) (by decide +kernel) rfl rfl dX12_next_265 ?_
                          refine x_isub (pc := 268) K dX12_next_268 ?_
                          refine x_iconst (pc := 269) K dX12_next_269 ?_
                          refine x_icmp_le (pc := 270) (tgt := 277) K (by omega) (by decide) dX12_next_270 (by decide) (fun h_270 => ?_) (fun h_270 => ?_)
                          · skip
                            refine x_aload_n (pc := 277) 0 K rfl rfl dX12_next_277 ?_
                            refine x_get (pc := 278) (C := RX12) (T := TX12) (n := 26) (ci := 11) (idx := 100) (ref := "BorderBedsModel") (x := .int (zI tk))  K (cel_self hc0.1) rfl (by decide +kernel) 17 (by decide) (by decide +kernel) rfl rfl dX12_next_278 ?_
                            refine x_put (pc := 281) (C := RX12) (T := TX12) (n := 26) (ci := 11) (idx := 100) (ref := "BorderBedsModel") (ty := .int)  K (cel_self hc0.1) rfl (by decide +kernel) tyX12 tyX12_ok nmX12 17 (by decide) (by decide +kernel) rfl rfl (by decide +kernel) rfl rfl (Nat.le_of_ble_eq_true rfl) dX12_next_281 ?_
                            refine x_v (w := (va_up v 161 (oM B (va_up (va_up (va_up F 15 (zq : Int)) 16 (at1 : Int)) 17 tk) y))) (up_at0).symm ?_
                            refine x_vret (pc := 284) K KR (by omega) (Nat.le_of_ble_eq_true rfl) (Nat.le_of_ble_eq_true rfl) dX12_next_284 ?_
                            obtain ⟨hE, hV, hK⟩ := tok_fin hsk htk hi118_1 hend
                            have hKK : tokK t n a = tk := by rw [hK]; split <;> omega
                            exact ⟨rfl, rfl, by rw [hE, hV, hKK, hsk]⟩
                          · skip
                            refine x_iconst (pc := 273) K dX12_next_273 ?_
                            refine x_goto (pc := 274) (tgt := 281) K dX12_next_274 (by decide) ?_
                            refine x_put (pc := 281) (C := RX12) (T := TX12) (n := 26) (ci := 11) (idx := 100) (ref := "BorderBedsModel") (ty := .int)  K (cel_self hc0.1) rfl (by decide +kernel) tyX12 tyX12_ok nmX12 17 (by decide) (by decide +kernel) rfl rfl (by decide +kernel) rfl rfl (Nat.le_of_ble_eq_true rfl) dX12_next_281 ?_
                            refine x_v (w := (va_up v 161 (oM B (va_up (va_up (va_up F 15 (zq : Int)) 16 (at1 : Int)) 17 4) y))) (up_at0).symm ?_
                            refine x_vret (pc := 284) K KR (by omega) (Nat.le_of_ble_eq_true rfl) (Nat.le_of_ble_eq_true rfl) dX12_next_284 ?_
                            obtain ⟨hE, hV, hK⟩ := tok_fin hsk htk hi118_1 hend
                            have hKK : tokK t n a = 4 := by rw [hK]; split <;> omega
                            exact ⟨rfl, rfl, by rw [hE, hV, hKK, hsk]⟩
                      · skip
                        have hgo : reT t n tk (zq + 1) = reT t n tk zq := reT_go (by omega) (by omega)
                        have hold : (tk = 1 ∨ tk = 2) ∧ at1 ≤ zq ∧ reT t n tk zq = reT t n tk at1 ∧ y = valT t tk at1 (zq - at1) := by
                          rcases hi118_1 with h | h
                          · exact h
                          · exfalso; have := h.1; omega
                        have hvs : valT t tk at1 (zq + 1 - at1) = if 7 < zq - at1 then -1 else if tk = 1 then 32 * valT t tk at1 (zq - at1) + t (at1 + (zq - at1)) - 96 else 10 * valT t tk at1 (zq - at1) + t (at1 + (zq - at1)) - 48 := by rw [show zq + 1 - at1 = (zq - at1) + 1 by omega]; rfl
                        rw [show at1 + (zq - at1) = zq by omega, ← hold.2.2.2] at hvs
                        refine x_aload_n (pc := 163) 0 K rfl rfl dX12_next_163 ?_
                        refine x_get (pc := 164) (C := RX12) (T := TX12) (n := 26) (ci := 11) (idx := 19) (ref := "BorderBedsModel") (x := .ref (B + 165))  K (cel_self hc0.1) rfl (by decide +kernel) 4 (by decide) (by decide +kernel) rfl rfl dX12_next_164 ?_
                        refine x_aload_n (pc := 167) 0 K rfl rfl dX12_next_167 ?_
                        refine x_get (pc := 168) (C := RX12) (T := TX12) (n := 26) (ci := 11) (idx := 88) (ref := "BorderBedsModel") (x := .int (zI (zq : Int)))  K (cel_self hc0.1) rfl (by decide +kernel) 15 (by decide) (by decide +kernel) rfl rfl dX12_next_168 ?_
                        refine x_iald (pc := 171) zq K (cel_ne hc1 (by decide)) rfl (by omega) (by decide) dX12_next_171 ?_
                        refine x_nm (fun z4 hz4 => ?_)
                        refine x_istore_n (pc := 172) K (L' := [(1, .int (zI z4)), (0, .ref (B + 161))]) hnL rfl (by decide) rfl dX12_next_172 ?_
                        refine x_aload_n (pc := 173) 1 K rfl rfl dX12_next_173 ?_
                        refine x_aload_n (pc := 174) 1 K rfl rfl dX12_next_174 ?_
                        refine x_get (pc := 175) (C := RX12) (T := TX12) (n := 26) (ci := 11) (idx := 88) (ref := "BorderBedsModel") (x := .int (zI (zq : Int)))  K (cel_self hc0.1) rfl (by decide +kernel) 15 (by decide) (by decide +kernel) rfl rfl dX12_next_175 ?_
                        refine x_aload_n (pc := 178) 1 K rfl rfl dX12_next_178 ?_
                        refine x_get (pc := 179) (C := RX12) (T := TX12) (n := 26) (ci := 11) (idx := 94) (ref := "BorderBedsModel") (x := .int (zI (at1 : Int)))  K (cel_self hc0.1) rfl (by decide +kernel) 16 (by decide) (by decide +kernel) rfl rfl dX12_next_179 ?_
                        refine x_isub (pc := 182) K dX12_next_182 ?_
                        refine x_bipush (pc := 183) K (by decide) dX12_next_183 ?_
                        refine x_icmp_le (pc := 185) (tgt := 194) K (by omega) (by decide) dX12_next_185 (by decide) (fun h_185 => ?_) (fun h_185 => ?_)
                        · skip
                          refine x_aload_n (pc := 194) 1 K rfl rfl dX12_next_194 ?_
                          refine x_get (pc := 195) (C := RX12) (T := TX12) (n := 26) (ci := 11) (idx := 100) (ref := "BorderBedsModel") (x := .int (zI tk))  K (cel_self hc0.1) rfl (by decide +kernel) 17 (by decide) (by decide +kernel) rfl rfl dX12_next_195 ?_
                          refine x_iconst (pc := 198) K dX12_next_198 ?_
                          refine x_icmp_ne (pc := 199) (tgt := 220) K (by omega) (by decide) dX12_next_199 (by decide) (fun h_199 => ?_) (fun h_199 => ?_)
                          · skip
                            refine x_ldc2 (pc := 220) (x := (10)) (10) K (by decide) (by decide +kernel) dX12_next_220 ?_
                            refine x_aload_n (pc := 223) 1 K rfl rfl dX12_next_223 ?_
                            refine x_get (pc := 224) (C := RX12) (T := TX12) (n := 26) (ci := 11) (idx := 103) (ref := "BorderBedsModel") (x := .long (zL y))  K (cel_self hc0.1) rfl (by decide +kernel) 18 (by decide) (by decide +kernel) rfl rfl dX12_next_224 ?_
                            refine x_lmul (pc := 227) K dX12_next_227 ?_
                            refine x_iload_n (pc := 228) 0 K rfl rfl dX12_next_228 ?_
                            refine x_i2l (pc := 229) K (by omega) dX12_next_229 ?_
                            refine x_ladd (pc := 230) K dX12_next_230 ?_
                            refine x_ldc2 (pc := 231) (x := (48)) (48) K (by decide) (by decide +kernel) dX12_next_231 ?_
                            refine x_lsub (pc := 234) K dX12_next_234 ?_
                            refine x_put (pc := 235) (C := RX12) (T := TX12) (n := 26) (ci := 11) (idx := 103) (ref := "BorderBedsModel") (ty := .long)  K (cel_self hc0.1) rfl (by decide +kernel) tyX12 tyX12_ok nmX12 18 (by decide) (by decide +kernel) rfl rfl (by decide +kernel) rfl rfl (Nat.le_of_ble_eq_true rfl) dX12_next_235 ?_
                            refine x_v (w := (va_up v 161 (oM B (va_up (va_up (va_up F 15 (zq : Int)) 16 (at1 : Int)) 17 tk) (((10 * y) + z4) - 48)))) (up_at0).symm ?_
                            refine x_aload_n (pc := 238) 1 K rfl rfl dX12_next_238 ?_
                            refine x_dup (pc := 239) K rfl dX12_next_239 ?_
                            refine x_get (pc := 240) (C := RX12) (T := TX12) (n := 26) (ci := 11) (idx := 88) (ref := "BorderBedsModel") (x := .int (zI (zq : Int)))  K (cel_self hc0.1) rfl (by decide +kernel) 15 (by decide) (by decide +kernel) rfl rfl dX12_next_240 ?_
                            refine x_iconst (pc := 243) K dX12_next_243 ?_
                            refine x_iadd (pc := 244) K dX12_next_244 ?_
                            refine x_put (pc := 245) (C := RX12) (T := TX12) (n := 26) (ci := 11) (idx := 88) (ref := "BorderBedsModel") (ty := .int)  K (cel_self hc0.1) rfl (by decide +kernel) tyX12 tyX12_ok nmX12 15 (by decide) (by decide +kernel) rfl rfl (by decide +kernel) rfl rfl (Nat.le_of_ble_eq_true rfl) dX12_next_245 ?_
                            refine x_v (w := (va_up v 161 (oM B (va_up (va_up (va_up F 15 ((zq : Int) + 1)) 16 (at1 : Int)) 17 tk) (((10 * y) + z4) - 48)))) (up_at0).symm ?_
                            refine x_goto (pc := 248) (tgt := 118) K dX12_next_248 (by decide) ?_
                            refine x_sub (L' := [(0, .ref (B + 161))]) [1] rfl ?_
                            exact ih118 (zq + 1) (((10 * y) + z4) - 48) (by omega) (by exact Or.inl ⟨hold.1, by omega, by rw [hgo]; exact hold.2.2.1, by rw [hvs]; split <;> (try split) <;> omega⟩) (by omega)
                          · skip
                            refine x_ldc2 (pc := 202) (x := (32)) (32) K (by decide) (by decide +kernel) dX12_next_202 ?_
                            refine x_aload_n (pc := 205) 1 K rfl rfl dX12_next_205 ?_
                            refine x_get (pc := 206) (C := RX12) (T := TX12) (n := 26) (ci := 11) (idx := 103) (ref := "BorderBedsModel") (x := .long (zL y))  K (cel_self hc0.1) rfl (by decide +kernel) 18 (by decide) (by decide +kernel) rfl rfl dX12_next_206 ?_
                            refine x_lmul (pc := 209) K dX12_next_209 ?_
                            refine x_iload_n (pc := 210) 0 K rfl rfl dX12_next_210 ?_
                            refine x_i2l (pc := 211) K (by omega) dX12_next_211 ?_
                            refine x_ladd (pc := 212) K dX12_next_212 ?_
                            refine x_ldc2 (pc := 213) (x := (96)) (96) K (by decide) (by decide +kernel) dX12_next_213 ?_
                            refine x_lsub (pc := 216) K dX12_next_216 ?_
                            refine x_goto (pc := 217) (tgt := 235) K dX12_next_217 (by decide) ?_
                            refine x_put (pc := 235) (C := RX12) (T := TX12) (n := 26) (ci := 11) (idx := 103) (ref := "BorderBedsModel") (ty := .long)  K (cel_self hc0.1) rfl (by decide +kernel) tyX12 tyX12_ok nmX12 18 (by decide) (by decide +kernel) rfl rfl (by decide +kernel) rfl rfl (Nat.le_of_ble_eq_true rfl) dX12_next_235 ?_
                            refine x_v (w := (va_up v 161 (oM B (va_up (va_up (va_up F 15 (zq : Int)) 16 (at1 : Int)) 17 tk) (((32 * y) + z4) - 96)))) (up_at0).symm ?_
                            refine x_aload_n (pc := 238) 1 K rfl rfl dX12_next_238 ?_
                            refine x_dup (pc := 239) K rfl dX12_next_239 ?_
                            refine x_get (pc := 240) (C := RX12) (T := TX12) (n := 26) (ci := 11) (idx := 88) (ref := "BorderBedsModel") (x := .int (zI (zq : Int)))  K (cel_self hc0.1) rfl (by decide +kernel) 15 (by decide) (by decide +kernel) rfl rfl dX12_next_240 ?_
                            refine x_iconst (pc := 243) K dX12_next_243 ?_
                            refine x_iadd (pc := 244) K dX12_next_244 ?_
                            refine x_put (pc := 245) (C := RX12) (T := TX12) (n := 26) (ci := 11) (idx := 88) (ref := "BorderBedsModel") (ty := .int)  K (cel_self hc0.1) rfl (by decide +kernel) tyX12 tyX12_ok nmX12 15 (by decide) (by decide +kernel) rfl rfl (by decide +kernel) rfl rfl (Nat.le_of_ble_eq_true rfl) dX12_next_245 ?_
                            refine x_v (w := (va_up v 161 (oM B (va_up (va_up (va_up F 15 ((zq : Int) + 1)) 16 (at1 : Int)) 17 tk) (((32 * y) + z4) - 96)))) (up_at0).symm ?_
                            refine x_goto (pc := 248) (tgt := 118) K dX12_next_248 (by decide) ?_
                            refine x_sub (L' := [(0, .ref (B + 161))]) [1] rfl ?_
                            exact ih118 (zq + 1) (((32 * y) + z4) - 96) (by omega) (by exact Or.inl ⟨hold.1, by omega, by rw [hgo]; exact hold.2.2.1, by rw [hvs]; split <;> (try split) <;> omega⟩) (by omega)
                        · skip
                          refine x_ldc2 (pc := 188) (x := (-1)) (-1) K (by decide) (by decide +kernel) dX12_next_188 ?_
                          refine x_goto (pc := 191) (tgt := 235) K dX12_next_191 (by decide) ?_
                          refine x_put (pc := 235) (C := RX12) (T := TX12) (n := 26) (ci := 11) (idx := 103) (ref := "BorderBedsModel") (ty := .long)  K (cel_self hc0.1) rfl (by decide +kernel) tyX12 tyX12_ok nmX12 18 (by decide) (by decide +kernel) rfl rfl (by decide +kernel) rfl rfl (Nat.le_of_ble_eq_true rfl) dX12_next_235 ?_
                          refine x_v (w := (va_up v 161 (oM B (va_up (va_up (va_up F 15 (zq : Int)) 16 (at1 : Int)) 17 tk) (-1)))) (up_at0).symm ?_
                          refine x_aload_n (pc := 238) 1 K rfl rfl dX12_next_238 ?_
                          refine x_dup (pc := 239) K rfl dX12_next_239 ?_
                          refine x_get (pc := 240) (C := RX12) (T := TX12) (n := 26) (ci := 11) (idx := 88) (ref := "BorderBedsModel") (x := .int (zI (zq : Int)))  K (cel_self hc0.1) rfl (by decide +kernel) 15 (by decide) (by decide +kernel) rfl rfl dX12_next_240 ?_
                          refine x_iconst (pc := 243) K dX12_next_243 ?_
                          refine x_iadd (pc := 244) K dX12_next_244 ?_
                          refine x_put (pc := 245) (C := RX12) (T := TX12) (n := 26) (ci := 11) (idx := 88) (ref := "BorderBedsModel") (ty := .int)  K (cel_self hc0.1) rfl (by decide +kernel) tyX12 tyX12_ok nmX12 15 (by decide) (by decide +kernel) rfl rfl (by decide +kernel) rfl rfl (Nat.le_of_ble_eq_true rfl) dX12_next_245 ?_
                          refine x_v (w := (va_up v 161 (oM B (va_up (va_up (va_up F 15 ((zq : Int) + 1)) 16 (at1 : Int)) 17 tk) (-1)))) (up_at0).symm ?_
                          refine x_goto (pc := 248) (tgt := 118) K dX12_next_248 (by decide) ?_
                          refine x_sub (L' := [(0, .ref (B + 161))]) [1] rfl ?_
                          exact ih118 (zq + 1) (-1) (by omega) (by exact Or.inl ⟨hold.1, by omega, by rw [hgo]; exact hold.2.2.1, by rw [hvs]; split <;> (try split) <;> omega⟩) (by omega)
            exact LOOP118 (_) (at1 + 1) 0 (by (first | omega | (have : at1 < n := by (by_cases q : at1 < n; exact q; rw [if_neg q] at htk; omega); omega))) (by first | (refine Or.inr ⟨by omega, ?_, rfl⟩; rw [if_pos (by omega)]; omega) | (by_cases q : tk = 1 ∨ tk = 2; exact Or.inl ⟨q, by omega, rfl, by rw [show at1 + 0 - at1 = 0 by omega]; rfl⟩; exact Or.inr ⟨q, by rw [if_neg (by omega)]; omega, rfl⟩)) (Nat.lt_succ_self _)
      · skip
        have b19 := hq3 at1
        refine x_aload_n (pc := 11) 0 K rfl rfl dX12_next_11 ?_
        refine x_get (pc := 12) (C := RX12) (T := TX12) (n := 26) (ci := 11) (idx := 19) (ref := "BorderBedsModel") (x := .ref (B + 165))  K (cel_self hc0.1) rfl (by decide +kernel) 4 (by decide) (by decide +kernel) rfl rfl dX12_next_12 ?_
        refine x_aload_n (pc := 15) 0 K rfl rfl dX12_next_15 ?_
        refine x_get (pc := 16) (C := RX12) (T := TX12) (n := 26) (ci := 11) (idx := 88) (ref := "BorderBedsModel") (x := .int (zI (at1 : Int)))  K (cel_self hc0.1) rfl (by decide +kernel) 15 (by decide) (by decide +kernel) rfl rfl dX12_next_16 ?_
        refine x_iald (pc := 19) at1 K (cel_ne hc1 (by decide)) rfl (by omega) (by decide) dX12_next_19 ?_
        refine x_bipush (pc := 20) K (by decide) dX12_next_20 ?_
        refine x_icmp_eq (pc := 22) (tgt := 39) K (by omega) (by decide) dX12_next_22 (by decide) (fun h_22 => ?_) (fun h_22 => ?_)
        · skip
          refine x_aload_n (pc := 39) 0 K rfl rfl dX12_next_39 ?_
          refine x_dup (pc := 40) K rfl dX12_next_40 ?_
          refine x_get (pc := 41) (C := RX12) (T := TX12) (n := 26) (ci := 11) (idx := 88) (ref := "BorderBedsModel") (x := .int (zI (at1 : Int)))  K (cel_self hc0.1) rfl (by decide +kernel) 15 (by decide) (by decide +kernel) rfl rfl dX12_next_41 ?_
          refine x_iconst (pc := 44) K dX12_next_44 ?_
          refine x_iadd (pc := 45) K dX12_next_45 ?_
          refine x_put (pc := 46) (C := RX12) (T := TX12) (n := 26) (ci := 11) (idx := 88) (ref := "BorderBedsModel") (ty := .int)  K (cel_self hc0.1) rfl (by decide +kernel) tyX12 tyX12_ok nmX12 15 (by decide) (by decide +kernel) rfl rfl (by decide +kernel) rfl rfl (Nat.le_of_ble_eq_true rfl) dX12_next_46 ?_
          refine x_v (w := (va_up v 161 (oM B (va_up F 15 ((at1 : Int) + 1)) V))) (up_at0).symm ?_
          refine x_goto (pc := 49) (tgt := 0) K dX12_next_49 (by decide) ?_
          exact ih0 (at1 + 1) (by omega) (by rw [← hi0_1]; exact skT_go (by omega) (by omega)) (by omega)
        · skip
          refine x_aload_n (pc := 25) 0 K rfl rfl dX12_next_25 ?_
          refine x_get (pc := 26) (C := RX12) (T := TX12) (n := 26) (ci := 11) (idx := 19) (ref := "BorderBedsModel") (x := .ref (B + 165))  K (cel_self hc0.1) rfl (by decide +kernel) 4 (by decide) (by decide +kernel) rfl rfl dX12_next_26 ?_
          refine x_aload_n (pc := 29) 0 K rfl rfl dX12_next_29 ?_
          refine x_get (pc := 30) (C := RX12) (T := TX12) (n := 26) (ci := 11) (idx := 88) (ref := "BorderBedsModel") (x := .int (zI (at1 : Int)))  K (cel_self hc0.1) rfl (by decide +kernel) 15 (by decide) (by decide +kernel) rfl rfl dX12_next_30 ?_
          refine x_iald (pc := 33) at1 K (cel_ne hc1 (by decide)) rfl (by omega) (by decide) dX12_next_33 ?_
          refine x_bipush (pc := 34) K (by decide) dX12_next_34 ?_
          refine x_icmp_ne (pc := 36) (tgt := 52) K (by omega) (by decide) dX12_next_36 (by decide) (fun h_36 => ?_) (fun h_36 => ?_)
          · skip
            have hsk : skT t n a = at1 := by rw [← hi0_1]; exact skT_end (by omega)
            refine x_aload_n (pc := 52) 0 K rfl rfl dX12_next_52 ?_
            refine x_aload_n (pc := 53) 0 K rfl rfl dX12_next_53 ?_
            refine x_get (pc := 54) (C := RX12) (T := TX12) (n := 26) (ci := 11) (idx := 88) (ref := "BorderBedsModel") (x := .int (zI (at1 : Int)))  K (cel_self hc0.1) rfl (by decide +kernel) 15 (by decide) (by decide +kernel) rfl rfl dX12_next_54 ?_
            refine x_put (pc := 57) (C := RX12) (T := TX12) (n := 26) (ci := 11) (idx := 94) (ref := "BorderBedsModel") (ty := .int)  K (cel_self hc0.1) rfl (by decide +kernel) tyX12 tyX12_ok nmX12 16 (by decide) (by decide +kernel) rfl rfl (by decide +kernel) rfl rfl (Nat.le_of_ble_eq_true rfl) dX12_next_57 ?_
            refine x_v (w := (va_up v 161 (oM B (va_up (va_up F 15 (at1 : Int)) 16 (at1 : Int)) V))) (up_at0).symm ?_
            refine x_aload_n (pc := 60) 0 K rfl rfl dX12_next_60 ?_
            refine x_aload_n (pc := 61) 0 K rfl rfl dX12_next_61 ?_
            refine x_get (pc := 62) (C := RX12) (T := TX12) (n := 26) (ci := 11) (idx := 88) (ref := "BorderBedsModel") (x := .int (zI (at1 : Int)))  K (cel_self hc0.1) rfl (by decide +kernel) 15 (by decide) (by decide +kernel) rfl rfl dX12_next_62 ?_
            refine x_aload_n (pc := 65) 0 K rfl rfl dX12_next_65 ?_
            refine x_get (pc := 66) (C := RX12) (T := TX12) (n := 26) (ci := 11) (idx := 91) (ref := "BorderBedsModel") (x := .int (zI (F 19)))  K (cel_self hc0.1) rfl (by decide +kernel) 19 (by decide) (by decide +kernel) rfl rfl dX12_next_66 ?_
            refine x_icmp_ge (pc := 69) (tgt := 87) K (by omega) (by omega) dX12_next_69 (by decide) (fun h_69 => ?_) (fun h_69 => ?_)
            · skip
              refine x_iconst (pc := 87) K dX12_next_87 ?_
              refine x_nm (fun tk htk0 => ?_)
              have htk : tk = if at1 < n then srt (t at1) else 0 := by rw [htk0, if_neg (by omega)]
              have htr : 0 ≤ tk ∧ tk ≤ 4 := by have := srt_rng (t at1); rw [htk]; split <;> omega
              refine x_put (pc := 88) (C := RX12) (T := TX12) (n := 26) (ci := 11) (idx := 100) (ref := "BorderBedsModel") (ty := .int)  K (cel_self hc0.1) rfl (by decide +kernel) tyX12 tyX12_ok nmX12 17 (by decide) (by decide +kernel) rfl rfl (by decide +kernel) rfl rfl (Nat.le_of_ble_eq_true rfl) dX12_next_88 ?_
              refine x_v (w := (va_up v 161 (oM B (va_up (va_up (va_up F 15 (at1 : Int)) 16 (at1 : Int)) 17 tk) V))) (up_at0).symm ?_
              refine x_aload_n (pc := 91) 0 K rfl rfl dX12_next_91 ?_
              refine x_lconst (pc := 92) (0) K (by decide) dX12_next_92 ?_
              refine x_put (pc := 93) (C := RX12) (T := TX12) (n := 26) (ci := 11) (idx := 103) (ref := "BorderBedsModel") (ty := .long)  K (cel_self hc0.1) rfl (by decide +kernel) tyX12 tyX12_ok nmX12 18 (by decide) (by decide +kernel) rfl rfl (by decide +kernel) rfl rfl (Nat.le_of_ble_eq_true rfl) dX12_next_93 ?_
              refine x_v (w := (va_up v 161 (oM B (va_up (va_up (va_up F 15 (at1 : Int)) 16 (at1 : Int)) 17 tk) 0))) (up_at0).symm ?_
              refine x_aload_n (pc := 96) 0 K rfl rfl dX12_next_96 ?_
              refine x_dup (pc := 97) K rfl dX12_next_97 ?_
              refine x_get (pc := 98) (C := RX12) (T := TX12) (n := 26) (ci := 11) (idx := 88) (ref := "BorderBedsModel") (x := .int (zI (at1 : Int)))  K (cel_self hc0.1) rfl (by decide +kernel) 15 (by decide) (by decide +kernel) rfl rfl dX12_next_98 ?_
              refine x_aload_n (pc := 101) 0 K rfl rfl dX12_next_101 ?_
              refine x_get (pc := 102) (C := RX12) (T := TX12) (n := 26) (ci := 11) (idx := 100) (ref := "BorderBedsModel") (x := .int (zI tk))  K (cel_self hc0.1) rfl (by decide +kernel) 17 (by decide) (by decide +kernel) rfl rfl dX12_next_102 ?_
              refine x_iconst (pc := 105) K dX12_next_105 ?_
              refine x_icmp_le (pc := 106) (tgt := 113) K (by omega) (by decide) dX12_next_106 (by decide) (fun h_106 => ?_) (fun h_106 => ?_)
              · skip
                refine x_iconst (pc := 113) K dX12_next_113 ?_
                refine x_iadd (pc := 114) K dX12_next_114 ?_
                refine x_put (pc := 115) (C := RX12) (T := TX12) (n := 26) (ci := 11) (idx := 88) (ref := "BorderBedsModel") (ty := .int)  K (cel_self hc0.1) rfl (by decide +kernel) tyX12 tyX12_ok nmX12 15 (by decide) (by decide +kernel) rfl rfl (by decide +kernel) rfl rfl (Nat.le_of_ble_eq_true rfl) dX12_next_115 ?_
                refine x_v (w := (va_up v 161 (oM B (va_up (va_up (va_up F 15 ((at1 : Int) + 0)) 16 (at1 : Int)) 17 tk) 0))) (up_at0).symm ?_
                have LOOP118 : ∀ (n_118 : Nat) (zq : Nat) (y : Int), (zq ≤ 400) → (((tk = 1 ∨ tk = 2) ∧ at1 ≤ zq ∧ reT t n tk zq = reT t n tk at1 ∧ y = valT t tk at1 (zq - at1)) ∨ (¬ (tk = 1 ∨ tk = 2) ∧ (zq : Int) = (at1 : Int) + (if 2 < tk then 1 else 0) ∧ y = 0)) → (n + 1 - zq) < n_118 → XW Γ N (va_up v 161 (oM B (va_up (va_up (va_up F 15 (zq : Int)) 16 (at1 : Int)) 17 tk) y)) [(0, .ref (B + 161))] 0 0 118 [] := by
                  intro n_118
                  induction n_118 with
                  | zero =>
                    intro zq y hi118_0 hi118_1 hm_118
                    exfalso; omega
                  | succ n_118 ih118 =>
                    intro zq y hi118_0 hi118_1 hm_118
                    refine x_aload_n (pc := 118) 0 K rfl rfl dX12_next_118 ?_
                    refine x_get (pc := 119) (C := RX12) (T := TX12) (n := 26) (ci := 11) (idx := 100) (ref := "BorderBedsModel") (x := .int (zI tk))  K (cel_self hc0.1) rfl (by decide +kernel) 17 (by decide) (by decide +kernel) rfl rfl dX12_next_119 ?_
                    refine x_if_le (pc := 122) (tgt := 251) K (by omega) dX12_next_122 (by decide) (fun h_122 => ?_) (fun h_122 => ?_)
                    · skip
                      have hend : (tk = 1 ∨ tk = 2) → ¬ (zq < n ∧ srt (t zq) = tk) := by omega
                      refine x_aload_n (pc := 251) 0 K rfl rfl dX12_next_251 ?_
                      refine x_aload_n (pc := 252) 0 K rfl rfl dX12_next_252 ?_
                      refine x_get (pc := 253) (C := RX12) (T := TX12) (n := 26) (ci := 11) (idx := 100) (ref := "BorderBedsModel") (x := .int (zI tk))  K (cel_self hc0.1) rfl (by decide +kernel) 17 (by decide) (by decide +kernel) rfl rfl dX12_next_253 ?_
                      refine x_iconst (pc := 256) K dX12_next_256 ?_
                      refine x_icmp_ne (pc := 257) (tgt := 277) K (by omega) (by decide) dX12_next_257 (by decide) (fun h_257 => ?_) (fun h_257 => ?_)
                      · skip
                        refine x_aload_n (pc := 277) 0 K rfl rfl dX12_next_277 ?_
                        refine x_get (pc := 278) (C := RX12) (T := TX12) (n := 26) (ci := 11) (idx := 100) (ref := "BorderBedsModel") (x := .int (zI tk))  K (cel_self hc0.1) rfl (by decide +kernel) 17 (by decide) (by decide +kernel) rfl rfl dX12_next_278 ?_
                        refine x_put (pc := 281) (C := RX12) (T := TX12) (n := 26) (ci := 11) (idx := 100) (ref := "BorderBedsModel") (ty := .int)  K (cel_self hc0.1) rfl (by decide +kernel) tyX12 tyX12_ok nmX12 17 (by decide) (by decide +kernel) rfl rfl (by decide +kernel) rfl rfl (Nat.le_of_ble_eq_true rfl) dX12_next_281 ?_
                        refine x_v (w := (va_up v 161 (oM B (va_up (va_up (va_up F 15 (zq : Int)) 16 (at1 : Int)) 17 tk) y))) (up_at0).symm ?_
                        refine x_vret (pc := 284) K KR (by omega) (Nat.le_of_ble_eq_true rfl) (Nat.le_of_ble_eq_true rfl) dX12_next_284 ?_
                        obtain ⟨hE, hV, hK⟩ := tok_fin hsk htk hi118_1 hend
                        have hKK : tokK t n a = tk := by rw [hK]; split <;> omega
                        exact ⟨rfl, rfl, by rw [hE, hV, hKK, hsk]⟩
                      · skip
                        refine x_aload_n (pc := 260) 0 K rfl rfl dX12_next_260 ?_
                        refine x_get (pc := 261) (C := RX12) (T := TX12) (n := 26) (ci := 11) (idx := 88) (ref := "BorderBedsModel") (x := .int (zI (zq : Int)))  K (cel_self hc0.1) rfl (by decide +kernel) 15 (by decide) (by decide +kernel) rfl rfl dX12_next_261 ?_
                        refine x_aload_n (pc := 264) 0 K rfl rfl dX12_next_264 ?_
                        refine x_get (pc := 265) (C := RX12) (T := TX12) (n := 26) (ci := 11) (idx := 94) (ref := "BorderBedsModel") (x := .int (zI (at1 : Int)))  K (cel_self hc0.1) rfl (by decide +kernel) 16 (by decide) (by decide +kernel) rfl rfl dX12_next_265 ?_
                        refine x_isub (pc := 268) K dX12_next_268 ?_
                        refine x_iconst (pc := 269) K dX12_next_269 ?_
                        refine x_icmp_le (pc := 270) (tgt := 277) K (by omega) (by decide) dX12_next_270 (by decide) (fun h_270 => ?_) (fun h_270 => ?_)
                        · skip
                          refine x_aload_n (pc := 277) 0 K rfl rfl dX12_next_277 ?_
                          refine x_get (pc := 278) (C := RX12) (T := TX12) (n := 26) (ci := 11) (idx := 100) (ref := "BorderBedsModel") (x := .int (zI tk))  K (cel_self hc0.1) rfl (by decide +kernel) 17 (by decide) (by decide +kernel) rfl rfl dX12_next_278 ?_
                          refine x_put (pc := 281) (C := RX12) (T := TX12) (n := 26) (ci := 11) (idx := 100) (ref := "BorderBedsModel") (ty := .int)  K (cel_self hc0.1) rfl (by decide +kernel) tyX12 tyX12_ok nmX12 17 (by decide) (by decide +kernel) rfl rfl (by decide +kernel) rfl rfl (Nat.le_of_ble_eq_true rfl) dX12_next_281 ?_
                          refine x_v (w := (va_up v 161 (oM B (va_up (va_up (va_up F 15 (zq : Int)) 16 (at1 : Int)) 17 tk) y))) (up_at0).symm ?_
                          refine x_vret (pc := 284) K KR (by omega) (Nat.le_of_ble_eq_true rfl) (Nat.le_of_ble_eq_true rfl) dX12_next_284 ?_
                          obtain ⟨hE, hV, hK⟩ := tok_fin hsk htk hi118_1 hend
                          have hKK : tokK t n a = tk := by rw [hK]; split <;> omega
                          exact ⟨rfl, rfl, by rw [hE, hV, hKK, hsk]⟩
                        · skip
                          refine x_iconst (pc := 273) K dX12_next_273 ?_
                          refine x_goto (pc := 274) (tgt := 281) K dX12_next_274 (by decide) ?_
                          refine x_put (pc := 281) (C := RX12) (T := TX12) (n := 26) (ci := 11) (idx := 100) (ref := "BorderBedsModel") (ty := .int)  K (cel_self hc0.1) rfl (by decide +kernel) tyX12 tyX12_ok nmX12 17 (by decide) (by decide +kernel) rfl rfl (by decide +kernel) rfl rfl (Nat.le_of_ble_eq_true rfl) dX12_next_281 ?_
                          refine x_v (w := (va_up v 161 (oM B (va_up (va_up (va_up F 15 (zq : Int)) 16 (at1 : Int)) 17 4) y))) (up_at0).symm ?_
                          refine x_vret (pc := 284) K KR (by omega) (Nat.le_of_ble_eq_true rfl) (Nat.le_of_ble_eq_true rfl) dX12_next_284 ?_
                          obtain ⟨hE, hV, hK⟩ := tok_fin hsk htk hi118_1 hend
                          have hKK : tokK t n a = 4 := by rw [hK]; split <;> omega
                          exact ⟨rfl, rfl, by rw [hE, hV, hKK, hsk]⟩
                    · skip
                      refine x_aload_n (pc := 125) 0 K rfl rfl dX12_next_125 ?_
                      refine x_get (pc := 126) (C := RX12) (T := TX12) (n := 26) (ci := 11) (idx := 100) (ref := "BorderBedsModel") (x := .int (zI tk))  K (cel_self hc0.1) rfl (by decide +kernel) 17 (by decide) (by decide +kernel) rfl rfl dX12_next_126 ?_
                      refine x_iconst (pc := 129) K dX12_next_129 ?_
                      refine x_icmp_ge (pc := 130) (tgt := 251) K (by omega) (by decide) dX12_next_130 (by decide) (fun h_130 => ?_) (fun h_130 => ?_)
                      · skip
                        have hend : (tk = 1 ∨ tk = 2) → ¬ (zq < n ∧ srt (t zq) = tk) := by omega
                        refine x_aload_n (pc := 251) 0 K rfl rfl dX12_next_251 ?_
                        refine x_aload_n (pc := 252) 0 K rfl rfl dX12_next_252 ?_
                        refine x_get (pc := 253) (C := RX12) (T := TX12) (n := 26) (ci := 11) (idx := 100) (ref := "BorderBedsModel") (x := .int (zI tk))  K (cel_self hc0.1) rfl (by decide +kernel) 17 (by decide) (by decide +kernel) rfl rfl dX12_next_253 ?_
                        refine x_iconst (pc := 256) K dX12_next_256 ?_
                        refine x_icmp_ne (pc := 257) (tgt := 277) K (by omega) (by decide) dX12_next_257 (by decide) (fun h_257 => ?_) (fun h_257 => ?_)
                        · skip
                          refine x_aload_n (pc := 277) 0 K rfl rfl dX12_next_277 ?_
                          refine x_get (pc := 278) (C := RX12) (T := TX12) (n := 26) (ci := 11) (idx := 100) (ref := "BorderBedsModel") (x := .int (zI tk))  K (cel_self hc0.1) rfl (by decide +kernel) 17 (by decide) (by decide +kernel) rfl rfl dX12_next_278 ?_
                          refine x_put (pc := 281) (C := RX12) (T := TX12) (n := 26) (ci := 11) (idx := 100) (ref := "BorderBedsModel") (ty := .int)  K (cel_self hc0.1) rfl (by decide +kernel) tyX12 tyX12_ok nmX12 17 (by decide) (by decide +kernel) rfl rfl (by decide +kernel) rfl rfl (Nat.le_of_ble_eq_true rfl) dX12_next_281 ?_
                          refine x_v (w := (va_up v 161 (oM B (va_up (va_up (va_up F 15 (zq : Int)) 16 (at1 : Int)) 17 tk) y))) (up_at0).symm ?_
                          refine x_vret (pc := 284) K KR (by omega) (Nat.le_of_ble_eq_true rfl) (Nat.le_of_ble_eq_true rfl) dX12_next_284 ?_
                          obtain ⟨hE, hV, hK⟩ := tok_fin hsk htk hi118_1 hend
                          have hKK : tokK t n a = tk := by rw [hK]; split <;> omega
                          exact ⟨rfl, rfl, by rw [hE, hV, hKK, hsk]⟩
                        · skip
                          refine x_aload_n (pc := 260) 0 K rfl rfl dX12_next_260 ?_
                          refine x_get (pc := 261) (C := RX12) (T := TX12) (n := 26) (ci := 11) (idx := 88) (ref := "BorderBedsModel") (x := .int (zI (zq : Int)))  K (cel_self hc0.1) rfl (by decide +kernel) 15 (by decide) (by decide +kernel) rfl rfl dX12_next_261 ?_
                          refine x_aload_n (pc := 264) 0 K rfl rfl dX12_next_264 ?_
                          refine x_get (pc := 265) (C := RX12) (T := TX12) (n := 26) (ci := 11) (idx := 94) (ref := "BorderBedsModel") (x := .int (zI (at1 : Int)))  K (cel_self hc0.1) rfl (by decide +kernel) 16 (by decide) (by decide +kernel) rfl rfl dX12_next_265 ?_
                          refine x_isub (pc := 268) K dX12_next_268 ?_
                          refine x_iconst (pc := 269) K dX12_next_269 ?_
                          refine x_icmp_le (pc := 270) (tgt := 277) K (by omega) (by decide) dX12_next_270 (by decide) (fun h_270 => ?_) (fun h_270 => ?_)
                          · skip
                            refine x_aload_n (pc := 277) 0 K rfl rfl dX12_next_277 ?_
                            refine x_get (pc := 278) (C := RX12) (T := TX12) (n := 26) (ci := 11) (idx := 100) (ref := "BorderBedsModel") (x := .int (zI tk))  K (cel_self hc0.1) rfl (by decide +kernel) 17 (by decide) (by decide +kernel) rfl rfl dX12_next_278 ?_
                            refine x_put (pc := 281) (C := RX12) (T := TX12) (n := 26) (ci := 11) (idx := 100) (ref := "BorderBedsModel") (ty := .int)  K (cel_self hc0.1) rfl (by decide +kernel) tyX12 tyX12_ok nmX12 17 (by decide) (by decide +kernel) rfl rfl (by decide +kernel) rfl rfl (Nat.le_of_ble_eq_true rfl) dX12_next_281 ?_
                            refine x_v (w := (va_up v 161 (oM B (va_up (va_up (va_up F 15 (zq : Int)) 16 (at1 : Int)) 17 tk) y))) (up_at0).symm ?_
                            refine x_vret (pc := 284) K KR (by omega) (Nat.le_of_ble_eq_true rfl) (Nat.le_of_ble_eq_true rfl) dX12_next_284 ?_
                            obtain ⟨hE, hV, hK⟩ := tok_fin hsk htk hi118_1 hend
                            have hKK : tokK t n a = tk := by rw [hK]; split <;> omega
                            exact ⟨rfl, rfl, by rw [hE, hV, hKK, hsk]⟩
                          · skip
                            refine x_iconst (pc := 273) K dX12_next_273 ?_
                            refine x_goto (pc := 274) (tgt := 281) K dX12_next_274 (by decide) ?_
                            refine x_put (pc := 281) (C := RX12) (T := TX12) (n := 26) (ci := 11) (idx := 100) (ref := "BorderBedsModel") (ty := .int)  K (cel_self hc0.1) rfl (by decide +kernel) tyX12 tyX12_ok nmX12 17 (by decide) (by decide +kernel) rfl rfl (by decide +kernel) rfl rfl (Nat.le_of_ble_eq_true rfl) dX12_next_281 ?_
                            refine x_v (w := (va_up v 161 (oM B (va_up (va_up (va_up F 15 (zq : Int)) 16 (at1 : Int)) 17 4) y))) (up_at0).symm ?_
                            refine x_vret (pc := 284) K KR (by omega) (Nat.le_of_ble_eq_true rfl) (Nat.le_of_ble_eq_true rfl) dX12_next_284 ?_
                            obtain ⟨hE, hV, hK⟩ := tok_fin hsk htk hi118_1 hend
                            have hKK : tokK t n a = 4 := by rw [hK]; split <;> omega
                            exact ⟨rfl, rfl, by rw [hE, hV, hKK, hsk]⟩
                      · skip
                        refine x_aload_n (pc := 133) 0 K rfl rfl dX12_next_133 ?_
                        refine x_get (pc := 134) (C := RX12) (T := TX12) (n := 26) (ci := 11) (idx := 88) (ref := "BorderBedsModel") (x := .int (zI (zq : Int)))  K (cel_self hc0.1) rfl (by decide +kernel) 15 (by decide) (by decide +kernel) rfl rfl dX12_next_134 ?_
                        refine x_aload_n (pc := 137) 0 K rfl rfl dX12_next_137 ?_
                        refine x_get (pc := 138) (C := RX12) (T := TX12) (n := 26) (ci := 11) (idx := 91) (ref := "BorderBedsModel") (x := .int (zI (F 19)))  K (cel_self hc0.1) rfl (by decide +kernel) 19 (by decide) (by decide +kernel) rfl rfl dX12_next_138 ?_
                        refine x_icmp_ge (pc := 141) (tgt := 251) K (by omega) (by omega) dX12_next_141 (by decide) (fun h_141 => ?_) (fun h_141 => ?_)
                        · skip
                          have hend : (tk = 1 ∨ tk = 2) → ¬ (zq < n ∧ srt (t zq) = tk) := by omega
                          refine x_aload_n (pc := 251) 0 K rfl rfl dX12_next_251 ?_
                          refine x_aload_n (pc := 252) 0 K rfl rfl dX12_next_252 ?_
                          refine x_get (pc := 253) (C := RX12) (T := TX12) (n := 26) (ci := 11) (idx := 100) (ref := "BorderBedsModel") (x := .int (zI tk))  K (cel_self hc0.1) rfl (by decide +kernel) 17 (by decide) (by decide +kernel) rfl rfl dX12_next_253 ?_
                          refine x_iconst (pc := 256) K dX12_next_256 ?_
                          refine x_icmp_ne (pc := 257) (tgt := 277) K (by omega) (by decide) dX12_next_257 (by decide) (fun h_257 => ?_) (fun h_257 => ?_)
                          · skip
                            refine x_aload_n (pc := 277) 0 K rfl rfl dX12_next_277 ?_
                            refine x_get (pc := 278) (C := RX12) (T := TX12) (n := 26) (ci := 11) (idx := 100) (ref := "BorderBedsModel") (x := .int (zI tk))  K (cel_self hc0.1) rfl (by decide +kernel) 17 (by decide) (by decide +kernel) rfl rfl dX12_next_278 ?_
                            refine x_put (pc := 281) (C := RX12) (T := TX12) (n := 26) (ci := 11) (idx := 100) (ref := "BorderBedsModel") (ty := .int)  K (cel_self hc0.1) rfl (by decide +kernel) tyX12 tyX12_ok nmX12 17 (by decide) (by decide +kernel) rfl rfl (by decide +kernel) rfl rfl (Nat.le_of_ble_eq_true rfl) dX12_next_281 ?_
                            refine x_v (w := (va_up v 161 (oM B (va_up (va_up (va_up F 15 (zq : Int)) 16 (at1 : Int)) 17 tk) y))) (up_at0).symm ?_
                            refine x_vret (pc := 284) K KR (by omega) (Nat.le_of_ble_eq_true rfl) (Nat.le_of_ble_eq_true rfl) dX12_next_284 ?_
                            obtain ⟨hE, hV, hK⟩ := tok_fin hsk htk hi118_1 hend
                            have hKK : tokK t n a = tk := by rw [hK]; split <;> omega
                            exact ⟨rfl, rfl, by rw [hE, hV, hKK, hsk]⟩
                          · skip
                            refine x_aload_n (pc := 260) 0 K rfl rfl dX12_next_260 ?_
                            refine x_get (pc := 261) (C := RX12) (T := TX12) (n := 26) (ci := 11) (idx := 88) (ref := "BorderBedsModel") (x := .int (zI (zq : Int)))  K (cel_self hc0.1) rfl (by decide +kernel) 15 (by decide) (by decide +kernel) rfl rfl dX12_next_261 ?_
                            refine x_aload_n (pc := 264) 0 K rfl rfl dX12_next_264 ?_
                            refine x_get (pc := 265) (C := RX12) (T := TX12) (n := 26) (ci := 11) (idx := 94) (ref := "BorderBedsModel") (x := .int (zI (at1 : Int)))  K (cel_self hc0.1) rfl (by decide +kernel) 16 (by decide) (by decide +kernel) rfl rfl dX12_next_265 ?_
                            refine x_isub (pc := 268) K dX12_next_268 ?_
                            refine x_iconst (pc := 269) K dX12_next_269 ?_
                            refine x_icmp_le (pc := 270) (tgt := 277) K (by omega) (by decide) dX12_next_270 (by decide) (fun h_270 => ?_) (fun h_270 => ?_)
                            · skip
                              refine x_aload_n (pc := 277) 0 K rfl rfl dX12_next_277 ?_
                              refine x_get (pc := 278) (C := RX12) (T := TX12) (n := 26) (ci := 11) (idx := 100) (ref := "BorderBedsModel") (x := .int (zI tk))  K (cel_self hc0.1) rfl (by decide +kernel) 17 (by decide) (by decide +kernel) rfl rfl dX12_next_278 ?_
                              refine x_put (pc := 281) (C := RX12) (T := TX12) (n := 26) (ci := 11) (idx := 100) (ref := "BorderBedsModel") (ty := .int)  K (cel_self hc0.1) rfl (by decide +kernel) tyX12 tyX12_ok nmX12 17 (by decide) (by decide +kernel) rfl rfl (by decide +kernel) rfl rfl (Nat.le_of_ble_eq_true rfl) dX12_next_281 ?_
                              refine x_v (w := (va_up v 161 (oM B (va_up (va_up (va_up F 15 (zq : Int)) 16 (at1 : Int)) 17 tk) y))) (up_at0).symm ?_
                              refine x_vret (pc := 284) K KR (by omega) (Nat.le_of_ble_eq_true rfl) (Nat.le_of_ble_eq_true rfl) dX12_next_284 ?_
                              obtain ⟨hE, hV, hK⟩ := tok_fin hsk htk hi118_1 hend
                              have hKK : tokK t n a = tk := by rw [hK]; split <;> omega
                              exact ⟨rfl, rfl, by rw [hE, hV, hKK, hsk]⟩
                            · skip
                              refine x_iconst (pc := 273) K dX12_next_273 ?_
                              refine x_goto (pc := 274) (tgt := 281) K dX12_next_274 (by decide) ?_
                              refine x_put (pc := 281) (C := RX12) (T := TX12) (n := 26) (ci := 11) (idx := 100) (ref := "BorderBedsModel") (ty := .int)  K (cel_self hc0.1) rfl (by decide +kernel) tyX12 tyX12_ok nmX12 17 (by decide) (by decide +kernel) rfl rfl (by decide +kernel) rfl rfl (Nat.le_of_ble_eq_true rfl) dX12_next_281 ?_
                              refine x_v (w := (va_up v 161 (oM B (va_up (va_up (va_up F 15 (zq : Int)) 16 (at1 : Int)) 17 4) y))) (up_at0).symm ?_
                              refine x_vret (pc := 284) K KR (by omega) (Nat.le_of_ble_eq_true rfl) (Nat.le_of_ble_eq_true rfl) dX12_next_284 ?_
                              obtain ⟨hE, hV, hK⟩ := tok_fin hsk htk hi118_1 hend
                              have hKK : tokK t n a = 4 := by rw [hK]; split <;> omega
                              exact ⟨rfl, rfl, by rw [hE, hV, hKK, hsk]⟩
                        · skip
                          have b152 := hq3 zq
                          have s152 := srt_rng (t zq)
                          refine x_aload_n (pc := 144) 0 K rfl rfl dX12_next_144 ?_
                          refine x_get (pc := 145) (C := RX12) (T := TX12) (n := 26) (ci := 11) (idx := 19) (ref := "BorderBedsModel") (x := .ref (B + 165))  K (cel_self hc0.1) rfl (by decide +kernel) 4 (by decide) (by decide +kernel) rfl rfl dX12_next_145 ?_
                          refine x_aload_n (pc := 148) 0 K rfl rfl dX12_next_148 ?_
                          refine x_get (pc := 149) (C := RX12) (T := TX12) (n := 26) (ci := 11) (idx := 88) (ref := "BorderBedsModel") (x := .int (zI (zq : Int)))  K (cel_self hc0.1) rfl (by decide +kernel) 15 (by decide) (by decide +kernel) rfl rfl dX12_next_149 ?_
                          refine x_iald (pc := 152) zq K (cel_ne hc1 (by decide)) rfl (by omega) (by decide) dX12_next_152 ?_
                          refine x_callS (pc := 153) (As := [.int (zI (t zq))]) K (c_X12_sort (E := E) (B := B) (N := N)    (by omega)) gX12_next_X12_sort rfl (na := 1) (by decide +kernel) rfl ⟨(Nat.le_of_ble_eq_true rfl), (Nat.le_of_ble_eq_true rfl)⟩ (st := []) rfl (Nat.le_of_ble_eq_true rfl) ⟨(Nat.le_of_ble_eq_true rfl), (Nat.le_of_ble_eq_true rfl)⟩ dX12_next_153 (fun r153 N153 w153 hpo153 hN153 => ?_)
                          obtain ⟨rfl, rfl, rfl⟩ := hpo153
                          refine x_st (st' := [.int (zI (srt (t zq)))]) rfl ?_
                          refine x_aload_n (pc := 156) 0 K rfl rfl dX12_next_156 ?_
                          refine x_get (pc := 157) (C := RX12) (T := TX12) (n := 26) (ci := 11) (idx := 100) (ref := "BorderBedsModel") (x := .int (zI tk))  K (cel_self hc0.1) rfl (by decide +kernel) 17 (by decide) (by decide +kernel) rfl rfl dX12_next_157 ?_
                          refine x_icmp_ne (pc := 160) (tgt := 251) K (by omega) (by omega) dX12_next_160 (by decide) (fun h_160 => ?_) (fun h_160 => ?_)
                          · skip
                            have hend : (tk = 1 ∨ tk = 2) → ¬ (zq < n ∧ srt (t zq) = tk) := by omega
                            refine x_aload_n (pc := 251) 0 K rfl rfl dX12_next_251 ?_
                            refine x_aload_n (pc := 252) 0 K rfl rfl dX12_next_252 ?_
                            refine x_get (pc := 253) (C := RX12) (T := TX12) (n := 26) (ci := 11) (idx := 100) (ref := "BorderBedsModel") (x := .int (zI tk))  K (cel_self hc0.1) rfl (by decide +kernel) 17 (by decide) (by decide +kernel) rfl rfl dX12_next_253 ?_
                            refine x_iconst (pc := 256) K dX12_next_256 ?_
                            refine x_icmp_ne (pc := 257) (tgt := 277) K (by omega) (by decide) dX12_next_257 (by decide) (fun h_257 => ?_) (fun h_257 => ?_)
                            · skip
                              refine x_aload_n (pc := 277) 0 K rfl rfl dX12_next_277 ?_
                              refine x_get (pc := 278) (C := RX12) (T := TX12) (n := 26) (ci := 11) (idx := 100) (ref := "BorderBedsModel") (x := .int (zI tk))  K (cel_self hc0.1) rfl (by decide +kernel) 17 (by decide) (by decide +kernel) rfl rfl dX12_next_278 ?_
                              refine x_put (pc := 281) (C := RX12) (T := TX12) (n := 26) (ci := 11) (idx := 100) (ref := "BorderBedsModel") (ty := .int)  K (cel_self hc0.1) rfl (by decide +kernel) tyX12 tyX12_ok nmX12 17 (by decide) (by decide +kernel) rfl rfl (by decide +kernel) rfl rfl (Nat.le_of_ble_eq_true rfl) dX12_next_281 ?_
                              refine x_v (w := (va_up v 161 (oM B (va_up (va_up (va_up F 15 (zq : Int)) 16 (at1 : Int)) 17 tk) y))) (up_at0).symm ?_
                              refine x_vret (pc := 284) K KR (by omega) (Nat.le_of_ble_eq_true rfl) (Nat.le_of_ble_eq_true rfl) dX12_next_284 ?_
                              obtain ⟨hE, hV, hK⟩ := tok_fin hsk htk hi118_1 hend
                              have hKK : tokK t n a = tk := by rw [hK]; split <;> omega
                              exact ⟨rfl, rfl, by rw [hE, hV, hKK, hsk]⟩
                            · skip
                              refine x_aload_n (pc := 260) 0 K rfl rfl dX12_next_260 ?_
                              refine x_get (pc := 261) (C := RX12) (T := TX12) (n := 26) (ci := 11) (idx := 88) (ref := "BorderBedsModel") (x := .int (zI (zq : Int)))  K (cel_self hc0.1) rfl (by decide +kernel) 15 (by decide) (by decide +kernel) rfl rfl dX12_next_261 ?_
                              refine x_aload_n (pc := 264) 0 K rfl rfl dX12_next_264 ?_
                              refine x_get (pc := 265) (C := RX12) (T := TX12) (n := 26) (ci := 11) (idx := 94) (ref := "BorderBedsModel") (x := .int (zI (at1 : Int)))  K (cel_self hc0.1) rfl (by decide +kernel) 16 (by decide) (by decide +kernel) rfl rfl dX12_next_265 ?_
                              refine x_isub (pc := 268) K dX12_next_268 ?_
                              refine x_iconst (pc := 269) K dX12_next_269 ?_
                              refine x_icmp_le (pc := 270) (tgt := 277) K (by omega) (by decide) dX12_next_270 (by decide) (fun h_270 => ?_) (fun h_270 => ?_)
                              · skip
                                refine x_aload_n (pc := 277) 0 K rfl rfl dX12_next_277 ?_
                                refine x_get (pc := 278) (C := RX12) (T := TX12) (n := 26) (ci := 11) (idx := 100) (ref := "BorderBedsModel") (x := .int (zI tk))  K (cel_self hc0.1) rfl (by decide +kernel) 17 (by decide) (by decide +kernel) rfl rfl dX12_next_278 ?_
                                refine x_put (pc := 281) (C := RX12) (T := TX12) (n := 26) (ci := 11) (idx := 100) (ref := "BorderBedsModel") (ty := .int)  K (cel_self hc0.1) rfl (by decide +kernel) tyX12 tyX12_ok nmX12 17 (by decide) (by decide +kernel) rfl rfl (by decide +kernel) rfl rfl (Nat.le_of_ble_eq_true rfl) dX12_next_281 ?_
                                refine x_v (w := (va_up v 161 (oM B (va_up (va_up (va_up F 15 (zq : Int)) 16 (at1 : Int)) 17 tk) y))) (up_at0).symm ?_
                                refine x_vret (pc := 284) K KR (by omega) (Nat.le_of_ble_eq_true rfl) (Nat.le_of_ble_eq_true rfl) dX12_next_284 ?_
                                obtain ⟨hE, hV, hK⟩ := tok_fin hsk htk hi118_1 hend
                                have hKK : tokK t n a = tk := by rw [hK]; split <;> omega
                                exact ⟨rfl, rfl, by rw [hE, hV, hKK, hsk]⟩
                              · skip
                                refine x_iconst (pc := 273) K dX12_next_273 ?_
                                refine x_goto (pc := 274) (tgt := 281) K dX12_next_274 (by decide) ?_
                                refine x_put (pc := 281) (C := RX12) (T := TX12) (n := 26) (ci := 11) (idx := 100) (ref := "BorderBedsModel") (ty := .int)  K (cel_self hc0.1) rfl (by decide +kernel) tyX12 tyX12_ok nmX12 17 (by decide) (by decide +kernel) rfl rfl (by decide +kernel) rfl rfl (Nat.le_of_ble_eq_true rfl) dX12_next_281 ?_
                                refine x_v (w := (va_up v 161 (oM B (va_up (va_up (va_up F 15 (zq : Int)) 16 (at1 : Int)) 17 4) y))) (up_at0).symm ?_
                                refine x_vret (pc := 284) K KR (by omega) (Nat.le_of_ble_eq_true rfl) (Nat.le_of_ble_eq_true rfl) dX12_next_284 ?_
                                obtain ⟨hE, hV, hK⟩ := tok_fin hsk htk hi118_1 hend
                                have hKK : tokK t n a = 4 := by rw [hK]; split <;> omega
                                exact ⟨rfl, rfl, by rw [hE, hV, hKK, hsk]⟩
                          · skip
                            have hgo : reT t n tk (zq + 1) = reT t n tk zq := reT_go (by omega) (by omega)
                            have hold : (tk = 1 ∨ tk = 2) ∧ at1 ≤ zq ∧ reT t n tk zq = reT t n tk at1 ∧ y = valT t tk at1 (zq - at1) := by
                              rcases hi118_1 with h | h
                              · exact h
                              · exfalso; have := h.1; omega
                            have hvs : valT t tk at1 (zq + 1 - at1) = if 7 < zq - at1 then -1 else if tk = 1 then 32 * valT t tk at1 (zq - at1) + t (at1 + (zq - at1)) - 96 else 10 * valT t tk at1 (zq - at1) + t (at1 + (zq - at1)) - 48 := by rw [show zq + 1 - at1 = (zq - at1) + 1 by omega]; rfl
                            rw [show at1 + (zq - at1) = zq by omega, ← hold.2.2.2] at hvs
                            refine x_aload_n (pc := 163) 0 K rfl rfl dX12_next_163 ?_
                            refine x_get (pc := 164) (C := RX12) (T := TX12) (n := 26) (ci := 11) (idx := 19) (ref := "BorderBedsModel") (x := .ref (B + 165))  K (cel_self hc0.1) rfl (by decide +kernel) 4 (by decide) (by decide +kernel) rfl rfl dX12_next_164 ?_
                            refine x_aload_n (pc := 167) 0 K rfl rfl dX12_next_167 ?_
                            refine x_get (pc := 168) (C := RX12) (T := TX12) (n := 26) (ci := 11) (idx := 88) (ref := "BorderBedsModel") (x := .int (zI (zq : Int)))  K (cel_self hc0.1) rfl (by decide +kernel) 15 (by decide) (by decide +kernel) rfl rfl dX12_next_168 ?_
                            refine x_iald (pc := 171) zq K (cel_ne hc1 (by decide)) rfl (by omega) (by decide) dX12_next_171 ?_
                            refine x_nm (fun z5 hz5 => ?_)
                            refine x_istore_n (pc := 172) K (L' := [(1, .int (zI z5)), (0, .ref (B + 161))]) hnL rfl (by decide) rfl dX12_next_172 ?_
                            refine x_aload_n (pc := 173) 1 K rfl rfl dX12_next_173 ?_
                            refine x_aload_n (pc := 174) 1 K rfl rfl dX12_next_174 ?_
                            refine x_get (pc := 175) (C := RX12) (T := TX12) (n := 26) (ci := 11) (idx := 88) (ref := "BorderBedsModel") (x := .int (zI (zq : Int)))  K (cel_self hc0.1) rfl (by decide +kernel) 15 (by decide) (by decide +kernel) rfl rfl dX12_next_175 ?_
                            refine x_aload_n (pc := 178) 1 K rfl rfl dX12_next_178 ?_
                            refine x_get (pc := 179) (C := RX12) (T := TX12) (n := 26) (ci := 11) (idx := 94) (ref := "BorderBedsModel") (x := .int (zI (at1 : Int)))  K (cel_self hc0.1) rfl (by decide +kernel) 16 (by decide) (by decide +kernel) rfl rfl dX12_next_179 ?_
                            refine x_isub (pc := 182) K dX12_next_182 ?_
                            refine x_bipush (pc := 183) K (by decide) dX12_next_183 ?_
                            refine x_icmp_le (pc := 185) (tgt := 194) K (by omega) (by decide) dX12_next_185 (by decide) (fun h_185 => ?_) (fun h_185 => ?_)
                            · skip
                              refine x_aload_n (pc := 194) 1 K rfl rfl dX12_next_194 ?_
                              refine x_get (pc := 195) (C := RX12) (T := TX12) (n := 26) (ci := 11) (idx := 100) (ref := "BorderBedsModel") (x := .int (zI tk))  K (cel_self hc0.1) rfl (by decide +kernel) 17 (by decide) (by decide +kernel) rfl rfl dX12_next_195 ?_
                              refine x_iconst (pc := 198) K dX12_next_198 ?_
                              refine x_icmp_ne (pc := 199) (tgt := 220) K (by omega) (by decide) dX12_next_199 (by decide) (fun h_199 => ?_) (fun h_199 => ?_)
                              · skip
                                refine x_ldc2 (pc := 220) (x := (10)) (10) K (by decide) (by decide +kernel) dX12_next_220 ?_
                                refine x_aload_n (pc := 223) 1 K rfl rfl dX12_next_223 ?_
                                refine x_get (pc := 224) (C := RX12) (T := TX12) (n := 26) (ci := 11) (idx := 103) (ref := "BorderBedsModel") (x := .long (zL y))  K (cel_self hc0.1) rfl (by decide +kernel) 18 (by decide) (by decide +kernel) rfl rfl dX12_next_224 ?_
                                refine x_lmul (pc := 227) K dX12_next_227 ?_
                                refine x_iload_n (pc := 228) 0 K rfl rfl dX12_next_228 ?_
                                refine x_i2l (pc := 229) K (by omega) dX12_next_229 ?_
                                refine x_ladd (pc := 230) K dX12_next_230 ?_
                                refine x_ldc2 (pc := 231) (x := (48)) (48) K (by decide) (by decide +kernel) dX12_next_231 ?_
                                refine x_lsub (pc := 234) K dX12_next_234 ?_
                                refine x_put (pc := 235) (C := RX12) (T := TX12) (n := 26) (ci := 11) (idx := 103) (ref := "BorderBedsModel") (ty := .long)  K (cel_self hc0.1) rfl (by decide +kernel) tyX12 tyX12_ok nmX12 18 (by decide) (by decide +kernel) rfl rfl (by decide +kernel) rfl rfl (Nat.le_of_ble_eq_true rfl) dX12_next_235 ?_
                                refine x_v (w := (va_up v 161 (oM B (va_up (va_up (va_up F 15 (zq : Int)) 16 (at1 : Int)) 17 tk) (((10 * y) + z5) - 48)))) (up_at0).symm ?_
                                refine x_aload_n (pc := 238) 1 K rfl rfl dX12_next_238 ?_
                                refine x_dup (pc := 239) K rfl dX12_next_239 ?_
                                refine x_get (pc := 240) (C := RX12) (T := TX12) (n := 26) (ci := 11) (idx := 88) (ref := "BorderBedsModel") (x := .int (zI (zq : Int)))  K (cel_self hc0.1) rfl (by decide +kernel) 15 (by decide) (by decide +kernel) rfl rfl dX12_next_240 ?_
                                refine x_iconst (pc := 243) K dX12_next_243 ?_
                                refine x_iadd (pc := 244) K dX12_next_244 ?_
                                refine x_put (pc := 245) (C := RX12) (T := TX12) (n := 26) (ci := 11) (idx := 88) (ref := "BorderBedsModel") (ty := .int)  K (cel_self hc0.1) rfl (by decide +kernel) tyX12 tyX12_ok nmX12 15 (by decide) (by decide +kernel) rfl rfl (by decide +kernel) rfl rfl (Nat.le_of_ble_eq_true rfl) dX12_next_245 ?_
                                refine x_v (w := (va_up v 161 (oM B (va_up (va_up (va_up F 15 ((zq : Int) + 1)) 16 (at1 : Int)) 17 tk) (((10 * y) + z5) - 48)))) (up_at0).symm ?_
                                refine x_goto (pc := 248) (tgt := 118) K dX12_next_248 (by decide) ?_
                                refine x_sub (L' := [(0, .ref (B + 161))]) [1] rfl ?_
                                exact ih118 (zq + 1) (((10 * y) + z5) - 48) (by omega) (by exact Or.inl ⟨hold.1, by omega, by rw [hgo]; exact hold.2.2.1, by rw [hvs]; split <;> (try split) <;> omega⟩) (by omega)
                              · skip
                                refine x_ldc2 (pc := 202) (x := (32)) (32) K (by decide) (by decide +kernel) dX12_next_202 ?_
                                refine x_aload_n (pc := 205) 1 K rfl rfl dX12_next_205 ?_
                                refine x_get (pc := 206) (C := RX12) (T := TX12) (n := 26) (ci := 11) (idx := 103) (ref := "BorderBedsModel") (x := .long (zL y))  K (cel_self hc0.1) rfl (by decide +kernel) 18 (by decide) (by decide +kernel) rfl rfl dX12_next_206 ?_
                                refine x_lmul (pc := 209) K dX12_next_209 ?_
                                refine x_iload_n (pc := 210) 0 K rfl rfl dX12_next_210 ?_
                                refine x_i2l (pc := 211) K (by omega) dX12_next_211 ?_
                                refine x_ladd (pc := 212) K dX12_next_212 ?_
                                refine x_ldc2 (pc := 213) (x := (96)) (96) K (by decide) (by decide +kernel) dX12_next_213 ?_
                                refine x_lsub (pc := 216) K dX12_next_216 ?_
                                refine x_goto (pc := 217) (tgt := 235) K dX12_next_217 (by decide) ?_
                                refine x_put (pc := 235) (C := RX12) (T := TX12) (n := 26) (ci := 11) (idx := 103) (ref := "BorderBedsModel") (ty := .long)  K (cel_self hc0.1) rfl (by decide +kernel) tyX12 tyX12_ok nmX12 18 (by decide) (by decide +kernel) rfl rfl (by decide +kernel) rfl rfl (Nat.le_of_ble_eq_true rfl) dX12_next_235 ?_
                                refine x_v (w := (va_up v 161 (oM B (va_up (va_up (va_up F 15 (zq : Int)) 16 (at1 : Int)) 17 tk) (((32 * y) + z5) - 96)))) (up_at0).symm ?_
                                refine x_aload_n (pc := 238) 1 K rfl rfl dX12_next_238 ?_
                                refine x_dup (pc := 239) K rfl dX12_next_239 ?_
                                refine x_get (pc := 240) (C := RX12) (T := TX12) (n := 26) (ci := 11) (idx := 88) (ref := "BorderBedsModel") (x := .int (zI (zq : Int)))  K (cel_self hc0.1) rfl (by decide +kernel) 15 (by decide) (by decide +kernel) rfl rfl dX12_next_240 ?_
                                refine x_iconst (pc := 243) K dX12_next_243 ?_
                                refine x_iadd (pc := 244) K dX12_next_244 ?_
                                refine x_put (pc := 245) (C := RX12) (T := TX12) (n := 26) (ci := 11) (idx := 88) (ref := "BorderBedsModel") (ty := .int)  K (cel_self hc0.1) rfl (by decide +kernel) tyX12 tyX12_ok nmX12 15 (by decide) (by decide +kernel) rfl rfl (by decide +kernel) rfl rfl (Nat.le_of_ble_eq_true rfl) dX12_next_245 ?_
                                refine x_v (w := (va_up v 161 (oM B (va_up (va_up (va_up F 15 ((zq : Int) + 1)) 16 (at1 : Int)) 17 tk) (((32 * y) + z5) - 96)))) (up_at0).symm ?_
                                refine x_goto (pc := 248) (tgt := 118) K dX12_next_248 (by decide) ?_
                                refine x_sub (L' := [(0, .ref (B + 161))]) [1] rfl ?_
                                exact ih118 (zq + 1) (((32 * y) + z5) - 96) (by omega) (by exact Or.inl ⟨hold.1, by omega, by rw [hgo]; exact hold.2.2.1, by rw [hvs]; split <;> (try split) <;> omega⟩) (by omega)
                            · skip
                              refine x_ldc2 (pc := 188) (x := (-1)) (-1) K (by decide) (by decide +kernel) dX12_next_188 ?_
                              refine x_goto (pc := 191) (tgt := 235) K dX12_next_191 (by decide) ?_
                              refine x_put (pc := 235) (C := RX12) (T := TX12) (n := 26) (ci := 11) (idx := 103) (ref := "BorderBedsModel") (ty := .long)  K (cel_self hc0.1) rfl (by decide +kernel) tyX12 tyX12_ok nmX12 18 (by decide) (by decide +kernel) rfl rfl (by decide +kernel) rfl rfl (Nat.le_of_ble_eq_true rfl) dX12_next_235 ?_
                              refine x_v (w := (va_up v 161 (oM B (va_up (va_up (va_up F 15 (zq : Int)) 16 (at1 : Int)) 17 tk) (-1)))) (up_at0).symm ?_
                              refine x_aload_n (pc := 238) 1 K rfl rfl dX12_next_238 ?_
                              refine x_dup (pc := 239) K rfl dX12_next_239 ?_
                              refine x_get (pc := 240) (C := RX12) (T := TX12) (n := 26) (ci := 11) (idx := 88) (ref := "BorderBedsModel") (x := .int (zI (zq : Int)))  K (cel_self hc0.1) rfl (by decide +kernel) 15 (by decide) (by decide +kernel) rfl rfl dX12_next_240 ?_
                              refine x_iconst (pc := 243) K dX12_next_243 ?_
                              refine x_iadd (pc := 244) K dX12_next_244 ?_
                              refine x_put (pc := 245) (C := RX12) (T := TX12) (n := 26) (ci := 11) (idx := 88) (ref := "BorderBedsModel") (ty := .int)  K (cel_self hc0.1) rfl (by decide +kernel) tyX12 tyX12_ok nmX12 15 (by decide) (by decide +kernel) rfl rfl (by decide +kernel) rfl rfl (Nat.le_of_ble_eq_true rfl) dX12_next_245 ?_
                              refine x_v (w := (va_up v 161 (oM B (va_up (va_up (va_up F 15 ((zq : Int) + 1)) 16 (at1 : Int)) 17 tk) (-1)))) (up_at0).symm ?_
                              refine x_goto (pc := 248) (tgt := 118) K dX12_next_248 (by decide) ?_
                              refine x_sub (L' := [(0, .ref (B + 161))]) [1] rfl ?_
                              exact ih118 (zq + 1) (-1) (by omega) (by exact Or.inl ⟨hold.1, by omega, by rw [hgo]; exact hold.2.2.1, by rw [hvs]; split <;> (try split) <;> omega⟩) (by omega)
                exact LOOP118 (_) (at1 + 0) 0 (by (first | omega | (have : at1 < n := by (by_cases q : at1 < n; exact q; rw [if_neg q] at htk; omega); omega))) (by first | (refine Or.inr ⟨by omega, ?_, rfl⟩; rw [if_pos (by omega)]; omega) | (by_cases q : tk = 1 ∨ tk = 2; exact Or.inl ⟨q, by omega, rfl, by rw [show at1 + 0 - at1 = 0 by omega]; rfl⟩; exact Or.inr ⟨q, by rw [if_neg (by omega)]; omega, rfl⟩)) (Nat.lt_succ_self _)
              · skip
                refine x_iconst (pc := 109) K dX12_next_109 ?_
                refine x_goto (pc := 110) (tgt := 114) K dX12_next_110 (by decide) ?_
                refine x_iadd (pc := 114) K dX12_next_114 ?_
                refine x_put (pc := 115) (C := RX12) (T := TX12) (n := 26) (ci := 11) (idx := 88) (ref := "BorderBedsModel") (ty := .int)  K (cel_self hc0.1) rfl (by decide +kernel) tyX12 tyX12_ok nmX12 15 (by decide) (by decide +kernel) rfl rfl (by decide +kernel) rfl rfl (Nat.le_of_ble_eq_true rfl) dX12_next_115 ?_
                refine x_v (w := (va_up v 161 (oM B (va_up (va_up (va_up F 15 ((at1 : Int) + 1)) 16 (at1 : Int)) 17 tk) 0))) (up_at0).symm ?_
                have LOOP118 : ∀ (n_118 : Nat) (zq : Nat) (y : Int), (zq ≤ 400) → (((tk = 1 ∨ tk = 2) ∧ at1 ≤ zq ∧ reT t n tk zq = reT t n tk at1 ∧ y = valT t tk at1 (zq - at1)) ∨ (¬ (tk = 1 ∨ tk = 2) ∧ (zq : Int) = (at1 : Int) + (if 2 < tk then 1 else 0) ∧ y = 0)) → (n + 1 - zq) < n_118 → XW Γ N (va_up v 161 (oM B (va_up (va_up (va_up F 15 (zq : Int)) 16 (at1 : Int)) 17 tk) y)) [(0, .ref (B + 161))] 0 0 118 [] := by
                  intro n_118
                  induction n_118 with
                  | zero =>
                    intro zq y hi118_0 hi118_1 hm_118
                    exfalso; omega
                  | succ n_118 ih118 =>
                    intro zq y hi118_0 hi118_1 hm_118
                    refine x_aload_n (pc := 118) 0 K rfl rfl dX12_next_118 ?_
                    refine x_get (pc := 119) (C := RX12) (T := TX12) (n := 26) (ci := 11) (idx := 100) (ref := "BorderBedsModel") (x := .int (zI tk))  K (cel_self hc0.1) rfl (by decide +kernel) 17 (by decide) (by decide +kernel) rfl rfl dX12_next_119 ?_
                    refine x_if_le (pc := 122) (tgt := 251) K (by omega) dX12_next_122 (by decide) (fun h_122 => ?_) (fun h_122 => ?_)
                    · skip
                      have hend : (tk = 1 ∨ tk = 2) → ¬ (zq < n ∧ srt (t zq) = tk) := by omega
                      refine x_aload_n (pc := 251) 0 K rfl rfl dX12_next_251 ?_
                      refine x_aload_n (pc := 252) 0 K rfl rfl dX12_next_252 ?_
                      refine x_get (pc := 253) (C := RX12) (T := TX12) (n := 26) (ci := 11) (idx := 100) (ref := "BorderBedsModel") (x := .int (zI tk))  K (cel_self hc0.1) rfl (by decide +kernel) 17 (by decide) (by decide +kernel) rfl rfl dX12_next_253 ?_
                      refine x_iconst (pc := 256) K dX12_next_256 ?_
                      refine x_icmp_ne (pc := 257) (tgt := 277) K (by omega) (by decide) dX12_next_257 (by decide) (fun h_257 => ?_) (fun h_257 => ?_)
                      · skip
                        refine x_aload_n (pc := 277) 0 K rfl rfl dX12_next_277 ?_
                        refine x_get (pc := 278) (C := RX12) (T := TX12) (n := 26) (ci := 11) (idx := 100) (ref := "BorderBedsModel") (x := .int (zI tk))  K (cel_self hc0.1) rfl (by decide +kernel) 17 (by decide) (by decide +kernel) rfl rfl dX12_next_278 ?_
                        refine x_put (pc := 281) (C := RX12) (T := TX12) (n := 26) (ci := 11) (idx := 100) (ref := "BorderBedsModel") (ty := .int)  K (cel_self hc0.1) rfl (by decide +kernel) tyX12 tyX12_ok nmX12 17 (by decide) (by decide +kernel) rfl rfl (by decide +kernel) rfl rfl (Nat.le_of_ble_eq_true rfl) dX12_next_281 ?_
                        refine x_v (w := (va_up v 161 (oM B (va_up (va_up (va_up F 15 (zq : Int)) 16 (at1 : Int)) 17 tk) y))) (up_at0).symm ?_
                        refine x_vret (pc := 284) K KR (by omega) (Nat.le_of_ble_eq_true rfl) (Nat.le_of_ble_eq_true rfl) dX12_next_284 ?_
                        obtain ⟨hE, hV, hK⟩ := tok_fin hsk htk hi118_1 hend
                        have hKK : tokK t n a = tk := by rw [hK]; split <;> omega
                        exact ⟨rfl, rfl, by rw [hE, hV, hKK, hsk]⟩
                      · skip
                        refine x_aload_n (pc := 260) 0 K rfl rfl dX12_next_260 ?_
                        refine x_get (pc := 261) (C := RX12) (T := TX12) (n := 26) (ci := 11) (idx := 88) (ref := "BorderBedsModel") (x := .int (zI (zq : Int)))  K (cel_self hc0.1) rfl (by decide +kernel) 15 (by decide) (by decide +kernel) rfl rfl dX12_next_261 ?_
                        refine x_aload_n (pc := 264) 0 K rfl rfl dX12_next_264 ?_
                        refine x_get (pc := 265) (C := RX12) (T := TX12) (n := 26) (ci := 11) (idx := 94) (ref := "BorderBedsModel") (x := .int (zI (at1 : Int)))  K (cel_self hc0.1) rfl (by decide +kernel) 16 (by decide) (by decide +kernel) rfl rfl dX12_next_265 ?_
                        refine x_isub (pc := 268) K dX12_next_268 ?_
                        refine x_iconst (pc := 269) K dX12_next_269 ?_
                        refine x_icmp_le (pc := 270) (tgt := 277) K (by omega) (by decide) dX12_next_270 (by decide) (fun h_270 => ?_) (fun h_270 => ?_)
                        · skip
                          refine x_aload_n (pc := 277) 0 K rfl rfl dX12_next_277 ?_
                          refine x_get (pc := 278) (C := RX12) (T := TX12) (n := 26) (ci := 11) (idx := 100) (ref := "BorderBedsModel") (x := .int (zI tk))  K (cel_self hc0.1) rfl (by decide +kernel) 17 (by decide) (by decide +kernel) rfl rfl dX12_next_278 ?_
                          refine x_put (pc := 281) (C := RX12) (T := TX12) (n := 26) (ci := 11) (idx := 100) (ref := "BorderBedsModel") (ty := .int)  K (cel_self hc0.1) rfl (by decide +kernel) tyX12 tyX12_ok nmX12 17 (by decide) (by decide +kernel) rfl rfl (by decide +kernel) rfl rfl (Nat.le_of_ble_eq_true rfl) dX12_next_281 ?_
                          refine x_v (w := (va_up v 161 (oM B (va_up (va_up (va_up F 15 (zq : Int)) 16 (at1 : Int)) 17 tk) y))) (up_at0).symm ?_
                          refine x_vret (pc := 284) K KR (by omega) (Nat.le_of_ble_eq_true rfl) (Nat.le_of_ble_eq_true rfl) dX12_next_284 ?_
                          obtain ⟨hE, hV, hK⟩ := tok_fin hsk htk hi118_1 hend
                          have hKK : tokK t n a = tk := by rw [hK]; split <;> omega
                          exact ⟨rfl, rfl, by rw [hE, hV, hKK, hsk]⟩
                        · skip
                          refine x_iconst (pc := 273) K dX12_next_273 ?_
                          refine x_goto (pc := 274) (tgt := 281) K dX12_next_274 (by decide) ?_
                          refine x_put (pc := 281) (C := RX12) (T := TX12) (n := 26) (ci := 11) (idx := 100) (ref := "BorderBedsModel") (ty := .int)  K (cel_self hc0.1) rfl (by decide +kernel) tyX12 tyX12_ok nmX12 17 (by decide) (by decide +kernel) rfl rfl (by decide +kernel) rfl rfl (Nat.le_of_ble_eq_true rfl) dX12_next_281 ?_
                          refine x_v (w := (va_up v 161 (oM B (va_up (va_up (va_up F 15 (zq : Int)) 16 (at1 : Int)) 17 4) y))) (up_at0).symm ?_
                          refine x_vret (pc := 284) K KR (by omega) (Nat.le_of_ble_eq_true rfl) (Nat.le_of_ble_eq_true rfl) dX12_next_284 ?_
                          obtain ⟨hE, hV, hK⟩ := tok_fin hsk htk hi118_1 hend
                          have hKK : tokK t n a = 4 := by rw [hK]; split <;> omega
                          exact ⟨rfl, rfl, by rw [hE, hV, hKK, hsk]⟩
                    · skip
                      refine x_aload_n (pc := 125) 0 K rfl rfl dX12_next_125 ?_
                      refine x_get (pc := 126) (C := RX12) (T := TX12) (n := 26) (ci := 11) (idx := 100) (ref := "BorderBedsModel") (x := .int (zI tk))  K (cel_self hc0.1) rfl (by decide +kernel) 17 (by decide) (by decide +kernel) rfl rfl dX12_next_126 ?_
                      refine x_iconst (pc := 129) K dX12_next_129 ?_
                      refine x_icmp_ge (pc := 130) (tgt := 251) K (by omega) (by decide) dX12_next_130 (by decide) (fun h_130 => ?_) (fun h_130 => ?_)
                      · skip
                        have hend : (tk = 1 ∨ tk = 2) → ¬ (zq < n ∧ srt (t zq) = tk) := by omega
                        refine x_aload_n (pc := 251) 0 K rfl rfl dX12_next_251 ?_
                        refine x_aload_n (pc := 252) 0 K rfl rfl dX12_next_252 ?_
                        refine x_get (pc := 253) (C := RX12) (T := TX12) (n := 26) (ci := 11) (idx := 100) (ref := "BorderBedsModel") (x := .int (zI tk))  K (cel_self hc0.1) rfl (by decide +kernel) 17 (by decide) (by decide +kernel) rfl rfl dX12_next_253 ?_
                        refine x_iconst (pc := 256) K dX12_next_256 ?_
                        refine x_icmp_ne (pc := 257) (tgt := 277) K (by omega) (by decide) dX12_next_257 (by decide) (fun h_257 => ?_) (fun h_257 => ?_)
                        · skip
                          refine x_aload_n (pc := 277) 0 K rfl rfl dX12_next_277 ?_
                          refine x_get (pc := 278) (C := RX12) (T := TX12) (n := 26) (ci := 11) (idx := 100) (ref := "BorderBedsModel") (x := .int (zI tk))  K (cel_self hc0.1) rfl (by decide +kernel) 17 (by decide) (by decide +kernel) rfl rfl dX12_next_278 ?_
                          refine x_put (pc := 281) (C := RX12) (T := TX12) (n := 26) (ci := 11) (idx := 100) (ref := "BorderBedsModel") (ty := .int)  K (cel_self hc0.1) rfl (by decide +kernel) tyX12 tyX12_ok nmX12 17 (by decide) (by decide +kernel) rfl rfl (by decide +kernel) rfl rfl (Nat.le_of_ble_eq_true rfl) dX12_next_281 ?_
                          refine x_v (w := (va_up v 161 (oM B (va_up (va_up (va_up F 15 (zq : Int)) 16 (at1 : Int)) 17 tk) y))) (up_at0).symm ?_
                          refine x_vret (pc := 284) K KR (by omega) (Nat.le_of_ble_eq_true rfl) (Nat.le_of_ble_eq_true rfl) dX12_next_284 ?_
                          obtain ⟨hE, hV, hK⟩ := tok_fin hsk htk hi118_1 hend
                          have hKK : tokK t n a = tk := by rw [hK]; split <;> omega
                          exact ⟨rfl, rfl, by rw [hE, hV, hKK, hsk]⟩
                        · skip
                          refine x_aload_n (pc := 260) 0 K rfl rfl dX12_next_260 ?_
                          refine x_get (pc := 261) (C := RX12) (T := TX12) (n := 26) (ci := 11) (idx := 88) (ref := "BorderBedsModel") (x := .int (zI (zq : Int)))  K (cel_self hc0.1) rfl (by decide +kernel) 15 (by decide) (by decide +kernel) rfl rfl dX12_next_261 ?_
                          refine x_aload_n (pc := 264) 0 K rfl rfl dX12_next_264 ?_
                          refine x_get (pc := 265) (C := RX12) (T := TX12) (n := 26) (ci := 11) (idx := 94) (ref := "BorderBedsModel") (x := .int (zI (at1 : Int)))  K (cel_self hc0.1) rfl (by decide +kernel) 16 (by decide) (by decide +kernel) rfl rfl dX12_next_265 ?_
                          refine x_isub (pc := 268) K dX12_next_268 ?_
                          refine x_iconst (pc := 269) K dX12_next_269 ?_
                          refine x_icmp_le (pc := 270) (tgt := 277) K (by omega) (by decide) dX12_next_270 (by decide) (fun h_270 => ?_) (fun h_270 => ?_)
                          · skip
                            refine x_aload_n (pc := 277) 0 K rfl rfl dX12_next_277 ?_
                            refine x_get (pc := 278) (C := RX12) (T := TX12) (n := 26) (ci := 11) (idx := 100) (ref := "BorderBedsModel") (x := .int (zI tk))  K (cel_self hc0.1) rfl (by decide +kernel) 17 (by decide) (by decide +kernel) rfl rfl dX12_next_278 ?_
                            refine x_put (pc := 281) (C := RX12) (T := TX12) (n := 26) (ci := 11) (idx := 100) (ref := "BorderBedsModel") (ty := .int)  K (cel_self hc0.1) rfl (by decide +kernel) tyX12 tyX12_ok nmX12 17 (by decide) (by decide +kernel) rfl rfl (by decide +kernel) rfl rfl (Nat.le_of_ble_eq_true rfl) dX12_next_281 ?_
                            refine x_v (w := (va_up v 161 (oM B (va_up (va_up (va_up F 15 (zq : Int)) 16 (at1 : Int)) 17 tk) y))) (up_at0).symm ?_
                            refine x_vret (pc := 284) K KR (by omega) (Nat.le_of_ble_eq_true rfl) (Nat.le_of_ble_eq_true rfl) dX12_next_284 ?_
                            obtain ⟨hE, hV, hK⟩ := tok_fin hsk htk hi118_1 hend
                            have hKK : tokK t n a = tk := by rw [hK]; split <;> omega
                            exact ⟨rfl, rfl, by rw [hE, hV, hKK, hsk]⟩
                          · skip
                            refine x_iconst (pc := 273) K dX12_next_273 ?_
                            refine x_goto (pc := 274) (tgt := 281) K dX12_next_274 (by decide) ?_
                            refine x_put (pc := 281) (C := RX12) (T := TX12) (n := 26) (ci := 11) (idx := 100) (ref := "BorderBedsModel") (ty := .int)  K (cel_self hc0.1) rfl (by decide +kernel) tyX12 tyX12_ok nmX12 17 (by decide) (by decide +kernel) rfl rfl (by decide +kernel) rfl rfl (Nat.le_of_ble_eq_true rfl) dX12_next_281 ?_
                            refine x_v (w := (va_up v 161 (oM B (va_up (va_up (va_up F 15 (zq : Int)) 16 (at1 : Int)) 17 4) y))) (up_at0).symm ?_
                            refine x_vret (pc := 284) K KR (by omega) (Nat.le_of_ble_eq_true rfl) (Nat.le_of_ble_eq_true rfl) dX12_next_284 ?_
                            obtain ⟨hE, hV, hK⟩ := tok_fin hsk htk hi118_1 hend
                            have hKK : tokK t n a = 4 := by rw [hK]; split <;> omega
                            exact ⟨rfl, rfl, by rw [hE, hV, hKK, hsk]⟩
                      · skip
                        refine x_aload_n (pc := 133) 0 K rfl rfl dX12_next_133 ?_
                        refine x_get (pc := 134) (C := RX12) (T := TX12) (n := 26) (ci := 11) (idx := 88) (ref := "BorderBedsModel") (x := .int (zI (zq : Int)))  K (cel_self hc0.1) rfl (by decide +kernel) 15 (by decide) (by decide +kernel) rfl rfl dX12_next_134 ?_
                        refine x_aload_n (pc := 137) 0 K rfl rfl dX12_next_137 ?_
                        refine x_get (pc := 138) (C := RX12) (T := TX12) (n := 26) (ci := 11) (idx := 91) (ref := "BorderBedsModel") (x := .int (zI (F 19)))  K (cel_self hc0.1) rfl (by decide +kernel) 19 (by decide) (by decide +kernel) rfl rfl dX12_next_138 ?_
                        refine x_icmp_ge (pc := 141) (tgt := 251) K (by omega) (by omega) dX12_next_141 (by decide) (fun h_141 => ?_) (fun h_141 => ?_)
                        · skip
                          have hend : (tk = 1 ∨ tk = 2) → ¬ (zq < n ∧ srt (t zq) = tk) := by omega
                          refine x_aload_n (pc := 251) 0 K rfl rfl dX12_next_251 ?_
                          refine x_aload_n (pc := 252) 0 K rfl rfl dX12_next_252 ?_
                          refine x_get (pc := 253) (C := RX12) (T := TX12) (n := 26) (ci := 11) (idx := 100) (ref := "BorderBedsModel") (x := .int (zI tk))  K (cel_self hc0.1) rfl (by decide +kernel) 17 (by decide) (by decide +kernel) rfl rfl dX12_next_253 ?_
                          refine x_iconst (pc := 256) K dX12_next_256 ?_
                          refine x_icmp_ne (pc := 257) (tgt := 277) K (by omega) (by decide) dX12_next_257 (by decide) (fun h_257 => ?_) (fun h_257 => ?_)
                          · skip
                            refine x_aload_n (pc := 277) 0 K rfl rfl dX12_next_277 ?_
                            refine x_get (pc := 278) (C := RX12) (T := TX12) (n := 26) (ci := 11) (idx := 100) (ref := "BorderBedsModel") (x := .int (zI tk))  K (cel_self hc0.1) rfl (by decide +kernel) 17 (by decide) (by decide +kernel) rfl rfl dX12_next_278 ?_
                            refine x_put (pc := 281) (C := RX12) (T := TX12) (n := 26) (ci := 11) (idx := 100) (ref := "BorderBedsModel") (ty := .int)  K (cel_self hc0.1) rfl (by decide +kernel) tyX12 tyX12_ok nmX12 17 (by decide) (by decide +kernel) rfl rfl (by decide +kernel) rfl rfl (Nat.le_of_ble_eq_true rfl) dX12_next_281 ?_
                            refine x_v (w := (va_up v 161 (oM B (va_up (va_up (va_up F 15 (zq : Int)) 16 (at1 : Int)) 17 tk) y))) (up_at0).symm ?_
                            refine x_vret (pc := 284) K KR (by omega) (Nat.le_of_ble_eq_true rfl) (Nat.le_of_ble_eq_true rfl) dX12_next_284 ?_
                            obtain ⟨hE, hV, hK⟩ := tok_fin hsk htk hi118_1 hend
                            have hKK : tokK t n a = tk := by rw [hK]; split <;> omega
                            exact ⟨rfl, rfl, by rw [hE, hV, hKK, hsk]⟩
                          · skip
                            refine x_aload_n (pc := 260) 0 K rfl rfl dX12_next_260 ?_
                            refine x_get (pc := 261) (C := RX12) (T := TX12) (n := 26) (ci := 11) (idx := 88) (ref := "BorderBedsModel") (x := .int (zI (zq : Int)))  K (cel_self hc0.1) rfl (by decide +kernel) 15 (by decide) (by decide +kernel) rfl rfl dX12_next_261 ?_
                            refine x_aload_n (pc := 264) 0 K rfl rfl dX12_next_264 ?_
                            refine x_get (pc := 265) (C := RX12) (T := TX12) (n := 26) (ci := 11) (idx := 94) (ref := "BorderBedsModel") (x := .int (zI (at1 : Int)))  K (cel_self hc0.1) rfl (by decide +kernel) 16 (by decide) (by decide +kernel) rfl rfl dX12_next_265 ?_
                            refine x_isub (pc := 268) K dX12_next_268 ?_
                            refine x_iconst (pc := 269) K dX12_next_269 ?_
                            refine x_icmp_le (pc := 270) (tgt := 277) K (by omega) (by decide) dX12_next_270 (by decide) (fun h_270 => ?_) (fun h_270 => ?_)
                            · skip
                              refine x_aload_n (pc := 277) 0 K rfl rfl dX12_next_277 ?_
                              refine x_get (pc := 278) (C := RX12) (T := TX12) (n := 26) (ci := 11) (idx := 100) (ref := "BorderBedsModel") (x := .int (zI tk))  K (cel_self hc0.1) rfl (by decide +kernel) 17 (by decide) (by decide +kernel) rfl rfl dX12_next_278 ?_
                              refine x_put (pc := 281) (C := RX12) (T := TX12) (n := 26) (ci := 11) (idx := 100) (ref := "BorderBedsModel") (ty := .int)  K (cel_self hc0.1) rfl (by decide +kernel) tyX12 tyX12_ok nmX12 17 (by decide) (by decide +kernel) rfl rfl (by decide +kernel) rfl rfl (Nat.le_of_ble_eq_true rfl) dX12_next_281 ?_
                              refine x_v (w := (va_up v 161 (oM B (va_up (va_up (va_up F 15 (zq : Int)) 16 (at1 : Int)) 17 tk) y))) (up_at0).symm ?_
                              refine x_vret (pc := 284) K KR (by omega) (Nat.le_of_ble_eq_true rfl) (Nat.le_of_ble_eq_true rfl) dX12_next_284 ?_
                              obtain ⟨hE, hV, hK⟩ := tok_fin hsk htk hi118_1 hend
                              have hKK : tokK t n a = tk := by rw [hK]; split <;> omega
                              exact ⟨rfl, rfl, by rw [hE, hV, hKK, hsk]⟩
                            · skip
                              refine x_iconst (pc := 273) K dX12_next_273 ?_
                              refine x_goto (pc := 274) (tgt := 281) K dX12_next_274 (by decide) ?_
                              refine x_put (pc := 281) (C := RX12) (T := TX12) (n := 26) (ci := 11) (idx := 100) (ref := "BorderBedsModel") (ty := .int)  K (cel_self hc0.1) rfl (by decide +kernel) tyX12 tyX12_ok nmX12 17 (by decide) (by decide +kernel) rfl rfl (by decide +kernel) rfl rfl (Nat.le_of_ble_eq_true rfl) dX12_next_281 ?_
                              refine x_v (w := (va_up v 161 (oM B (va_up (va_up (va_up F 15 (zq : Int)) 16 (at1 : Int)) 17 4) y))) (up_at0).symm ?_
                              refine x_vret (pc := 284) K KR (by omega) (Nat.le_of_ble_eq_true rfl) (Nat.le_of_ble_eq_true rfl) dX12_next_284 ?_
                              obtain ⟨hE, hV, hK⟩ := tok_fin hsk htk hi118_1 hend
                              have hKK : tokK t n a = 4 := by rw [hK]; split <;> omega
                              exact ⟨rfl, rfl, by rw [hE, hV, hKK, hsk]⟩
                        · skip
                          have b152 := hq3 zq
                          have s152 := srt_rng (t zq)
                          refine x_aload_n (pc := 144) 0 K rfl rfl dX12_next_144 ?_
                          refine x_get (pc := 145) (C := RX12) (T := TX12) (n := 26) (ci := 11) (idx := 19) (ref := "BorderBedsModel") (x := .ref (B + 165))  K (cel_self hc0.1) rfl (by decide +kernel) 4 (by decide) (by decide +kernel) rfl rfl dX12_next_145 ?_
                          refine x_aload_n (pc := 148) 0 K rfl rfl dX12_next_148 ?_
                          refine x_get (pc := 149) (C := RX12) (T := TX12) (n := 26) (ci := 11) (idx := 88) (ref := "BorderBedsModel") (x := .int (zI (zq : Int)))  K (cel_self hc0.1) rfl (by decide +kernel) 15 (by decide) (by decide +kernel) rfl rfl dX12_next_149 ?_
                          refine x_iald (pc := 152) zq K (cel_ne hc1 (by decide)) rfl (by omega) (by decide) dX12_next_152 ?_
                          refine x_callS (pc := 153) (As := [.int (zI (t zq))]) K (c_X12_sort (E := E) (B := B) (N := N)    (by omega)) gX12_next_X12_sort rfl (na := 1) (by decide +kernel) rfl ⟨(Nat.le_of_ble_eq_true rfl), (Nat.le_of_ble_eq_true rfl)⟩ (st := []) rfl (Nat.le_of_ble_eq_true rfl) ⟨(Nat.le_of_ble_eq_true rfl), (Nat.le_of_ble_eq_true rfl)⟩ dX12_next_153 (fun r153 N153 w153 hpo153 hN153 => ?_)
                          obtain ⟨rfl, rfl, rfl⟩ := hpo153
                          refine x_st (st' := [.int (zI (srt (t zq)))]) rfl ?_
                          refine x_aload_n (pc := 156) 0 K rfl rfl dX12_next_156 ?_
                          refine x_get (pc := 157) (C := RX12) (T := TX12) (n := 26) (ci := 11) (idx := 100) (ref := "BorderBedsModel") (x := .int (zI tk))  K (cel_self hc0.1) rfl (by decide +kernel) 17 (by decide) (by decide +kernel) rfl rfl dX12_next_157 ?_
                          refine x_icmp_ne (pc := 160) (tgt := 251) K (by omega) (by omega) dX12_next_160 (by decide) (fun h_160 => ?_) (fun h_160 => ?_)
                          · skip
                            have hend : (tk = 1 ∨ tk = 2) → ¬ (zq < n ∧ srt (t zq) = tk) := by omega
                            refine x_aload_n (pc := 251) 0 K rfl rfl dX12_next_251 ?_
                            refine x_aload_n (pc := 252) 0 K rfl rfl dX12_next_252 ?_
                            refine x_get (pc := 253) (C := RX12) (T := TX12) (n := 26) (ci := 11) (idx := 100) (ref := "BorderBedsModel") (x := .int (zI tk))  K (cel_self hc0.1) rfl (by decide +kernel) 17 (by decide) (by decide +kernel) rfl rfl dX12_next_253 ?_
                            refine x_iconst (pc := 256) K dX12_next_256 ?_
                            refine x_icmp_ne (pc := 257) (tgt := 277) K (by omega) (by decide) dX12_next_257 (by decide) (fun h_257 => ?_) (fun h_257 => ?_)
                            · skip
                              refine x_aload_n (pc := 277) 0 K rfl rfl dX12_next_277 ?_
                              refine x_get (pc := 278) (C := RX12) (T := TX12) (n := 26) (ci := 11) (idx := 100) (ref := "BorderBedsModel") (x := .int (zI tk))  K (cel_self hc0.1) rfl (by decide +kernel) 17 (by decide) (by decide +kernel) rfl rfl dX12_next_278 ?_
                              refine x_put (pc := 281) (C := RX12) (T := TX12) (n := 26) (ci := 11) (idx := 100) (ref := "BorderBedsModel") (ty := .int)  K (cel_self hc0.1) rfl (by decide +kernel) tyX12 tyX12_ok nmX12 17 (by decide) (by decide +kernel) rfl rfl (by decide +kernel) rfl rfl (Nat.le_of_ble_eq_true rfl) dX12_next_281 ?_
                              refine x_v (w := (va_up v 161 (oM B (va_up (va_up (va_up F 15 (zq : Int)) 16 (at1 : Int)) 17 tk) y))) (up_at0).symm ?_
                              refine x_vret (pc := 284) K KR (by omega) (Nat.le_of_ble_eq_true rfl) (Nat.le_of_ble_eq_true rfl) dX12_next_284 ?_
                              obtain ⟨hE, hV, hK⟩ := tok_fin hsk htk hi118_1 hend
                              have hKK : tokK t n a = tk := by rw [hK]; split <;> omega
                              exact ⟨rfl, rfl, by rw [hE, hV, hKK, hsk]⟩
                            · skip
                              refine x_aload_n (pc := 260) 0 K rfl rfl dX12_next_260 ?_
                              refine x_get (pc := 261) (C := RX12) (T := TX12) (n := 26) (ci := 11) (idx := 88) (ref := "BorderBedsModel") (x := .int (zI (zq : Int)))  K (cel_self hc0.1) rfl (by decide +kernel) 15 (by decide) (by decide +kernel) rfl rfl dX12_next_261 ?_
                              refine x_aload_n (pc := 264) 0 K rfl rfl dX12_next_264 ?_
                              refine x_get (pc := 265) (C := RX12) (T := TX12) (n := 26) (ci := 11) (idx := 94) (ref := "BorderBedsModel") (x := .int (zI (at1 : Int)))  K (cel_self hc0.1) rfl (by decide +kernel) 16 (by decide) (by decide +kernel) rfl rfl dX12_next_265 ?_
                              refine x_isub (pc := 268) K dX12_next_268 ?_
                              refine x_iconst (pc := 269) K dX12_next_269 ?_
                              refine x_icmp_le (pc := 270) (tgt := 277) K (by omega) (by decide) dX12_next_270 (by decide) (fun h_270 => ?_) (fun h_270 => ?_)
                              · skip
                                refine x_aload_n (pc := 277) 0 K rfl rfl dX12_next_277 ?_
                                refine x_get (pc := 278) (C := RX12) (T := TX12) (n := 26) (ci := 11) (idx := 100) (ref := "BorderBedsModel") (x := .int (zI tk))  K (cel_self hc0.1) rfl (by decide +kernel) 17 (by decide) (by decide +kernel) rfl rfl dX12_next_278 ?_
                                refine x_put (pc := 281) (C := RX12) (T := TX12) (n := 26) (ci := 11) (idx := 100) (ref := "BorderBedsModel") (ty := .int)  K (cel_self hc0.1) rfl (by decide +kernel) tyX12 tyX12_ok nmX12 17 (by decide) (by decide +kernel) rfl rfl (by decide +kernel) rfl rfl (Nat.le_of_ble_eq_true rfl) dX12_next_281 ?_
                                refine x_v (w := (va_up v 161 (oM B (va_up (va_up (va_up F 15 (zq : Int)) 16 (at1 : Int)) 17 tk) y))) (up_at0).symm ?_
                                refine x_vret (pc := 284) K KR (by omega) (Nat.le_of_ble_eq_true rfl) (Nat.le_of_ble_eq_true rfl) dX12_next_284 ?_
                                obtain ⟨hE, hV, hK⟩ := tok_fin hsk htk hi118_1 hend
                                have hKK : tokK t n a = tk := by rw [hK]; split <;> omega
                                exact ⟨rfl, rfl, by rw [hE, hV, hKK, hsk]⟩
                              · skip
                                refine x_iconst (pc := 273) K dX12_next_273 ?_
                                refine x_goto (pc := 274) (tgt := 281) K dX12_next_274 (by decide) ?_
                                refine x_put (pc := 281) (C := RX12) (T := TX12) (n := 26) (ci := 11) (idx := 100) (ref := "BorderBedsModel") (ty := .int)  K (cel_self hc0.1) rfl (by decide +kernel) tyX12 tyX12_ok nmX12 17 (by decide) (by decide +kernel) rfl rfl (by decide +kernel) rfl rfl (Nat.le_of_ble_eq_true rfl) dX12_next_281 ?_
                                refine x_v (w := (va_up v 161 (oM B (va_up (va_up (va_up F 15 (zq : Int)) 16 (at1 : Int)) 17 4) y))) (up_at0).symm ?_
                                refine x_vret (pc := 284) K KR (by omega) (Nat.le_of_ble_eq_true rfl) (Nat.le_of_ble_eq_true rfl) dX12_next_284 ?_
                                obtain ⟨hE, hV, hK⟩ := tok_fin hsk htk hi118_1 hend
                                have hKK : tokK t n a = 4 := by rw [hK]; split <;> omega
                                exact ⟨rfl, rfl, by rw [hE, hV, hKK, hsk]⟩
                          · skip
                            have hgo : reT t n tk (zq + 1) = reT t n tk zq := reT_go (by omega) (by omega)
                            have hold : (tk = 1 ∨ tk = 2) ∧ at1 ≤ zq ∧ reT t n tk zq = reT t n tk at1 ∧ y = valT t tk at1 (zq - at1) := by
                              rcases hi118_1 with h | h
                              · exact h
                              · exfalso; have := h.1; omega
                            have hvs : valT t tk at1 (zq + 1 - at1) = if 7 < zq - at1 then -1 else if tk = 1 then 32 * valT t tk at1 (zq - at1) + t (at1 + (zq - at1)) - 96 else 10 * valT t tk at1 (zq - at1) + t (at1 + (zq - at1)) - 48 := by rw [show zq + 1 - at1 = (zq - at1) + 1 by omega]; rfl
                            rw [show at1 + (zq - at1) = zq by omega, ← hold.2.2.2] at hvs
                            refine x_aload_n (pc := 163) 0 K rfl rfl dX12_next_163 ?_
                            refine x_get (pc := 164) (C := RX12) (T := TX12) (n := 26) (ci := 11) (idx := 19) (ref := "BorderBedsModel") (x := .ref (B + 165))  K (cel_self hc0.1) rfl (by decide +kernel) 4 (by decide) (by decide +kernel) rfl rfl dX12_next_164 ?_
                            refine x_aload_n (pc := 167) 0 K rfl rfl dX12_next_167 ?_
                            refine x_get (pc := 168) (C := RX12) (T := TX12) (n := 26) (ci := 11) (idx := 88) (ref := "BorderBedsModel") (x := .int (zI (zq : Int)))  K (cel_self hc0.1) rfl (by decide +kernel) 15 (by decide) (by decide +kernel) rfl rfl dX12_next_168 ?_
                            refine x_iald (pc := 171) zq K (cel_ne hc1 (by decide)) rfl (by omega) (by decide) dX12_next_171 ?_
                            refine x_nm (fun z6 hz6 => ?_)
                            refine x_istore_n (pc := 172) K (L' := [(1, .int (zI z6)), (0, .ref (B + 161))]) hnL rfl (by decide) rfl dX12_next_172 ?_
                            refine x_aload_n (pc := 173) 1 K rfl rfl dX12_next_173 ?_
                            refine x_aload_n (pc := 174) 1 K rfl rfl dX12_next_174 ?_
                            refine x_get (pc := 175) (C := RX12) (T := TX12) (n := 26) (ci := 11) (idx := 88) (ref := "BorderBedsModel") (x := .int (zI (zq : Int)))  K (cel_self hc0.1) rfl (by decide +kernel) 15 (by decide) (by decide +kernel) rfl rfl dX12_next_175 ?_
                            refine x_aload_n (pc := 178) 1 K rfl rfl dX12_next_178 ?_
                            refine x_get (pc := 179) (C := RX12) (T := TX12) (n := 26) (ci := 11) (idx := 94) (ref := "BorderBedsModel") (x := .int (zI (at1 : Int)))  K (cel_self hc0.1) rfl (by decide +kernel) 16 (by decide) (by decide +kernel) rfl rfl dX12_next_179 ?_
                            refine x_isub (pc := 182) K dX12_next_182 ?_
                            refine x_bipush (pc := 183) K (by decide) dX12_next_183 ?_
                            refine x_icmp_le (pc := 185) (tgt := 194) K (by omega) (by decide) dX12_next_185 (by decide) (fun h_185 => ?_) (fun h_185 => ?_)
                            · skip
                              refine x_aload_n (pc := 194) 1 K rfl rfl dX12_next_194 ?_
                              refine x_get (pc := 195) (C := RX12) (T := TX12) (n := 26) (ci := 11) (idx := 100) (ref := "BorderBedsModel") (x := .int (zI tk))  K (cel_self hc0.1) rfl (by decide +kernel) 17 (by decide) (by decide +kernel) rfl rfl dX12_next_195 ?_
                              refine x_iconst (pc := 198) K dX12_next_198 ?_
                              refine x_icmp_ne (pc := 199) (tgt := 220) K (by omega) (by decide) dX12_next_199 (by decide) (fun h_199 => ?_) (fun h_199 => ?_)
                              · skip
                                refine x_ldc2 (pc := 220) (x := (10)) (10) K (by decide) (by decide +kernel) dX12_next_220 ?_
                                refine x_aload_n (pc := 223) 1 K rfl rfl dX12_next_223 ?_
                                refine x_get (pc := 224) (C := RX12) (T := TX12) (n := 26) (ci := 11) (idx := 103) (ref := "BorderBedsModel") (x := .long (zL y))  K (cel_self hc0.1) rfl (by decide +kernel) 18 (by decide) (by decide +kernel) rfl rfl dX12_next_224 ?_
                                refine x_lmul (pc := 227) K dX12_next_227 ?_
                                refine x_iload_n (pc := 228) 0 K rfl rfl dX12_next_228 ?_
                                refine x_i2l (pc := 229) K (by omega) dX12_next_229 ?_
                                refine x_ladd (pc := 230) K dX12_next_230 ?_
                                refine x_ldc2 (pc := 231) (x := (48)) (48) K (by decide) (by decide +kernel) dX12_next_231 ?_
                                refine x_lsub (pc := 234) K dX12_next_234 ?_
                                refine x_put (pc := 235) (C := RX12) (T := TX12) (n := 26) (ci := 11) (idx := 103) (ref := "BorderBedsModel") (ty := .long)  K (cel_self hc0.1) rfl (by decide +kernel) tyX12 tyX12_ok nmX12 18 (by decide) (by decide +kernel) rfl rfl (by decide +kernel) rfl rfl (Nat.le_of_ble_eq_true rfl) dX12_next_235 ?_
                                refine x_v (w := (va_up v 161 (oM B (va_up (va_up (va_up F 15 (zq : Int)) 16 (at1 : Int)) 17 tk) (((10 * y) + z6) - 48)))) (up_at0).symm ?_
                                refine x_aload_n (pc := 238) 1 K rfl rfl dX12_next_238 ?_
                                refine x_dup (pc := 239) K rfl dX12_next_239 ?_
                                refine x_get (pc := 240) (C := RX12) (T := TX12) (n := 26) (ci := 11) (idx := 88) (ref := "BorderBedsModel") (x := .int (zI (zq : Int)))  K (cel_self hc0.1) rfl (by decide +kernel) 15 (by decide) (by decide +kernel) rfl rfl dX12_next_240 ?_
                                refine x_iconst (pc := 243) K dX12_next_243 ?_
                                refine x_iadd (pc := 244) K dX12_next_244 ?_
                                refine x_put (pc := 245) (C := RX12) (T := TX12) (n := 26) (ci := 11) (idx := 88) (ref := "BorderBedsModel") (ty := .int)  K (cel_self hc0.1) rfl (by decide +kernel) tyX12 tyX12_ok nmX12 15 (by decide) (by decide +kernel) rfl rfl (by decide +kernel) rfl rfl (Nat.le_of_ble_eq_true rfl) dX12_next_245 ?_
                                refine x_v (w := (va_up v 161 (oM B (va_up (va_up (va_up F 15 ((zq : Int) + 1)) 16 (at1 : Int)) 17 tk) (((10 * y) + z6) - 48)))) (up_at0).symm ?_
                                refine x_goto (pc := 248) (tgt := 118) K dX12_next_248 (by decide) ?_
                                refine x_sub (L' := [(0, .ref (B + 161))]) [1] rfl ?_
                                exact ih118 (zq + 1) (((10 * y) + z6) - 48) (by omega) (by exact Or.inl ⟨hold.1, by omega, by rw [hgo]; exact hold.2.2.1, by rw [hvs]; split <;> (try split) <;> omega⟩) (by omega)
                              · skip
                                refine x_ldc2 (pc := 202) (x := (32)) (32) K (by decide) (by decide +kernel) dX12_next_202 ?_
                                refine x_aload_n (pc := 205) 1 K rfl rfl dX12_next_205 ?_
                                refine x_get (pc := 206) (C := RX12) (T := TX12) (n := 26) (ci := 11) (idx := 103) (ref := "BorderBedsModel") (x := .long (zL y))  K (cel_self hc0.1) rfl (by decide +kernel) 18 (by decide) (by decide +kernel) rfl rfl dX12_next_206 ?_
                                refine x_lmul (pc := 209) K dX12_next_209 ?_
                                refine x_iload_n (pc := 210) 0 K rfl rfl dX12_next_210 ?_
                                refine x_i2l (pc := 211) K (by omega) dX12_next_211 ?_
                                refine x_ladd (pc := 212) K dX12_next_212 ?_
                                refine x_ldc2 (pc := 213) (x := (96)) (96) K (by decide) (by decide +kernel) dX12_next_213 ?_
                                refine x_lsub (pc := 216) K dX12_next_216 ?_
                                refine x_goto (pc := 217) (tgt := 235) K dX12_next_217 (by decide) ?_
                                refine x_put (pc := 235) (C := RX12) (T := TX12) (n := 26) (ci := 11) (idx := 103) (ref := "BorderBedsModel") (ty := .long)  K (cel_self hc0.1) rfl (by decide +kernel) tyX12 tyX12_ok nmX12 18 (by decide) (by decide +kernel) rfl rfl (by decide +kernel) rfl rfl (Nat.le_of_ble_eq_true rfl) dX12_next_235 ?_
                                refine x_v (w := (va_up v 161 (oM B (va_up (va_up (va_up F 15 (zq : Int)) 16 (at1 : Int)) 17 tk) (((32 * y) + z6) - 96)))) (up_at0).symm ?_
                                refine x_aload_n (pc := 238) 1 K rfl rfl dX12_next_238 ?_
                                refine x_dup (pc := 239) K rfl dX12_next_239 ?_
                                refine x_get (pc := 240) (C := RX12) (T := TX12) (n := 26) (ci := 11) (idx := 88) (ref := "BorderBedsModel") (x := .int (zI (zq : Int)))  K (cel_self hc0.1) rfl (by decide +kernel) 15 (by decide) (by decide +kernel) rfl rfl dX12_next_240 ?_
                                refine x_iconst (pc := 243) K dX12_next_243 ?_
                                refine x_iadd (pc := 244) K dX12_next_244 ?_
                                refine x_put (pc := 245) (C := RX12) (T := TX12) (n := 26) (ci := 11) (idx := 88) (ref := "BorderBedsModel") (ty := .int)  K (cel_self hc0.1) rfl (by decide +kernel) tyX12 tyX12_ok nmX12 15 (by decide) (by decide +kernel) rfl rfl (by decide +kernel) rfl rfl (Nat.le_of_ble_eq_true rfl) dX12_next_245 ?_
                                refine x_v (w := (va_up v 161 (oM B (va_up (va_up (va_up F 15 ((zq : Int) + 1)) 16 (at1 : Int)) 17 tk) (((32 * y) + z6) - 96)))) (up_at0).symm ?_
                                refine x_goto (pc := 248) (tgt := 118) K dX12_next_248 (by decide) ?_
                                refine x_sub (L' := [(0, .ref (B + 161))]) [1] rfl ?_
                                exact ih118 (zq + 1) (((32 * y) + z6) - 96) (by omega) (by exact Or.inl ⟨hold.1, by omega, by rw [hgo]; exact hold.2.2.1, by rw [hvs]; split <;> (try split) <;> omega⟩) (by omega)
                            · skip
                              refine x_ldc2 (pc := 188) (x := (-1)) (-1) K (by decide) (by decide +kernel) dX12_next_188 ?_
                              refine x_goto (pc := 191) (tgt := 235) K dX12_next_191 (by decide) ?_
                              refine x_put (pc := 235) (C := RX12) (T := TX12) (n := 26) (ci := 11) (idx := 103) (ref := "BorderBedsModel") (ty := .long)  K (cel_self hc0.1) rfl (by decide +kernel) tyX12 tyX12_ok nmX12 18 (by decide) (by decide +kernel) rfl rfl (by decide +kernel) rfl rfl (Nat.le_of_ble_eq_true rfl) dX12_next_235 ?_
                              refine x_v (w := (va_up v 161 (oM B (va_up (va_up (va_up F 15 (zq : Int)) 16 (at1 : Int)) 17 tk) (-1)))) (up_at0).symm ?_
                              refine x_aload_n (pc := 238) 1 K rfl rfl dX12_next_238 ?_
                              refine x_dup (pc := 239) K rfl dX12_next_239 ?_
                              refine x_get (pc := 240) (C := RX12) (T := TX12) (n := 26) (ci := 11) (idx := 88) (ref := "BorderBedsModel") (x := .int (zI (zq : Int)))  K (cel_self hc0.1) rfl (by decide +kernel) 15 (by decide) (by decide +kernel) rfl rfl dX12_next_240 ?_
                              refine x_iconst (pc := 243) K dX12_next_243 ?_
                              refine x_iadd (pc := 244) K dX12_next_244 ?_
                              refine x_put (pc := 245) (C := RX12) (T := TX12) (n := 26) (ci := 11) (idx := 88) (ref := "BorderBedsModel") (ty := .int)  K (cel_self hc0.1) rfl (by decide +kernel) tyX12 tyX12_ok nmX12 15 (by decide) (by decide +kernel) rfl rfl (by decide +kernel) rfl rfl (Nat.le_of_ble_eq_true rfl) dX12_next_245 ?_
                              refine x_v (w := (va_up v 161 (oM B (va_up (va_up (va_up F 15 ((zq : Int) + 1)) 16 (at1 : Int)) 17 tk) (-1)))) (up_at0).symm ?_
                              refine x_goto (pc := 248) (tgt := 118) K dX12_next_248 (by decide) ?_
                              refine x_sub (L' := [(0, .ref (B + 161))]) [1] rfl ?_
                              exact ih118 (zq + 1) (-1) (by omega) (by exact Or.inl ⟨hold.1, by omega, by rw [hgo]; exact hold.2.2.1, by rw [hvs]; split <;> (try split) <;> omega⟩) (by omega)
                exact LOOP118 (_) (at1 + 1) 0 (by (first | omega | (have : at1 < n := by (by_cases q : at1 < n; exact q; rw [if_neg q] at htk; omega); omega))) (by first | (refine Or.inr ⟨by omega, ?_, rfl⟩; rw [if_pos (by omega)]; omega) | (by_cases q : tk = 1 ∨ tk = 2; exact Or.inl ⟨q, by omega, rfl, by rw [show at1 + 0 - at1 = 0 by omega]; rfl⟩; exact Or.inr ⟨q, by rw [if_neg (by omega)]; omega, rfl⟩)) (Nat.lt_succ_self _)
            · skip
              refine x_aload_n (pc := 72) 0 K rfl rfl dX12_next_72 ?_
              refine x_get (pc := 73) (C := RX12) (T := TX12) (n := 26) (ci := 11) (idx := 19) (ref := "BorderBedsModel") (x := .ref (B + 165))  K (cel_self hc0.1) rfl (by decide +kernel) 4 (by decide) (by decide +kernel) rfl rfl dX12_next_73 ?_
              refine x_aload_n (pc := 76) 0 K rfl rfl dX12_next_76 ?_
              refine x_get (pc := 77) (C := RX12) (T := TX12) (n := 26) (ci := 11) (idx := 88) (ref := "BorderBedsModel") (x := .int (zI (at1 : Int)))  K (cel_self hc0.1) rfl (by decide +kernel) 15 (by decide) (by decide +kernel) rfl rfl dX12_next_77 ?_
              refine x_iald (pc := 80) at1 K (cel_ne hc1 (by decide)) rfl (by omega) (by decide) dX12_next_80 ?_
              refine x_callS (pc := 81) (As := [.int (zI (t at1))]) K (c_X12_sort (E := E) (B := B) (N := N)    (by omega)) gX12_next_X12_sort rfl (na := 1) (by decide +kernel) rfl ⟨(Nat.le_of_ble_eq_true rfl), (Nat.le_of_ble_eq_true rfl)⟩ (st := [.ref (B + 161)]) rfl (Nat.le_of_ble_eq_true rfl) ⟨(Nat.le_of_ble_eq_true rfl), (Nat.le_of_ble_eq_true rfl)⟩ dX12_next_81 (fun r81 N81 w81 hpo81 hN81 => ?_)
              obtain ⟨rfl, rfl, rfl⟩ := hpo81
              refine x_st (st' := [.int (zI (srt (t at1))), .ref (B + 161)]) rfl ?_
              refine x_goto (pc := 84) (tgt := 88) K dX12_next_84 (by decide) ?_
              refine x_nm (fun tk htk0 => ?_)
              have htk : tk = if at1 < n then srt (t at1) else 0 := by rw [htk0, if_pos (by omega)]
              have htr : 0 ≤ tk ∧ tk ≤ 4 := by have := srt_rng (t at1); rw [htk]; split <;> omega
              refine x_put (pc := 88) (C := RX12) (T := TX12) (n := 26) (ci := 11) (idx := 100) (ref := "BorderBedsModel") (ty := .int)  K (cel_self hc0.1) rfl (by decide +kernel) tyX12 tyX12_ok nmX12 17 (by decide) (by decide +kernel) rfl rfl (by decide +kernel) rfl rfl (Nat.le_of_ble_eq_true rfl) dX12_next_88 ?_
              refine x_v (w := (va_up v 161 (oM B (va_up (va_up (va_up F 15 (at1 : Int)) 16 (at1 : Int)) 17 tk) V))) (up_at0).symm ?_
              refine x_aload_n (pc := 91) 0 K rfl rfl dX12_next_91 ?_
              refine x_lconst (pc := 92) (0) K (by decide) dX12_next_92 ?_
              refine x_put (pc := 93) (C := RX12) (T := TX12) (n := 26) (ci := 11) (idx := 103) (ref := "BorderBedsModel") (ty := .long)  K (cel_self hc0.1) rfl (by decide +kernel) tyX12 tyX12_ok nmX12 18 (by decide) (by decide +kernel) rfl rfl (by decide +kernel) rfl rfl (Nat.le_of_ble_eq_true rfl) dX12_next_93 ?_
              refine x_v (w := (va_up v 161 (oM B (va_up (va_up (va_up F 15 (at1 : Int)) 16 (at1 : Int)) 17 tk) 0))) (up_at0).symm ?_
              refine x_aload_n (pc := 96) 0 K rfl rfl dX12_next_96 ?_
              refine x_dup (pc := 97) K rfl dX12_next_97 ?_
              refine x_get (pc := 98) (C := RX12) (T := TX12) (n := 26) (ci := 11) (idx := 88) (ref := "BorderBedsModel") (x := .int (zI (at1 : Int)))  K (cel_self hc0.1) rfl (by decide +kernel) 15 (by decide) (by decide +kernel) rfl rfl dX12_next_98 ?_
              refine x_aload_n (pc := 101) 0 K rfl rfl dX12_next_101 ?_
              refine x_get (pc := 102) (C := RX12) (T := TX12) (n := 26) (ci := 11) (idx := 100) (ref := "BorderBedsModel") (x := .int (zI tk))  K (cel_self hc0.1) rfl (by decide +kernel) 17 (by decide) (by decide +kernel) rfl rfl dX12_next_102 ?_
              refine x_iconst (pc := 105) K dX12_next_105 ?_
              refine x_icmp_le (pc := 106) (tgt := 113) K (by omega) (by decide) dX12_next_106 (by decide) (fun h_106 => ?_) (fun h_106 => ?_)
              · skip
                refine x_iconst (pc := 113) K dX12_next_113 ?_
                refine x_iadd (pc := 114) K dX12_next_114 ?_
                refine x_put (pc := 115) (C := RX12) (T := TX12) (n := 26) (ci := 11) (idx := 88) (ref := "BorderBedsModel") (ty := .int)  K (cel_self hc0.1) rfl (by decide +kernel) tyX12 tyX12_ok nmX12 15 (by decide) (by decide +kernel) rfl rfl (by decide +kernel) rfl rfl (Nat.le_of_ble_eq_true rfl) dX12_next_115 ?_
                refine x_v (w := (va_up v 161 (oM B (va_up (va_up (va_up F 15 ((at1 : Int) + 0)) 16 (at1 : Int)) 17 tk) 0))) (up_at0).symm ?_
                have LOOP118 : ∀ (n_118 : Nat) (zq : Nat) (y : Int), (zq ≤ 400) → (((tk = 1 ∨ tk = 2) ∧ at1 ≤ zq ∧ reT t n tk zq = reT t n tk at1 ∧ y = valT t tk at1 (zq - at1)) ∨ (¬ (tk = 1 ∨ tk = 2) ∧ (zq : Int) = (at1 : Int) + (if 2 < tk then 1 else 0) ∧ y = 0)) → (n + 1 - zq) < n_118 → XW Γ N (va_up v 161 (oM B (va_up (va_up (va_up F 15 (zq : Int)) 16 (at1 : Int)) 17 tk) y)) [(0, .ref (B + 161))] 0 0 118 [] := by
                  intro n_118
                  induction n_118 with
                  | zero =>
                    intro zq y hi118_0 hi118_1 hm_118
                    exfalso; omega
                  | succ n_118 ih118 =>
                    intro zq y hi118_0 hi118_1 hm_118
                    refine x_aload_n (pc := 118) 0 K rfl rfl dX12_next_118 ?_
                    refine x_get (pc := 119) (C := RX12) (T := TX12) (n := 26) (ci := 11) (idx := 100) (ref := "BorderBedsModel") (x := .int (zI tk))  K (cel_self hc0.1) rfl (by decide +kernel) 17 (by decide) (by decide +kernel) rfl rfl dX12_next_119 ?_
                    refine x_if_le (pc := 122) (tgt := 251) K (by omega) dX12_next_122 (by decide) (fun h_122 => ?_) (fun h_122 => ?_)
                    · skip
                      have hend : (tk = 1 ∨ tk = 2) → ¬ (zq < n ∧ srt (t zq) = tk) := by omega
                      refine x_aload_n (pc := 251) 0 K rfl rfl dX12_next_251 ?_
                      refine x_aload_n (pc := 252) 0 K rfl rfl dX12_next_252 ?_
                      refine x_get (pc := 253) (C := RX12) (T := TX12) (n := 26) (ci := 11) (idx := 100) (ref := "BorderBedsModel") (x := .int (zI tk))  K (cel_self hc0.1) rfl (by decide +kernel) 17 (by decide) (by decide +kernel) rfl rfl dX12_next_253 ?_
                      refine x_iconst (pc := 256) K dX12_next_256 ?_
                      refine x_icmp_ne (pc := 257) (tgt := 277) K (by omega) (by decide) dX12_next_257 (by decide) (fun h_257 => ?_) (fun h_257 => ?_)
                      · skip
                        refine x_aload_n (pc := 277) 0 K rfl rfl dX12_next_277 ?_
                        refine x_get (pc := 278) (C := RX12) (T := TX12) (n := 26) (ci := 11) (idx := 100) (ref := "BorderBedsModel") (x := .int (zI tk))  K (cel_self hc0.1) rfl (by decide +kernel) 17 (by decide) (by decide +kernel) rfl rfl dX12_next_278 ?_
                        refine x_put (pc := 281) (C := RX12) (T := TX12) (n := 26) (ci := 11) (idx := 100) (ref := "BorderBedsModel") (ty := .int)  K (cel_self hc0.1) rfl (by decide +kernel) tyX12 tyX12_ok nmX12 17 (by decide) (by decide +kernel) rfl rfl (by decide +kernel) rfl rfl (Nat.le_of_ble_eq_true rfl) dX12_next_281 ?_
                        refine x_v (w := (va_up v 161 (oM B (va_up (va_up (va_up F 15 (zq : Int)) 16 (at1 : Int)) 17 tk) y))) (up_at0).symm ?_
                        refine x_vret (pc := 284) K KR (by omega) (Nat.le_of_ble_eq_true rfl) (Nat.le_of_ble_eq_true rfl) dX12_next_284 ?_
                        obtain ⟨hE, hV, hK⟩ := tok_fin hsk htk hi118_1 hend
                        have hKK : tokK t n a = tk := by rw [hK]; split <;> omega
                        exact ⟨rfl, rfl, by rw [hE, hV, hKK, hsk]⟩
                      · skip
                        refine x_aload_n (pc := 260) 0 K rfl rfl dX12_next_260 ?_
                        refine x_get (pc := 261) (C := RX12) (T := TX12) (n := 26) (ci := 11) (idx := 88) (ref := "BorderBedsModel") (x := .int (zI (zq : Int)))  K (cel_self hc0.1) rfl (by decide +kernel) 15 (by decide) (by decide +kernel) rfl rfl dX12_next_261 ?_
                        refine x_aload_n (pc := 264) 0 K rfl rfl dX12_next_264 ?_
                        refine x_get (pc := 265) (C := RX12) (T := TX12) (n := 26) (ci := 11) (idx := 94) (ref := "BorderBedsModel") (x := .int (zI (at1 : Int)))  K (cel_self hc0.1) rfl (by decide +kernel) 16 (by decide) (by decide +kernel) rfl rfl dX12_next_265 ?_
                        refine x_isub (pc := 268) K dX12_next_268 ?_
                        refine x_iconst (pc := 269) K dX12_next_269 ?_
                        refine x_icmp_le (pc := 270) (tgt := 277) K (by omega) (by decide) dX12_next_270 (by decide) (fun h_270 => ?_) (fun h_270 => ?_)
                        · skip
                          refine x_aload_n (pc := 277) 0 K rfl rfl dX12_next_277 ?_
                          refine x_get (pc := 278) (C := RX12) (T := TX12) (n := 26) (ci := 11) (idx := 100) (ref := "BorderBedsModel") (x := .int (zI tk))  K (cel_self hc0.1) rfl (by decide +kernel) 17 (by decide) (by decide +kernel) rfl rfl dX12_next_278 ?_
                          refine x_put (pc := 281) (C := RX12) (T := TX12) (n := 26) (ci := 11) (idx := 100) (ref := "BorderBedsModel") (ty := .int)  K (cel_self hc0.1) rfl (by decide +kernel) tyX12 tyX12_ok nmX12 17 (by decide) (by decide +kernel) rfl rfl (by decide +kernel) rfl rfl (Nat.le_of_ble_eq_true rfl) dX12_next_281 ?_
                          refine x_v (w := (va_up v 161 (oM B (va_up (va_up (va_up F 15 (zq : Int)) 16 (at1 : Int)) 17 tk) y))) (up_at0).symm ?_
                          refine x_vret (pc := 284) K KR (by omega) (Nat.le_of_ble_eq_true rfl) (Nat.le_of_ble_eq_true rfl) dX12_next_284 ?_
                          obtain ⟨hE, hV, hK⟩ := tok_fin hsk htk hi118_1 hend
                          have hKK : tokK t n a = tk := by rw [hK]; split <;> omega
                          exact ⟨rfl, rfl, by rw [hE, hV, hKK, hsk]⟩
                        · skip
                          refine x_iconst (pc := 273) K dX12_next_273 ?_
                          refine x_goto (pc := 274) (tgt := 281) K dX12_next_274 (by decide) ?_
                          refine x_put (pc := 281) (C := RX12) (T := TX12) (n := 26) (ci := 11) (idx := 100) (ref := "BorderBedsModel") (ty := .int)  K (cel_self hc0.1) rfl (by decide +kernel) tyX12 tyX12_ok nmX12 17 (by decide) (by decide +kernel) rfl rfl (by decide +kernel) rfl rfl (Nat.le_of_ble_eq_true rfl) dX12_next_281 ?_
                          refine x_v (w := (va_up v 161 (oM B (va_up (va_up (va_up F 15 (zq : Int)) 16 (at1 : Int)) 17 4) y))) (up_at0).symm ?_
                          refine x_vret (pc := 284) K KR (by omega) (Nat.le_of_ble_eq_true rfl) (Nat.le_of_ble_eq_true rfl) dX12_next_284 ?_
                          obtain ⟨hE, hV, hK⟩ := tok_fin hsk htk hi118_1 hend
                          have hKK : tokK t n a = 4 := by rw [hK]; split <;> omega
                          exact ⟨rfl, rfl, by rw [hE, hV, hKK, hsk]⟩
                    · skip
                      refine x_aload_n (pc := 125) 0 K rfl rfl dX12_next_125 ?_
                      refine x_get (pc := 126) (C := RX12) (T := TX12) (n := 26) (ci := 11) (idx := 100) (ref := "BorderBedsModel") (x := .int (zI tk))  K (cel_self hc0.1) rfl (by decide +kernel) 17 (by decide) (by decide +kernel) rfl rfl dX12_next_126 ?_
                      refine x_iconst (pc := 129) K dX12_next_129 ?_
                      refine x_icmp_ge (pc := 130) (tgt := 251) K (by omega) (by decide) dX12_next_130 (by decide) (fun h_130 => ?_) (fun h_130 => ?_)
                      · skip
                        have hend : (tk = 1 ∨ tk = 2) → ¬ (zq < n ∧ srt (t zq) = tk) := by omega
                        refine x_aload_n (pc := 251) 0 K rfl rfl dX12_next_251 ?_
                        refine x_aload_n (pc := 252) 0 K rfl rfl dX12_next_252 ?_
                        refine x_get (pc := 253) (C := RX12) (T := TX12) (n := 26) (ci := 11) (idx := 100) (ref := "BorderBedsModel") (x := .int (zI tk))  K (cel_self hc0.1) rfl (by decide +kernel) 17 (by decide) (by decide +kernel) rfl rfl dX12_next_253 ?_
                        refine x_iconst (pc := 256) K dX12_next_256 ?_
                        refine x_icmp_ne (pc := 257) (tgt := 277) K (by omega) (by decide) dX12_next_257 (by decide) (fun h_257 => ?_) (fun h_257 => ?_)
                        · skip
                          refine x_aload_n (pc := 277) 0 K rfl rfl dX12_next_277 ?_
                          refine x_get (pc := 278) (C := RX12) (T := TX12) (n := 26) (ci := 11) (idx := 100) (ref := "BorderBedsModel") (x := .int (zI tk))  K (cel_self hc0.1) rfl (by decide +kernel) 17 (by decide) (by decide +kernel) rfl rfl dX12_next_278 ?_
                          refine x_put (pc := 281) (C := RX12) (T := TX12) (n := 26) (ci := 11) (idx := 100) (ref := "BorderBedsModel") (ty := .int)  K (cel_self hc0.1) rfl (by decide +kernel) tyX12 tyX12_ok nmX12 17 (by decide) (by decide +kernel) rfl rfl (by decide +kernel) rfl rfl (Nat.le_of_ble_eq_true rfl) dX12_next_281 ?_
                          refine x_v (w := (va_up v 161 (oM B (va_up (va_up (va_up F 15 (zq : Int)) 16 (at1 : Int)) 17 tk) y))) (up_at0).symm ?_
                          refine x_vret (pc := 284) K KR (by omega) (Nat.le_of_ble_eq_true rfl) (Nat.le_of_ble_eq_true rfl) dX12_next_284 ?_
                          obtain ⟨hE, hV, hK⟩ := tok_fin hsk htk hi118_1 hend
                          have hKK : tokK t n a = tk := by rw [hK]; split <;> omega
                          exact ⟨rfl, rfl, by rw [hE, hV, hKK, hsk]⟩
                        · skip
                          refine x_aload_n (pc := 260) 0 K rfl rfl dX12_next_260 ?_
                          refine x_get (pc := 261) (C := RX12) (T := TX12) (n := 26) (ci := 11) (idx := 88) (ref := "BorderBedsModel") (x := .int (zI (zq : Int)))  K (cel_self hc0.1) rfl (by decide +kernel) 15 (by decide) (by decide +kernel) rfl rfl dX12_next_261 ?_
                          refine x_aload_n (pc := 264) 0 K rfl rfl dX12_next_264 ?_
                          refine x_get (pc := 265) (C := RX12) (T := TX12) (n := 26) (ci := 11) (idx := 94) (ref := "BorderBedsModel") (x := .int (zI (at1 : Int)))  K (cel_self hc0.1) rfl (by decide +kernel) 16 (by decide) (by decide +kernel) rfl rfl dX12_next_265 ?_
                          refine x_isub (pc := 268) K dX12_next_268 ?_
                          refine x_iconst (pc := 269) K dX12_next_269 ?_
                          refine x_icmp_le (pc := 270) (tgt := 277) K (by omega) (by decide) dX12_next_270 (by decide) (fun h_270 => ?_) (fun h_270 => ?_)
                          · skip
                            refine x_aload_n (pc := 277) 0 K rfl rfl dX12_next_277 ?_
                            refine x_get (pc := 278) (C := RX12) (T := TX12) (n := 26) (ci := 11) (idx := 100) (ref := "BorderBedsModel") (x := .int (zI tk))  K (cel_self hc0.1) rfl (by decide +kernel) 17 (by decide) (by decide +kernel) rfl rfl dX12_next_278 ?_
                            refine x_put (pc := 281) (C := RX12) (T := TX12) (n := 26) (ci := 11) (idx := 100) (ref := "BorderBedsModel") (ty := .int)  K (cel_self hc0.1) rfl (by decide +kernel) tyX12 tyX12_ok nmX12 17 (by decide) (by decide +kernel) rfl rfl (by decide +kernel) rfl rfl (Nat.le_of_ble_eq_true rfl) dX12_next_281 ?_
                            refine x_v (w := (va_up v 161 (oM B (va_up (va_up (va_up F 15 (zq : Int)) 16 (at1 : Int)) 17 tk) y))) (up_at0).symm ?_
                            refine x_vret (pc := 284) K KR (by omega) (Nat.le_of_ble_eq_true rfl) (Nat.le_of_ble_eq_true rfl) dX12_next_284 ?_
                            obtain ⟨hE, hV, hK⟩ := tok_fin hsk htk hi118_1 hend
                            have hKK : tokK t n a = tk := by rw [hK]; split <;> omega
                            exact ⟨rfl, rfl, by rw [hE, hV, hKK, hsk]⟩
                          · skip
                            refine x_iconst (pc := 273) K dX12_next_273 ?_
                            refine x_goto (pc := 274) (tgt := 281) K dX12_next_274 (by decide) ?_
                            refine x_put (pc := 281) (C := RX12) (T := TX12) (n := 26) (ci := 11) (idx := 100) (ref := "BorderBedsModel") (ty := .int)  K (cel_self hc0.1) rfl (by decide +kernel) tyX12 tyX12_ok nmX12 17 (by decide) (by decide +kernel) rfl rfl (by decide +kernel) rfl rfl (Nat.le_of_ble_eq_true rfl) dX12_next_281 ?_
                            refine x_v (w := (va_up v 161 (oM B (va_up (va_up (va_up F 15 (zq : Int)) 16 (at1 : Int)) 17 4) y))) (up_at0).symm ?_
                            refine x_vret (pc := 284) K KR (by omega) (Nat.le_of_ble_eq_true rfl) (Nat.le_of_ble_eq_true rfl) dX12_next_284 ?_
                            obtain ⟨hE, hV, hK⟩ := tok_fin hsk htk hi118_1 hend
                            have hKK : tokK t n a = 4 := by rw [hK]; split <;> omega
                            exact ⟨rfl, rfl, by rw [hE, hV, hKK, hsk]⟩
                      · skip
                        refine x_aload_n (pc := 133) 0 K rfl rfl dX12_next_133 ?_
                        refine x_get (pc := 134) (C := RX12) (T := TX12) (n := 26) (ci := 11) (idx := 88) (ref := "BorderBedsModel") (x := .int (zI (zq : Int)))  K (cel_self hc0.1) rfl (by decide +kernel) 15 (by decide) (by decide +kernel) rfl rfl dX12_next_134 ?_
                        refine x_aload_n (pc := 137) 0 K rfl rfl dX12_next_137 ?_
                        refine x_get (pc := 138) (C := RX12) (T := TX12) (n := 26) (ci := 11) (idx := 91) (ref := "BorderBedsModel") (x := .int (zI (F 19)))  K (cel_self hc0.1) rfl (by decide +kernel) 19 (by decide) (by decide +kernel) rfl rfl dX12_next_138 ?_
                        refine x_icmp_ge (pc := 141) (tgt := 251) K (by omega) (by omega) dX12_next_141 (by decide) (fun h_141 => ?_) (fun h_141 => ?_)
                        · skip
                          have hend : (tk = 1 ∨ tk = 2) → ¬ (zq < n ∧ srt (t zq) = tk) := by omega
                          refine x_aload_n (pc := 251) 0 K rfl rfl dX12_next_251 ?_
                          refine x_aload_n (pc := 252) 0 K rfl rfl dX12_next_252 ?_
                          refine x_get (pc := 253) (C := RX12) (T := TX12) (n := 26) (ci := 11) (idx := 100) (ref := "BorderBedsModel") (x := .int (zI tk))  K (cel_self hc0.1) rfl (by decide +kernel) 17 (by decide) (by decide +kernel) rfl rfl dX12_next_253 ?_
                          refine x_iconst (pc := 256) K dX12_next_256 ?_
                          refine x_icmp_ne (pc := 257) (tgt := 277) K (by omega) (by decide) dX12_next_257 (by decide) (fun h_257 => ?_) (fun h_257 => ?_)
                          · skip
                            refine x_aload_n (pc := 277) 0 K rfl rfl dX12_next_277 ?_
                            refine x_get (pc := 278) (C := RX12) (T := TX12) (n := 26) (ci := 11) (idx := 100) (ref := "BorderBedsModel") (x := .int (zI tk))  K (cel_self hc0.1) rfl (by decide +kernel) 17 (by decide) (by decide +kernel) rfl rfl dX12_next_278 ?_
                            refine x_put (pc := 281) (C := RX12) (T := TX12) (n := 26) (ci := 11) (idx := 100) (ref := "BorderBedsModel") (ty := .int)  K (cel_self hc0.1) rfl (by decide +kernel) tyX12 tyX12_ok nmX12 17 (by decide) (by decide +kernel) rfl rfl (by decide +kernel) rfl rfl (Nat.le_of_ble_eq_true rfl) dX12_next_281 ?_
                            refine x_v (w := (va_up v 161 (oM B (va_up (va_up (va_up F 15 (zq : Int)) 16 (at1 : Int)) 17 tk) y))) (up_at0).symm ?_
                            refine x_vret (pc := 284) K KR (by omega) (Nat.le_of_ble_eq_true rfl) (Nat.le_of_ble_eq_true rfl) dX12_next_284 ?_
                            obtain ⟨hE, hV, hK⟩ := tok_fin hsk htk hi118_1 hend
                            have hKK : tokK t n a = tk := by rw [hK]; split <;> omega
                            exact ⟨rfl, rfl, by rw [hE, hV, hKK, hsk]⟩
                          · skip
                            refine x_aload_n (pc := 260) 0 K rfl rfl dX12_next_260 ?_
                            refine x_get (pc := 261) (C := RX12) (T := TX12) (n := 26) (ci := 11) (idx := 88) (ref := "BorderBedsModel") (x := .int (zI (zq : Int)))  K (cel_self hc0.1) rfl (by decide +kernel) 15 (by decide) (by decide +kernel) rfl rfl dX12_next_261 ?_
                            refine x_aload_n (pc := 264) 0 K rfl rfl dX12_next_264 ?_
                            refine x_get (pc := 265) (C := RX12) (T := TX12) (n := 26) (ci := 11) (idx := 94) (ref := "BorderBedsModel") (x := .int (zI (at1 : Int)))  K (cel_self hc0.1) rfl (by decide +kernel) 16 (by decide) (by decide +kernel) rfl rfl dX12_next_265 ?_
                            refine x_isub (pc := 268) K dX12_next_268 ?_
                            refine x_iconst (pc := 269) K dX12_next_269 ?_
                            refine x_icmp_le (pc := 270) (tgt := 277) K (by omega) (by decide) dX12_next_270 (by decide) (fun h_270 => ?_) (fun h_270 => ?_)
                            · skip
                              refine x_aload_n (pc := 277) 0 K rfl rfl dX12_next_277 ?_
                              refine x_get (pc := 278) (C := RX12) (T := TX12) (n := 26) (ci := 11) (idx := 100) (ref := "BorderBedsModel") (x := .int (zI tk))  K (cel_self hc0.1) rfl (by decide +kernel) 17 (by decide) (by decide +kernel) rfl rfl dX12_next_278 ?_
                              refine x_put (pc := 281) (C := RX12) (T := TX12) (n := 26) (ci := 11) (idx := 100) (ref := "BorderBedsModel") (ty := .int)  K (cel_self hc0.1) rfl (by decide +kernel) tyX12 tyX12_ok nmX12 17 (by decide) (by decide +kernel) rfl rfl (by decide +kernel) rfl rfl (Nat.le_of_ble_eq_true rfl) dX12_next_281 ?_
                              refine x_v (w := (va_up v 161 (oM B (va_up (va_up (va_up F 15 (zq : Int)) 16 (at1 : Int)) 17 tk) y))) (up_at0).symm ?_
                              refine x_vret (pc := 284) K KR (by omega) (Nat.le_of_ble_eq_true rfl) (Nat.le_of_ble_eq_true rfl) dX12_next_284 ?_
                              obtain ⟨hE, hV, hK⟩ := tok_fin hsk htk hi118_1 hend
                              have hKK : tokK t n a = tk := by rw [hK]; split <;> omega
                              exact ⟨rfl, rfl, by rw [hE, hV, hKK, hsk]⟩
                            · skip
                              refine x_iconst (pc := 273) K dX12_next_273 ?_
                              refine x_goto (pc := 274) (tgt := 281) K dX12_next_274 (by decide) ?_
                              refine x_put (pc := 281) (C := RX12) (T := TX12) (n := 26) (ci := 11) (idx := 100) (ref := "BorderBedsModel") (ty := .int)  K (cel_self hc0.1) rfl (by decide +kernel) tyX12 tyX12_ok nmX12 17 (by decide) (by decide +kernel) rfl rfl (by decide +kernel) rfl rfl (Nat.le_of_ble_eq_true rfl) dX12_next_281 ?_
                              refine x_v (w := (va_up v 161 (oM B (va_up (va_up (va_up F 15 (zq : Int)) 16 (at1 : Int)) 17 4) y))) (up_at0).symm ?_
                              refine x_vret (pc := 284) K KR (by omega) (Nat.le_of_ble_eq_true rfl) (Nat.le_of_ble_eq_true rfl) dX12_next_284 ?_
                              obtain ⟨hE, hV, hK⟩ := tok_fin hsk htk hi118_1 hend
                              have hKK : tokK t n a = 4 := by rw [hK]; split <;> omega
                              exact ⟨rfl, rfl, by rw [hE, hV, hKK, hsk]⟩
                        · skip
                          have b152 := hq3 zq
                          have s152 := srt_rng (t zq)
                          refine x_aload_n (pc := 144) 0 K rfl rfl dX12_next_144 ?_
                          refine x_get (pc := 145) (C := RX12) (T := TX12) (n := 26) (ci := 11) (idx := 19) (ref := "BorderBedsModel") (x := .ref (B + 165))  K (cel_self hc0.1) rfl (by decide +kernel) 4 (by decide) (by decide +kernel) rfl rfl dX12_next_145 ?_
                          refine x_aload_n (pc := 148) 0 K rfl rfl dX12_next_148 ?_
                          refine x_get (pc := 149) (C := RX12) (T := TX12) (n := 26) (ci := 11) (idx := 88) (ref := "BorderBedsModel") (x := .int (zI (zq : Int)))  K (cel_self hc0.1) rfl (by decide +kernel) 15 (by decide) (by decide +kernel) rfl rfl dX12_next_149 ?_
                          refine x_iald (pc := 152) zq K (cel_ne hc1 (by decide)) rfl (by omega) (by decide) dX12_next_152 ?_
                          refine x_callS (pc := 153) (As := [.int (zI (t zq))]) K (c_X12_sort (E := E) (B := B) (N := N)    (by omega)) gX12_next_X12_sort rfl (na := 1) (by decide +kernel) rfl ⟨(Nat.le_of_ble_eq_true rfl), (Nat.le_of_ble_eq_true rfl)⟩ (st := []) rfl (Nat.le_of_ble_eq_true rfl) ⟨(Nat.le_of_ble_eq_true rfl), (Nat.le_of_ble_eq_true rfl)⟩ dX12_next_153 (fun r153 N153 w153 hpo153 hN153 => ?_)
                          obtain ⟨rfl, rfl, rfl⟩ := hpo153
                          refine x_st (st' := [.int (zI (srt (t zq)))]) rfl ?_
                          refine x_aload_n (pc := 156) 0 K rfl rfl dX12_next_156 ?_
                          refine x_get (pc := 157) (C := RX12) (T := TX12) (n := 26) (ci := 11) (idx := 100) (ref := "BorderBedsModel") (x := .int (zI tk))  K (cel_self hc0.1) rfl (by decide +kernel) 17 (by decide) (by decide +kernel) rfl rfl dX12_next_157 ?_
                          refine x_icmp_ne (pc := 160) (tgt := 251) K (by omega) (by omega) dX12_next_160 (by decide) (fun h_160 => ?_) (fun h_160 => ?_)
                          · skip
                            have hend : (tk = 1 ∨ tk = 2) → ¬ (zq < n ∧ srt (t zq) = tk) := by omega
                            refine x_aload_n (pc := 251) 0 K rfl rfl dX12_next_251 ?_
                            refine x_aload_n (pc := 252) 0 K rfl rfl dX12_next_252 ?_
                            refine x_get (pc := 253) (C := RX12) (T := TX12) (n := 26) (ci := 11) (idx := 100) (ref := "BorderBedsModel") (x := .int (zI tk))  K (cel_self hc0.1) rfl (by decide +kernel) 17 (by decide) (by decide +kernel) rfl rfl dX12_next_253 ?_
                            refine x_iconst (pc := 256) K dX12_next_256 ?_
                            refine x_icmp_ne (pc := 257) (tgt := 277) K (by omega) (by decide) dX12_next_257 (by decide) (fun h_257 => ?_) (fun h_257 => ?_)
                            · skip
                              refine x_aload_n (pc := 277) 0 K rfl rfl dX12_next_277 ?_
                              refine x_get (pc := 278) (C := RX12) (T := TX12) (n := 26) (ci := 11) (idx := 100) (ref := "BorderBedsModel") (x := .int (zI tk))  K (cel_self hc0.1) rfl (by decide +kernel) 17 (by decide) (by decide +kernel) rfl rfl dX12_next_278 ?_
                              refine x_put (pc := 281) (C := RX12) (T := TX12) (n := 26) (ci := 11) (idx := 100) (ref := "BorderBedsModel") (ty := .int)  K (cel_self hc0.1) rfl (by decide +kernel) tyX12 tyX12_ok nmX12 17 (by decide) (by decide +kernel) rfl rfl (by decide +kernel) rfl rfl (Nat.le_of_ble_eq_true rfl) dX12_next_281 ?_
                              refine x_v (w := (va_up v 161 (oM B (va_up (va_up (va_up F 15 (zq : Int)) 16 (at1 : Int)) 17 tk) y))) (up_at0).symm ?_
                              refine x_vret (pc := 284) K KR (by omega) (Nat.le_of_ble_eq_true rfl) (Nat.le_of_ble_eq_true rfl) dX12_next_284 ?_
                              obtain ⟨hE, hV, hK⟩ := tok_fin hsk htk hi118_1 hend
                              have hKK : tokK t n a = tk := by rw [hK]; split <;> omega
                              exact ⟨rfl, rfl, by rw [hE, hV, hKK, hsk]⟩
                            · skip
                              refine x_aload_n (pc := 260) 0 K rfl rfl dX12_next_260 ?_
                              refine x_get (pc := 261) (C := RX12) (T := TX12) (n := 26) (ci := 11) (idx := 88) (ref := "BorderBedsModel") (x := .int (zI (zq : Int)))  K (cel_self hc0.1) rfl (by decide +kernel) 15 (by decide) (by decide +kernel) rfl rfl dX12_next_261 ?_
                              refine x_aload_n (pc := 264) 0 K rfl rfl dX12_next_264 ?_
                              refine x_get (pc := 265) (C := RX12) (T := TX12) (n := 26) (ci := 11) (idx := 94) (ref := "BorderBedsModel") (x := .int (zI (at1 : Int)))  K (cel_self hc0.1) rfl (by decide +kernel) 16 (by decide) (by decide +kernel) rfl rfl dX12_next_265 ?_
                              refine x_isub (pc := 268) K dX12_next_268 ?_
                              refine x_iconst (pc := 269) K dX12_next_269 ?_
                              refine x_icmp_le (pc := 270) (tgt := 277) K (by omega) (by decide) dX12_next_270 (by decide) (fun h_270 => ?_) (fun h_270 => ?_)
                              · skip
                                refine x_aload_n (pc := 277) 0 K rfl rfl dX12_next_277 ?_
                                refine x_get (pc := 278) (C := RX12) (T := TX12) (n := 26) (ci := 11) (idx := 100) (ref := "BorderBedsModel") (x := .int (zI tk))  K (cel_self hc0.1) rfl (by decide +kernel) 17 (by decide) (by decide +kernel) rfl rfl dX12_next_278 ?_
                                refine x_put (pc := 281) (C := RX12) (T := TX12) (n := 26) (ci := 11) (idx := 100) (ref := "BorderBedsModel") (ty := .int)  K (cel_self hc0.1) rfl (by decide +kernel) tyX12 tyX12_ok nmX12 17 (by decide) (by decide +kernel) rfl rfl (by decide +kernel) rfl rfl (Nat.le_of_ble_eq_true rfl) dX12_next_281 ?_
                                refine x_v (w := (va_up v 161 (oM B (va_up (va_up (va_up F 15 (zq : Int)) 16 (at1 : Int)) 17 tk) y))) (up_at0).symm ?_
                                refine x_vret (pc := 284) K KR (by omega) (Nat.le_of_ble_eq_true rfl) (Nat.le_of_ble_eq_true rfl) dX12_next_284 ?_
                                obtain ⟨hE, hV, hK⟩ := tok_fin hsk htk hi118_1 hend
                                have hKK : tokK t n a = tk := by rw [hK]; split <;> omega
                                exact ⟨rfl, rfl, by rw [hE, hV, hKK, hsk]⟩
                              · skip
                                refine x_iconst (pc := 273) K dX12_next_273 ?_
                                refine x_goto (pc := 274) (tgt := 281) K dX12_next_274 (by decide) ?_
                                refine x_put (pc := 281) (C := RX12) (T := TX12) (n := 26) (ci := 11) (idx := 100) (ref := "BorderBedsModel") (ty := .int)  K (cel_self hc0.1) rfl (by decide +kernel) tyX12 tyX12_ok nmX12 17 (by decide) (by decide +kernel) rfl rfl (by decide +kernel) rfl rfl (Nat.le_of_ble_eq_true rfl) dX12_next_281 ?_
                                refine x_v (w := (va_up v 161 (oM B (va_up (va_up (va_up F 15 (zq : Int)) 16 (at1 : Int)) 17 4) y))) (up_at0).symm ?_
                                refine x_vret (pc := 284) K KR (by omega) (Nat.le_of_ble_eq_true rfl) (Nat.le_of_ble_eq_true rfl) dX12_next_284 ?_
                                obtain ⟨hE, hV, hK⟩ := tok_fin hsk htk hi118_1 hend
                                have hKK : tokK t n a = 4 := by rw [hK]; split <;> omega
                                exact ⟨rfl, rfl, by rw [hE, hV, hKK, hsk]⟩
                          · skip
                            have hgo : reT t n tk (zq + 1) = reT t n tk zq := reT_go (by omega) (by omega)
                            have hold : (tk = 1 ∨ tk = 2) ∧ at1 ≤ zq ∧ reT t n tk zq = reT t n tk at1 ∧ y = valT t tk at1 (zq - at1) := by
                              rcases hi118_1 with h | h
                              · exact h
                              · exfalso; have := h.1; omega
                            have hvs : valT t tk at1 (zq + 1 - at1) = if 7 < zq - at1 then -1 else if tk = 1 then 32 * valT t tk at1 (zq - at1) + t (at1 + (zq - at1)) - 96 else 10 * valT t tk at1 (zq - at1) + t (at1 + (zq - at1)) - 48 := by rw [show zq + 1 - at1 = (zq - at1) + 1 by omega]; rfl
                            rw [show at1 + (zq - at1) = zq by omega, ← hold.2.2.2] at hvs
                            refine x_aload_n (pc := 163) 0 K rfl rfl dX12_next_163 ?_
                            refine x_get (pc := 164) (C := RX12) (T := TX12) (n := 26) (ci := 11) (idx := 19) (ref := "BorderBedsModel") (x := .ref (B + 165))  K (cel_self hc0.1) rfl (by decide +kernel) 4 (by decide) (by decide +kernel) rfl rfl dX12_next_164 ?_
                            refine x_aload_n (pc := 167) 0 K rfl rfl dX12_next_167 ?_
                            refine x_get (pc := 168) (C := RX12) (T := TX12) (n := 26) (ci := 11) (idx := 88) (ref := "BorderBedsModel") (x := .int (zI (zq : Int)))  K (cel_self hc0.1) rfl (by decide +kernel) 15 (by decide) (by decide +kernel) rfl rfl dX12_next_168 ?_
                            refine x_iald (pc := 171) zq K (cel_ne hc1 (by decide)) rfl (by omega) (by decide) dX12_next_171 ?_
                            refine x_nm (fun z7 hz7 => ?_)
                            refine x_istore_n (pc := 172) K (L' := [(1, .int (zI z7)), (0, .ref (B + 161))]) hnL rfl (by decide) rfl dX12_next_172 ?_
                            refine x_aload_n (pc := 173) 1 K rfl rfl dX12_next_173 ?_
                            refine x_aload_n (pc := 174) 1 K rfl rfl dX12_next_174 ?_
                            refine x_get (pc := 175) (C := RX12) (T := TX12) (n := 26) (ci := 11) (idx := 88) (ref := "BorderBedsModel") (x := .int (zI (zq : Int)))  K (cel_self hc0.1) rfl (by decide +kernel) 15 (by decide) (by decide +kernel) rfl rfl dX12_next_175 ?_
                            refine x_aload_n (pc := 178) 1 K rfl rfl dX12_next_178 ?_
                            refine x_get (pc := 179) (C := RX12) (T := TX12) (n := 26) (ci := 11) (idx := 94) (ref := "BorderBedsModel") (x := .int (zI (at1 : Int)))  K (cel_self hc0.1) rfl (by decide +kernel) 16 (by decide) (by decide +kernel) rfl rfl dX12_next_179 ?_
                            refine x_isub (pc := 182) K dX12_next_182 ?_
                            refine x_bipush (pc := 183) K (by decide) dX12_next_183 ?_
                            refine x_icmp_le (pc := 185) (tgt := 194) K (by omega) (by decide) dX12_next_185 (by decide) (fun h_185 => ?_) (fun h_185 => ?_)
                            · skip
                              refine x_aload_n (pc := 194) 1 K rfl rfl dX12_next_194 ?_
                              refine x_get (pc := 195) (C := RX12) (T := TX12) (n := 26) (ci := 11) (idx := 100) (ref := "BorderBedsModel") (x := .int (zI tk))  K (cel_self hc0.1) rfl (by decide +kernel) 17 (by decide) (by decide +kernel) rfl rfl dX12_next_195 ?_
                              refine x_iconst (pc := 198) K dX12_next_198 ?_
                              refine x_icmp_ne (pc := 199) (tgt := 220) K (by omega) (by decide) dX12_next_199 (by decide) (fun h_199 => ?_) (fun h_199 => ?_)
                              · skip
                                refine x_ldc2 (pc := 220) (x := (10)) (10) K (by decide) (by decide +kernel) dX12_next_220 ?_
                                refine x_aload_n (pc := 223) 1 K rfl rfl dX12_next_223 ?_
                                refine x_get (pc := 224) (C := RX12) (T := TX12) (n := 26) (ci := 11) (idx := 103) (ref := "BorderBedsModel") (x := .long (zL y))  K (cel_self hc0.1) rfl (by decide +kernel) 18 (by decide) (by decide +kernel) rfl rfl dX12_next_224 ?_
                                refine x_lmul (pc := 227) K dX12_next_227 ?_
                                refine x_iload_n (pc := 228) 0 K rfl rfl dX12_next_228 ?_
                                refine x_i2l (pc := 229) K (by omega) dX12_next_229 ?_
                                refine x_ladd (pc := 230) K dX12_next_230 ?_
                                refine x_ldc2 (pc := 231) (x := (48)) (48) K (by decide) (by decide +kernel) dX12_next_231 ?_
                                refine x_lsub (pc := 234) K dX12_next_234 ?_
                                refine x_put (pc := 235) (C := RX12) (T := TX12) (n := 26) (ci := 11) (idx := 103) (ref := "BorderBedsModel") (ty := .long)  K (cel_self hc0.1) rfl (by decide +kernel) tyX12 tyX12_ok nmX12 18 (by decide) (by decide +kernel) rfl rfl (by decide +kernel) rfl rfl (Nat.le_of_ble_eq_true rfl) dX12_next_235 ?_
                                refine x_v (w := (va_up v 161 (oM B (va_up (va_up (va_up F 15 (zq : Int)) 16 (at1 : Int)) 17 tk) (((10 * y) + z7) - 48)))) (up_at0).symm ?_
                                refine x_aload_n (pc := 238) 1 K rfl rfl dX12_next_238 ?_
                                refine x_dup (pc := 239) K rfl dX12_next_239 ?_
                                refine x_get (pc := 240) (C := RX12) (T := TX12) (n := 26) (ci := 11) (idx := 88) (ref := "BorderBedsModel") (x := .int (zI (zq : Int)))  K (cel_self hc0.1) rfl (by decide +kernel) 15 (by decide) (by decide +kernel) rfl rfl dX12_next_240 ?_
                                refine x_iconst (pc := 243) K dX12_next_243 ?_
                                refine x_iadd (pc := 244) K dX12_next_244 ?_
                                refine x_put (pc := 245) (C := RX12) (T := TX12) (n := 26) (ci := 11) (idx := 88) (ref := "BorderBedsModel") (ty := .int)  K (cel_self hc0.1) rfl (by decide +kernel) tyX12 tyX12_ok nmX12 15 (by decide) (by decide +kernel) rfl rfl (by decide +kernel) rfl rfl (Nat.le_of_ble_eq_true rfl) dX12_next_245 ?_
                                refine x_v (w := (va_up v 161 (oM B (va_up (va_up (va_up F 15 ((zq : Int) + 1)) 16 (at1 : Int)) 17 tk) (((10 * y) + z7) - 48)))) (up_at0).symm ?_
                                refine x_goto (pc := 248) (tgt := 118) K dX12_next_248 (by decide) ?_
                                refine x_sub (L' := [(0, .ref (B + 161))]) [1] rfl ?_
                                exact ih118 (zq + 1) (((10 * y) + z7) - 48) (by omega) (by exact Or.inl ⟨hold.1, by omega, by rw [hgo]; exact hold.2.2.1, by rw [hvs]; split <;> (try split) <;> omega⟩) (by omega)
                              · skip
                                refine x_ldc2 (pc := 202) (x := (32)) (32) K (by decide) (by decide +kernel) dX12_next_202 ?_
                                refine x_aload_n (pc := 205) 1 K rfl rfl dX12_next_205 ?_
                                refine x_get (pc := 206) (C := RX12) (T := TX12) (n := 26) (ci := 11) (idx := 103) (ref := "BorderBedsModel") (x := .long (zL y))  K (cel_self hc0.1) rfl (by decide +kernel) 18 (by decide) (by decide +kernel) rfl rfl dX12_next_206 ?_
                                refine x_lmul (pc := 209) K dX12_next_209 ?_
                                refine x_iload_n (pc := 210) 0 K rfl rfl dX12_next_210 ?_
                                refine x_i2l (pc := 211) K (by omega) dX12_next_211 ?_
                                refine x_ladd (pc := 212) K dX12_next_212 ?_
                                refine x_ldc2 (pc := 213) (x := (96)) (96) K (by decide) (by decide +kernel) dX12_next_213 ?_
                                refine x_lsub (pc := 216) K dX12_next_216 ?_
                                refine x_goto (pc := 217) (tgt := 235) K dX12_next_217 (by decide) ?_
                                refine x_put (pc := 235) (C := RX12) (T := TX12) (n := 26) (ci := 11) (idx := 103) (ref := "BorderBedsModel") (ty := .long)  K (cel_self hc0.1) rfl (by decide +kernel) tyX12 tyX12_ok nmX12 18 (by decide) (by decide +kernel) rfl rfl (by decide +kernel) rfl rfl (Nat.le_of_ble_eq_true rfl) dX12_next_235 ?_
                                refine x_v (w := (va_up v 161 (oM B (va_up (va_up (va_up F 15 (zq : Int)) 16 (at1 : Int)) 17 tk) (((32 * y) + z7) - 96)))) (up_at0).symm ?_
                                refine x_aload_n (pc := 238) 1 K rfl rfl dX12_next_238 ?_
                                refine x_dup (pc := 239) K rfl dX12_next_239 ?_
                                refine x_get (pc := 240) (C := RX12) (T := TX12) (n := 26) (ci := 11) (idx := 88) (ref := "BorderBedsModel") (x := .int (zI (zq : Int)))  K (cel_self hc0.1) rfl (by decide +kernel) 15 (by decide) (by decide +kernel) rfl rfl dX12_next_240 ?_
                                refine x_iconst (pc := 243) K dX12_next_243 ?_
                                refine x_iadd (pc := 244) K dX12_next_244 ?_
                                refine x_put (pc := 245) (C := RX12) (T := TX12) (n := 26) (ci := 11) (idx := 88) (ref := "BorderBedsModel") (ty := .int)  K (cel_self hc0.1) rfl (by decide +kernel) tyX12 tyX12_ok nmX12 15 (by decide) (by decide +kernel) rfl rfl (by decide +kernel) rfl rfl (Nat.le_of_ble_eq_true rfl) dX12_next_245 ?_
                                refine x_v (w := (va_up v 161 (oM B (va_up (va_up (va_up F 15 ((zq : Int) + 1)) 16 (at1 : Int)) 17 tk) (((32 * y) + z7) - 96)))) (up_at0).symm ?_
                                refine x_goto (pc := 248) (tgt := 118) K dX12_next_248 (by decide) ?_
                                refine x_sub (L' := [(0, .ref (B + 161))]) [1] rfl ?_
                                exact ih118 (zq + 1) (((32 * y) + z7) - 96) (by omega) (by exact Or.inl ⟨hold.1, by omega, by rw [hgo]; exact hold.2.2.1, by rw [hvs]; split <;> (try split) <;> omega⟩) (by omega)
                            · skip
                              refine x_ldc2 (pc := 188) (x := (-1)) (-1) K (by decide) (by decide +kernel) dX12_next_188 ?_
                              refine x_goto (pc := 191) (tgt := 235) K dX12_next_191 (by decide) ?_
                              refine x_put (pc := 235) (C := RX12) (T := TX12) (n := 26) (ci := 11) (idx := 103) (ref := "BorderBedsModel") (ty := .long)  K (cel_self hc0.1) rfl (by decide +kernel) tyX12 tyX12_ok nmX12 18 (by decide) (by decide +kernel) rfl rfl (by decide +kernel) rfl rfl (Nat.le_of_ble_eq_true rfl) dX12_next_235 ?_
                              refine x_v (w := (va_up v 161 (oM B (va_up (va_up (va_up F 15 (zq : Int)) 16 (at1 : Int)) 17 tk) (-1)))) (up_at0).symm ?_
                              refine x_aload_n (pc := 238) 1 K rfl rfl dX12_next_238 ?_
                              refine x_dup (pc := 239) K rfl dX12_next_239 ?_
                              refine x_get (pc := 240) (C := RX12) (T := TX12) (n := 26) (ci := 11) (idx := 88) (ref := "BorderBedsModel") (x := .int (zI (zq : Int)))  K (cel_self hc0.1) rfl (by decide +kernel) 15 (by decide) (by decide +kernel) rfl rfl dX12_next_240 ?_
                              refine x_iconst (pc := 243) K dX12_next_243 ?_
                              refine x_iadd (pc := 244) K dX12_next_244 ?_
                              refine x_put (pc := 245) (C := RX12) (T := TX12) (n := 26) (ci := 11) (idx := 88) (ref := "BorderBedsModel") (ty := .int)  K (cel_self hc0.1) rfl (by decide +kernel) tyX12 tyX12_ok nmX12 15 (by decide) (by decide +kernel) rfl rfl (by decide +kernel) rfl rfl (Nat.le_of_ble_eq_true rfl) dX12_next_245 ?_
                              refine x_v (w := (va_up v 161 (oM B (va_up (va_up (va_up F 15 ((zq : Int) + 1)) 16 (at1 : Int)) 17 tk) (-1)))) (up_at0).symm ?_
                              refine x_goto (pc := 248) (tgt := 118) K dX12_next_248 (by decide) ?_
                              refine x_sub (L' := [(0, .ref (B + 161))]) [1] rfl ?_
                              exact ih118 (zq + 1) (-1) (by omega) (by exact Or.inl ⟨hold.1, by omega, by rw [hgo]; exact hold.2.2.1, by rw [hvs]; split <;> (try split) <;> omega⟩) (by omega)
                exact LOOP118 (_) (at1 + 0) 0 (by (first | omega | (have : at1 < n := by (by_cases q : at1 < n; exact q; rw [if_neg q] at htk; omega); omega))) (by first | (refine Or.inr ⟨by omega, ?_, rfl⟩; rw [if_pos (by omega)]; omega) | (by_cases q : tk = 1 ∨ tk = 2; exact Or.inl ⟨q, by omega, rfl, by rw [show at1 + 0 - at1 = 0 by omega]; rfl⟩; exact Or.inr ⟨q, by rw [if_neg (by omega)]; omega, rfl⟩)) (Nat.lt_succ_self _)
              · skip
                refine x_iconst (pc := 109) K dX12_next_109 ?_
                refine x_goto (pc := 110) (tgt := 114) K dX12_next_110 (by decide) ?_
                refine x_iadd (pc := 114) K dX12_next_114 ?_
                refine x_put (pc := 115) (C := RX12) (T := TX12) (n := 26) (ci := 11) (idx := 88) (ref := "BorderBedsModel") (ty := .int)  K (cel_self hc0.1) rfl (by decide +kernel) tyX12 tyX12_ok nmX12 15 (by decide) (by decide +kernel) rfl rfl (by decide +kernel) rfl rfl (Nat.le_of_ble_eq_true rfl) dX12_next_115 ?_
                refine x_v (w := (va_up v 161 (oM B (va_up (va_up (va_up F 15 ((at1 : Int) + 1)) 16 (at1 : Int)) 17 tk) 0))) (up_at0).symm ?_
                have LOOP118 : ∀ (n_118 : Nat) (zq : Nat) (y : Int), (zq ≤ 400) → (((tk = 1 ∨ tk = 2) ∧ at1 ≤ zq ∧ reT t n tk zq = reT t n tk at1 ∧ y = valT t tk at1 (zq - at1)) ∨ (¬ (tk = 1 ∨ tk = 2) ∧ (zq : Int) = (at1 : Int) + (if 2 < tk then 1 else 0) ∧ y = 0)) → (n + 1 - zq) < n_118 → XW Γ N (va_up v 161 (oM B (va_up (va_up (va_up F 15 (zq : Int)) 16 (at1 : Int)) 17 tk) y)) [(0, .ref (B + 161))] 0 0 118 [] := by
                  intro n_118
                  induction n_118 with
                  | zero =>
                    intro zq y hi118_0 hi118_1 hm_118
                    exfalso; omega
                  | succ n_118 ih118 =>
                    intro zq y hi118_0 hi118_1 hm_118
                    refine x_aload_n (pc := 118) 0 K rfl rfl dX12_next_118 ?_
                    refine x_get (pc := 119) (C := RX12) (T := TX12) (n := 26) (ci := 11) (idx := 100) (ref := "BorderBedsModel") (x := .int (zI tk))  K (cel_self hc0.1) rfl (by decide +kernel) 17 (by decide) (by decide +kernel) rfl rfl dX12_next_119 ?_
                    refine x_if_le (pc := 122) (tgt := 251) K (by omega) dX12_next_122 (by decide) (fun h_122 => ?_) (fun h_122 => ?_)
                    · skip
                      have hend : (tk = 1 ∨ tk = 2) → ¬ (zq < n ∧ srt (t zq) = tk) := by omega
                      refine x_aload_n (pc := 251) 0 K rfl rfl dX12_next_251 ?_
                      refine x_aload_n (pc := 252) 0 K rfl rfl dX12_next_252 ?_
                      refine x_get (pc := 253) (C := RX12) (T := TX12) (n := 26) (ci := 11) (idx := 100) (ref := "BorderBedsModel") (x := .int (zI tk))  K (cel_self hc0.1) rfl (by decide +kernel) 17 (by decide) (by decide +kernel) rfl rfl dX12_next_253 ?_
                      refine x_iconst (pc := 256) K dX12_next_256 ?_
                      refine x_icmp_ne (pc := 257) (tgt := 277) K (by omega) (by decide) dX12_next_257 (by decide) (fun h_257 => ?_) (fun h_257 => ?_)
                      · skip
                        refine x_aload_n (pc := 277) 0 K rfl rfl dX12_next_277 ?_
                        refine x_get (pc := 278) (C := RX12) (T := TX12) (n := 26) (ci := 11) (idx := 100) (ref := "BorderBedsModel") (x := .int (zI tk))  K (cel_self hc0.1) rfl (by decide +kernel) 17 (by decide) (by decide +kernel) rfl rfl dX12_next_278 ?_
                        refine x_put (pc := 281) (C := RX12) (T := TX12) (n := 26) (ci := 11) (idx := 100) (ref := "BorderBedsModel") (ty := .int)  K (cel_self hc0.1) rfl (by decide +kernel) tyX12 tyX12_ok nmX12 17 (by decide) (by decide +kernel) rfl rfl (by decide +kernel) rfl rfl (Nat.le_of_ble_eq_true rfl) dX12_next_281 ?_
                        refine x_v (w := (va_up v 161 (oM B (va_up (va_up (va_up F 15 (zq : Int)) 16 (at1 : Int)) 17 tk) y))) (up_at0).symm ?_
                        refine x_vret (pc := 284) K KR (by omega) (Nat.le_of_ble_eq_true rfl) (Nat.le_of_ble_eq_true rfl) dX12_next_284 ?_
                        obtain ⟨hE, hV, hK⟩ := tok_fin hsk htk hi118_1 hend
                        have hKK : tokK t n a = tk := by rw [hK]; split <;> omega
                        exact ⟨rfl, rfl, by rw [hE, hV, hKK, hsk]⟩
                      · skip
                        refine x_aload_n (pc := 260) 0 K rfl rfl dX12_next_260 ?_
                        refine x_get (pc := 261) (C := RX12) (T := TX12) (n := 26) (ci := 11) (idx := 88) (ref := "BorderBedsModel") (x := .int (zI (zq : Int)))  K (cel_self hc0.1) rfl (by decide +kernel) 15 (by decide) (by decide +kernel) rfl rfl dX12_next_261 ?_
                        refine x_aload_n (pc := 264) 0 K rfl rfl dX12_next_264 ?_
                        refine x_get (pc := 265) (C := RX12) (T := TX12) (n := 26) (ci := 11) (idx := 94) (ref := "BorderBedsModel") (x := .int (zI (at1 : Int)))  K (cel_self hc0.1) rfl (by decide +kernel) 16 (by decide) (by decide +kernel) rfl rfl dX12_next_265 ?_
                        refine x_isub (pc := 268) K dX12_next_268 ?_
                        refine x_iconst (pc := 269) K dX12_next_269 ?_
                        refine x_icmp_le (pc := 270) (tgt := 277) K (by omega) (by decide) dX12_next_270 (by decide) (fun h_270 => ?_) (fun h_270 => ?_)
                        · skip
                          refine x_aload_n (pc := 277) 0 K rfl rfl dX12_next_277 ?_
                          refine x_get (pc := 278) (C := RX12) (T := TX12) (n := 26) (ci := 11) (idx := 100) (ref := "BorderBedsModel") (x := .int (zI tk))  K (cel_self hc0.1) rfl (by decide +kernel) 17 (by decide) (by decide +kernel) rfl rfl dX12_next_278 ?_
                          refine x_put (pc := 281) (C := RX12) (T := TX12) (n := 26) (ci := 11) (idx := 100) (ref := "BorderBedsModel") (ty := .int)  K (cel_self hc0.1) rfl (by decide +kernel) tyX12 tyX12_ok nmX12 17 (by decide) (by decide +kernel) rfl rfl (by decide +kernel) rfl rfl (Nat.le_of_ble_eq_true rfl) dX12_next_281 ?_
                          refine x_v (w := (va_up v 161 (oM B (va_up (va_up (va_up F 15 (zq : Int)) 16 (at1 : Int)) 17 tk) y))) (up_at0).symm ?_
                          refine x_vret (pc := 284) K KR (by omega) (Nat.le_of_ble_eq_true rfl) (Nat.le_of_ble_eq_true rfl) dX12_next_284 ?_
                          obtain ⟨hE, hV, hK⟩ := tok_fin hsk htk hi118_1 hend
                          have hKK : tokK t n a = tk := by rw [hK]; split <;> omega
                          exact ⟨rfl, rfl, by rw [hE, hV, hKK, hsk]⟩
                        · skip
                          refine x_iconst (pc := 273) K dX12_next_273 ?_
                          refine x_goto (pc := 274) (tgt := 281) K dX12_next_274 (by decide) ?_
                          refine x_put (pc := 281) (C := RX12) (T := TX12) (n := 26) (ci := 11) (idx := 100) (ref := "BorderBedsModel") (ty := .int)  K (cel_self hc0.1) rfl (by decide +kernel) tyX12 tyX12_ok nmX12 17 (by decide) (by decide +kernel) rfl rfl (by decide +kernel) rfl rfl (Nat.le_of_ble_eq_true rfl) dX12_next_281 ?_
                          refine x_v (w := (va_up v 161 (oM B (va_up (va_up (va_up F 15 (zq : Int)) 16 (at1 : Int)) 17 4) y))) (up_at0).symm ?_
                          refine x_vret (pc := 284) K KR (by omega) (Nat.le_of_ble_eq_true rfl) (Nat.le_of_ble_eq_true rfl) dX12_next_284 ?_
                          obtain ⟨hE, hV, hK⟩ := tok_fin hsk htk hi118_1 hend
                          have hKK : tokK t n a = 4 := by rw [hK]; split <;> omega
                          exact ⟨rfl, rfl, by rw [hE, hV, hKK, hsk]⟩
                    · skip
                      refine x_aload_n (pc := 125) 0 K rfl rfl dX12_next_125 ?_
                      refine x_get (pc := 126) (C := RX12) (T := TX12) (n := 26) (ci := 11) (idx := 100) (ref := "BorderBedsModel") (x := .int (zI tk))  K (cel_self hc0.1) rfl (by decide +kernel) 17 (by decide) (by decide +kernel) rfl rfl dX12_next_126 ?_
                      refine x_iconst (pc := 129) K dX12_next_129 ?_
                      refine x_icmp_ge (pc := 130) (tgt := 251) K (by omega) (by decide) dX12_next_130 (by decide) (fun h_130 => ?_) (fun h_130 => ?_)
                      · skip
                        have hend : (tk = 1 ∨ tk = 2) → ¬ (zq < n ∧ srt (t zq) = tk) := by omega
                        refine x_aload_n (pc := 251) 0 K rfl rfl dX12_next_251 ?_
                        refine x_aload_n (pc := 252) 0 K rfl rfl dX12_next_252 ?_
                        refine x_get (pc := 253) (C := RX12) (T := TX12) (n := 26) (ci := 11) (idx := 100) (ref := "BorderBedsModel") (x := .int (zI tk))  K (cel_self hc0.1) rfl (by decide +kernel) 17 (by decide) (by decide +kernel) rfl rfl dX12_next_253 ?_
                        refine x_iconst (pc := 256) K dX12_next_256 ?_
                        refine x_icmp_ne (pc := 257) (tgt := 277) K (by omega) (by decide) dX12_next_257 (by decide) (fun h_257 => ?_) (fun h_257 => ?_)
                        · skip
                          refine x_aload_n (pc := 277) 0 K rfl rfl dX12_next_277 ?_
                          refine x_get (pc := 278) (C := RX12) (T := TX12) (n := 26) (ci := 11) (idx := 100) (ref := "BorderBedsModel") (x := .int (zI tk))  K (cel_self hc0.1) rfl (by decide +kernel) 17 (by decide) (by decide +kernel) rfl rfl dX12_next_278 ?_
                          refine x_put (pc := 281) (C := RX12) (T := TX12) (n := 26) (ci := 11) (idx := 100) (ref := "BorderBedsModel") (ty := .int)  K (cel_self hc0.1) rfl (by decide +kernel) tyX12 tyX12_ok nmX12 17 (by decide) (by decide +kernel) rfl rfl (by decide +kernel) rfl rfl (Nat.le_of_ble_eq_true rfl) dX12_next_281 ?_
                          refine x_v (w := (va_up v 161 (oM B (va_up (va_up (va_up F 15 (zq : Int)) 16 (at1 : Int)) 17 tk) y))) (up_at0).symm ?_
                          refine x_vret (pc := 284) K KR (by omega) (Nat.le_of_ble_eq_true rfl) (Nat.le_of_ble_eq_true rfl) dX12_next_284 ?_
                          obtain ⟨hE, hV, hK⟩ := tok_fin hsk htk hi118_1 hend
                          have hKK : tokK t n a = tk := by rw [hK]; split <;> omega
                          exact ⟨rfl, rfl, by rw [hE, hV, hKK, hsk]⟩
                        · skip
                          refine x_aload_n (pc := 260) 0 K rfl rfl dX12_next_260 ?_
                          refine x_get (pc := 261) (C := RX12) (T := TX12) (n := 26) (ci := 11) (idx := 88) (ref := "BorderBedsModel") (x := .int (zI (zq : Int)))  K (cel_self hc0.1) rfl (by decide +kernel) 15 (by decide) (by decide +kernel) rfl rfl dX12_next_261 ?_
                          refine x_aload_n (pc := 264) 0 K rfl rfl dX12_next_264 ?_
                          refine x_get (pc := 265) (C := RX12) (T := TX12) (n := 26) (ci := 11) (idx := 94) (ref := "BorderBedsModel") (x := .int (zI (at1 : Int)))  K (cel_self hc0.1) rfl (by decide +kernel) 16 (by decide) (by decide +kernel) rfl rfl dX12_next_265 ?_
                          refine x_isub (pc := 268) K dX12_next_268 ?_
                          refine x_iconst (pc := 269) K dX12_next_269 ?_
                          refine x_icmp_le (pc := 270) (tgt := 277) K (by omega) (by decide) dX12_next_270 (by decide) (fun h_270 => ?_) (fun h_270 => ?_)
                          · skip
                            refine x_aload_n (pc := 277) 0 K rfl rfl dX12_next_277 ?_
                            refine x_get (pc := 278) (C := RX12) (T := TX12) (n := 26) (ci := 11) (idx := 100) (ref := "BorderBedsModel") (x := .int (zI tk))  K (cel_self hc0.1) rfl (by decide +kernel) 17 (by decide) (by decide +kernel) rfl rfl dX12_next_278 ?_
                            refine x_put (pc := 281) (C := RX12) (T := TX12) (n := 26) (ci := 11) (idx := 100) (ref := "BorderBedsModel") (ty := .int)  K (cel_self hc0.1) rfl (by decide +kernel) tyX12 tyX12_ok nmX12 17 (by decide) (by decide +kernel) rfl rfl (by decide +kernel) rfl rfl (Nat.le_of_ble_eq_true rfl) dX12_next_281 ?_
                            refine x_v (w := (va_up v 161 (oM B (va_up (va_up (va_up F 15 (zq : Int)) 16 (at1 : Int)) 17 tk) y))) (up_at0).symm ?_
                            refine x_vret (pc := 284) K KR (by omega) (Nat.le_of_ble_eq_true rfl) (Nat.le_of_ble_eq_true rfl) dX12_next_284 ?_
                            obtain ⟨hE, hV, hK⟩ := tok_fin hsk htk hi118_1 hend
                            have hKK : tokK t n a = tk := by rw [hK]; split <;> omega
                            exact ⟨rfl, rfl, by rw [hE, hV, hKK, hsk]⟩
                          · skip
                            refine x_iconst (pc := 273) K dX12_next_273 ?_
                            refine x_goto (pc := 274) (tgt := 281) K dX12_next_274 (by decide) ?_
                            refine x_put (pc := 281) (C := RX12) (T := TX12) (n := 26) (ci := 11) (idx := 100) (ref := "BorderBedsModel") (ty := .int)  K (cel_self hc0.1) rfl (by decide +kernel) tyX12 tyX12_ok nmX12 17 (by decide) (by decide +kernel) rfl rfl (by decide +kernel) rfl rfl (Nat.le_of_ble_eq_true rfl) dX12_next_281 ?_
                            refine x_v (w := (va_up v 161 (oM B (va_up (va_up (va_up F 15 (zq : Int)) 16 (at1 : Int)) 17 4) y))) (up_at0).symm ?_
                            refine x_vret (pc := 284) K KR (by omega) (Nat.le_of_ble_eq_true rfl) (Nat.le_of_ble_eq_true rfl) dX12_next_284 ?_
                            obtain ⟨hE, hV, hK⟩ := tok_fin hsk htk hi118_1 hend
                            have hKK : tokK t n a = 4 := by rw [hK]; split <;> omega
                            exact ⟨rfl, rfl, by rw [hE, hV, hKK, hsk]⟩
                      · skip
                        refine x_aload_n (pc := 133) 0 K rfl rfl dX12_next_133 ?_
                        refine x_get (pc := 134) (C := RX12) (T := TX12) (n := 26) (ci := 11) (idx := 88) (ref := "BorderBedsModel") (x := .int (zI (zq : Int)))  K (cel_self hc0.1) rfl (by decide +kernel) 15 (by decide) (by decide +kernel) rfl rfl dX12_next_134 ?_
                        refine x_aload_n (pc := 137) 0 K rfl rfl dX12_next_137 ?_
                        refine x_get (pc := 138) (C := RX12) (T := TX12) (n := 26) (ci := 11) (idx := 91) (ref := "BorderBedsModel") (x := .int (zI (F 19)))  K (cel_self hc0.1) rfl (by decide +kernel) 19 (by decide) (by decide +kernel) rfl rfl dX12_next_138 ?_
                        refine x_icmp_ge (pc := 141) (tgt := 251) K (by omega) (by omega) dX12_next_141 (by decide) (fun h_141 => ?_) (fun h_141 => ?_)
                        · skip
                          have hend : (tk = 1 ∨ tk = 2) → ¬ (zq < n ∧ srt (t zq) = tk) := by omega
                          refine x_aload_n (pc := 251) 0 K rfl rfl dX12_next_251 ?_
                          refine x_aload_n (pc := 252) 0 K rfl rfl dX12_next_252 ?_
                          refine x_get (pc := 253) (C := RX12) (T := TX12) (n := 26) (ci := 11) (idx := 100) (ref := "BorderBedsModel") (x := .int (zI tk))  K (cel_self hc0.1) rfl (by decide +kernel) 17 (by decide) (by decide +kernel) rfl rfl dX12_next_253 ?_
                          refine x_iconst (pc := 256) K dX12_next_256 ?_
                          refine x_icmp_ne (pc := 257) (tgt := 277) K (by omega) (by decide) dX12_next_257 (by decide) (fun h_257 => ?_) (fun h_257 => ?_)
                          · skip
                            refine x_aload_n (pc := 277) 0 K rfl rfl dX12_next_277 ?_
                            refine x_get (pc := 278) (C := RX12) (T := TX12) (n := 26) (ci := 11) (idx := 100) (ref := "BorderBedsModel") (x := .int (zI tk))  K (cel_self hc0.1) rfl (by decide +kernel) 17 (by decide) (by decide +kernel) rfl rfl dX12_next_278 ?_
                            refine x_put (pc := 281) (C := RX12) (T := TX12) (n := 26) (ci := 11) (idx := 100) (ref := "BorderBedsModel") (ty := .int)  K (cel_self hc0.1) rfl (by decide +kernel) tyX12 tyX12_ok nmX12 17 (by decide) (by decide +kernel) rfl rfl (by decide +kernel) rfl rfl (Nat.le_of_ble_eq_true rfl) dX12_next_281 ?_
                            refine x_v (w := (va_up v 161 (oM B (va_up (va_up (va_up F 15 (zq : Int)) 16 (at1 : Int)) 17 tk) y))) (up_at0).symm ?_
                            refine x_vret (pc := 284) K KR (by omega) (Nat.le_of_ble_eq_true rfl) (Nat.le_of_ble_eq_true rfl) dX12_next_284 ?_
                            obtain ⟨hE, hV, hK⟩ := tok_fin hsk htk hi118_1 hend
                            have hKK : tokK t n a = tk := by rw [hK]; split <;> omega
                            exact ⟨rfl, rfl, by rw [hE, hV, hKK, hsk]⟩
                          · skip
                            refine x_aload_n (pc := 260) 0 K rfl rfl dX12_next_260 ?_
                            refine x_get (pc := 261) (C := RX12) (T := TX12) (n := 26) (ci := 11) (idx := 88) (ref := "BorderBedsModel") (x := .int (zI (zq : Int)))  K (cel_self hc0.1) rfl (by decide +kernel) 15 (by decide) (by decide +kernel) rfl rfl dX12_next_261 ?_
                            refine x_aload_n (pc := 264) 0 K rfl rfl dX12_next_264 ?_
                            refine x_get (pc := 265) (C := RX12) (T := TX12) (n := 26) (ci := 11) (idx := 94) (ref := "BorderBedsModel") (x := .int (zI (at1 : Int)))  K (cel_self hc0.1) rfl (by decide +kernel) 16 (by decide) (by decide +kernel) rfl rfl dX12_next_265 ?_
                            refine x_isub (pc := 268) K dX12_next_268 ?_
                            refine x_iconst (pc := 269) K dX12_next_269 ?_
                            refine x_icmp_le (pc := 270) (tgt := 277) K (by omega) (by decide) dX12_next_270 (by decide) (fun h_270 => ?_) (fun h_270 => ?_)
                            · skip
                              refine x_aload_n (pc := 277) 0 K rfl rfl dX12_next_277 ?_
                              refine x_get (pc := 278) (C := RX12) (T := TX12) (n := 26) (ci := 11) (idx := 100) (ref := "BorderBedsModel") (x := .int (zI tk))  K (cel_self hc0.1) rfl (by decide +kernel) 17 (by decide) (by decide +kernel) rfl rfl dX12_next_278 ?_
                              refine x_put (pc := 281) (C := RX12) (T := TX12) (n := 26) (ci := 11) (idx := 100) (ref := "BorderBedsModel") (ty := .int)  K (cel_self hc0.1) rfl (by decide +kernel) tyX12 tyX12_ok nmX12 17 (by decide) (by decide +kernel) rfl rfl (by decide +kernel) rfl rfl (Nat.le_of_ble_eq_true rfl) dX12_next_281 ?_
                              refine x_v (w := (va_up v 161 (oM B (va_up (va_up (va_up F 15 (zq : Int)) 16 (at1 : Int)) 17 tk) y))) (up_at0).symm ?_
                              refine x_vret (pc := 284) K KR (by omega) (Nat.le_of_ble_eq_true rfl) (Nat.le_of_ble_eq_true rfl) dX12_next_284 ?_
                              obtain ⟨hE, hV, hK⟩ := tok_fin hsk htk hi118_1 hend
                              have hKK : tokK t n a = tk := by rw [hK]; split <;> omega
                              exact ⟨rfl, rfl, by rw [hE, hV, hKK, hsk]⟩
                            · skip
                              refine x_iconst (pc := 273) K dX12_next_273 ?_
                              refine x_goto (pc := 274) (tgt := 281) K dX12_next_274 (by decide) ?_
                              refine x_put (pc := 281) (C := RX12) (T := TX12) (n := 26) (ci := 11) (idx := 100) (ref := "BorderBedsModel") (ty := .int)  K (cel_self hc0.1) rfl (by decide +kernel) tyX12 tyX12_ok nmX12 17 (by decide) (by decide +kernel) rfl rfl (by decide +kernel) rfl rfl (Nat.le_of_ble_eq_true rfl) dX12_next_281 ?_
                              refine x_v (w := (va_up v 161 (oM B (va_up (va_up (va_up F 15 (zq : Int)) 16 (at1 : Int)) 17 4) y))) (up_at0).symm ?_
                              refine x_vret (pc := 284) K KR (by omega) (Nat.le_of_ble_eq_true rfl) (Nat.le_of_ble_eq_true rfl) dX12_next_284 ?_
                              obtain ⟨hE, hV, hK⟩ := tok_fin hsk htk hi118_1 hend
                              have hKK : tokK t n a = 4 := by rw [hK]; split <;> omega
                              exact ⟨rfl, rfl, by rw [hE, hV, hKK, hsk]⟩
                        · skip
                          have b152 := hq3 zq
                          have s152 := srt_rng (t zq)
                          refine x_aload_n (pc := 144) 0 K rfl rfl dX12_next_144 ?_
                          refine x_get (pc := 145) (C := RX12) (T := TX12) (n := 26) (ci := 11) (idx := 19) (ref := "BorderBedsModel") (x := .ref (B + 165))  K (cel_self hc0.1) rfl (by decide +kernel) 4 (by decide) (by decide +kernel) rfl rfl dX12_next_145 ?_
                          refine x_aload_n (pc := 148) 0 K rfl rfl dX12_next_148 ?_
                          refine x_get (pc := 149) (C := RX12) (T := TX12) (n := 26) (ci := 11) (idx := 88) (ref := "BorderBedsModel") (x := .int (zI (zq : Int)))  K (cel_self hc0.1) rfl (by decide +kernel) 15 (by decide) (by decide +kernel) rfl rfl dX12_next_149 ?_
                          refine x_iald (pc := 152) zq K (cel_ne hc1 (by decide)) rfl (by omega) (by decide) dX12_next_152 ?_
                          refine x_callS (pc := 153) (As := [.int (zI (t zq))]) K (c_X12_sort (E := E) (B := B) (N := N)    (by omega)) gX12_next_X12_sort rfl (na := 1) (by decide +kernel) rfl ⟨(Nat.le_of_ble_eq_true rfl), (Nat.le_of_ble_eq_true rfl)⟩ (st := []) rfl (Nat.le_of_ble_eq_true rfl) ⟨(Nat.le_of_ble_eq_true rfl), (Nat.le_of_ble_eq_true rfl)⟩ dX12_next_153 (fun r153 N153 w153 hpo153 hN153 => ?_)
                          obtain ⟨rfl, rfl, rfl⟩ := hpo153
                          refine x_st (st' := [.int (zI (srt (t zq)))]) rfl ?_
                          refine x_aload_n (pc := 156) 0 K rfl rfl dX12_next_156 ?_
                          refine x_get (pc := 157) (C := RX12) (T := TX12) (n := 26) (ci := 11) (idx := 100) (ref := "BorderBedsModel") (x := .int (zI tk))  K (cel_self hc0.1) rfl (by decide +kernel) 17 (by decide) (by decide +kernel) rfl rfl dX12_next_157 ?_
                          refine x_icmp_ne (pc := 160) (tgt := 251) K (by omega) (by omega) dX12_next_160 (by decide) (fun h_160 => ?_) (fun h_160 => ?_)
                          · skip
                            have hend : (tk = 1 ∨ tk = 2) → ¬ (zq < n ∧ srt (t zq) = tk) := by omega
                            refine x_aload_n (pc := 251) 0 K rfl rfl dX12_next_251 ?_
                            refine x_aload_n (pc := 252) 0 K rfl rfl dX12_next_252 ?_
                            refine x_get (pc := 253) (C := RX12) (T := TX12) (n := 26) (ci := 11) (idx := 100) (ref := "BorderBedsModel") (x := .int (zI tk))  K (cel_self hc0.1) rfl (by decide +kernel) 17 (by decide) (by decide +kernel) rfl rfl dX12_next_253 ?_
                            refine x_iconst (pc := 256) K dX12_next_256 ?_
                            refine x_icmp_ne (pc := 257) (tgt := 277) K (by omega) (by decide) dX12_next_257 (by decide) (fun h_257 => ?_) (fun h_257 => ?_)
                            · skip
                              refine x_aload_n (pc := 277) 0 K rfl rfl dX12_next_277 ?_
                              refine x_get (pc := 278) (C := RX12) (T := TX12) (n := 26) (ci := 11) (idx := 100) (ref := "BorderBedsModel") (x := .int (zI tk))  K (cel_self hc0.1) rfl (by decide +kernel) 17 (by decide) (by decide +kernel) rfl rfl dX12_next_278 ?_
                              refine x_put (pc := 281) (C := RX12) (T := TX12) (n := 26) (ci := 11) (idx := 100) (ref := "BorderBedsModel") (ty := .int)  K (cel_self hc0.1) rfl (by decide +kernel) tyX12 tyX12_ok nmX12 17 (by decide) (by decide +kernel) rfl rfl (by decide +kernel) rfl rfl (Nat.le_of_ble_eq_true rfl) dX12_next_281 ?_
                              refine x_v (w := (va_up v 161 (oM B (va_up (va_up (va_up F 15 (zq : Int)) 16 (at1 : Int)) 17 tk) y))) (up_at0).symm ?_
                              refine x_vret (pc := 284) K KR (by omega) (Nat.le_of_ble_eq_true rfl) (Nat.le_of_ble_eq_true rfl) dX12_next_284 ?_
                              obtain ⟨hE, hV, hK⟩ := tok_fin hsk htk hi118_1 hend
                              have hKK : tokK t n a = tk := by rw [hK]; split <;> omega
                              exact ⟨rfl, rfl, by rw [hE, hV, hKK, hsk]⟩
                            · skip
                              refine x_aload_n (pc := 260) 0 K rfl rfl dX12_next_260 ?_
                              refine x_get (pc := 261) (C := RX12) (T := TX12) (n := 26) (ci := 11) (idx := 88) (ref := "BorderBedsModel") (x := .int (zI (zq : Int)))  K (cel_self hc0.1) rfl (by decide +kernel) 15 (by decide) (by decide +kernel) rfl rfl dX12_next_261 ?_
                              refine x_aload_n (pc := 264) 0 K rfl rfl dX12_next_264 ?_
                              refine x_get (pc := 265) (C := RX12) (T := TX12) (n := 26) (ci := 11) (idx := 94) (ref := "BorderBedsModel") (x := .int (zI (at1 : Int)))  K (cel_self hc0.1) rfl (by decide +kernel) 16 (by decide) (by decide +kernel) rfl rfl dX12_next_265 ?_
                              refine x_isub (pc := 268) K dX12_next_268 ?_
                              refine x_iconst (pc := 269) K dX12_next_269 ?_
                              refine x_icmp_le (pc := 270) (tgt := 277) K (by omega) (by decide) dX12_next_270 (by decide) (fun h_270 => ?_) (fun h_270 => ?_)
                              · skip
                                refine x_aload_n (pc := 277) 0 K rfl rfl dX12_next_277 ?_
                                refine x_get (pc := 278) (C := RX12) (T := TX12) (n := 26) (ci := 11) (idx := 100) (ref := "BorderBedsModel") (x := .int (zI tk))  K (cel_self hc0.1) rfl (by decide +kernel) 17 (by decide) (by decide +kernel) rfl rfl dX12_next_278 ?_
                                refine x_put (pc := 281) (C := RX12) (T := TX12) (n := 26) (ci := 11) (idx := 100) (ref := "BorderBedsModel") (ty := .int)  K (cel_self hc0.1) rfl (by decide +kernel) tyX12 tyX12_ok nmX12 17 (by decide) (by decide +kernel) rfl rfl (by decide +kernel) rfl rfl (Nat.le_of_ble_eq_true rfl) dX12_next_281 ?_
                                refine x_v (w := (va_up v 161 (oM B (va_up (va_up (va_up F 15 (zq : Int)) 16 (at1 : Int)) 17 tk) y))) (up_at0).symm ?_
                                refine x_vret (pc := 284) K KR (by omega) (Nat.le_of_ble_eq_true rfl) (Nat.le_of_ble_eq_true rfl) dX12_next_284 ?_
                                obtain ⟨hE, hV, hK⟩ := tok_fin hsk htk hi118_1 hend
                                have hKK : tokK t n a = tk := by rw [hK]; split <;> omega
                                exact ⟨rfl, rfl, by rw [hE, hV, hKK, hsk]⟩
                              · skip
                                refine x_iconst (pc := 273) K dX12_next_273 ?_
                                refine x_goto (pc := 274) (tgt := 281) K dX12_next_274 (by decide) ?_
                                refine x_put (pc := 281) (C := RX12) (T := TX12) (n := 26) (ci := 11) (idx := 100) (ref := "BorderBedsModel") (ty := .int)  K (cel_self hc0.1) rfl (by decide +kernel) tyX12 tyX12_ok nmX12 17 (by decide) (by decide +kernel) rfl rfl (by decide +kernel) rfl rfl (Nat.le_of_ble_eq_true rfl) dX12_next_281 ?_
                                refine x_v (w := (va_up v 161 (oM B (va_up (va_up (va_up F 15 (zq : Int)) 16 (at1 : Int)) 17 4) y))) (up_at0).symm ?_
                                refine x_vret (pc := 284) K KR (by omega) (Nat.le_of_ble_eq_true rfl) (Nat.le_of_ble_eq_true rfl) dX12_next_284 ?_
                                obtain ⟨hE, hV, hK⟩ := tok_fin hsk htk hi118_1 hend
                                have hKK : tokK t n a = 4 := by rw [hK]; split <;> omega
                                exact ⟨rfl, rfl, by rw [hE, hV, hKK, hsk]⟩
                          · skip
                            have hgo : reT t n tk (zq + 1) = reT t n tk zq := reT_go (by omega) (by omega)
                            have hold : (tk = 1 ∨ tk = 2) ∧ at1 ≤ zq ∧ reT t n tk zq = reT t n tk at1 ∧ y = valT t tk at1 (zq - at1) := by
                              rcases hi118_1 with h | h
                              · exact h
                              · exfalso; have := h.1; omega
                            have hvs : valT t tk at1 (zq + 1 - at1) = if 7 < zq - at1 then -1 else if tk = 1 then 32 * valT t tk at1 (zq - at1) + t (at1 + (zq - at1)) - 96 else 10 * valT t tk at1 (zq - at1) + t (at1 + (zq - at1)) - 48 := by rw [show zq + 1 - at1 = (zq - at1) + 1 by omega]; rfl
                            rw [show at1 + (zq - at1) = zq by omega, ← hold.2.2.2] at hvs
                            refine x_aload_n (pc := 163) 0 K rfl rfl dX12_next_163 ?_
                            refine x_get (pc := 164) (C := RX12) (T := TX12) (n := 26) (ci := 11) (idx := 19) (ref := "BorderBedsModel") (x := .ref (B + 165))  K (cel_self hc0.1) rfl (by decide +kernel) 4 (by decide) (by decide +kernel) rfl rfl dX12_next_164 ?_
                            refine x_aload_n (pc := 167) 0 K rfl rfl dX12_next_167 ?_
                            refine x_get (pc := 168) (C := RX12) (T := TX12) (n := 26) (ci := 11) (idx := 88) (ref := "BorderBedsModel") (x := .int (zI (zq : Int)))  K (cel_self hc0.1) rfl (by decide +kernel) 15 (by decide) (by decide +kernel) rfl rfl dX12_next_168 ?_
                            refine x_iald (pc := 171) zq K (cel_ne hc1 (by decide)) rfl (by omega) (by decide) dX12_next_171 ?_
                            refine x_nm (fun z8 hz8 => ?_)
                            refine x_istore_n (pc := 172) K (L' := [(1, .int (zI z8)), (0, .ref (B + 161))]) hnL rfl (by decide) rfl dX12_next_172 ?_
                            refine x_aload_n (pc := 173) 1 K rfl rfl dX12_next_173 ?_
                            refine x_aload_n (pc := 174) 1 K rfl rfl dX12_next_174 ?_
                            refine x_get (pc := 175) (C := RX12) (T := TX12) (n := 26) (ci := 11) (idx := 88) (ref := "BorderBedsModel") (x := .int (zI (zq : Int)))  K (cel_self hc0.1) rfl (by decide +kernel) 15 (by decide) (by decide +kernel) rfl rfl dX12_next_175 ?_
                            refine x_aload_n (pc := 178) 1 K rfl rfl dX12_next_178 ?_
                            refine x_get (pc := 179) (C := RX12) (T := TX12) (n := 26) (ci := 11) (idx := 94) (ref := "BorderBedsModel") (x := .int (zI (at1 : Int)))  K (cel_self hc0.1) rfl (by decide +kernel) 16 (by decide) (by decide +kernel) rfl rfl dX12_next_179 ?_
                            refine x_isub (pc := 182) K dX12_next_182 ?_
                            refine x_bipush (pc := 183) K (by decide) dX12_next_183 ?_
                            refine x_icmp_le (pc := 185) (tgt := 194) K (by omega) (by decide) dX12_next_185 (by decide) (fun h_185 => ?_) (fun h_185 => ?_)
                            · skip
                              refine x_aload_n (pc := 194) 1 K rfl rfl dX12_next_194 ?_
                              refine x_get (pc := 195) (C := RX12) (T := TX12) (n := 26) (ci := 11) (idx := 100) (ref := "BorderBedsModel") (x := .int (zI tk))  K (cel_self hc0.1) rfl (by decide +kernel) 17 (by decide) (by decide +kernel) rfl rfl dX12_next_195 ?_
                              refine x_iconst (pc := 198) K dX12_next_198 ?_
                              refine x_icmp_ne (pc := 199) (tgt := 220) K (by omega) (by decide) dX12_next_199 (by decide) (fun h_199 => ?_) (fun h_199 => ?_)
                              · skip
                                refine x_ldc2 (pc := 220) (x := (10)) (10) K (by decide) (by decide +kernel) dX12_next_220 ?_
                                refine x_aload_n (pc := 223) 1 K rfl rfl dX12_next_223 ?_
                                refine x_get (pc := 224) (C := RX12) (T := TX12) (n := 26) (ci := 11) (idx := 103) (ref := "BorderBedsModel") (x := .long (zL y))  K (cel_self hc0.1) rfl (by decide +kernel) 18 (by decide) (by decide +kernel) rfl rfl dX12_next_224 ?_
                                refine x_lmul (pc := 227) K dX12_next_227 ?_
                                refine x_iload_n (pc := 228) 0 K rfl rfl dX12_next_228 ?_
                                refine x_i2l (pc := 229) K (by omega) dX12_next_229 ?_
                                refine x_ladd (pc := 230) K dX12_next_230 ?_
                                refine x_ldc2 (pc := 231) (x := (48)) (48) K (by decide) (by decide +kernel) dX12_next_231 ?_
                                refine x_lsub (pc := 234) K dX12_next_234 ?_
                                refine x_put (pc := 235) (C := RX12) (T := TX12) (n := 26) (ci := 11) (idx := 103) (ref := "BorderBedsModel") (ty := .long)  K (cel_self hc0.1) rfl (by decide +kernel) tyX12 tyX12_ok nmX12 18 (by decide) (by decide +kernel) rfl rfl (by decide +kernel) rfl rfl (Nat.le_of_ble_eq_true rfl) dX12_next_235 ?_
                                refine x_v (w := (va_up v 161 (oM B (va_up (va_up (va_up F 15 (zq : Int)) 16 (at1 : Int)) 17 tk) (((10 * y) + z8) - 48)))) (up_at0).symm ?_
                                refine x_aload_n (pc := 238) 1 K rfl rfl dX12_next_238 ?_
                                refine x_dup (pc := 239) K rfl dX12_next_239 ?_
                                refine x_get (pc := 240) (C := RX12) (T := TX12) (n := 26) (ci := 11) (idx := 88) (ref := "BorderBedsModel") (x := .int (zI (zq : Int)))  K (cel_self hc0.1) rfl (by decide +kernel) 15 (by decide) (by decide +kernel) rfl rfl dX12_next_240 ?_
                                refine x_iconst (pc := 243) K dX12_next_243 ?_
                                refine x_iadd (pc := 244) K dX12_next_244 ?_
                                refine x_put (pc := 245) (C := RX12) (T := TX12) (n := 26) (ci := 11) (idx := 88) (ref := "BorderBedsModel") (ty := .int)  K (cel_self hc0.1) rfl (by decide +kernel) tyX12 tyX12_ok nmX12 15 (by decide) (by decide +kernel) rfl rfl (by decide +kernel) rfl rfl (Nat.le_of_ble_eq_true rfl) dX12_next_245 ?_
                                refine x_v (w := (va_up v 161 (oM B (va_up (va_up (va_up F 15 ((zq : Int) + 1)) 16 (at1 : Int)) 17 tk) (((10 * y) + z8) - 48)))) (up_at0).symm ?_
                                refine x_goto (pc := 248) (tgt := 118) K dX12_next_248 (by decide) ?_
                                refine x_sub (L' := [(0, .ref (B + 161))]) [1] rfl ?_
                                exact ih118 (zq + 1) (((10 * y) + z8) - 48) (by omega) (by exact Or.inl ⟨hold.1, by omega, by rw [hgo]; exact hold.2.2.1, by rw [hvs]; split <;> (try split) <;> omega⟩) (by omega)
                              · skip
                                refine x_ldc2 (pc := 202) (x := (32)) (32) K (by decide) (by decide +kernel) dX12_next_202 ?_
                                refine x_aload_n (pc := 205) 1 K rfl rfl dX12_next_205 ?_
                                refine x_get (pc := 206) (C := RX12) (T := TX12) (n := 26) (ci := 11) (idx := 103) (ref := "BorderBedsModel") (x := .long (zL y))  K (cel_self hc0.1) rfl (by decide +kernel) 18 (by decide) (by decide +kernel) rfl rfl dX12_next_206 ?_
                                refine x_lmul (pc := 209) K dX12_next_209 ?_
                                refine x_iload_n (pc := 210) 0 K rfl rfl dX12_next_210 ?_
                                refine x_i2l (pc := 211) K (by omega) dX12_next_211 ?_
                                refine x_ladd (pc := 212) K dX12_next_212 ?_
                                refine x_ldc2 (pc := 213) (x := (96)) (96) K (by decide) (by decide +kernel) dX12_next_213 ?_
                                refine x_lsub (pc := 216) K dX12_next_216 ?_
                                refine x_goto (pc := 217) (tgt := 235) K dX12_next_217 (by decide) ?_
                                refine x_put (pc := 235) (C := RX12) (T := TX12) (n := 26) (ci := 11) (idx := 103) (ref := "BorderBedsModel") (ty := .long)  K (cel_self hc0.1) rfl (by decide +kernel) tyX12 tyX12_ok nmX12 18 (by decide) (by decide +kernel) rfl rfl (by decide +kernel) rfl rfl (Nat.le_of_ble_eq_true rfl) dX12_next_235 ?_
                                refine x_v (w := (va_up v 161 (oM B (va_up (va_up (va_up F 15 (zq : Int)) 16 (at1 : Int)) 17 tk) (((32 * y) + z8) - 96)))) (up_at0).symm ?_
                                refine x_aload_n (pc := 238) 1 K rfl rfl dX12_next_238 ?_
                                refine x_dup (pc := 239) K rfl dX12_next_239 ?_
                                refine x_get (pc := 240) (C := RX12) (T := TX12) (n := 26) (ci := 11) (idx := 88) (ref := "BorderBedsModel") (x := .int (zI (zq : Int)))  K (cel_self hc0.1) rfl (by decide +kernel) 15 (by decide) (by decide +kernel) rfl rfl dX12_next_240 ?_
                                refine x_iconst (pc := 243) K dX12_next_243 ?_
                                refine x_iadd (pc := 244) K dX12_next_244 ?_
                                refine x_put (pc := 245) (C := RX12) (T := TX12) (n := 26) (ci := 11) (idx := 88) (ref := "BorderBedsModel") (ty := .int)  K (cel_self hc0.1) rfl (by decide +kernel) tyX12 tyX12_ok nmX12 15 (by decide) (by decide +kernel) rfl rfl (by decide +kernel) rfl rfl (Nat.le_of_ble_eq_true rfl) dX12_next_245 ?_
                                refine x_v (w := (va_up v 161 (oM B (va_up (va_up (va_up F 15 ((zq : Int) + 1)) 16 (at1 : Int)) 17 tk) (((32 * y) + z8) - 96)))) (up_at0).symm ?_
                                refine x_goto (pc := 248) (tgt := 118) K dX12_next_248 (by decide) ?_
                                refine x_sub (L' := [(0, .ref (B + 161))]) [1] rfl ?_
                                exact ih118 (zq + 1) (((32 * y) + z8) - 96) (by omega) (by exact Or.inl ⟨hold.1, by omega, by rw [hgo]; exact hold.2.2.1, by rw [hvs]; split <;> (try split) <;> omega⟩) (by omega)
                            · skip
                              refine x_ldc2 (pc := 188) (x := (-1)) (-1) K (by decide) (by decide +kernel) dX12_next_188 ?_
                              refine x_goto (pc := 191) (tgt := 235) K dX12_next_191 (by decide) ?_
                              refine x_put (pc := 235) (C := RX12) (T := TX12) (n := 26) (ci := 11) (idx := 103) (ref := "BorderBedsModel") (ty := .long)  K (cel_self hc0.1) rfl (by decide +kernel) tyX12 tyX12_ok nmX12 18 (by decide) (by decide +kernel) rfl rfl (by decide +kernel) rfl rfl (Nat.le_of_ble_eq_true rfl) dX12_next_235 ?_
                              refine x_v (w := (va_up v 161 (oM B (va_up (va_up (va_up F 15 (zq : Int)) 16 (at1 : Int)) 17 tk) (-1)))) (up_at0).symm ?_
                              refine x_aload_n (pc := 238) 1 K rfl rfl dX12_next_238 ?_
                              refine x_dup (pc := 239) K rfl dX12_next_239 ?_
                              refine x_get (pc := 240) (C := RX12) (T := TX12) (n := 26) (ci := 11) (idx := 88) (ref := "BorderBedsModel") (x := .int (zI (zq : Int)))  K (cel_self hc0.1) rfl (by decide +kernel) 15 (by decide) (by decide +kernel) rfl rfl dX12_next_240 ?_
                              refine x_iconst (pc := 243) K dX12_next_243 ?_
                              refine x_iadd (pc := 244) K dX12_next_244 ?_
                              refine x_put (pc := 245) (C := RX12) (T := TX12) (n := 26) (ci := 11) (idx := 88) (ref := "BorderBedsModel") (ty := .int)  K (cel_self hc0.1) rfl (by decide +kernel) tyX12 tyX12_ok nmX12 15 (by decide) (by decide +kernel) rfl rfl (by decide +kernel) rfl rfl (Nat.le_of_ble_eq_true rfl) dX12_next_245 ?_
                              refine x_v (w := (va_up v 161 (oM B (va_up (va_up (va_up F 15 ((zq : Int) + 1)) 16 (at1 : Int)) 17 tk) (-1)))) (up_at0).symm ?_
                              refine x_goto (pc := 248) (tgt := 118) K dX12_next_248 (by decide) ?_
                              refine x_sub (L' := [(0, .ref (B + 161))]) [1] rfl ?_
                              exact ih118 (zq + 1) (-1) (by omega) (by exact Or.inl ⟨hold.1, by omega, by rw [hgo]; exact hold.2.2.1, by rw [hvs]; split <;> (try split) <;> omega⟩) (by omega)
                exact LOOP118 (_) (at1 + 1) 0 (by (first | omega | (have : at1 < n := by (by_cases q : at1 < n; exact q; rw [if_neg q] at htk; omega); omega))) (by first | (refine Or.inr ⟨by omega, ?_, rfl⟩; rw [if_pos (by omega)]; omega) | (by_cases q : tk = 1 ∨ tk = 2; exact Or.inl ⟨q, by omega, rfl, by rw [show at1 + 0 - at1 = 0 by omega]; rfl⟩; exact Or.inr ⟨q, by rw [if_neg (by omega)]; omega, rfl⟩)) (Nat.lt_succ_self _)
          · skip
            refine x_aload_n (pc := 39) 0 K rfl rfl dX12_next_39 ?_
            refine x_dup (pc := 40) K rfl dX12_next_40 ?_
            refine x_get (pc := 41) (C := RX12) (T := TX12) (n := 26) (ci := 11) (idx := 88) (ref := "BorderBedsModel") (x := .int (zI (at1 : Int)))  K (cel_self hc0.1) rfl (by decide +kernel) 15 (by decide) (by decide +kernel) rfl rfl dX12_next_41 ?_
            refine x_iconst (pc := 44) K dX12_next_44 ?_
            refine x_iadd (pc := 45) K dX12_next_45 ?_
            refine x_put (pc := 46) (C := RX12) (T := TX12) (n := 26) (ci := 11) (idx := 88) (ref := "BorderBedsModel") (ty := .int)  K (cel_self hc0.1) rfl (by decide +kernel) tyX12 tyX12_ok nmX12 15 (by decide) (by decide +kernel) rfl rfl (by decide +kernel) rfl rfl (Nat.le_of_ble_eq_true rfl) dX12_next_46 ?_
            refine x_v (w := (va_up v 161 (oM B (va_up F 15 ((at1 : Int) + 1)) V))) (up_at0).symm ?_
            refine x_goto (pc := 49) (tgt := 0) K dX12_next_49 (by decide) ?_
            exact ih0 (at1 + 1) (by omega) (by rw [← hi0_1]; exact skT_go (by omega) (by omega)) (by omega)
  exact LOOP0 (_) a (by omega) (by rfl) (Nat.lt_succ_self _)
