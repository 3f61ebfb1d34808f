def P11 : List (Nat × Nat × Nat) := [(96, 0, 97), (96, 9, 98), (96, 10, 99), (96, 11, 100), (96, 12, 101), (96, 13, 102), (96, 14, 103), (96, 15, 104), (96, 16, 105), (96, 17, 106), (96, 19, 107), (96, 21, 108), (96, 30, 109), (96, 31, 110), (96, 32, 111), (96, 33, 112)]
def V11 : List (Nat × Nat × Int) := [(98, 0, 0), (98, 1, 6), (98, 2, 11), (98, 3, 16), (98, 4, 21), (98, 5, 25), (98, 6, 30), (98, 7, 37), (98, 8, 41), (98, 9, 45), (98, 10, 51), (98, 11, 56), (98, 12, 60), (99, 0, 112), (99, 1, 97), (99, 2, 114), (99, 3, 105), (99, 4, 115), (99, 5, 104), (99, 6, 99), (99, 7, 108), (99, 8, 101), (99, 9, 114), (99, 10, 107), (99, 11, 116), (99, 12, 114), (99, 13, 105), (99, 14, 101), (99, 15, 100), (99, 16, 108), (99, 17, 101), (99, 18, 97), (99, 19, 114), (99, 20, 110), (99, 21, 97), (99, 22, 103), (99, 23, 101), (99, 24, 115), (99, 25, 110), (99, 26, 101), (99, 27, 118), (99, 28, 101), (99, 29, 114), (99, 30, 112), (99, 31, 105), (99, 32, 99), (99, 33, 116), (99, 34, 117), (99, 35, 114), (99, 36, 101), (99, 37, 116), (99, 38, 111), (99, 39, 119), (99, 40, 110), (99, 41, 109), (99, 42, 105), (99, 43, 108), (99, 44, 108), (99, 45, 115), (99, 46, 99), (99, 47, 104), (99, 48, 111), (99, 49, 111), (99, 50, 108), (99, 51, 99), (99, 52, 114), (99, 53, 111), (99, 54, 115), (99, 55, 115), (99, 56, 110), (99, 57, 97), (99, 58, 109), (99, 59, 101), (100, 0, 0), (100, 1, 0), (100, 2, 11), (100, 3, 20), (100, 4, 35), (100, 5, 0), (100, 6, 1), (100, 7, 0), (100, 8, 1), (100, 9, 1), (100, 10, 1), (101, 0, 0), (101, 1, 0), (101, 2, 11), (101, 3, 20), (101, 4, 35), (101, 5, 0), (101, 6, 1), (101, 7, 0), (101, 8, 1), (101, 9, 1), (101, 10, 1), (110, 0, (-4)), (110, 1, (-4)), (110, 2, (-4)), (110, 3, (-4))]
def Fz (m m' : Mem) : Prop := ∀ a k, a < 96 → m'.1 a k = m.1 a k ∧ m'.2 a k = m.2 a k
/-- behind the reference's constructor -/
def K11 (m : Mem) : Prop := ptK P11 m ∧ vlK V11 m ∧ (m.1 96 1 = 0 ∧ m.1 96 2 = 0 ∧ m.1 96 20 = 0 ∧ m.1 96 34 = 0) ∧ (∀ i, m.1 107 i = 0) ∧ (∀ i, m.1 109 i = 0) ∧ ∀ i, m.1 112 i = 0
section
variable {Γ : GX} {m m' : Mem} {S : Shp}
theorem Fz.rf : Fz m m := fun _ _ _ => ⟨rfl, rfl⟩
theorem Fz.si {o k : Nat} {z : Int} (h : Fz m m') (ho : 96 ≤ o) : Fz m (setI m' o k z) := fun a j q => ⟨by simp only [setI]; rw [if_neg (by omega)]; exact (h a j q).1, (h a j q).2⟩
theorem Fz.sp {o k : Nat} {r : Option Nat} (h : Fz m m') (ho : 96 ≤ o) : Fz m (setP m' o k r) := fun a j q => ⟨(h a j q).1, by simp only [setP]; rw [if_neg (by omega)]; exact (h a j q).2⟩
theorem Fz.nm {o : Nat} (h : Fz m m') (ho : 96 ≤ o) : Fz m (newM m' o) := fun a j q => ⟨by simp only [newM]; rw [if_neg (by omega)]; exact (h a j q).1, by simp only [newM]; rw [if_neg (by omega)]; exact (h a j q).2⟩
set_option maxRecDepth 100000 in
theorem k_X11_init (h96 : ∀ k, m.1 96 k = 0) : C Γ mX11_init 1 40 16 2912 [vr 96] (97, shF) m (QV SH (fun m' => Fz m m' ∧ K11 m')) := by
  refine C_of_R rfl (Nat.le_of_ble_eq_true rfl) ?_
  refine R_aload_n 1 rfl dX11_init_0 rfl ?_
  refine R_objInit 4 rfl dX11_init_1 ml_X11_1 (by decide) ⟨Nat.le_of_ble_eq_true rfl, Nat.le_of_ble_eq_true rfl⟩ ?_
  refine R_aload_n 5 rfl dX11_init_4 rfl ?_
  refine R_sipush 8 rfl dX11_init_5 (by decide) ?_
  refine R_newaI 320 10 98 1 320 rfl dX11_init_8 rfl rfl (by decide) rfl (by decide) rfl rfl ⟨Nat.le_of_ble_eq_true rfl, Nat.le_of_ble_eq_true rfl⟩ ?_
  refine R_putFP 0 13 rfl dX11_init_10 rfl rfl fl_X11_7 rfl rfl ?_
  refine R_aload_n 14 rfl dX11_init_13 rfl ?_
  refine R_bipush 16 rfl dX11_init_14 (by decide) ?_
  refine R_newaI 13 18 99 2 333 rfl dX11_init_16 rfl rfl (by decide) rfl (by decide) rfl rfl ⟨Nat.le_of_ble_eq_true rfl, Nat.le_of_ble_eq_true rfl⟩ ?_
  refine R_dup 19 rfl dX11_init_18 rfl ?_
  refine R_iconst 20 rfl dX11_init_19 ?_
  refine R_iconst 21 rfl dX11_init_20 ?_
  refine R_iast 0 22 rfl dX11_init_21 rfl (by first | rfl | omega) (by decide) (by decide) ?_
  refine R_dup 23 rfl dX11_init_22 rfl ?_
  refine R_iconst 24 rfl dX11_init_23 ?_
  refine R_bipush 26 rfl dX11_init_24 (by decide) ?_
  refine R_iast 1 27 rfl dX11_init_26 rfl (by first | rfl | omega) (by decide) (by decide) ?_
  refine R_dup 28 rfl dX11_init_27 rfl ?_
  refine R_iconst 29 rfl dX11_init_28 ?_
  refine R_bipush 31 rfl dX11_init_29 (by decide) ?_
  refine R_iast 2 32 rfl dX11_init_31 rfl (by first | rfl | omega) (by decide) (by decide) ?_
  refine R_dup 33 rfl dX11_init_32 rfl ?_
  refine R_iconst 34 rfl dX11_init_33 ?_
  refine R_bipush 36 rfl dX11_init_34 (by decide) ?_
  refine R_iast 3 37 rfl dX11_init_36 rfl (by first | rfl | omega) (by decide) (by decide) ?_
  refine R_dup 38 rfl dX11_init_37 rfl ?_
  refine R_iconst 39 rfl dX11_init_38 ?_
  refine R_bipush 41 rfl dX11_init_39 (by decide) ?_
  refine R_iast 4 42 rfl dX11_init_41 rfl (by first | rfl | omega) (by decide) (by decide) ?_
  refine R_dup 43 rfl dX11_init_42 rfl ?_
  refine R_iconst 44 rfl dX11_init_43 ?_
  refine R_bipush 46 rfl dX11_init_44 (by decide) ?_
  refine R_iast 5 47 rfl dX11_init_46 rfl (by first | rfl | omega) (by decide) (by decide) ?_
  refine R_dup 48 rfl dX11_init_47 rfl ?_
  refine R_bipush 50 rfl dX11_init_48 (by decide) ?_
  refine R_bipush 52 rfl dX11_init_50 (by decide) ?_
  refine R_iast 6 53 rfl dX11_init_52 rfl (by first | rfl | omega) (by decide) (by decide) ?_
  refine R_dup 54 rfl dX11_init_53 rfl ?_
  refine R_bipush 56 rfl dX11_init_54 (by decide) ?_
  refine R_bipush 58 rfl dX11_init_56 (by decide) ?_
  refine R_iast 7 59 rfl dX11_init_58 rfl (by first | rfl | omega) (by decide) (by decide) ?_
  refine R_dup 60 rfl dX11_init_59 rfl ?_
  refine R_bipush 62 rfl dX11_init_60 (by decide) ?_
  refine R_bipush 64 rfl dX11_init_62 (by decide) ?_
  refine R_iast 8 65 rfl dX11_init_64 rfl (by first | rfl | omega) (by decide) (by decide) ?_
  refine R_dup 66 rfl dX11_init_65 rfl ?_
  refine R_bipush 68 rfl dX11_init_66 (by decide) ?_
  refine R_bipush 70 rfl dX11_init_68 (by decide) ?_
  refine R_iast 9 71 rfl dX11_init_70 rfl (by first | rfl | omega) (by decide) (by decide) ?_
  refine R_dup 72 rfl dX11_init_71 rfl ?_
  refine R_bipush 74 rfl dX11_init_72 (by decide) ?_
  refine R_bipush 76 rfl dX11_init_74 (by decide) ?_
  refine R_iast 10 77 rfl dX11_init_76 rfl (by first | rfl | omega) (by decide) (by decide) ?_
  refine R_dup 78 rfl dX11_init_77 rfl ?_
  refine R_bipush 80 rfl dX11_init_78 (by decide) ?_
  refine R_bipush 82 rfl dX11_init_80 (by decide) ?_
  refine R_iast 11 83 rfl dX11_init_82 rfl (by first | rfl | omega) (by decide) (by decide) ?_
  refine R_dup 84 rfl dX11_init_83 rfl ?_
  refine R_bipush 86 rfl dX11_init_84 (by decide) ?_
  refine R_bipush 88 rfl dX11_init_86 (by decide) ?_
  refine R_iast 12 89 rfl dX11_init_88 rfl (by first | rfl | omega) (by decide) (by decide) ?_
  refine R_putFP 9 92 rfl dX11_init_89 rfl rfl fl_X11_13 rfl rfl ?_
  refine R_aload_n 93 rfl dX11_init_92 rfl ?_
  refine R_bipush 95 rfl dX11_init_93 (by decide) ?_
  refine R_newaI 60 97 100 3 393 rfl dX11_init_95 rfl rfl (by decide) rfl (by decide) rfl rfl ⟨Nat.le_of_ble_eq_true rfl, Nat.le_of_ble_eq_true rfl⟩ ?_
  refine R_dup 98 rfl dX11_init_97 rfl ?_
  refine R_iconst 99 rfl dX11_init_98 ?_
  refine R_bipush 101 rfl dX11_init_99 (by decide) ?_
  refine R_iast 0 102 rfl dX11_init_101 rfl (by first | rfl | omega) (by decide) (by decide) ?_
  refine R_dup 103 rfl dX11_init_102 rfl ?_
  refine R_iconst 104 rfl dX11_init_103 ?_
  refine R_bipush 106 rfl dX11_init_104 (by decide) ?_
  refine R_iast 1 107 rfl dX11_init_106 rfl (by first | rfl | omega) (by decide) (by decide) ?_
  refine R_dup 108 rfl dX11_init_107 rfl ?_
  refine R_iconst 109 rfl dX11_init_108 ?_
  refine R_bipush 111 rfl dX11_init_109 (by decide) ?_
  refine R_iast 2 112 rfl dX11_init_111 rfl (by first | rfl | omega) (by decide) (by decide) ?_
  refine R_dup 113 rfl dX11_init_112 rfl ?_
  refine R_iconst 114 rfl dX11_init_113 ?_
  refine R_bipush 116 rfl dX11_init_114 (by decide) ?_
  refine R_iast 3 117 rfl dX11_init_116 rfl (by first | rfl | omega) (by decide) (by decide) ?_
  refine R_dup 118 rfl dX11_init_117 rfl ?_
  refine R_iconst 119 rfl dX11_init_118 ?_
  refine R_bipush 121 rfl dX11_init_119 (by decide) ?_
  refine R_iast 4 122 rfl dX11_init_121 rfl (by first | rfl | omega) (by decide) (by decide) ?_
  refine R_dup 123 rfl dX11_init_122 rfl ?_
  refine R_iconst 124 rfl dX11_init_123 ?_
  refine R_bipush 126 rfl dX11_init_124 (by decide) ?_
  refine R_iast 5 127 rfl dX11_init_126 rfl (by first | rfl | omega) (by decide) (by decide) ?_
  refine R_dup 128 rfl dX11_init_127 rfl ?_
  refine R_bipush 130 rfl dX11_init_128 (by decide) ?_
  refine R_bipush 132 rfl dX11_init_130 (by decide) ?_
  refine R_iast 6 133 rfl dX11_init_132 rfl (by first | rfl | omega) (by decide) (by decide) ?_
  refine R_dup 134 rfl dX11_init_133 rfl ?_
  refine R_bipush 136 rfl dX11_init_134 (by decide) ?_
  refine R_bipush 138 rfl dX11_init_136 (by decide) ?_
  refine R_iast 7 139 rfl dX11_init_138 rfl (by first | rfl | omega) (by decide) (by decide) ?_
  refine R_dup 140 rfl dX11_init_139 rfl ?_
  refine R_bipush 142 rfl dX11_init_140 (by decide) ?_
  refine R_bipush 144 rfl dX11_init_142 (by decide) ?_
  refine R_iast 8 145 rfl dX11_init_144 rfl (by first | rfl | omega) (by decide) (by decide) ?_
  refine R_dup 146 rfl dX11_init_145 rfl ?_
  refine R_bipush 148 rfl dX11_init_146 (by decide) ?_
  refine R_bipush 150 rfl dX11_init_148 (by decide) ?_
  refine R_iast 9 151 rfl dX11_init_150 rfl (by first | rfl | omega) (by decide) (by decide) ?_
  refine R_dup 152 rfl dX11_init_151 rfl ?_
  refine R_bipush 154 rfl dX11_init_152 (by decide) ?_
  refine R_bipush 156 rfl dX11_init_154 (by decide) ?_
  refine R_iast 10 157 rfl dX11_init_156 rfl (by first | rfl | omega) (by decide) (by decide) ?_
  refine R_dup 158 rfl dX11_init_157 rfl ?_
  refine R_bipush 160 rfl dX11_init_158 (by decide) ?_
  refine R_bipush 162 rfl dX11_init_160 (by decide) ?_
  refine R_iast 11 163 rfl dX11_init_162 rfl (by first | rfl | omega) (by decide) (by decide) ?_
  refine R_dup 164 rfl dX11_init_163 rfl ?_
  refine R_bipush 166 rfl dX11_init_164 (by decide) ?_
  refine R_bipush 168 rfl dX11_init_166 (by decide) ?_
  refine R_iast 12 169 rfl dX11_init_168 rfl (by first | rfl | omega) (by decide) (by decide) ?_
  refine R_dup 170 rfl dX11_init_169 rfl ?_
  refine R_bipush 172 rfl dX11_init_170 (by decide) ?_
  refine R_bipush 174 rfl dX11_init_172 (by decide) ?_
  refine R_iast 13 175 rfl dX11_init_174 rfl (by first | rfl | omega) (by decide) (by decide) ?_
  refine R_dup 176 rfl dX11_init_175 rfl ?_
  refine R_bipush 178 rfl dX11_init_176 (by decide) ?_
  refine R_bipush 180 rfl dX11_init_178 (by decide) ?_
  refine R_iast 14 181 rfl dX11_init_180 rfl (by first | rfl | omega) (by decide) (by decide) ?_
  refine R_dup 182 rfl dX11_init_181 rfl ?_
  refine R_bipush 184 rfl dX11_init_182 (by decide) ?_
  refine R_bipush 186 rfl dX11_init_184 (by decide) ?_
  refine R_iast 15 187 rfl dX11_init_186 rfl (by first | rfl | omega) (by decide) (by decide) ?_
  refine R_dup 188 rfl dX11_init_187 rfl ?_
  refine R_bipush 190 rfl dX11_init_188 (by decide) ?_
  refine R_bipush 192 rfl dX11_init_190 (by decide) ?_
  refine R_iast 16 193 rfl dX11_init_192 rfl (by first | rfl | omega) (by decide) (by decide) ?_
  refine R_dup 194 rfl dX11_init_193 rfl ?_
  refine R_bipush 196 rfl dX11_init_194 (by decide) ?_
  refine R_bipush 198 rfl dX11_init_196 (by decide) ?_
  refine R_iast 17 199 rfl dX11_init_198 rfl (by first | rfl | omega) (by decide) (by decide) ?_
  refine R_dup 200 rfl dX11_init_199 rfl ?_
  refine R_bipush 202 rfl dX11_init_200 (by decide) ?_
  refine R_bipush 204 rfl dX11_init_202 (by decide) ?_
  refine R_iast 18 205 rfl dX11_init_204 rfl (by first | rfl | omega) (by decide) (by decide) ?_
  refine R_dup 206 rfl dX11_init_205 rfl ?_
  refine R_bipush 208 rfl dX11_init_206 (by decide) ?_
  refine R_bipush 210 rfl dX11_init_208 (by decide) ?_
  refine R_iast 19 211 rfl dX11_init_210 rfl (by first | rfl | omega) (by decide) (by decide) ?_
  refine R_dup 212 rfl dX11_init_211 rfl ?_
  refine R_bipush 214 rfl dX11_init_212 (by decide) ?_
  refine R_bipush 216 rfl dX11_init_214 (by decide) ?_
  refine R_iast 20 217 rfl dX11_init_216 rfl (by first | rfl | omega) (by decide) (by decide) ?_
  refine R_dup 218 rfl dX11_init_217 rfl ?_
  refine R_bipush 220 rfl dX11_init_218 (by decide) ?_
  refine R_bipush 222 rfl dX11_init_220 (by decide) ?_
  refine R_iast 21 223 rfl dX11_init_222 rfl (by first | rfl | omega) (by decide) (by decide) ?_
  refine R_dup 224 rfl dX11_init_223 rfl ?_
  refine R_bipush 226 rfl dX11_init_224 (by decide) ?_
  refine R_bipush 228 rfl dX11_init_226 (by decide) ?_
  refine R_iast 22 229 rfl dX11_init_228 rfl (by first | rfl | omega) (by decide) (by decide) ?_
  refine R_dup 230 rfl dX11_init_229 rfl ?_
  refine R_bipush 232 rfl dX11_init_230 (by decide) ?_
  refine R_bipush 234 rfl dX11_init_232 (by decide) ?_
  refine R_iast 23 235 rfl dX11_init_234 rfl (by first | rfl | omega) (by decide) (by decide) ?_
  refine R_dup 236 rfl dX11_init_235 rfl ?_
  refine R_bipush 238 rfl dX11_init_236 (by decide) ?_
  refine R_bipush 240 rfl dX11_init_238 (by decide) ?_
  refine R_iast 24 241 rfl dX11_init_240 rfl (by first | rfl | omega) (by decide) (by decide) ?_
  refine R_dup 242 rfl dX11_init_241 rfl ?_
  refine R_bipush 244 rfl dX11_init_242 (by decide) ?_
  refine R_bipush 246 rfl dX11_init_244 (by decide) ?_
  refine R_iast 25 247 rfl dX11_init_246 rfl (by first | rfl | omega) (by decide) (by decide) ?_
  refine R_dup 248 rfl dX11_init_247 rfl ?_
  refine R_bipush 250 rfl dX11_init_248 (by decide) ?_
  refine R_bipush 252 rfl dX11_init_250 (by decide) ?_
  refine R_iast 26 253 rfl dX11_init_252 rfl (by first | rfl | omega) (by decide) (by decide) ?_
  refine R_dup 254 rfl dX11_init_253 rfl ?_
  refine R_bipush 256 rfl dX11_init_254 (by decide) ?_
  refine R_bipush 258 rfl dX11_init_256 (by decide) ?_
  refine R_iast 27 259 rfl dX11_init_258 rfl (by first | rfl | omega) (by decide) (by decide) ?_
  refine R_dup 260 rfl dX11_init_259 rfl ?_
  refine R_bipush 262 rfl dX11_init_260 (by decide) ?_
  refine R_bipush 264 rfl dX11_init_262 (by decide) ?_
  refine R_iast 28 265 rfl dX11_init_264 rfl (by first | rfl | omega) (by decide) (by decide) ?_
  refine R_dup 266 rfl dX11_init_265 rfl ?_
  refine R_bipush 268 rfl dX11_init_266 (by decide) ?_
  refine R_bipush 270 rfl dX11_init_268 (by decide) ?_
  refine R_iast 29 271 rfl dX11_init_270 rfl (by first | rfl | omega) (by decide) (by decide) ?_
  refine R_dup 272 rfl dX11_init_271 rfl ?_
  refine R_bipush 274 rfl dX11_init_272 (by decide) ?_
  refine R_bipush 276 rfl dX11_init_274 (by decide) ?_
  refine R_iast 30 277 rfl dX11_init_276 rfl (by first | rfl | omega) (by decide) (by decide) ?_
  refine R_dup 278 rfl dX11_init_277 rfl ?_
  refine R_bipush 280 rfl dX11_init_278 (by decide) ?_
  refine R_bipush 282 rfl dX11_init_280 (by decide) ?_
  refine R_iast 31 283 rfl dX11_init_282 rfl (by first | rfl | omega) (by decide) (by decide) ?_
  refine R_dup 284 rfl dX11_init_283 rfl ?_
  refine R_bipush 286 rfl dX11_init_284 (by decide) ?_
  refine R_bipush 288 rfl dX11_init_286 (by decide) ?_
  refine R_iast 32 289 rfl dX11_init_288 rfl (by first | rfl | omega) (by decide) (by decide) ?_
  refine R_dup 290 rfl dX11_init_289 rfl ?_
  refine R_bipush 292 rfl dX11_init_290 (by decide) ?_
  refine R_bipush 294 rfl dX11_init_292 (by decide) ?_
  refine R_iast 33 295 rfl dX11_init_294 rfl (by first | rfl | omega) (by decide) (by decide) ?_
  refine R_dup 296 rfl dX11_init_295 rfl ?_
  refine R_bipush 298 rfl dX11_init_296 (by decide) ?_
  refine R_bipush 300 rfl dX11_init_298 (by decide) ?_
  refine R_iast 34 301 rfl dX11_init_300 rfl (by first | rfl | omega) (by decide) (by decide) ?_
  refine R_dup 302 rfl dX11_init_301 rfl ?_
  refine R_bipush 304 rfl dX11_init_302 (by decide) ?_
  refine R_bipush 306 rfl dX11_init_304 (by decide) ?_
  refine R_iast 35 307 rfl dX11_init_306 rfl (by first | rfl | omega) (by decide) (by decide) ?_
  refine R_dup 308 rfl dX11_init_307 rfl ?_
  refine R_bipush 310 rfl dX11_init_308 (by decide) ?_
  refine R_bipush 312 rfl dX11_init_310 (by decide) ?_
  refine R_iast 36 313 rfl dX11_init_312 rfl (by first | rfl | omega) (by decide) (by decide) ?_
  refine R_dup 314 rfl dX11_init_313 rfl ?_
  refine R_bipush 316 rfl dX11_init_314 (by decide) ?_
  refine R_bipush 318 rfl dX11_init_316 (by decide) ?_
  refine R_iast 37 319 rfl dX11_init_318 rfl (by first | rfl | omega) (by decide) (by decide) ?_
  refine R_dup 320 rfl dX11_init_319 rfl ?_
  refine R_bipush 322 rfl dX11_init_320 (by decide) ?_
  refine R_bipush 324 rfl dX11_init_322 (by decide) ?_
  refine R_iast 38 325 rfl dX11_init_324 rfl (by first | rfl | omega) (by decide) (by decide) ?_
  refine R_dup 326 rfl dX11_init_325 rfl ?_
  refine R_bipush 328 rfl dX11_init_326 (by decide) ?_
  refine R_bipush 330 rfl dX11_init_328 (by decide) ?_
  refine R_iast 39 331 rfl dX11_init_330 rfl (by first | rfl | omega) (by decide) (by decide) ?_
  refine R_dup 332 rfl dX11_init_331 rfl ?_
  refine R_bipush 334 rfl dX11_init_332 (by decide) ?_
  refine R_bipush 336 rfl dX11_init_334 (by decide) ?_
  refine R_iast 40 337 rfl dX11_init_336 rfl (by first | rfl | omega) (by decide) (by decide) ?_
  refine R_dup 338 rfl dX11_init_337 rfl ?_
  refine R_bipush 340 rfl dX11_init_338 (by decide) ?_
  refine R_bipush 342 rfl dX11_init_340 (by decide) ?_
  refine R_iast 41 343 rfl dX11_init_342 rfl (by first | rfl | omega) (by decide) (by decide) ?_
  refine R_dup 344 rfl dX11_init_343 rfl ?_
  refine R_bipush 346 rfl dX11_init_344 (by decide) ?_
  refine R_bipush 348 rfl dX11_init_346 (by decide) ?_
  refine R_iast 42 349 rfl dX11_init_348 rfl (by first | rfl | omega) (by decide) (by decide) ?_
  refine R_dup 350 rfl dX11_init_349 rfl ?_
  refine R_bipush 352 rfl dX11_init_350 (by decide) ?_
  refine R_bipush 354 rfl dX11_init_352 (by decide) ?_
  refine R_iast 43 355 rfl dX11_init_354 rfl (by first | rfl | omega) (by decide) (by decide) ?_
  refine R_dup 356 rfl dX11_init_355 rfl ?_
  refine R_bipush 358 rfl dX11_init_356 (by decide) ?_
  refine R_bipush 360 rfl dX11_init_358 (by decide) ?_
  refine R_iast 44 361 rfl dX11_init_360 rfl (by first | rfl | omega) (by decide) (by decide) ?_
  refine R_dup 362 rfl dX11_init_361 rfl ?_
  refine R_bipush 364 rfl dX11_init_362 (by decide) ?_
  refine R_bipush 366 rfl dX11_init_364 (by decide) ?_
  refine R_iast 45 367 rfl dX11_init_366 rfl (by first | rfl | omega) (by decide) (by decide) ?_
  refine R_dup 368 rfl dX11_init_367 rfl ?_
  refine R_bipush 370 rfl dX11_init_368 (by decide) ?_
  refine R_bipush 372 rfl dX11_init_370 (by decide) ?_
  refine R_iast 46 373 rfl dX11_init_372 rfl (by first | rfl | omega) (by decide) (by decide) ?_
  refine R_dup 374 rfl dX11_init_373 rfl ?_
  refine R_bipush 376 rfl dX11_init_374 (by decide) ?_
  refine R_bipush 378 rfl dX11_init_376 (by decide) ?_
  refine R_iast 47 379 rfl dX11_init_378 rfl (by first | rfl | omega) (by decide) (by decide) ?_
  refine R_dup 380 rfl dX11_init_379 rfl ?_
  refine R_bipush 382 rfl dX11_init_380 (by decide) ?_
  refine R_bipush 384 rfl dX11_init_382 (by decide) ?_
  refine R_iast 48 385 rfl dX11_init_384 rfl (by first | rfl | omega) (by decide) (by decide) ?_
  refine R_dup 386 rfl dX11_init_385 rfl ?_
  refine R_bipush 388 rfl dX11_init_386 (by decide) ?_
  refine R_bipush 390 rfl dX11_init_388 (by decide) ?_
  refine R_iast 49 391 rfl dX11_init_390 rfl (by first | rfl | omega) (by decide) (by decide) ?_
  refine R_dup 392 rfl dX11_init_391 rfl ?_
  refine R_bipush 394 rfl dX11_init_392 (by decide) ?_
  refine R_bipush 396 rfl dX11_init_394 (by decide) ?_
  refine R_iast 50 397 rfl dX11_init_396 rfl (by first | rfl | omega) (by decide) (by decide) ?_
  refine R_dup 398 rfl dX11_init_397 rfl ?_
  refine R_bipush 400 rfl dX11_init_398 (by decide) ?_
  refine R_bipush 402 rfl dX11_init_400 (by decide) ?_
  refine R_iast 51 403 rfl dX11_init_402 rfl (by first | rfl | omega) (by decide) (by decide) ?_
  refine R_dup 404 rfl dX11_init_403 rfl ?_
  refine R_bipush 406 rfl dX11_init_404 (by decide) ?_
  refine R_bipush 408 rfl dX11_init_406 (by decide) ?_
  refine R_iast 52 409 rfl dX11_init_408 rfl (by first | rfl | omega) (by decide) (by decide) ?_
  refine R_dup 410 rfl dX11_init_409 rfl ?_
  refine R_bipush 412 rfl dX11_init_410 (by decide) ?_
  refine R_bipush 414 rfl dX11_init_412 (by decide) ?_
  refine R_iast 53 415 rfl dX11_init_414 rfl (by first | rfl | omega) (by decide) (by decide) ?_
  refine R_dup 416 rfl dX11_init_415 rfl ?_
  refine R_bipush 418 rfl dX11_init_416 (by decide) ?_
  refine R_bipush 420 rfl dX11_init_418 (by decide) ?_
  refine R_iast 54 421 rfl dX11_init_420 rfl (by first | rfl | omega) (by decide) (by decide) ?_
  refine R_dup 422 rfl dX11_init_421 rfl ?_
  refine R_bipush 424 rfl dX11_init_422 (by decide) ?_
  refine R_bipush 426 rfl dX11_init_424 (by decide) ?_
  refine R_iast 55 427 rfl dX11_init_426 rfl (by first | rfl | omega) (by decide) (by decide) ?_
  refine R_dup 428 rfl dX11_init_427 rfl ?_
  refine R_bipush 430 rfl dX11_init_428 (by decide) ?_
  refine R_bipush 432 rfl dX11_init_430 (by decide) ?_
  refine R_iast 56 433 rfl dX11_init_432 rfl (by first | rfl | omega) (by decide) (by decide) ?_
  refine R_dup 434 rfl dX11_init_433 rfl ?_
  refine R_bipush 436 rfl dX11_init_434 (by decide) ?_
  refine R_bipush 438 rfl dX11_init_436 (by decide) ?_
  refine R_iast 57 439 rfl dX11_init_438 rfl (by first | rfl | omega) (by decide) (by decide) ?_
  refine R_dup 440 rfl dX11_init_439 rfl ?_
  refine R_bipush 442 rfl dX11_init_440 (by decide) ?_
  refine R_bipush 444 rfl dX11_init_442 (by decide) ?_
  refine R_iast 58 445 rfl dX11_init_444 rfl (by first | rfl | omega) (by decide) (by decide) ?_
  refine R_dup 446 rfl dX11_init_445 rfl ?_
  refine R_bipush 448 rfl dX11_init_446 (by decide) ?_
  refine R_bipush 450 rfl dX11_init_448 (by decide) ?_
  refine R_iast 59 451 rfl dX11_init_450 rfl (by first | rfl | omega) (by decide) (by decide) ?_
  refine R_putFP 10 454 rfl dX11_init_451 rfl rfl fl_X11_16 rfl rfl ?_
  refine R_aload_n 455 rfl dX11_init_454 rfl ?_
  refine R_bipush 457 rfl dX11_init_455 (by decide) ?_
  refine R_newaI 11 459 101 4 404 rfl dX11_init_457 rfl rfl (by decide) rfl (by decide) rfl rfl ⟨Nat.le_of_ble_eq_true rfl, Nat.le_of_ble_eq_true rfl⟩ ?_
  refine R_dup 460 rfl dX11_init_459 rfl ?_
  refine R_iconst 461 rfl dX11_init_460 ?_
  refine R_iconst 462 rfl dX11_init_461 ?_
  refine R_iast 0 463 rfl dX11_init_462 rfl (by first | rfl | omega) (by decide) (by decide) ?_
  refine R_dup 464 rfl dX11_init_463 rfl ?_
  refine R_iconst 465 rfl dX11_init_464 ?_
  refine R_iconst 466 rfl dX11_init_465 ?_
  refine R_iast 1 467 rfl dX11_init_466 rfl (by first | rfl | omega) (by decide) (by decide) ?_
  refine R_dup 468 rfl dX11_init_467 rfl ?_
  refine R_iconst 469 rfl dX11_init_468 ?_
  refine R_bipush 471 rfl dX11_init_469 (by decide) ?_
  refine R_iast 2 472 rfl dX11_init_471 rfl (by first | rfl | omega) (by decide) (by decide) ?_
  refine R_dup 473 rfl dX11_init_472 rfl ?_
  refine R_iconst 474 rfl dX11_init_473 ?_
  refine R_bipush 476 rfl dX11_init_474 (by decide) ?_
  refine R_iast 3 477 rfl dX11_init_476 rfl (by first | rfl | omega) (by decide) (by decide) ?_
  refine R_dup 478 rfl dX11_init_477 rfl ?_
  refine R_iconst 479 rfl dX11_init_478 ?_
  refine R_bipush 481 rfl dX11_init_479 (by decide) ?_
  refine R_iast 4 482 rfl dX11_init_481 rfl (by first | rfl | omega) (by decide) (by decide) ?_
  refine R_dup 483 rfl dX11_init_482 rfl ?_
  refine R_iconst 484 rfl dX11_init_483 ?_
  refine R_iconst 485 rfl dX11_init_484 ?_
  refine R_iast 5 486 rfl dX11_init_485 rfl (by first | rfl | omega) (by decide) (by decide) ?_
  refine R_dup 487 rfl dX11_init_486 rfl ?_
  refine R_bipush 489 rfl dX11_init_487 (by decide) ?_
  refine R_iconst 490 rfl dX11_init_489 ?_
  refine R_iast 6 491 rfl dX11_init_490 rfl (by first | rfl | omega) (by decide) (by decide) ?_
  refine R_dup 492 rfl dX11_init_491 rfl ?_
  refine R_bipush 494 rfl dX11_init_492 (by decide) ?_
  refine R_iconst 495 rfl dX11_init_494 ?_
  refine R_iast 7 496 rfl dX11_init_495 rfl (by first | rfl | omega) (by decide) (by decide) ?_
  refine R_dup 497 rfl dX11_init_496 rfl ?_
  refine R_bipush 499 rfl dX11_init_497 (by decide) ?_
  refine R_iconst 500 rfl dX11_init_499 ?_
  refine R_iast 8 501 rfl dX11_init_500 rfl (by first | rfl | omega) (by decide) (by decide) ?_
  refine R_dup 502 rfl dX11_init_501 rfl ?_
  refine R_bipush 504 rfl dX11_init_502 (by decide) ?_
  refine R_iconst 505 rfl dX11_init_504 ?_
  refine R_iast 9 506 rfl dX11_init_505 rfl (by first | rfl | omega) (by decide) (by decide) ?_
  refine R_dup 507 rfl dX11_init_506 rfl ?_
  refine R_bipush 509 rfl dX11_init_507 (by decide) ?_
  refine R_iconst 510 rfl dX11_init_509 ?_
  refine R_iast 10 511 rfl dX11_init_510 rfl (by first | rfl | omega) (by decide) (by decide) ?_
  refine R_putFP 11 514 rfl dX11_init_511 rfl rfl fl_X11_19 rfl rfl ?_
  refine R_aload_n 515 rfl dX11_init_514 rfl ?_
  refine R_bipush 517 rfl dX11_init_515 (by decide) ?_
  refine R_newaI 11 519 102 5 415 rfl dX11_init_517 rfl rfl (by decide) rfl (by decide) rfl rfl ⟨Nat.le_of_ble_eq_true rfl, Nat.le_of_ble_eq_true rfl⟩ ?_
  refine R_dup 520 rfl dX11_init_519 rfl ?_
  refine R_iconst 521 rfl dX11_init_520 ?_
  refine R_iconst 522 rfl dX11_init_521 ?_
  refine R_iast 0 523 rfl dX11_init_522 rfl (by first | rfl | omega) (by decide) (by decide) ?_
  refine R_dup 524 rfl dX11_init_523 rfl ?_
  refine R_iconst 525 rfl dX11_init_524 ?_
  refine R_iconst 526 rfl dX11_init_525 ?_
  refine R_iast 1 527 rfl dX11_init_526 rfl (by first | rfl | omega) (by decide) (by decide) ?_
  refine R_dup 528 rfl dX11_init_527 rfl ?_
  refine R_iconst 529 rfl dX11_init_528 ?_
  refine R_bipush 531 rfl dX11_init_529 (by decide) ?_
  refine R_iast 2 532 rfl dX11_init_531 rfl (by first | rfl | omega) (by decide) (by decide) ?_
  refine R_dup 533 rfl dX11_init_532 rfl ?_
  refine R_iconst 534 rfl dX11_init_533 ?_
  refine R_bipush 536 rfl dX11_init_534 (by decide) ?_
  refine R_iast 3 537 rfl dX11_init_536 rfl (by first | rfl | omega) (by decide) (by decide) ?_
  refine R_dup 538 rfl dX11_init_537 rfl ?_
  refine R_iconst 539 rfl dX11_init_538 ?_
  refine R_bipush 541 rfl dX11_init_539 (by decide) ?_
  refine R_iast 4 542 rfl dX11_init_541 rfl (by first | rfl | omega) (by decide) (by decide) ?_
  refine R_dup 543 rfl dX11_init_542 rfl ?_
  refine R_iconst 544 rfl dX11_init_543 ?_
  refine R_iconst 545 rfl dX11_init_544 ?_
  refine R_iast 5 546 rfl dX11_init_545 rfl (by first | rfl | omega) (by decide) (by decide) ?_
  refine R_dup 547 rfl dX11_init_546 rfl ?_
  refine R_bipush 549 rfl dX11_init_547 (by decide) ?_
  refine R_iconst 550 rfl dX11_init_549 ?_
  refine R_iast 6 551 rfl dX11_init_550 rfl (by first | rfl | omega) (by decide) (by decide) ?_
  refine R_dup 552 rfl dX11_init_551 rfl ?_
  refine R_bipush 554 rfl dX11_init_552 (by decide) ?_
  refine R_iconst 555 rfl dX11_init_554 ?_
  refine R_iast 7 556 rfl dX11_init_555 rfl (by first | rfl | omega) (by decide) (by decide) ?_
  refine R_dup 557 rfl dX11_init_556 rfl ?_
  refine R_bipush 559 rfl dX11_init_557 (by decide) ?_
  refine R_iconst 560 rfl dX11_init_559 ?_
  refine R_iast 8 561 rfl dX11_init_560 rfl (by first | rfl | omega) (by decide) (by decide) ?_
  refine R_dup 562 rfl dX11_init_561 rfl ?_
  refine R_bipush 564 rfl dX11_init_562 (by decide) ?_
  refine R_iconst 565 rfl dX11_init_564 ?_
  refine R_iast 9 566 rfl dX11_init_565 rfl (by first | rfl | omega) (by decide) (by decide) ?_
  refine R_dup 567 rfl dX11_init_566 rfl ?_
  refine R_bipush 569 rfl dX11_init_567 (by decide) ?_
  refine R_iconst 570 rfl dX11_init_569 ?_
  refine R_iast 10 571 rfl dX11_init_570 rfl (by first | rfl | omega) (by decide) (by decide) ?_
  refine R_putFP 12 574 rfl dX11_init_571 rfl rfl fl_X11_22 rfl rfl ?_
  refine R_aload_n 575 rfl dX11_init_574 rfl ?_
  refine R_bipush 577 rfl dX11_init_575 (by decide) ?_
  refine R_newaI 48 579 103 6 463 rfl dX11_init_577 rfl rfl (by decide) rfl (by decide) rfl rfl ⟨Nat.le_of_ble_eq_true rfl, Nat.le_of_ble_eq_true rfl⟩ ?_
  refine R_putFP 13 582 rfl dX11_init_579 rfl rfl fl_X11_25 rfl rfl ?_
  refine R_aload_n 583 rfl dX11_init_582 rfl ?_
  refine R_bipush 585 rfl dX11_init_583 (by decide) ?_
  refine R_newaI 40 587 104 7 503 rfl dX11_init_585 rfl rfl (by decide) rfl (by decide) rfl rfl ⟨Nat.le_of_ble_eq_true rfl, Nat.le_of_ble_eq_true rfl⟩ ?_
  refine R_putFP 14 590 rfl dX11_init_587 rfl rfl fl_X11_28 rfl rfl ?_
  refine R_aload_n 591 rfl dX11_init_590 rfl ?_
  refine R_bipush 593 rfl dX11_init_591 (by decide) ?_
  refine R_newaI 11 595 105 8 514 rfl dX11_init_593 rfl rfl (by decide) rfl (by decide) rfl rfl ⟨Nat.le_of_ble_eq_true rfl, Nat.le_of_ble_eq_true rfl⟩ ?_
  refine R_putFP 15 598 rfl dX11_init_595 rfl rfl fl_X11_31 rfl rfl ?_
  refine R_aload_n 599 rfl dX11_init_598 rfl ?_
  refine R_bipush 601 rfl dX11_init_599 (by decide) ?_
  refine R_newaI 48 603 106 9 562 rfl dX11_init_601 rfl rfl (by decide) rfl (by decide) rfl rfl ⟨Nat.le_of_ble_eq_true rfl, Nat.le_of_ble_eq_true rfl⟩ ?_
  refine R_putFP 16 606 rfl dX11_init_603 rfl rfl fl_X11_34 rfl rfl ?_
  refine R_aload_n 607 rfl dX11_init_606 rfl ?_
  refine R_bipush 609 rfl dX11_init_607 (by decide) ?_
  refine R_newaI 40 611 107 10 602 rfl dX11_init_609 rfl rfl (by decide) rfl (by decide) rfl rfl ⟨Nat.le_of_ble_eq_true rfl, Nat.le_of_ble_eq_true rfl⟩ ?_
  refine R_putFP 17 614 rfl dX11_init_611 rfl rfl fl_X11_37 rfl rfl ?_
  refine R_aload_n 615 rfl dX11_init_614 rfl ?_
  refine R_sipush 618 rfl dX11_init_615 (by decide) ?_
  refine R_newaI 1980 620 108 11 2582 rfl dX11_init_618 rfl rfl (by decide) rfl (by decide) rfl rfl ⟨Nat.le_of_ble_eq_true rfl, Nat.le_of_ble_eq_true rfl⟩ ?_
  refine R_putFP 19 623 rfl dX11_init_620 rfl rfl fl_X11_40 rfl rfl ?_
  refine R_aload_n 624 rfl dX11_init_623 rfl ?_
  refine R_bipush 626 rfl dX11_init_624 (by decide) ?_
  refine R_newaI 80 628 109 12 2662 rfl dX11_init_626 rfl rfl (by decide) rfl (by decide) rfl rfl ⟨Nat.le_of_ble_eq_true rfl, Nat.le_of_ble_eq_true rfl⟩ ?_
  refine R_putFP 21 631 rfl dX11_init_628 rfl rfl fl_X11_43 rfl rfl ?_
  refine R_aload_n 632 rfl dX11_init_631 rfl ?_
  refine R_iconst 633 rfl dX11_init_632 ?_
  refine R_newaZ 2 635 110 13 2664 rfl dX11_init_633 rfl rfl (by decide) rfl (by decide) rfl rfl ⟨Nat.le_of_ble_eq_true rfl, Nat.le_of_ble_eq_true rfl⟩ ?_
  refine R_putFP 30 638 rfl dX11_init_635 rfl rfl fl_X11_46 rfl rfl ?_
  refine R_aload_n 639 rfl dX11_init_638 rfl ?_
  refine R_iconst 640 rfl dX11_init_639 ?_
  refine R_newaI 4 642 111 14 2668 rfl dX11_init_640 rfl rfl (by decide) rfl (by decide) rfl rfl ⟨Nat.le_of_ble_eq_true rfl, Nat.le_of_ble_eq_true rfl⟩ ?_
  refine R_dup 643 rfl dX11_init_642 rfl ?_
  refine R_iconst 644 rfl dX11_init_643 ?_
  refine R_bipush 646 rfl dX11_init_644 (by decide) ?_
  refine R_iast 0 647 rfl dX11_init_646 rfl (by first | rfl | omega) (by decide) (by decide) ?_
  refine R_dup 648 rfl dX11_init_647 rfl ?_
  refine R_iconst 649 rfl dX11_init_648 ?_
  refine R_bipush 651 rfl dX11_init_649 (by decide) ?_
  refine R_iast 1 652 rfl dX11_init_651 rfl (by first | rfl | omega) (by decide) (by decide) ?_
  refine R_dup 653 rfl dX11_init_652 rfl ?_
  refine R_iconst 654 rfl dX11_init_653 ?_
  refine R_bipush 656 rfl dX11_init_654 (by decide) ?_
  refine R_iast 2 657 rfl dX11_init_656 rfl (by first | rfl | omega) (by decide) (by decide) ?_
  refine R_dup 658 rfl dX11_init_657 rfl ?_
  refine R_iconst 659 rfl dX11_init_658 ?_
  refine R_bipush 661 rfl dX11_init_659 (by decide) ?_
  refine R_iast 3 662 rfl dX11_init_661 rfl (by first | rfl | omega) (by decide) (by decide) ?_
  refine R_putFP 31 665 rfl dX11_init_662 rfl rfl fl_X11_50 rfl rfl ?_
  refine R_aload_n 666 rfl dX11_init_665 rfl ?_
  refine R_iconst 667 rfl dX11_init_666 ?_
  refine R_newaI 4 669 112 15 2672 rfl dX11_init_667 rfl rfl (by decide) rfl (by decide) rfl rfl ⟨Nat.le_of_ble_eq_true rfl, Nat.le_of_ble_eq_true rfl⟩ ?_
  refine R_putFP 32 672 rfl dX11_init_669 rfl rfl fl_X11_53 rfl rfl ?_
  refine R_aload_n 673 rfl dX11_init_672 rfl ?_
  refine R_sipush 676 rfl dX11_init_673 (by decide) ?_
  refine R_newaI 240 678 113 16 2912 rfl dX11_init_676 rfl rfl (by decide) rfl (by decide) rfl rfl ⟨Nat.le_of_ble_eq_true rfl, Nat.le_of_ble_eq_true rfl⟩ ?_
  refine R_putFP 33 681 rfl dX11_init_678 rfl rfl fl_X11_56 rfl rfl ?_
  refine R_return dX11_init_681 rfl ?_
  refine QV_mk ⟨?_, rfl, rfl, ⟨h96 1, h96 2, h96 20, h96 34⟩, fun i => rfl, fun i => rfl, fun i => rfl⟩
  repeat (first | refine Fz.si ?_ (by decide) | refine Fz.sp ?_ (by decide) | refine Fz.nm ?_ (by decide))
  exact Fz.rf
end
