theorem dX10_init_0 : decode cX10_init 0 = .ok (.aload_n 0, 1) := by decide +kernel
theorem dX10_init_1 : decode cX10_init 1 = .ok (.invokespecial 1, 3) := by decide +kernel
theorem dX10_init_4 : decode cX10_init 4 = .ok (.aload_n 0, 1) := by decide +kernel
theorem dX10_init_5 : decode cX10_init 5 = .ok (.sipush 3100, 3) := by decide +kernel
theorem dX10_init_8 : decode cX10_init 8 = .ok (.newarray .int, 2) := by decide +kernel
theorem dX10_init_10 : decode cX10_init 10 = .ok (.putfield 9, 3) := by decide +kernel
theorem dX10_init_13 : decode cX10_init 13 = .ok (.aload_n 0, 1) := by decide +kernel
theorem dX10_init_14 : decode cX10_init 14 = .ok (.sipush 3100, 3) := by decide +kernel
theorem dX10_init_17 : decode cX10_init 17 = .ok (.newarray .int, 2) := by decide +kernel
theorem dX10_init_19 : decode cX10_init 19 = .ok (.putfield 13, 3) := by decide +kernel
theorem dX10_init_22 : decode cX10_init 22 = .ok (.aload_n 0, 1) := by decide +kernel
theorem dX10_init_23 : decode cX10_init 23 = .ok (.sipush 202, 3) := by decide +kernel
theorem dX10_init_26 : decode cX10_init 26 = .ok (.newarray .int, 2) := by decide +kernel
theorem dX10_init_28 : decode cX10_init 28 = .ok (.putfield 16, 3) := by decide +kernel
theorem dX10_init_31 : decode cX10_init 31 = .ok (.aload_n 0, 1) := by decide +kernel
theorem dX10_init_32 : decode cX10_init 32 = .ok (.sipush 202, 3) := by decide +kernel
theorem dX10_init_35 : decode cX10_init 35 = .ok (.newarray .int, 2) := by decide +kernel
theorem dX10_init_37 : decode cX10_init 37 = .ok (.putfield 19, 3) := by decide +kernel
theorem dX10_init_40 : decode cX10_init 40 = .ok (.aload_n 0, 1) := by decide +kernel
theorem dX10_init_41 : decode cX10_init 41 = .ok (.sipush 202, 3) := by decide +kernel
theorem dX10_init_44 : decode cX10_init 44 = .ok (.newarray .int, 2) := by decide +kernel
theorem dX10_init_46 : decode cX10_init 46 = .ok (.putfield 22, 3) := by decide +kernel
theorem dX10_init_49 : decode cX10_init 49 = .ok (.aload_n 0, 1) := by decide +kernel
theorem dX10_init_50 : decode cX10_init 50 = .ok (.sipush 202, 3) := by decide +kernel
theorem dX10_init_53 : decode cX10_init 53 = .ok (.newarray .int, 2) := by decide +kernel
theorem dX10_init_55 : decode cX10_init 55 = .ok (.putfield 25, 3) := by decide +kernel
theorem dX10_init_58 : decode cX10_init 58 = .ok (.aload_n 0, 1) := by decide +kernel
theorem dX10_init_59 : decode cX10_init 59 = .ok (.sipush 202, 3) := by decide +kernel
theorem dX10_init_62 : decode cX10_init 62 = .ok (.newarray .int, 2) := by decide +kernel
theorem dX10_init_64 : decode cX10_init 64 = .ok (.putfield 28, 3) := by decide +kernel
theorem dX10_init_67 : decode cX10_init 67 = .ok (.aload_n 0, 1) := by decide +kernel
theorem dX10_init_68 : decode cX10_init 68 = .ok (.sipush 202, 3) := by decide +kernel
theorem dX10_init_71 : decode cX10_init 71 = .ok (.newarray .int, 2) := by decide +kernel
theorem dX10_init_73 : decode cX10_init 73 = .ok (.putfield 31, 3) := by decide +kernel
theorem dX10_init_76 : decode cX10_init 76 = .ok (.aload_n 0, 1) := by decide +kernel
theorem dX10_init_77 : decode cX10_init 77 = .ok (.sipush 202, 3) := by decide +kernel
theorem dX10_init_80 : decode cX10_init 80 = .ok (.newarray .int, 2) := by decide +kernel
theorem dX10_init_82 : decode cX10_init 82 = .ok (.putfield 34, 3) := by decide +kernel
theorem dX10_init_85 : decode cX10_init 85 = .ok (.aload_n 0, 1) := by decide +kernel
theorem dX10_init_86 : decode cX10_init 86 = .ok (.sipush 202, 3) := by decide +kernel
theorem dX10_init_89 : decode cX10_init 89 = .ok (.newarray .int, 2) := by decide +kernel
theorem dX10_init_91 : decode cX10_init 91 = .ok (.putfield 37, 3) := by decide +kernel
theorem dX10_init_94 : decode cX10_init 94 = .ok (.aload_n 0, 1) := by decide +kernel
theorem dX10_init_95 : decode cX10_init 95 = .ok (.sipush 202, 3) := by decide +kernel
theorem dX10_init_98 : decode cX10_init 98 = .ok (.newarray .int, 2) := by decide +kernel
theorem dX10_init_100 : decode cX10_init 100 = .ok (.putfield 40, 3) := by decide +kernel
theorem dX10_init_103 : decode cX10_init 103 = .ok (.aload_n 0, 1) := by decide +kernel
theorem dX10_init_104 : decode cX10_init 104 = .ok (.sipush 202, 3) := by decide +kernel
theorem dX10_init_107 : decode cX10_init 107 = .ok (.newarray .int, 2) := by decide +kernel
theorem dX10_init_109 : decode cX10_init 109 = .ok (.putfield 43, 3) := by decide +kernel
theorem dX10_init_112 : decode cX10_init 112 = .ok (.aload_n 0, 1) := by decide +kernel
theorem dX10_init_113 : decode cX10_init 113 = .ok (.sipush 808, 3) := by decide +kernel
theorem dX10_init_116 : decode cX10_init 116 = .ok (.newarray .int, 2) := by decide +kernel
theorem dX10_init_118 : decode cX10_init 118 = .ok (.putfield 46, 3) := by decide +kernel
theorem dX10_init_121 : decode cX10_init 121 = .ok (.aload_n 0, 1) := by decide +kernel
theorem dX10_init_122 : decode cX10_init 122 = .ok (.sipush 808, 3) := by decide +kernel
theorem dX10_init_125 : decode cX10_init 125 = .ok (.newarray .int, 2) := by decide +kernel
theorem dX10_init_127 : decode cX10_init 127 = .ok (.putfield 49, 3) := by decide +kernel
theorem dX10_init_130 : decode cX10_init 130 = .ok (.aload_n 0, 1) := by decide +kernel
theorem dX10_init_131 : decode cX10_init 131 = .ok (.sipush 202, 3) := by decide +kernel
theorem dX10_init_134 : decode cX10_init 134 = .ok (.newarray .int, 2) := by decide +kernel
theorem dX10_init_136 : decode cX10_init 136 = .ok (.putfield 52, 3) := by decide +kernel
theorem dX10_init_139 : decode cX10_init 139 = .ok (.aload_n 0, 1) := by decide +kernel
theorem dX10_init_140 : decode cX10_init 140 = .ok (.sipush 202, 3) := by decide +kernel
theorem dX10_init_143 : decode cX10_init 143 = .ok (.newarray .int, 2) := by decide +kernel
theorem dX10_init_145 : decode cX10_init 145 = .ok (.putfield 55, 3) := by decide +kernel
theorem dX10_init_148 : decode cX10_init 148 = .ok (.aload_n 0, 1) := by decide +kernel
theorem dX10_init_149 : decode cX10_init 149 = .ok (.sipush 202, 3) := by decide +kernel
theorem dX10_init_152 : decode cX10_init 152 = .ok (.newarray .long, 2) := by decide +kernel
theorem dX10_init_154 : decode cX10_init 154 = .ok (.putfield 58, 3) := by decide +kernel
theorem dX10_init_157 : decode cX10_init 157 = .ok (.aload_n 0, 1) := by decide +kernel
theorem dX10_init_158 : decode cX10_init 158 = .ok (.sipush 4000, 3) := by decide +kernel
theorem dX10_init_161 : decode cX10_init 161 = .ok (.newarray .int, 2) := by decide +kernel
theorem dX10_init_163 : decode cX10_init 163 = .ok (.putfield 62, 3) := by decide +kernel
theorem dX10_init_166 : decode cX10_init 166 = .ok (.aload_n 0, 1) := by decide +kernel
theorem dX10_init_167 : decode cX10_init 167 = .ok (.bipush 26, 2) := by decide +kernel
theorem dX10_init_169 : decode cX10_init 169 = .ok (.newarray .int, 2) := by decide +kernel
theorem dX10_init_171 : decode cX10_init 171 = .ok (.putfield 65, 3) := by decide +kernel
theorem dX10_init_174 : decode cX10_init 174 = .ok (.aload_n 0, 1) := by decide +kernel
theorem dX10_init_175 : decode cX10_init 175 = .ok (.bipush 26, 2) := by decide +kernel
theorem dX10_init_177 : decode cX10_init 177 = .ok (.newarray .int, 2) := by decide +kernel
theorem dX10_init_179 : decode cX10_init 179 = .ok (.putfield 68, 3) := by decide +kernel
theorem dX10_init_182 : decode cX10_init 182 = .ok (.aload_n 0, 1) := by decide +kernel
theorem dX10_init_183 : decode cX10_init 183 = .ok (.bipush 26, 2) := by decide +kernel
theorem dX10_init_185 : decode cX10_init 185 = .ok (.newarray .long, 2) := by decide +kernel
theorem dX10_init_187 : decode cX10_init 187 = .ok (.putfield 71, 3) := by decide +kernel
theorem dX10_init_190 : decode cX10_init 190 = .ok (.aload_n 0, 1) := by decide +kernel
theorem dX10_init_191 : decode cX10_init 191 = .ok (.bipush 110, 2) := by decide +kernel
theorem dX10_init_193 : decode cX10_init 193 = .ok (.newarray .int, 2) := by decide +kernel
theorem dX10_init_195 : decode cX10_init 195 = .ok (.putfield 74, 3) := by decide +kernel
theorem dX10_init_198 : decode cX10_init 198 = .ok (.aload_n 0, 1) := by decide +kernel
theorem dX10_init_199 : decode cX10_init 199 = .ok (.sipush 210, 3) := by decide +kernel
theorem dX10_init_202 : decode cX10_init 202 = .ok (.newarray .int, 2) := by decide +kernel
theorem dX10_init_204 : decode cX10_init 204 = .ok (.putfield 77, 3) := by decide +kernel
theorem dX10_init_207 : decode cX10_init 207 = .ok (.aload_n 0, 1) := by decide +kernel
theorem dX10_init_208 : decode cX10_init 208 = .ok (.sipush 210, 3) := by decide +kernel
theorem dX10_init_211 : decode cX10_init 211 = .ok (.newarray .int, 2) := by decide +kernel
theorem dX10_init_213 : decode cX10_init 213 = .ok (.putfield 80, 3) := by decide +kernel
theorem dX10_init_216 : decode cX10_init 216 = .ok (.aload_n 0, 1) := by decide +kernel
theorem dX10_init_217 : decode cX10_init 217 = .ok (.sipush 210, 3) := by decide +kernel
theorem dX10_init_220 : decode cX10_init 220 = .ok (.newarray .int, 2) := by decide +kernel
theorem dX10_init_222 : decode cX10_init 222 = .ok (.putfield 83, 3) := by decide +kernel
theorem dX10_init_225 : decode cX10_init 225 = .ok (.aload_n 0, 1) := by decide +kernel
theorem dX10_init_226 : decode cX10_init 226 = .ok (.sipush 4100, 3) := by decide +kernel
theorem dX10_init_229 : decode cX10_init 229 = .ok (.newarray .int, 2) := by decide +kernel
theorem dX10_init_231 : decode cX10_init 231 = .ok (.putfield 86, 3) := by decide +kernel
theorem dX10_init_234 : decode cX10_init 234 = .ok (.aload_n 0, 1) := by decide +kernel
theorem dX10_init_235 : decode cX10_init 235 = .ok (.sipush 4100, 3) := by decide +kernel
theorem dX10_init_238 : decode cX10_init 238 = .ok (.newarray .int, 2) := by decide +kernel
theorem dX10_init_240 : decode cX10_init 240 = .ok (.putfield 89, 3) := by decide +kernel
theorem dX10_init_243 : decode cX10_init 243 = .ok (.aload_n 0, 1) := by decide +kernel
theorem dX10_init_244 : decode cX10_init 244 = .ok (.sipush 4100, 3) := by decide +kernel
theorem dX10_init_247 : decode cX10_init 247 = .ok (.newarray .long, 2) := by decide +kernel
theorem dX10_init_249 : decode cX10_init 249 = .ok (.putfield 92, 3) := by decide +kernel
theorem dX10_init_252 : decode cX10_init 252 = .ok (.aload_n 0, 1) := by decide +kernel
theorem dX10_init_253 : decode cX10_init 253 = .ok (.sipush 600, 3) := by decide +kernel
theorem dX10_init_256 : decode cX10_init 256 = .ok (.newarray .int, 2) := by decide +kernel
theorem dX10_init_258 : decode cX10_init 258 = .ok (.putfield 95, 3) := by decide +kernel
theorem dX10_init_261 : decode cX10_init 261 = .ok (.aload_n 0, 1) := by decide +kernel
theorem dX10_init_262 : decode cX10_init 262 = .ok (.sipush 600, 3) := by decide +kernel
theorem dX10_init_265 : decode cX10_init 265 = .ok (.newarray .int, 2) := by decide +kernel
theorem dX10_init_267 : decode cX10_init 267 = .ok (.putfield 98, 3) := by decide +kernel
theorem dX10_init_270 : decode cX10_init 270 = .ok (.aload_n 0, 1) := by decide +kernel
theorem dX10_init_271 : decode cX10_init 271 = .ok (.sipush 600, 3) := by decide +kernel
theorem dX10_init_274 : decode cX10_init 274 = .ok (.newarray .long, 2) := by decide +kernel
theorem dX10_init_276 : decode cX10_init 276 = .ok (.putfield 101, 3) := by decide +kernel
theorem dX10_init_279 : decode cX10_init 279 = .ok (.aload_n 0, 1) := by decide +kernel
theorem dX10_init_280 : decode cX10_init 280 = .ok (.bipush 100, 2) := by decide +kernel
theorem dX10_init_282 : decode cX10_init 282 = .ok (.newarray .int, 2) := by decide +kernel
theorem dX10_init_284 : decode cX10_init 284 = .ok (.putfield 104, 3) := by decide +kernel
theorem dX10_init_287 : decode cX10_init 287 = .ok (.aload_n 0, 1) := by decide +kernel
theorem dX10_init_288 : decode cX10_init 288 = .ok (.bipush 50, 2) := by decide +kernel
theorem dX10_init_290 : decode cX10_init 290 = .ok (.newarray .int, 2) := by decide +kernel
theorem dX10_init_292 : decode cX10_init 292 = .ok (.putfield 107, 3) := by decide +kernel
theorem dX10_init_295 : decode cX10_init 295 = .ok (.aload_n 0, 1) := by decide +kernel
theorem dX10_init_296 : decode cX10_init 296 = .ok (.bipush 50, 2) := by decide +kernel
theorem dX10_init_298 : decode cX10_init 298 = .ok (.newarray .int, 2) := by decide +kernel
theorem dX10_init_300 : decode cX10_init 300 = .ok (.putfield 110, 3) := by decide +kernel
theorem dX10_init_303 : decode cX10_init 303 = .ok (.aload_n 0, 1) := by decide +kernel
theorem dX10_init_304 : decode cX10_init 304 = .ok (.bipush 50, 2) := by decide +kernel
theorem dX10_init_306 : decode cX10_init 306 = .ok (.newarray .int, 2) := by decide +kernel
theorem dX10_init_308 : decode cX10_init 308 = .ok (.putfield 113, 3) := by decide +kernel
theorem dX10_init_311 : decode cX10_init 311 = .ok (.aload_n 0, 1) := by decide +kernel
theorem dX10_init_312 : decode cX10_init 312 = .ok (.bipush 50, 2) := by decide +kernel
theorem dX10_init_314 : decode cX10_init 314 = .ok (.newarray .long, 2) := by decide +kernel
theorem dX10_init_316 : decode cX10_init 316 = .ok (.putfield 116, 3) := by decide +kernel
theorem dX10_init_319 : decode cX10_init 319 = .ok (.aload_n 0, 1) := by decide +kernel
theorem dX10_init_320 : decode cX10_init 320 = .ok (.iconst 4, 1) := by decide +kernel
theorem dX10_init_321 : decode cX10_init 321 = .ok (.newarray .int, 2) := by decide +kernel
theorem dX10_init_323 : decode cX10_init 323 = .ok (.putfield 119, 3) := by decide +kernel
theorem dX10_init_326 : decode cX10_init 326 = .ok (.return_, 1) := by decide +kernel
def rmX10_init : Room := { frames := 20, cells := 37, slots := 29664, locals := 400 }
set_option maxHeartbeats 8000000 in
set_option maxRecDepth 100000 in
theorem tX10_init {l : Launch} {D : va_G} {K : Nat → Nat → Nat} {cs : Nat → ClassId} (o : Nat) : CtV l yX10_init (wG yX10_init cX10_init 1 none) rmX10_init D (mwT cs) K [.ref o] [(o, .inr (9, (.int 0 :: .null :: .int 0 :: .int 0 :: .int 0 :: .int 0 :: .int 0 :: .long 0 :: .int 0 :: .long 0 :: .int 0 :: .int 0 :: .int 0 :: .int 0 :: .int 0 :: .null :: .null :: .null :: .null :: .null :: .null :: .null :: .null :: .null :: .null :: .null :: .null :: .null :: .null :: .null :: .null :: .int 0 :: .int 0 :: .int 0 :: .long 0 :: .int 0 :: .int 0 :: .null :: .int 0 :: .null :: .null :: .null :: .null :: .int 0 :: .null :: .null :: .null :: .int 0 :: .int 0 :: .null :: .null :: .null :: .null :: .null :: .null :: .null :: .int 0 :: .int 0 :: .int 0 :: .int 0 :: .int 0 :: .null :: .null :: .null :: .null :: .int 0 :: .int 0 :: .long 0 :: .null :: .int 0 :: .int 0 :: [])))] (fun w1 => ∃ q8 q17 q26 q35 q44 q53 q62 q71 q80 q89 q98 q107 q116 q125 q134 q143 q152 q161 q169 q177 q185 q193 q202 q211 q220 q229 q238 q247 q256 q265 q274 q282 q290 q298 q306 q314 q321 : Nat, w1 = [(o, .inr (9, (.int 0 :: .ref q8 :: .int 0 :: .int 0 :: .int 0 :: .int 0 :: .int 0 :: .long 0 :: .int 0 :: .long 0 :: .int 0 :: .int 0 :: .int 0 :: .int 0 :: .int 0 :: .ref q17 :: .ref q26 :: .ref q35 :: .ref q44 :: .ref q53 :: .ref q62 :: .ref q71 :: .ref q80 :: .ref q89 :: .ref q98 :: .ref q107 :: .ref q116 :: .ref q125 :: .ref q134 :: .ref q143 :: .ref q152 :: .int 0 :: .int 0 :: .int 0 :: .long 0 :: .int 0 :: .int 0 :: .ref q161 :: .int 0 :: .ref q169 :: .ref q177 :: .ref q185 :: .ref q193 :: .int 0 :: .ref q202 :: .ref q211 :: .ref q220 :: .int 0 :: .int 0 :: .ref q229 :: .ref q238 :: .ref q247 :: .ref q256 :: .ref q265 :: .ref q274 :: .ref q282 :: .int 0 :: .int 0 :: .int 0 :: .int 0 :: .int 0 :: .ref q290 :: .ref q298 :: .ref q306 :: .ref q314 :: .int 0 :: .int 0 :: .long 0 :: .ref q321 :: .int 0 :: .int 0 :: []))), (q8, .inl (cs 0, (3100, .inl (fun _ => 0)))), (q17, .inl (cs 0, (3100, .inl (fun _ => 0)))), (q26, .inl (cs 0, (202, .inl (fun _ => 0)))), (q35, .inl (cs 0, (202, .inl (fun _ => 0)))), (q44, .inl (cs 0, (202, .inl (fun _ => 0)))), (q53, .inl (cs 0, (202, .inl (fun _ => 0)))), (q62, .inl (cs 0, (202, .inl (fun _ => 0)))), (q71, .inl (cs 0, (202, .inl (fun _ => 0)))), (q80, .inl (cs 0, (202, .inl (fun _ => 0)))), (q89, .inl (cs 0, (202, .inl (fun _ => 0)))), (q98, .inl (cs 0, (202, .inl (fun _ => 0)))), (q107, .inl (cs 0, (202, .inl (fun _ => 0)))), (q116, .inl (cs 0, (808, .inl (fun _ => 0)))), (q125, .inl (cs 0, (808, .inl (fun _ => 0)))), (q134, .inl (cs 0, (202, .inl (fun _ => 0)))), (q143, .inl (cs 0, (202, .inl (fun _ => 0)))), (q152, .inl (cs 1, (202, .inr (.inl (fun _ => 0))))), (q161, .inl (cs 0, (4000, .inl (fun _ => 0)))), (q169, .inl (cs 0, (26, .inl (fun _ => 0)))), (q177, .inl (cs 0, (26, .inl (fun _ => 0)))), (q185, .inl (cs 1, (26, .inr (.inl (fun _ => 0))))), (q193, .inl (cs 0, (110, .inl (fun _ => 0)))), (q202, .inl (cs 0, (210, .inl (fun _ => 0)))), (q211, .inl (cs 0, (210, .inl (fun _ => 0)))), (q220, .inl (cs 0, (210, .inl (fun _ => 0)))), (q229, .inl (cs 0, (4100, .inl (fun _ => 0)))), (q238, .inl (cs 0, (4100, .inl (fun _ => 0)))), (q247, .inl (cs 1, (4100, .inr (.inl (fun _ => 0))))), (q256, .inl (cs 0, (600, .inl (fun _ => 0)))), (q265, .inl (cs 0, (600, .inl (fun _ => 0)))), (q274, .inl (cs 1, (600, .inr (.inl (fun _ => 0))))), (q282, .inl (cs 0, (100, .inl (fun _ => 0)))), (q290, .inl (cs 0, (50, .inl (fun _ => 0)))), (q298, .inl (cs 0, (50, .inl (fun _ => 0)))), (q306, .inl (cs 0, (50, .inl (fun _ => 0)))), (q314, .inl (cs 1, (50, .inr (.inl (fun _ => 0))))), (q321, .inl (cs 0, (4, .inl (fun _ => 0))))]) 37 29664 := by
  intro sz
  refine Met.ofW (cc := cX10_init) (maxL := 1) (ret := none) (by decide) rfl ?_
  intro p e s m args below meth c s₁ B hml hv
  obtain ⟨rfl, hsz, hP, hK, hD0, hE⟩ := hv
  have hx := B.exec
  have hb := B.bytes
  have hr := B.returns
  have hts := atoms_spec (ws := (wG yX10_init cX10_init 1 none)) B.pre
  have hown : s.vm.findClass RX10 = some m.cls := findClass_of_methodNamed B.named
  have hnm : meth.name = "<init>" := (name_of_methodNamed B.named B.method).1
  have hlocks := B.notSynchronized
  subst hsz
  have hD := hD0.self (sz := s.heap.size)
  obtain ⟨A, hAe⟩ : ∃ A : Nat → Prop, A = va_A [(o, .inr (9, (.int 0 :: .null :: .int 0 :: .int 0 :: .int 0 :: .int 0 :: .int 0 :: .long 0 :: .int 0 :: .long 0 :: .int 0 :: .int 0 :: .int 0 :: .int 0 :: .int 0 :: .null :: .null :: .null :: .null :: .null :: .null :: .null :: .null :: .null :: .null :: .null :: .null :: .null :: .null :: .null :: .null :: .int 0 :: .int 0 :: .int 0 :: .long 0 :: .int 0 :: .int 0 :: .null :: .int 0 :: .null :: .null :: .null :: .null :: .int 0 :: .null :: .null :: .null :: .int 0 :: .int 0 :: .null :: .null :: .null :: .null :: .null :: .null :: .null :: .int 0 :: .int 0 :: .int 0 :: .int 0 :: .int 0 :: .null :: .null :: .null :: .null :: .int 0 :: .int 0 :: .long 0 :: .null :: .int 0 :: .int 0 :: [])))] s.heap.size := ⟨_, rfl⟩
  rw [← hAe] at hD hE
  have hA : ∀ q : Nat, s.heap.size ≤ q → A q := fun q h => by rw [hAe]; exact Or.inr h
  have hS : va_S A s.heap s.heap [] := va_S.rf
  have hl := lv_entry ([.ref o]) (n := 1) (Nat.le_of_ble_eq_true rfl)
  rw [lg_entry_eq]
  generalize (lg_sl ([.ref o]) ++ List.replicate (1 - (lg_sl ([.ref o])).length) Slot.unset).toArray = ls at hl ⊢
  have hl : lv_has ls 1 [(0, .ref o)] := hl
  refine wq (fun Q hQ => ?_)
  have hinX10 : ∀ w ∈ wsX100, w ∈ (wG yX10_init cX10_init 1 none) := fun w h => List.mem_cons_of_mem _ (inlX10 w h)
  have k_5_6 := hts (.methodLink RX10 1 objectInit) (List.mem_cons_of_mem _ (wr5 _ (List.mem_of_getElem? (i := 6) rfl)))
  have k_1_11 := hts (.instanceMethod objectInit) (List.mem_cons_of_mem _ (wr1 _ (List.mem_of_getElem? (i := 11) rfl)))
  have k_1_12 := hts (.code objectInit ⟨#[0xb1]⟩ 1 none) (List.mem_cons_of_mem _ (wr1 _ (List.mem_of_getElem? (i := 12) rfl)))
  have k_2_23 := hts (.arrayClass .int) (List.mem_cons_of_mem _ (wr2 _ (List.mem_of_getElem? (i := 23) rfl)))
  have k_5_7 := hts (.fieldLink RX10 9 "ArrayTrainerModel" "tape" "[I") (List.mem_cons_of_mem _ (wr5 _ (List.mem_of_getElem? (i := 7) rfl)))
  have k_5_8 := hts (.fieldLink RX10 13 "ArrayTrainerModel" "text" "[I") (List.mem_cons_of_mem _ (wr5 _ (List.mem_of_getElem? (i := 8) rfl)))
  have k_5_9 := hts (.fieldLink RX10 16 "ArrayTrainerModel" "act" "[I") (List.mem_cons_of_mem _ (wr5 _ (List.mem_of_getElem? (i := 9) rfl)))
  have k_5_10 := hts (.fieldLink RX10 19 "ArrayTrainerModel" "guess" "[I") (List.mem_cons_of_mem _ (wr5 _ (List.mem_of_getElem? (i := 10) rfl)))
  have k_5_11 := hts (.fieldLink RX10 22 "ArrayTrainerModel" "take" "[I") (List.mem_cons_of_mem _ (wr5 _ (List.mem_of_getElem? (i := 11) rfl)))
  have k_5_12 := hts (.fieldLink RX10 25 "ArrayTrainerModel" "begin" "[I") (List.mem_cons_of_mem _ (wr5 _ (List.mem_of_getElem? (i := 12) rfl)))
  have k_5_13 := hts (.fieldLink RX10 28 "ArrayTrainerModel" "finish" "[I") (List.mem_cons_of_mem _ (wr5 _ (List.mem_of_getElem? (i := 13) rfl)))
  have k_5_14 := hts (.fieldLink RX10 31 "ArrayTrainerModel" "to1" "[I") (List.mem_cons_of_mem _ (wr5 _ (List.mem_of_getElem? (i := 14) rfl)))
  have k_5_15 := hts (.fieldLink RX10 34 "ArrayTrainerModel" "one" "[I") (List.mem_cons_of_mem _ (wr5 _ (List.mem_of_getElem? (i := 15) rfl)))
  have k_5_16 := hts (.fieldLink RX10 37 "ArrayTrainerModel" "two" "[I") (List.mem_cons_of_mem _ (wr5 _ (List.mem_of_getElem? (i := 16) rfl)))
  have k_5_17 := hts (.fieldLink RX10 40 "ArrayTrainerModel" "what" "[I") (List.mem_cons_of_mem _ (wr5 _ (List.mem_of_getElem? (i := 17) rfl)))
  have k_5_18 := hts (.fieldLink RX10 43 "ArrayTrainerModel" "ats" "[I") (List.mem_cons_of_mem _ (wr5 _ (List.mem_of_getElem? (i := 18) rfl)))
  have k_5_19 := hts (.fieldLink RX10 46 "ArrayTrainerModel" "atVar" "[I") (List.mem_cons_of_mem _ (wr5 _ (List.mem_of_getElem? (i := 19) rfl)))
  have k_5_20 := hts (.fieldLink RX10 49 "ArrayTrainerModel" "atNumber" "[I") (List.mem_cons_of_mem _ (wr5 _ (List.mem_of_getElem? (i := 20) rfl)))
  have k_5_21 := hts (.fieldLink RX10 52 "ArrayTrainerModel" "atomSort" "[I") (List.mem_cons_of_mem _ (wr5 _ (List.mem_of_getElem? (i := 21) rfl)))
  have k_5_22 := hts (.fieldLink RX10 55 "ArrayTrainerModel" "atomKind" "[I") (List.mem_cons_of_mem _ (wr5 _ (List.mem_of_getElem? (i := 22) rfl)))
  have k_1_6 := hts (.arrayClass .long) (List.mem_cons_of_mem _ (wr1 _ (List.mem_of_getElem? (i := 6) rfl)))
  have k_5_23 := hts (.fieldLink RX10 58 "ArrayTrainerModel" "atomValue" "[J") (List.mem_cons_of_mem _ (wr5 _ (List.mem_of_getElem? (i := 23) rfl)))
  have k_6_0 := hts (.fieldLink RX10 62 "ArrayTrainerModel" "out" "[I") (List.mem_cons_of_mem _ (wr6 _ (List.mem_of_getElem? (i := 0) rfl)))
  have k_6_1 := hts (.fieldLink RX10 65 "ArrayTrainerModel" "varSort" "[I") (List.mem_cons_of_mem _ (wr6 _ (List.mem_of_getElem? (i := 1) rfl)))
  have k_6_2 := hts (.fieldLink RX10 68 "ArrayTrainerModel" "varKind" "[I") (List.mem_cons_of_mem _ (wr6 _ (List.mem_of_getElem? (i := 2) rfl)))
  have k_6_3 := hts (.fieldLink RX10 71 "ArrayTrainerModel" "varValue" "[J") (List.mem_cons_of_mem _ (wr6 _ (List.mem_of_getElem? (i := 3) rfl)))
  have k_6_4 := hts (.fieldLink RX10 74 "ArrayTrainerModel" "creature" "[I") (List.mem_cons_of_mem _ (wr6 _ (List.mem_of_getElem? (i := 4) rfl)))
  have k_6_5 := hts (.fieldLink RX10 77 "ArrayTrainerModel" "arrayClass" "[I") (List.mem_cons_of_mem _ (wr6 _ (List.mem_of_getElem? (i := 5) rfl)))
  have k_6_6 := hts (.fieldLink RX10 80 "ArrayTrainerModel" "arrayFrom" "[I") (List.mem_cons_of_mem _ (wr6 _ (List.mem_of_getElem? (i := 6) rfl)))
  have k_6_7 := hts (.fieldLink RX10 83 "ArrayTrainerModel" "arrayLong" "[I") (List.mem_cons_of_mem _ (wr6 _ (List.mem_of_getElem? (i := 7) rfl)))
  have k_6_8 := hts (.fieldLink RX10 86 "ArrayTrainerModel" "cellSort" "[I") (List.mem_cons_of_mem _ (wr6 _ (List.mem_of_getElem? (i := 8) rfl)))
  have k_6_9 := hts (.fieldLink RX10 89 "ArrayTrainerModel" "cellKind" "[I") (List.mem_cons_of_mem _ (wr6 _ (List.mem_of_getElem? (i := 9) rfl)))
  have k_6_10 := hts (.fieldLink RX10 92 "ArrayTrainerModel" "cellValue" "[J") (List.mem_cons_of_mem _ (wr6 _ (List.mem_of_getElem? (i := 10) rfl)))
  have k_6_11 := hts (.fieldLink RX10 95 "ArrayTrainerModel" "asideSort" "[I") (List.mem_cons_of_mem _ (wr6 _ (List.mem_of_getElem? (i := 11) rfl)))
  have k_6_12 := hts (.fieldLink RX10 98 "ArrayTrainerModel" "asideKind" "[I") (List.mem_cons_of_mem _ (wr6 _ (List.mem_of_getElem? (i := 12) rfl)))
  have k_6_13 := hts (.fieldLink RX10 101 "ArrayTrainerModel" "asideValue" "[J") (List.mem_cons_of_mem _ (wr6 _ (List.mem_of_getElem? (i := 13) rfl)))
  have k_6_14 := hts (.fieldLink RX10 104 "ArrayTrainerModel" "outcome" "[I") (List.mem_cons_of_mem _ (wr6 _ (List.mem_of_getElem? (i := 14) rfl)))
  have k_6_15 := hts (.fieldLink RX10 107 "ArrayTrainerModel" "markSort" "[I") (List.mem_cons_of_mem _ (wr6 _ (List.mem_of_getElem? (i := 15) rfl)))
  have k_6_16 := hts (.fieldLink RX10 110 "ArrayTrainerModel" "markKind" "[I") (List.mem_cons_of_mem _ (wr6 _ (List.mem_of_getElem? (i := 16) rfl)))
  have k_6_17 := hts (.fieldLink RX10 113 "ArrayTrainerModel" "markClass" "[I") (List.mem_cons_of_mem _ (wr6 _ (List.mem_of_getElem? (i := 17) rfl)))
  have k_6_18 := hts (.fieldLink RX10 116 "ArrayTrainerModel" "markValue" "[J") (List.mem_cons_of_mem _ (wr6 _ (List.mem_of_getElem? (i := 18) rfl)))
  have k_6_19 := hts (.fieldLink RX10 119 "ArrayTrainerModel" "index" "[I") (List.mem_cons_of_mem _ (wr6 _ (List.mem_of_getElem? (i := 19) rfl)))
  obtain ⟨H, hH⟩ : ∃ H : Heap, H = s.heap := ⟨_, rfl⟩
  obtain ⟨locs, hlc⟩ : ∃ L : List Loc, L = [] := ⟨_, rfl⟩
  have hP : va_P D vwCl [(o, .inr (9, (.int 0 :: .null :: .int 0 :: .int 0 :: .int 0 :: .int 0 :: .int 0 :: .long 0 :: .int 0 :: .long 0 :: .int 0 :: .int 0 :: .int 0 :: .int 0 :: .int 0 :: .null :: .null :: .null :: .null :: .null :: .null :: .null :: .null :: .null :: .null :: .null :: .null :: .null :: .null :: .null :: .null :: .int 0 :: .int 0 :: .int 0 :: .long 0 :: .int 0 :: .int 0 :: .null :: .int 0 :: .null :: .null :: .null :: .null :: .int 0 :: .null :: .null :: .null :: .int 0 :: .int 0 :: .null :: .null :: .null :: .null :: .null :: .null :: .null :: .int 0 :: .int 0 :: .int 0 :: .int 0 :: .int 0 :: .null :: .null :: .null :: .null :: .int 0 :: .int 0 :: .long 0 :: .null :: .int 0 :: .int 0 :: [])))] H := by rw [hH]; exact hP
  have hS : va_S A s.heap H locs := by rw [hH, hlc]; exact hS
  refine wHL hH hlc ?_
  obtain ⟨fs0, ef0⟩ : ∃ z : List Value, z = cF0 := ⟨_, rfl⟩
  obtain ⟨ar0, ea0⟩ : ∃ z : va_W, z = [] := ⟨_, rfl⟩
  have hn0 : fs0.length = 71 := by rw [ef0]; rfl
  have hP : va_P D vwCl ((o, .inr (9, fs0)) :: ar0) H := by rw [ef0, ea0]; exact hP
  have hD : va_D A ((o, .inr (9, fs0)) :: ar0) := by rw [ef0, ea0]; exact hD
  refine lv_aload_n hx hb dX10_init_0 rfl (lv_at hl 0 rfl) ?_
  refine W.objInit hx hb hown k_5_6 k_1_11 k_1_12 rfl (by rw [hml]; exact hl.1) rfl dX10_init_1 (Nat.le_of_ble_eq_true rfl) (Nat.le_of_ble_eq_true rfl) ?_
  refine lv_aload_n hx hb dX10_init_4 rfl (lv_at hl 0 rfl) ?_
  refine lv_sipush (v := 3100) hx hb dX10_init_5 (by decide) ?_
  refine m_newa (atype := .int) (ty := .int) (a0 := (3100, .inl (fun _ => 0))) hx hb k_2_23 rfl hK 0 rfl (fun _ _ h => h) hP hD hS hA (fun _ => rfl) (by decide) (by decide) (by decide +kernel) (by show _ ≤ 37; omega) (by show _ ≤ 29664; omega) dX10_init_8 (fun q8 H hP hD hS => ?_)
  obtain ⟨ar1, ea1⟩ : ∃ z : va_W, z = ar0 ++ [(q8, .inl (cs 0, (3100, .inl (fun _ => 0))))] := ⟨_, rfl⟩
  have hP : va_P D vwCl ((o, .inr (9, fs0)) :: ar1) H := by rw [ea1]; exact hP
  have hD : va_D A ((o, .inr (9, fs0)) :: ar1) := by rw [ea1]; exact hD
  refine va_putF (D := D) (ci := 9) (v := .ref q8) (ty := .array .int) (C := RX10) (T := TX10) (N := 71) hx hb hts hinX10 tyX10 tyX10_ok nmX10 hown hK hP hD hS 0 rfl rfl 1 (by decide) k_5_7 (fun _ h9 => h9) rfl hnm rfl (by decide +kernel) rfl rfl (by rw [hn0]; decide) dX10_init_10 (fun H locs hP hD hS => ?_)
  obtain ⟨fs1, ef1⟩ : ∃ z : List Value, z = fs0.set 1 (.ref q8) := ⟨_, rfl⟩
  have hn1 : fs1.length = 71 := by rw [ef1, List.length_set]; exact hn0
  have hP : va_P D vwCl ((o, .inr (9, fs1)) :: ar1) H := by rw [ef1]; exact hP
  have hD : va_D A ((o, .inr (9, fs1)) :: ar1) := by rw [ef1]; exact hD
  refine lv_aload_n hx hb dX10_init_13 rfl (lv_at hl 0 rfl) ?_
  refine lv_sipush (v := 3100) hx hb dX10_init_14 (by decide) ?_
  refine m_newa (atype := .int) (ty := .int) (a0 := (3100, .inl (fun _ => 0))) hx hb k_2_23 rfl hK 0 rfl (fun _ _ h => h) hP hD hS hA (fun _ => rfl) (by decide) (by decide) (by decide +kernel) (by show _ ≤ 37; omega) (by show _ ≤ 29664; omega) dX10_init_17 (fun q17 H hP hD hS => ?_)
  obtain ⟨ar2, ea2⟩ : ∃ z : va_W, z = ar1 ++ [(q17, .inl (cs 0, (3100, .inl (fun _ => 0))))] := ⟨_, rfl⟩
  have hP : va_P D vwCl ((o, .inr (9, fs1)) :: ar2) H := by rw [ea2]; exact hP
  have hD : va_D A ((o, .inr (9, fs1)) :: ar2) := by rw [ea2]; exact hD
  refine va_putF (D := D) (ci := 9) (v := .ref q17) (ty := .array .int) (C := RX10) (T := TX10) (N := 71) hx hb hts hinX10 tyX10 tyX10_ok nmX10 hown hK hP hD hS 0 rfl rfl 15 (by decide) k_5_8 (fun _ h9 => h9) rfl hnm rfl (by decide +kernel) rfl rfl (by rw [hn1]; decide) dX10_init_19 (fun H locs hP hD hS => ?_)
  obtain ⟨fs2, ef2⟩ : ∃ z : List Value, z = fs1.set 15 (.ref q17) := ⟨_, rfl⟩
  have hn2 : fs2.length = 71 := by rw [ef2, List.length_set]; exact hn1
  have hP : va_P D vwCl ((o, .inr (9, fs2)) :: ar2) H := by rw [ef2]; exact hP
  have hD : va_D A ((o, .inr (9, fs2)) :: ar2) := by rw [ef2]; exact hD
  refine lv_aload_n hx hb dX10_init_22 rfl (lv_at hl 0 rfl) ?_
  refine lv_sipush (v := 202) hx hb dX10_init_23 (by decide) ?_
  refine m_newa (atype := .int) (ty := .int) (a0 := (202, .inl (fun _ => 0))) hx hb k_2_23 rfl hK 0 rfl (fun _ _ h => h) hP hD hS hA (fun _ => rfl) (by decide) (by decide) (by decide +kernel) (by show _ ≤ 37; omega) (by show _ ≤ 29664; omega) dX10_init_26 (fun q26 H hP hD hS => ?_)
  obtain ⟨ar3, ea3⟩ : ∃ z : va_W, z = ar2 ++ [(q26, .inl (cs 0, (202, .inl (fun _ => 0))))] := ⟨_, rfl⟩
  have hP : va_P D vwCl ((o, .inr (9, fs2)) :: ar3) H := by rw [ea3]; exact hP
  have hD : va_D A ((o, .inr (9, fs2)) :: ar3) := by rw [ea3]; exact hD
  refine va_putF (D := D) (ci := 9) (v := .ref q26) (ty := .array .int) (C := RX10) (T := TX10) (N := 71) hx hb hts hinX10 tyX10 tyX10_ok nmX10 hown hK hP hD hS 0 rfl rfl 16 (by decide) k_5_9 (fun _ h9 => h9) rfl hnm rfl (by decide +kernel) rfl rfl (by rw [hn2]; decide) dX10_init_28 (fun H locs hP hD hS => ?_)
  obtain ⟨fs3, ef3⟩ : ∃ z : List Value, z = fs2.set 16 (.ref q26) := ⟨_, rfl⟩
  have hn3 : fs3.length = 71 := by rw [ef3, List.length_set]; exact hn2
  have hP : va_P D vwCl ((o, .inr (9, fs3)) :: ar3) H := by rw [ef3]; exact hP
  have hD : va_D A ((o, .inr (9, fs3)) :: ar3) := by rw [ef3]; exact hD
  refine lv_aload_n hx hb dX10_init_31 rfl (lv_at hl 0 rfl) ?_
  refine lv_sipush (v := 202) hx hb dX10_init_32 (by decide) ?_
  refine m_newa (atype := .int) (ty := .int) (a0 := (202, .inl (fun _ => 0))) hx hb k_2_23 rfl hK 0 rfl (fun _ _ h => h) hP hD hS hA (fun _ => rfl) (by decide) (by decide) (by decide +kernel) (by show _ ≤ 37; omega) (by show _ ≤ 29664; omega) dX10_init_35 (fun q35 H hP hD hS => ?_)
  obtain ⟨ar4, ea4⟩ : ∃ z : va_W, z = ar3 ++ [(q35, .inl (cs 0, (202, .inl (fun _ => 0))))] := ⟨_, rfl⟩
  have hP : va_P D vwCl ((o, .inr (9, fs3)) :: ar4) H := by rw [ea4]; exact hP
  have hD : va_D A ((o, .inr (9, fs3)) :: ar4) := by rw [ea4]; exact hD
  refine va_putF (D := D) (ci := 9) (v := .ref q35) (ty := .array .int) (C := RX10) (T := TX10) (N := 71) hx hb hts hinX10 tyX10 tyX10_ok nmX10 hown hK hP hD hS 0 rfl rfl 17 (by decide) k_5_10 (fun _ h9 => h9) rfl hnm rfl (by decide +kernel) rfl rfl (by rw [hn3]; decide) dX10_init_37 (fun H locs hP hD hS => ?_)
  obtain ⟨fs4, ef4⟩ : ∃ z : List Value, z = fs3.set 17 (.ref q35) := ⟨_, rfl⟩
  have hn4 : fs4.length = 71 := by rw [ef4, List.length_set]; exact hn3
  have hP : va_P D vwCl ((o, .inr (9, fs4)) :: ar4) H := by rw [ef4]; exact hP
  have hD : va_D A ((o, .inr (9, fs4)) :: ar4) := by rw [ef4]; exact hD
  refine lv_aload_n hx hb dX10_init_40 rfl (lv_at hl 0 rfl) ?_
  refine lv_sipush (v := 202) hx hb dX10_init_41 (by decide) ?_
  refine m_newa (atype := .int) (ty := .int) (a0 := (202, .inl (fun _ => 0))) hx hb k_2_23 rfl hK 0 rfl (fun _ _ h => h) hP hD hS hA (fun _ => rfl) (by decide) (by decide) (by decide +kernel) (by show _ ≤ 37; omega) (by show _ ≤ 29664; omega) dX10_init_44 (fun q44 H hP hD hS => ?_)
  obtain ⟨ar5, ea5⟩ : ∃ z : va_W, z = ar4 ++ [(q44, .inl (cs 0, (202, .inl (fun _ => 0))))] := ⟨_, rfl⟩
  have hP : va_P D vwCl ((o, .inr (9, fs4)) :: ar5) H := by rw [ea5]; exact hP
  have hD : va_D A ((o, .inr (9, fs4)) :: ar5) := by rw [ea5]; exact hD
  refine va_putF (D := D) (ci := 9) (v := .ref q44) (ty := .array .int) (C := RX10) (T := TX10) (N := 71) hx hb hts hinX10 tyX10 tyX10_ok nmX10 hown hK hP hD hS 0 rfl rfl 18 (by decide) k_5_11 (fun _ h9 => h9) rfl hnm rfl (by decide +kernel) rfl rfl (by rw [hn4]; decide) dX10_init_46 (fun H locs hP hD hS => ?_)
  obtain ⟨fs5, ef5⟩ : ∃ z : List Value, z = fs4.set 18 (.ref q44) := ⟨_, rfl⟩
  have hn5 : fs5.length = 71 := by rw [ef5, List.length_set]; exact hn4
  have hP : va_P D vwCl ((o, .inr (9, fs5)) :: ar5) H := by rw [ef5]; exact hP
  have hD : va_D A ((o, .inr (9, fs5)) :: ar5) := by rw [ef5]; exact hD
  refine lv_aload_n hx hb dX10_init_49 rfl (lv_at hl 0 rfl) ?_
  refine lv_sipush (v := 202) hx hb dX10_init_50 (by decide) ?_
  refine m_newa (atype := .int) (ty := .int) (a0 := (202, .inl (fun _ => 0))) hx hb k_2_23 rfl hK 0 rfl (fun _ _ h => h) hP hD hS hA (fun _ => rfl) (by decide) (by decide) (by decide +kernel) (by show _ ≤ 37; omega) (by show _ ≤ 29664; omega) dX10_init_53 (fun q53 H hP hD hS => ?_)
  obtain ⟨ar6, ea6⟩ : ∃ z : va_W, z = ar5 ++ [(q53, .inl (cs 0, (202, .inl (fun _ => 0))))] := ⟨_, rfl⟩
  have hP : va_P D vwCl ((o, .inr (9, fs5)) :: ar6) H := by rw [ea6]; exact hP
  have hD : va_D A ((o, .inr (9, fs5)) :: ar6) := by rw [ea6]; exact hD
  refine va_putF (D := D) (ci := 9) (v := .ref q53) (ty := .array .int) (C := RX10) (T := TX10) (N := 71) hx hb hts hinX10 tyX10 tyX10_ok nmX10 hown hK hP hD hS 0 rfl rfl 19 (by decide) k_5_12 (fun _ h9 => h9) rfl hnm rfl (by decide +kernel) rfl rfl (by rw [hn5]; decide) dX10_init_55 (fun H locs hP hD hS => ?_)
  obtain ⟨fs6, ef6⟩ : ∃ z : List Value, z = fs5.set 19 (.ref q53) := ⟨_, rfl⟩
  have hn6 : fs6.length = 71 := by rw [ef6, List.length_set]; exact hn5
  have hP : va_P D vwCl ((o, .inr (9, fs6)) :: ar6) H := by rw [ef6]; exact hP
  have hD : va_D A ((o, .inr (9, fs6)) :: ar6) := by rw [ef6]; exact hD
  refine lv_aload_n hx hb dX10_init_58 rfl (lv_at hl 0 rfl) ?_
  refine lv_sipush (v := 202) hx hb dX10_init_59 (by decide) ?_
  refine m_newa (atype := .int) (ty := .int) (a0 := (202, .inl (fun _ => 0))) hx hb k_2_23 rfl hK 0 rfl (fun _ _ h => h) hP hD hS hA (fun _ => rfl) (by decide) (by decide) (by decide +kernel) (by show _ ≤ 37; omega) (by show _ ≤ 29664; omega) dX10_init_62 (fun q62 H hP hD hS => ?_)
  obtain ⟨ar7, ea7⟩ : ∃ z : va_W, z = ar6 ++ [(q62, .inl (cs 0, (202, .inl (fun _ => 0))))] := ⟨_, rfl⟩
  have hP : va_P D vwCl ((o, .inr (9, fs6)) :: ar7) H := by rw [ea7]; exact hP
  have hD : va_D A ((o, .inr (9, fs6)) :: ar7) := by rw [ea7]; exact hD
  refine va_putF (D := D) (ci := 9) (v := .ref q62) (ty := .array .int) (C := RX10) (T := TX10) (N := 71) hx hb hts hinX10 tyX10 tyX10_ok nmX10 hown hK hP hD hS 0 rfl rfl 20 (by decide) k_5_13 (fun _ h9 => h9) rfl hnm rfl (by decide +kernel) rfl rfl (by rw [hn6]; decide) dX10_init_64 (fun H locs hP hD hS => ?_)
  obtain ⟨fs7, ef7⟩ : ∃ z : List Value, z = fs6.set 20 (.ref q62) := ⟨_, rfl⟩
  have hn7 : fs7.length = 71 := by rw [ef7, List.length_set]; exact hn6
  have hP : va_P D vwCl ((o, .inr (9, fs7)) :: ar7) H := by rw [ef7]; exact hP
  have hD : va_D A ((o, .inr (9, fs7)) :: ar7) := by rw [ef7]; exact hD
  refine lv_aload_n hx hb dX10_init_67 rfl (lv_at hl 0 rfl) ?_
  refine lv_sipush (v := 202) hx hb dX10_init_68 (by decide) ?_
  refine m_newa (atype := .int) (ty := .int) (a0 := (202, .inl (fun _ => 0))) hx hb k_2_23 rfl hK 0 rfl (fun _ _ h => h) hP hD hS hA (fun _ => rfl) (by decide) (by decide) (by decide +kernel) (by show _ ≤ 37; omega) (by show _ ≤ 29664; omega) dX10_init_71 (fun q71 H hP hD hS => ?_)
  obtain ⟨ar8, ea8⟩ : ∃ z : va_W, z = ar7 ++ [(q71, .inl (cs 0, (202, .inl (fun _ => 0))))] := ⟨_, rfl⟩
  have hP : va_P D vwCl ((o, .inr (9, fs7)) :: ar8) H := by rw [ea8]; exact hP
  have hD : va_D A ((o, .inr (9, fs7)) :: ar8) := by rw [ea8]; exact hD
  refine va_putF (D := D) (ci := 9) (v := .ref q71) (ty := .array .int) (C := RX10) (T := TX10) (N := 71) hx hb hts hinX10 tyX10 tyX10_ok nmX10 hown hK hP hD hS 0 rfl rfl 21 (by decide) k_5_14 (fun _ h9 => h9) rfl hnm rfl (by decide +kernel) rfl rfl (by rw [hn7]; decide) dX10_init_73 (fun H locs hP hD hS => ?_)
  obtain ⟨fs8, ef8⟩ : ∃ z : List Value, z = fs7.set 21 (.ref q71) := ⟨_, rfl⟩
  have hn8 : fs8.length = 71 := by rw [ef8, List.length_set]; exact hn7
  have hP : va_P D vwCl ((o, .inr (9, fs8)) :: ar8) H := by rw [ef8]; exact hP
  have hD : va_D A ((o, .inr (9, fs8)) :: ar8) := by rw [ef8]; exact hD
  refine lv_aload_n hx hb dX10_init_76 rfl (lv_at hl 0 rfl) ?_
  refine lv_sipush (v := 202) hx hb dX10_init_77 (by decide) ?_
  refine m_newa (atype := .int) (ty := .int) (a0 := (202, .inl (fun _ => 0))) hx hb k_2_23 rfl hK 0 rfl (fun _ _ h => h) hP hD hS hA (fun _ => rfl) (by decide) (by decide) (by decide +kernel) (by show _ ≤ 37; omega) (by show _ ≤ 29664; omega) dX10_init_80 (fun q80 H hP hD hS => ?_)
  obtain ⟨ar9, ea9⟩ : ∃ z : va_W, z = ar8 ++ [(q80, .inl (cs 0, (202, .inl (fun _ => 0))))] := ⟨_, rfl⟩
  have hP : va_P D vwCl ((o, .inr (9, fs8)) :: ar9) H := by rw [ea9]; exact hP
  have hD : va_D A ((o, .inr (9, fs8)) :: ar9) := by rw [ea9]; exact hD
  refine va_putF (D := D) (ci := 9) (v := .ref q80) (ty := .array .int) (C := RX10) (T := TX10) (N := 71) hx hb hts hinX10 tyX10 tyX10_ok nmX10 hown hK hP hD hS 0 rfl rfl 22 (by decide) k_5_15 (fun _ h9 => h9) rfl hnm rfl (by decide +kernel) rfl rfl (by rw [hn8]; decide) dX10_init_82 (fun H locs hP hD hS => ?_)
  obtain ⟨fs9, ef9⟩ : ∃ z : List Value, z = fs8.set 22 (.ref q80) := ⟨_, rfl⟩
  have hn9 : fs9.length = 71 := by rw [ef9, List.length_set]; exact hn8
  have hP : va_P D vwCl ((o, .inr (9, fs9)) :: ar9) H := by rw [ef9]; exact hP
  have hD : va_D A ((o, .inr (9, fs9)) :: ar9) := by rw [ef9]; exact hD
  refine lv_aload_n hx hb dX10_init_85 rfl (lv_at hl 0 rfl) ?_
  refine lv_sipush (v := 202) hx hb dX10_init_86 (by decide) ?_
  refine m_newa (atype := .int) (ty := .int) (a0 := (202, .inl (fun _ => 0))) hx hb k_2_23 rfl hK 0 rfl (fun _ _ h => h) hP hD hS hA (fun _ => rfl) (by decide) (by decide) (by decide +kernel) (by show _ ≤ 37; omega) (by show _ ≤ 29664; omega) dX10_init_89 (fun q89 H hP hD hS => ?_)
  obtain ⟨ar10, ea10⟩ : ∃ z : va_W, z = ar9 ++ [(q89, .inl (cs 0, (202, .inl (fun _ => 0))))] := ⟨_, rfl⟩
  have hP : va_P D vwCl ((o, .inr (9, fs9)) :: ar10) H := by rw [ea10]; exact hP
  have hD : va_D A ((o, .inr (9, fs9)) :: ar10) := by rw [ea10]; exact hD
  refine va_putF (D := D) (ci := 9) (v := .ref q89) (ty := .array .int) (C := RX10) (T := TX10) (N := 71) hx hb hts hinX10 tyX10 tyX10_ok nmX10 hown hK hP hD hS 0 rfl rfl 23 (by decide) k_5_16 (fun _ h9 => h9) rfl hnm rfl (by decide +kernel) rfl rfl (by rw [hn9]; decide) dX10_init_91 (fun H locs hP hD hS => ?_)
  obtain ⟨fs10, ef10⟩ : ∃ z : List Value, z = fs9.set 23 (.ref q89) := ⟨_, rfl⟩
  have hn10 : fs10.length = 71 := by rw [ef10, List.length_set]; exact hn9
  have hP : va_P D vwCl ((o, .inr (9, fs10)) :: ar10) H := by rw [ef10]; exact hP
  have hD : va_D A ((o, .inr (9, fs10)) :: ar10) := by rw [ef10]; exact hD
  refine lv_aload_n hx hb dX10_init_94 rfl (lv_at hl 0 rfl) ?_
  refine lv_sipush (v := 202) hx hb dX10_init_95 (by decide) ?_
  refine m_newa (atype := .int) (ty := .int) (a0 := (202, .inl (fun _ => 0))) hx hb k_2_23 rfl hK 0 rfl (fun _ _ h => h) hP hD hS hA (fun _ => rfl) (by decide) (by decide) (by decide +kernel) (by show _ ≤ 37; omega) (by show _ ≤ 29664; omega) dX10_init_98 (fun q98 H hP hD hS => ?_)
  obtain ⟨ar11, ea11⟩ : ∃ z : va_W, z = ar10 ++ [(q98, .inl (cs 0, (202, .inl (fun _ => 0))))] := ⟨_, rfl⟩
  have hP : va_P D vwCl ((o, .inr (9, fs10)) :: ar11) H := by rw [ea11]; exact hP
  have hD : va_D A ((o, .inr (9, fs10)) :: ar11) := by rw [ea11]; exact hD
  refine va_putF (D := D) (ci := 9) (v := .ref q98) (ty := .array .int) (C := RX10) (T := TX10) (N := 71) hx hb hts hinX10 tyX10 tyX10_ok nmX10 hown hK hP hD hS 0 rfl rfl 24 (by decide) k_5_17 (fun _ h9 => h9) rfl hnm rfl (by decide +kernel) rfl rfl (by rw [hn10]; decide) dX10_init_100 (fun H locs hP hD hS => ?_)
  obtain ⟨fs11, ef11⟩ : ∃ z : List Value, z = fs10.set 24 (.ref q98) := ⟨_, rfl⟩
  have hn11 : fs11.length = 71 := by rw [ef11, List.length_set]; exact hn10
  have hP : va_P D vwCl ((o, .inr (9, fs11)) :: ar11) H := by rw [ef11]; exact hP
  have hD : va_D A ((o, .inr (9, fs11)) :: ar11) := by rw [ef11]; exact hD
  refine lv_aload_n hx hb dX10_init_103 rfl (lv_at hl 0 rfl) ?_
  refine lv_sipush (v := 202) hx hb dX10_init_104 (by decide) ?_
  refine m_newa (atype := .int) (ty := .int) (a0 := (202, .inl (fun _ => 0))) hx hb k_2_23 rfl hK 0 rfl (fun _ _ h => h) hP hD hS hA (fun _ => rfl) (by decide) (by decide) (by decide +kernel) (by show _ ≤ 37; omega) (by show _ ≤ 29664; omega) dX10_init_107 (fun q107 H hP hD hS => ?_)
  obtain ⟨ar12, ea12⟩ : ∃ z : va_W, z = ar11 ++ [(q107, .inl (cs 0, (202, .inl (fun _ => 0))))] := ⟨_, rfl⟩
  have hP : va_P D vwCl ((o, .inr (9, fs11)) :: ar12) H := by rw [ea12]; exact hP
  have hD : va_D A ((o, .inr (9, fs11)) :: ar12) := by rw [ea12]; exact hD
  refine va_putF (D := D) (ci := 9) (v := .ref q107) (ty := .array .int) (C := RX10) (T := TX10) (N := 71) hx hb hts hinX10 tyX10 tyX10_ok nmX10 hown hK hP hD hS 0 rfl rfl 25 (by decide) k_5_18 (fun _ h9 => h9) rfl hnm rfl (by decide +kernel) rfl rfl (by rw [hn11]; decide) dX10_init_109 (fun H locs hP hD hS => ?_)
  obtain ⟨fs12, ef12⟩ : ∃ z : List Value, z = fs11.set 25 (.ref q107) := ⟨_, rfl⟩
  have hn12 : fs12.length = 71 := by rw [ef12, List.length_set]; exact hn11
  have hP : va_P D vwCl ((o, .inr (9, fs12)) :: ar12) H := by rw [ef12]; exact hP
  have hD : va_D A ((o, .inr (9, fs12)) :: ar12) := by rw [ef12]; exact hD
  refine lv_aload_n hx hb dX10_init_112 rfl (lv_at hl 0 rfl) ?_
  refine lv_sipush (v := 808) hx hb dX10_init_113 (by decide) ?_
  refine m_newa (atype := .int) (ty := .int) (a0 := (808, .inl (fun _ => 0))) hx hb k_2_23 rfl hK 0 rfl (fun _ _ h => h) hP hD hS hA (fun _ => rfl) (by decide) (by decide) (by decide +kernel) (by show _ ≤ 37; omega) (by show _ ≤ 29664; omega) dX10_init_116 (fun q116 H hP hD hS => ?_)
  obtain ⟨ar13, ea13⟩ : ∃ z : va_W, z = ar12 ++ [(q116, .inl (cs 0, (808, .inl (fun _ => 0))))] := ⟨_, rfl⟩
  have hP : va_P D vwCl ((o, .inr (9, fs12)) :: ar13) H := by rw [ea13]; exact hP
  have hD : va_D A ((o, .inr (9, fs12)) :: ar13) := by rw [ea13]; exact hD
  refine va_putF (D := D) (ci := 9) (v := .ref q116) (ty := .array .int) (C := RX10) (T := TX10) (N := 71) hx hb hts hinX10 tyX10 tyX10_ok nmX10 hown hK hP hD hS 0 rfl rfl 26 (by decide) k_5_19 (fun _ h9 => h9) rfl hnm rfl (by decide +kernel) rfl rfl (by rw [hn12]; decide) dX10_init_118 (fun H locs hP hD hS => ?_)
  obtain ⟨fs13, ef13⟩ : ∃ z : List Value, z = fs12.set 26 (.ref q116) := ⟨_, rfl⟩
  have hn13 : fs13.length = 71 := by rw [ef13, List.length_set]; exact hn12
  have hP : va_P D vwCl ((o, .inr (9, fs13)) :: ar13) H := by rw [ef13]; exact hP
  have hD : va_D A ((o, .inr (9, fs13)) :: ar13) := by rw [ef13]; exact hD
  refine lv_aload_n hx hb dX10_init_121 rfl (lv_at hl 0 rfl) ?_
  refine lv_sipush (v := 808) hx hb dX10_init_122 (by decide) ?_
  refine m_newa (atype := .int) (ty := .int) (a0 := (808, .inl (fun _ => 0))) hx hb k_2_23 rfl hK 0 rfl (fun _ _ h => h) hP hD hS hA (fun _ => rfl) (by decide) (by decide) (by decide +kernel) (by show _ ≤ 37; omega) (by show _ ≤ 29664; omega) dX10_init_125 (fun q125 H hP hD hS => ?_)
  obtain ⟨ar14, ea14⟩ : ∃ z : va_W, z = ar13 ++ [(q125, .inl (cs 0, (808, .inl (fun _ => 0))))] := ⟨_, rfl⟩
  have hP : va_P D vwCl ((o, .inr (9, fs13)) :: ar14) H := by rw [ea14]; exact hP
  have hD : va_D A ((o, .inr (9, fs13)) :: ar14) := by rw [ea14]; exact hD
  refine va_putF (D := D) (ci := 9) (v := .ref q125) (ty := .array .int) (C := RX10) (T := TX10) (N := 71) hx hb hts hinX10 tyX10 tyX10_ok nmX10 hown hK hP hD hS 0 rfl rfl 27 (by decide) k_5_20 (fun _ h9 => h9) rfl hnm rfl (by decide +kernel) rfl rfl (by rw [hn13]; decide) dX10_init_127 (fun H locs hP hD hS => ?_)
  obtain ⟨fs14, ef14⟩ : ∃ z : List Value, z = fs13.set 27 (.ref q125) := ⟨_, rfl⟩
  have hn14 : fs14.length = 71 := by rw [ef14, List.length_set]; exact hn13
  have hP : va_P D vwCl ((o, .inr (9, fs14)) :: ar14) H := by rw [ef14]; exact hP
  have hD : va_D A ((o, .inr (9, fs14)) :: ar14) := by rw [ef14]; exact hD
  refine lv_aload_n hx hb dX10_init_130 rfl (lv_at hl 0 rfl) ?_
  refine lv_sipush (v := 202) hx hb dX10_init_131 (by decide) ?_
  refine m_newa (atype := .int) (ty := .int) (a0 := (202, .inl (fun _ => 0))) hx hb k_2_23 rfl hK 0 rfl (fun _ _ h => h) hP hD hS hA (fun _ => rfl) (by decide) (by decide) (by decide +kernel) (by show _ ≤ 37; omega) (by show _ ≤ 29664; omega) dX10_init_134 (fun q134 H hP hD hS => ?_)
  obtain ⟨ar15, ea15⟩ : ∃ z : va_W, z = ar14 ++ [(q134, .inl (cs 0, (202, .inl (fun _ => 0))))] := ⟨_, rfl⟩
  have hP : va_P D vwCl ((o, .inr (9, fs14)) :: ar15) H := by rw [ea15]; exact hP
  have hD : va_D A ((o, .inr (9, fs14)) :: ar15) := by rw [ea15]; exact hD
  refine va_putF (D := D) (ci := 9) (v := .ref q134) (ty := .array .int) (C := RX10) (T := TX10) (N := 71) hx hb hts hinX10 tyX10 tyX10_ok nmX10 hown hK hP hD hS 0 rfl rfl 28 (by decide) k_5_21 (fun _ h9 => h9) rfl hnm rfl (by decide +kernel) rfl rfl (by rw [hn14]; decide) dX10_init_136 (fun H locs hP hD hS => ?_)
  obtain ⟨fs15, ef15⟩ : ∃ z : List Value, z = fs14.set 28 (.ref q134) := ⟨_, rfl⟩
  have hn15 : fs15.length = 71 := by rw [ef15, List.length_set]; exact hn14
  have hP : va_P D vwCl ((o, .inr (9, fs15)) :: ar15) H := by rw [ef15]; exact hP
  have hD : va_D A ((o, .inr (9, fs15)) :: ar15) := by rw [ef15]; exact hD
  refine lv_aload_n hx hb dX10_init_139 rfl (lv_at hl 0 rfl) ?_
  refine lv_sipush (v := 202) hx hb dX10_init_140 (by decide) ?_
  refine m_newa (atype := .int) (ty := .int) (a0 := (202, .inl (fun _ => 0))) hx hb k_2_23 rfl hK 0 rfl (fun _ _ h => h) hP hD hS hA (fun _ => rfl) (by decide) (by decide) (by decide +kernel) (by show _ ≤ 37; omega) (by show _ ≤ 29664; omega) dX10_init_143 (fun q143 H hP hD hS => ?_)
  obtain ⟨ar16, ea16⟩ : ∃ z : va_W, z = ar15 ++ [(q143, .inl (cs 0, (202, .inl (fun _ => 0))))] := ⟨_, rfl⟩
  have hP : va_P D vwCl ((o, .inr (9, fs15)) :: ar16) H := by rw [ea16]; exact hP
  have hD : va_D A ((o, .inr (9, fs15)) :: ar16) := by rw [ea16]; exact hD
  refine va_putF (D := D) (ci := 9) (v := .ref q143) (ty := .array .int) (C := RX10) (T := TX10) (N := 71) hx hb hts hinX10 tyX10 tyX10_ok nmX10 hown hK hP hD hS 0 rfl rfl 29 (by decide) k_5_22 (fun _ h9 => h9) rfl hnm rfl (by decide +kernel) rfl rfl (by rw [hn15]; decide) dX10_init_145 (fun H locs hP hD hS => ?_)
  obtain ⟨fs16, ef16⟩ : ∃ z : List Value, z = fs15.set 29 (.ref q143) := ⟨_, rfl⟩
  have hn16 : fs16.length = 71 := by rw [ef16, List.length_set]; exact hn15
  have hP : va_P D vwCl ((o, .inr (9, fs16)) :: ar16) H := by rw [ef16]; exact hP
  have hD : va_D A ((o, .inr (9, fs16)) :: ar16) := by rw [ef16]; exact hD
  refine lv_aload_n hx hb dX10_init_148 rfl (lv_at hl 0 rfl) ?_
  refine lv_sipush (v := 202) hx hb dX10_init_149 (by decide) ?_
  refine m_newa (atype := .long) (ty := .long) (a0 := (202, .inr (.inl (fun _ => 0)))) hx hb k_1_6 rfl hK 1 rfl (fun _ _ h => h) hP hD hS hA (fun _ => rfl) (by decide) (by decide) (by decide +kernel) (by show _ ≤ 37; omega) (by show _ ≤ 29664; omega) dX10_init_152 (fun q152 H hP hD hS => ?_)
  obtain ⟨ar17, ea17⟩ : ∃ z : va_W, z = ar16 ++ [(q152, .inl (cs 1, (202, .inr (.inl (fun _ => 0)))))] := ⟨_, rfl⟩
  have hP : va_P D vwCl ((o, .inr (9, fs16)) :: ar17) H := by rw [ea17]; exact hP
  have hD : va_D A ((o, .inr (9, fs16)) :: ar17) := by rw [ea17]; exact hD
  refine va_putF (D := D) (ci := 9) (v := .ref q152) (ty := .array .long) (C := RX10) (T := TX10) (N := 71) hx hb hts hinX10 tyX10 tyX10_ok nmX10 hown hK hP hD hS 0 rfl rfl 30 (by decide) k_5_23 (fun _ h9 => h9) rfl hnm rfl (by decide +kernel) rfl rfl (by rw [hn16]; decide) dX10_init_154 (fun H locs hP hD hS => ?_)
  obtain ⟨fs17, ef17⟩ : ∃ z : List Value, z = fs16.set 30 (.ref q152) := ⟨_, rfl⟩
  have hn17 : fs17.length = 71 := by rw [ef17, List.length_set]; exact hn16
  have hP : va_P D vwCl ((o, .inr (9, fs17)) :: ar17) H := by rw [ef17]; exact hP
  have hD : va_D A ((o, .inr (9, fs17)) :: ar17) := by rw [ef17]; exact hD
  refine lv_aload_n hx hb dX10_init_157 rfl (lv_at hl 0 rfl) ?_
  refine lv_sipush (v := 4000) hx hb dX10_init_158 (by decide) ?_
  refine m_newa (atype := .int) (ty := .int) (a0 := (4000, .inl (fun _ => 0))) hx hb k_2_23 rfl hK 0 rfl (fun _ _ h => h) hP hD hS hA (fun _ => rfl) (by decide) (by decide) (by decide +kernel) (by show _ ≤ 37; omega) (by show _ ≤ 29664; omega) dX10_init_161 (fun q161 H hP hD hS => ?_)
  obtain ⟨ar18, ea18⟩ : ∃ z : va_W, z = ar17 ++ [(q161, .inl (cs 0, (4000, .inl (fun _ => 0))))] := ⟨_, rfl⟩
  have hP : va_P D vwCl ((o, .inr (9, fs17)) :: ar18) H := by rw [ea18]; exact hP
  have hD : va_D A ((o, .inr (9, fs17)) :: ar18) := by rw [ea18]; exact hD
  refine va_putF (D := D) (ci := 9) (v := .ref q161) (ty := .array .int) (C := RX10) (T := TX10) (N := 71) hx hb hts hinX10 tyX10 tyX10_ok nmX10 hown hK hP hD hS 0 rfl rfl 37 (by decide) k_6_0 (fun _ h9 => h9) rfl hnm rfl (by decide +kernel) rfl rfl (by rw [hn17]; decide) dX10_init_163 (fun H locs hP hD hS => ?_)
  obtain ⟨fs18, ef18⟩ : ∃ z : List Value, z = fs17.set 37 (.ref q161) := ⟨_, rfl⟩
  have hn18 : fs18.length = 71 := by rw [ef18, List.length_set]; exact hn17
  have hP : va_P D vwCl ((o, .inr (9, fs18)) :: ar18) H := by rw [ef18]; exact hP
  have hD : va_D A ((o, .inr (9, fs18)) :: ar18) := by rw [ef18]; exact hD
  refine lv_aload_n hx hb dX10_init_166 rfl (lv_at hl 0 rfl) ?_
  refine lv_bipush (v := 26) hx hb dX10_init_167 (by decide) ?_
  refine m_newa (atype := .int) (ty := .int) (a0 := (26, .inl (fun _ => 0))) hx hb k_2_23 rfl hK 0 rfl (fun _ _ h => h) hP hD hS hA (fun _ => rfl) (by decide) (by decide) (by decide +kernel) (by show _ ≤ 37; omega) (by show _ ≤ 29664; omega) dX10_init_169 (fun q169 H hP hD hS => ?_)
  obtain ⟨ar19, ea19⟩ : ∃ z : va_W, z = ar18 ++ [(q169, .inl (cs 0, (26, .inl (fun _ => 0))))] := ⟨_, rfl⟩
  have hP : va_P D vwCl ((o, .inr (9, fs18)) :: ar19) H := by rw [ea19]; exact hP
  have hD : va_D A ((o, .inr (9, fs18)) :: ar19) := by rw [ea19]; exact hD
  refine va_putF (D := D) (ci := 9) (v := .ref q169) (ty := .array .int) (C := RX10) (T := TX10) (N := 71) hx hb hts hinX10 tyX10 tyX10_ok nmX10 hown hK hP hD hS 0 rfl rfl 39 (by decide) k_6_1 (fun _ h9 => h9) rfl hnm rfl (by decide +kernel) rfl rfl (by rw [hn18]; decide) dX10_init_171 (fun H locs hP hD hS => ?_)
  obtain ⟨fs19, ef19⟩ : ∃ z : List Value, z = fs18.set 39 (.ref q169) := ⟨_, rfl⟩
  have hn19 : fs19.length = 71 := by rw [ef19, List.length_set]; exact hn18
  have hP : va_P D vwCl ((o, .inr (9, fs19)) :: ar19) H := by rw [ef19]; exact hP
  have hD : va_D A ((o, .inr (9, fs19)) :: ar19) := by rw [ef19]; exact hD
  refine lv_aload_n hx hb dX10_init_174 rfl (lv_at hl 0 rfl) ?_
  refine lv_bipush (v := 26) hx hb dX10_init_175 (by decide) ?_
  refine m_newa (atype := .int) (ty := .int) (a0 := (26, .inl (fun _ => 0))) hx hb k_2_23 rfl hK 0 rfl (fun _ _ h => h) hP hD hS hA (fun _ => rfl) (by decide) (by decide) (by decide +kernel) (by show _ ≤ 37; omega) (by show _ ≤ 29664; omega) dX10_init_177 (fun q177 H hP hD hS => ?_)
  obtain ⟨ar20, ea20⟩ : ∃ z : va_W, z = ar19 ++ [(q177, .inl (cs 0, (26, .inl (fun _ => 0))))] := ⟨_, rfl⟩
  have hP : va_P D vwCl ((o, .inr (9, fs19)) :: ar20) H := by rw [ea20]; exact hP
  have hD : va_D A ((o, .inr (9, fs19)) :: ar20) := by rw [ea20]; exact hD
  refine va_putF (D := D) (ci := 9) (v := .ref q177) (ty := .array .int) (C := RX10) (T := TX10) (N := 71) hx hb hts hinX10 tyX10 tyX10_ok nmX10 hown hK hP hD hS 0 rfl rfl 40 (by decide) k_6_2 (fun _ h9 => h9) rfl hnm rfl (by decide +kernel) rfl rfl (by rw [hn19]; decide) dX10_init_179 (fun H locs hP hD hS => ?_)
  obtain ⟨fs20, ef20⟩ : ∃ z : List Value, z = fs19.set 40 (.ref q177) := ⟨_, rfl⟩
  have hn20 : fs20.length = 71 := by rw [ef20, List.length_set]; exact hn19
  have hP : va_P D vwCl ((o, .inr (9, fs20)) :: ar20) H := by rw [ef20]; exact hP
  have hD : va_D A ((o, .inr (9, fs20)) :: ar20) := by rw [ef20]; exact hD
  refine lv_aload_n hx hb dX10_init_182 rfl (lv_at hl 0 rfl) ?_
  refine lv_bipush (v := 26) hx hb dX10_init_183 (by decide) ?_
  refine m_newa (atype := .long) (ty := .long) (a0 := (26, .inr (.inl (fun _ => 0)))) hx hb k_1_6 rfl hK 1 rfl (fun _ _ h => h) hP hD hS hA (fun _ => rfl) (by decide) (by decide) (by decide +kernel) (by show _ ≤ 37; omega) (by show _ ≤ 29664; omega) dX10_init_185 (fun q185 H hP hD hS => ?_)
  obtain ⟨ar21, ea21⟩ : ∃ z : va_W, z = ar20 ++ [(q185, .inl (cs 1, (26, .inr (.inl (fun _ => 0)))))] := ⟨_, rfl⟩
  have hP : va_P D vwCl ((o, .inr (9, fs20)) :: ar21) H := by rw [ea21]; exact hP
  have hD : va_D A ((o, .inr (9, fs20)) :: ar21) := by rw [ea21]; exact hD
  refine va_putF (D := D) (ci := 9) (v := .ref q185) (ty := .array .long) (C := RX10) (T := TX10) (N := 71) hx hb hts hinX10 tyX10 tyX10_ok nmX10 hown hK hP hD hS 0 rfl rfl 41 (by decide) k_6_3 (fun _ h9 => h9) rfl hnm rfl (by decide +kernel) rfl rfl (by rw [hn20]; decide) dX10_init_187 (fun H locs hP hD hS => ?_)
  obtain ⟨fs21, ef21⟩ : ∃ z : List Value, z = fs20.set 41 (.ref q185) := ⟨_, rfl⟩
  have hn21 : fs21.length = 71 := by rw [ef21, List.length_set]; exact hn20
  have hP : va_P D vwCl ((o, .inr (9, fs21)) :: ar21) H := by rw [ef21]; exact hP
  have hD : va_D A ((o, .inr (9, fs21)) :: ar21) := by rw [ef21]; exact hD
  refine lv_aload_n hx hb dX10_init_190 rfl (lv_at hl 0 rfl) ?_
  refine lv_bipush (v := 110) hx hb dX10_init_191 (by decide) ?_
  refine m_newa (atype := .int) (ty := .int) (a0 := (110, .inl (fun _ => 0))) hx hb k_2_23 rfl hK 0 rfl (fun _ _ h => h) hP hD hS hA (fun _ => rfl) (by decide) (by decide) (by decide +kernel) (by show _ ≤ 37; omega) (by show _ ≤ 29664; omega) dX10_init_193 (fun q193 H hP hD hS => ?_)
  obtain ⟨ar22, ea22⟩ : ∃ z : va_W, z = ar21 ++ [(q193, .inl (cs 0, (110, .inl (fun _ => 0))))] := ⟨_, rfl⟩
  have hP : va_P D vwCl ((o, .inr (9, fs21)) :: ar22) H := by rw [ea22]; exact hP
  have hD : va_D A ((o, .inr (9, fs21)) :: ar22) := by rw [ea22]; exact hD
  refine va_putF (D := D) (ci := 9) (v := .ref q193) (ty := .array .int) (C := RX10) (T := TX10) (N := 71) hx hb hts hinX10 tyX10 tyX10_ok nmX10 hown hK hP hD hS 0 rfl rfl 42 (by decide) k_6_4 (fun _ h9 => h9) rfl hnm rfl (by decide +kernel) rfl rfl (by rw [hn21]; decide) dX10_init_195 (fun H locs hP hD hS => ?_)
  obtain ⟨fs22, ef22⟩ : ∃ z : List Value, z = fs21.set 42 (.ref q193) := ⟨_, rfl⟩
  have hn22 : fs22.length = 71 := by rw [ef22, List.length_set]; exact hn21
  have hP : va_P D vwCl ((o, .inr (9, fs22)) :: ar22) H := by rw [ef22]; exact hP
  have hD : va_D A ((o, .inr (9, fs22)) :: ar22) := by rw [ef22]; exact hD
  refine lv_aload_n hx hb dX10_init_198 rfl (lv_at hl 0 rfl) ?_
  refine lv_sipush (v := 210) hx hb dX10_init_199 (by decide) ?_
  refine m_newa (atype := .int) (ty := .int) (a0 := (210, .inl (fun _ => 0))) hx hb k_2_23 rfl hK 0 rfl (fun _ _ h => h) hP hD hS hA (fun _ => rfl) (by decide) (by decide) (by decide +kernel) (by show _ ≤ 37; omega) (by show _ ≤ 29664; omega) dX10_init_202 (fun q202 H hP hD hS => ?_)
  obtain ⟨ar23, ea23⟩ : ∃ z : va_W, z = ar22 ++ [(q202, .inl (cs 0, (210, .inl (fun _ => 0))))] := ⟨_, rfl⟩
  have hP : va_P D vwCl ((o, .inr (9, fs22)) :: ar23) H := by rw [ea23]; exact hP
  have hD : va_D A ((o, .inr (9, fs22)) :: ar23) := by rw [ea23]; exact hD
  refine va_putF (D := D) (ci := 9) (v := .ref q202) (ty := .array .int) (C := RX10) (T := TX10) (N := 71) hx hb hts hinX10 tyX10 tyX10_ok nmX10 hown hK hP hD hS 0 rfl rfl 44 (by decide) k_6_5 (fun _ h9 => h9) rfl hnm rfl (by decide +kernel) rfl rfl (by rw [hn22]; decide) dX10_init_204 (fun H locs hP hD hS => ?_)
  obtain ⟨fs23, ef23⟩ : ∃ z : List Value, z = fs22.set 44 (.ref q202) := ⟨_, rfl⟩
  have hn23 : fs23.length = 71 := by rw [ef23, List.length_set]; exact hn22
  have hP : va_P D vwCl ((o, .inr (9, fs23)) :: ar23) H := by rw [ef23]; exact hP
  have hD : va_D A ((o, .inr (9, fs23)) :: ar23) := by rw [ef23]; exact hD
  refine lv_aload_n hx hb dX10_init_207 rfl (lv_at hl 0 rfl) ?_
  refine lv_sipush (v := 210) hx hb dX10_init_208 (by decide) ?_
  refine m_newa (atype := .int) (ty := .int) (a0 := (210, .inl (fun _ => 0))) hx hb k_2_23 rfl hK 0 rfl (fun _ _ h => h) hP hD hS hA (fun _ => rfl) (by decide) (by decide) (by decide +kernel) (by show _ ≤ 37; omega) (by show _ ≤ 29664; omega) dX10_init_211 (fun q211 H hP hD hS => ?_)
  obtain ⟨ar24, ea24⟩ : ∃ z : va_W, z = ar23 ++ [(q211, .inl (cs 0, (210, .inl (fun _ => 0))))] := ⟨_, rfl⟩
  have hP : va_P D vwCl ((o, .inr (9, fs23)) :: ar24) H := by rw [ea24]; exact hP
  have hD : va_D A ((o, .inr (9, fs23)) :: ar24) := by rw [ea24]; exact hD
  refine va_putF (D := D) (ci := 9) (v := .ref q211) (ty := .array .int) (C := RX10) (T := TX10) (N := 71) hx hb hts hinX10 tyX10 tyX10_ok nmX10 hown hK hP hD hS 0 rfl rfl 45 (by decide) k_6_6 (fun _ h9 => h9) rfl hnm rfl (by decide +kernel) rfl rfl (by rw [hn23]; decide) dX10_init_213 (fun H locs hP hD hS => ?_)
  obtain ⟨fs24, ef24⟩ : ∃ z : List Value, z = fs23.set 45 (.ref q211) := ⟨_, rfl⟩
  have hn24 : fs24.length = 71 := by rw [ef24, List.length_set]; exact hn23
  have hP : va_P D vwCl ((o, .inr (9, fs24)) :: ar24) H := by rw [ef24]; exact hP
  have hD : va_D A ((o, .inr (9, fs24)) :: ar24) := by rw [ef24]; exact hD
  refine lv_aload_n hx hb dX10_init_216 rfl (lv_at hl 0 rfl) ?_
  refine lv_sipush (v := 210) hx hb dX10_init_217 (by decide) ?_
  refine m_newa (atype := .int) (ty := .int) (a0 := (210, .inl (fun _ => 0))) hx hb k_2_23 rfl hK 0 rfl (fun _ _ h => h) hP hD hS hA (fun _ => rfl) (by decide) (by decide) (by decide +kernel) (by show _ ≤ 37; omega) (by show _ ≤ 29664; omega) dX10_init_220 (fun q220 H hP hD hS => ?_)
  obtain ⟨ar25, ea25⟩ : ∃ z : va_W, z = ar24 ++ [(q220, .inl (cs 0, (210, .inl (fun _ => 0))))] := ⟨_, rfl⟩
  have hP : va_P D vwCl ((o, .inr (9, fs24)) :: ar25) H := by rw [ea25]; exact hP
  have hD : va_D A ((o, .inr (9, fs24)) :: ar25) := by rw [ea25]; exact hD
  refine va_putF (D := D) (ci := 9) (v := .ref q220) (ty := .array .int) (C := RX10) (T := TX10) (N := 71) hx hb hts hinX10 tyX10 tyX10_ok nmX10 hown hK hP hD hS 0 rfl rfl 46 (by decide) k_6_7 (fun _ h9 => h9) rfl hnm rfl (by decide +kernel) rfl rfl (by rw [hn24]; decide) dX10_init_222 (fun H locs hP hD hS => ?_)
  obtain ⟨fs25, ef25⟩ : ∃ z : List Value, z = fs24.set 46 (.ref q220) := ⟨_, rfl⟩
  have hn25 : fs25.length = 71 := by rw [ef25, List.length_set]; exact hn24
  have hP : va_P D vwCl ((o, .inr (9, fs25)) :: ar25) H := by rw [ef25]; exact hP
  have hD : va_D A ((o, .inr (9, fs25)) :: ar25) := by rw [ef25]; exact hD
  refine lv_aload_n hx hb dX10_init_225 rfl (lv_at hl 0 rfl) ?_
  refine lv_sipush (v := 4100) hx hb dX10_init_226 (by decide) ?_
  refine m_newa (atype := .int) (ty := .int) (a0 := (4100, .inl (fun _ => 0))) hx hb k_2_23 rfl hK 0 rfl (fun _ _ h => h) hP hD hS hA (fun _ => rfl) (by decide) (by decide) (by decide +kernel) (by show _ ≤ 37; omega) (by show _ ≤ 29664; omega) dX10_init_229 (fun q229 H hP hD hS => ?_)
  obtain ⟨ar26, ea26⟩ : ∃ z : va_W, z = ar25 ++ [(q229, .inl (cs 0, (4100, .inl (fun _ => 0))))] := ⟨_, rfl⟩
  have hP : va_P D vwCl ((o, .inr (9, fs25)) :: ar26) H := by rw [ea26]; exact hP
  have hD : va_D A ((o, .inr (9, fs25)) :: ar26) := by rw [ea26]; exact hD
  refine va_putF (D := D) (ci := 9) (v := .ref q229) (ty := .array .int) (C := RX10) (T := TX10) (N := 71) hx hb hts hinX10 tyX10 tyX10_ok nmX10 hown hK hP hD hS 0 rfl rfl 49 (by decide) k_6_8 (fun _ h9 => h9) rfl hnm rfl (by decide +kernel) rfl rfl (by rw [hn25]; decide) dX10_init_231 (fun H locs hP hD hS => ?_)
  obtain ⟨fs26, ef26⟩ : ∃ z : List Value, z = fs25.set 49 (.ref q229) := ⟨_, rfl⟩
  have hn26 : fs26.length = 71 := by rw [ef26, List.length_set]; exact hn25
  have hP : va_P D vwCl ((o, .inr (9, fs26)) :: ar26) H := by rw [ef26]; exact hP
  have hD : va_D A ((o, .inr (9, fs26)) :: ar26) := by rw [ef26]; exact hD
  refine lv_aload_n hx hb dX10_init_234 rfl (lv_at hl 0 rfl) ?_
  refine lv_sipush (v := 4100) hx hb dX10_init_235 (by decide) ?_
  refine m_newa (atype := .int) (ty := .int) (a0 := (4100, .inl (fun _ => 0))) hx hb k_2_23 rfl hK 0 rfl (fun _ _ h => h) hP hD hS hA (fun _ => rfl) (by decide) (by decide) (by decide +kernel) (by show _ ≤ 37; omega) (by show _ ≤ 29664; omega) dX10_init_238 (fun q238 H hP hD hS => ?_)
  obtain ⟨ar27, ea27⟩ : ∃ z : va_W, z = ar26 ++ [(q238, .inl (cs 0, (4100, .inl (fun _ => 0))))] := ⟨_, rfl⟩
  have hP : va_P D vwCl ((o, .inr (9, fs26)) :: ar27) H := by rw [ea27]; exact hP
  have hD : va_D A ((o, .inr (9, fs26)) :: ar27) := by rw [ea27]; exact hD
  refine va_putF (D := D) (ci := 9) (v := .ref q238) (ty := .array .int) (C := RX10) (T := TX10) (N := 71) hx hb hts hinX10 tyX10 tyX10_ok nmX10 hown hK hP hD hS 0 rfl rfl 50 (by decide) k_6_9 (fun _ h9 => h9) rfl hnm rfl (by decide +kernel) rfl rfl (by rw [hn26]; decide) dX10_init_240 (fun H locs hP hD hS => ?_)
  obtain ⟨fs27, ef27⟩ : ∃ z : List Value, z = fs26.set 50 (.ref q238) := ⟨_, rfl⟩
  have hn27 : fs27.length = 71 := by rw [ef27, List.length_set]; exact hn26
  have hP : va_P D vwCl ((o, .inr (9, fs27)) :: ar27) H := by rw [ef27]; exact hP
  have hD : va_D A ((o, .inr (9, fs27)) :: ar27) := by rw [ef27]; exact hD
  refine lv_aload_n hx hb dX10_init_243 rfl (lv_at hl 0 rfl) ?_
  refine lv_sipush (v := 4100) hx hb dX10_init_244 (by decide) ?_
  refine m_newa (atype := .long) (ty := .long) (a0 := (4100, .inr (.inl (fun _ => 0)))) hx hb k_1_6 rfl hK 1 rfl (fun _ _ h => h) hP hD hS hA (fun _ => rfl) (by decide) (by decide) (by decide +kernel) (by show _ ≤ 37; omega) (by show _ ≤ 29664; omega) dX10_init_247 (fun q247 H hP hD hS => ?_)
  obtain ⟨ar28, ea28⟩ : ∃ z : va_W, z = ar27 ++ [(q247, .inl (cs 1, (4100, .inr (.inl (fun _ => 0)))))] := ⟨_, rfl⟩
  have hP : va_P D vwCl ((o, .inr (9, fs27)) :: ar28) H := by rw [ea28]; exact hP
  have hD : va_D A ((o, .inr (9, fs27)) :: ar28) := by rw [ea28]; exact hD
  refine va_putF (D := D) (ci := 9) (v := .ref q247) (ty := .array .long) (C := RX10) (T := TX10) (N := 71) hx hb hts hinX10 tyX10 tyX10_ok nmX10 hown hK hP hD hS 0 rfl rfl 51 (by decide) k_6_10 (fun _ h9 => h9) rfl hnm rfl (by decide +kernel) rfl rfl (by rw [hn27]; decide) dX10_init_249 (fun H locs hP hD hS => ?_)
  obtain ⟨fs28, ef28⟩ : ∃ z : List Value, z = fs27.set 51 (.ref q247) := ⟨_, rfl⟩
  have hn28 : fs28.length = 71 := by rw [ef28, List.length_set]; exact hn27
  have hP : va_P D vwCl ((o, .inr (9, fs28)) :: ar28) H := by rw [ef28]; exact hP
  have hD : va_D A ((o, .inr (9, fs28)) :: ar28) := by rw [ef28]; exact hD
  refine lv_aload_n hx hb dX10_init_252 rfl (lv_at hl 0 rfl) ?_
  refine lv_sipush (v := 600) hx hb dX10_init_253 (by decide) ?_
  refine m_newa (atype := .int) (ty := .int) (a0 := (600, .inl (fun _ => 0))) hx hb k_2_23 rfl hK 0 rfl (fun _ _ h => h) hP hD hS hA (fun _ => rfl) (by decide) (by decide) (by decide +kernel) (by show _ ≤ 37; omega) (by show _ ≤ 29664; omega) dX10_init_256 (fun q256 H hP hD hS => ?_)
  obtain ⟨ar29, ea29⟩ : ∃ z : va_W, z = ar28 ++ [(q256, .inl (cs 0, (600, .inl (fun _ => 0))))] := ⟨_, rfl⟩
  have hP : va_P D vwCl ((o, .inr (9, fs28)) :: ar29) H := by rw [ea29]; exact hP
  have hD : va_D A ((o, .inr (9, fs28)) :: ar29) := by rw [ea29]; exact hD
  refine va_putF (D := D) (ci := 9) (v := .ref q256) (ty := .array .int) (C := RX10) (T := TX10) (N := 71) hx hb hts hinX10 tyX10 tyX10_ok nmX10 hown hK hP hD hS 0 rfl rfl 52 (by decide) k_6_11 (fun _ h9 => h9) rfl hnm rfl (by decide +kernel) rfl rfl (by rw [hn28]; decide) dX10_init_258 (fun H locs hP hD hS => ?_)
  obtain ⟨fs29, ef29⟩ : ∃ z : List Value, z = fs28.set 52 (.ref q256) := ⟨_, rfl⟩
  have hn29 : fs29.length = 71 := by rw [ef29, List.length_set]; exact hn28
  have hP : va_P D vwCl ((o, .inr (9, fs29)) :: ar29) H := by rw [ef29]; exact hP
  have hD : va_D A ((o, .inr (9, fs29)) :: ar29) := by rw [ef29]; exact hD
  refine lv_aload_n hx hb dX10_init_261 rfl (lv_at hl 0 rfl) ?_
  refine lv_sipush (v := 600) hx hb dX10_init_262 (by decide) ?_
  refine m_newa (atype := .int) (ty := .int) (a0 := (600, .inl (fun _ => 0))) hx hb k_2_23 rfl hK 0 rfl (fun _ _ h => h) hP hD hS hA (fun _ => rfl) (by decide) (by decide) (by decide +kernel) (by show _ ≤ 37; omega) (by show _ ≤ 29664; omega) dX10_init_265 (fun q265 H hP hD hS => ?_)
  obtain ⟨ar30, ea30⟩ : ∃ z : va_W, z = ar29 ++ [(q265, .inl (cs 0, (600, .inl (fun _ => 0))))] := ⟨_, rfl⟩
  have hP : va_P D vwCl ((o, .inr (9, fs29)) :: ar30) H := by rw [ea30]; exact hP
  have hD : va_D A ((o, .inr (9, fs29)) :: ar30) := by rw [ea30]; exact hD
  refine va_putF (D := D) (ci := 9) (v := .ref q265) (ty := .array .int) (C := RX10) (T := TX10) (N := 71) hx hb hts hinX10 tyX10 tyX10_ok nmX10 hown hK hP hD hS 0 rfl rfl 53 (by decide) k_6_12 (fun _ h9 => h9) rfl hnm rfl (by decide +kernel) rfl rfl (by rw [hn29]; decide) dX10_init_267 (fun H locs hP hD hS => ?_)
  obtain ⟨fs30, ef30⟩ : ∃ z : List Value, z = fs29.set 53 (.ref q265) := ⟨_, rfl⟩
  have hn30 : fs30.length = 71 := by rw [ef30, List.length_set]; exact hn29
  have hP : va_P D vwCl ((o, .inr (9, fs30)) :: ar30) H := by rw [ef30]; exact hP
  have hD : va_D A ((o, .inr (9, fs30)) :: ar30) := by rw [ef30]; exact hD
  refine lv_aload_n hx hb dX10_init_270 rfl (lv_at hl 0 rfl) ?_
  refine lv_sipush (v := 600) hx hb dX10_init_271 (by decide) ?_
  refine m_newa (atype := .long) (ty := .long) (a0 := (600, .inr (.inl (fun _ => 0)))) hx hb k_1_6 rfl hK 1 rfl (fun _ _ h => h) hP hD hS hA (fun _ => rfl) (by decide) (by decide) (by decide +kernel) (by show _ ≤ 37; omega) (by show _ ≤ 29664; omega) dX10_init_274 (fun q274 H hP hD hS => ?_)
  obtain ⟨ar31, ea31⟩ : ∃ z : va_W, z = ar30 ++ [(q274, .inl (cs 1, (600, .inr (.inl (fun _ => 0)))))] := ⟨_, rfl⟩
  have hP : va_P D vwCl ((o, .inr (9, fs30)) :: ar31) H := by rw [ea31]; exact hP
  have hD : va_D A ((o, .inr (9, fs30)) :: ar31) := by rw [ea31]; exact hD
  refine va_putF (D := D) (ci := 9) (v := .ref q274) (ty := .array .long) (C := RX10) (T := TX10) (N := 71) hx hb hts hinX10 tyX10 tyX10_ok nmX10 hown hK hP hD hS 0 rfl rfl 54 (by decide) k_6_13 (fun _ h9 => h9) rfl hnm rfl (by decide +kernel) rfl rfl (by rw [hn30]; decide) dX10_init_276 (fun H locs hP hD hS => ?_)
  obtain ⟨fs31, ef31⟩ : ∃ z : List Value, z = fs30.set 54 (.ref q274) := ⟨_, rfl⟩
  have hn31 : fs31.length = 71 := by rw [ef31, List.length_set]; exact hn30
  have hP : va_P D vwCl ((o, .inr (9, fs31)) :: ar31) H := by rw [ef31]; exact hP
  have hD : va_D A ((o, .inr (9, fs31)) :: ar31) := by rw [ef31]; exact hD
  refine lv_aload_n hx hb dX10_init_279 rfl (lv_at hl 0 rfl) ?_
  refine lv_bipush (v := 100) hx hb dX10_init_280 (by decide) ?_
  refine m_newa (atype := .int) (ty := .int) (a0 := (100, .inl (fun _ => 0))) hx hb k_2_23 rfl hK 0 rfl (fun _ _ h => h) hP hD hS hA (fun _ => rfl) (by decide) (by decide) (by decide +kernel) (by show _ ≤ 37; omega) (by show _ ≤ 29664; omega) dX10_init_282 (fun q282 H hP hD hS => ?_)
  obtain ⟨ar32, ea32⟩ : ∃ z : va_W, z = ar31 ++ [(q282, .inl (cs 0, (100, .inl (fun _ => 0))))] := ⟨_, rfl⟩
  have hP : va_P D vwCl ((o, .inr (9, fs31)) :: ar32) H := by rw [ea32]; exact hP
  have hD : va_D A ((o, .inr (9, fs31)) :: ar32) := by rw [ea32]; exact hD
  refine va_putF (D := D) (ci := 9) (v := .ref q282) (ty := .array .int) (C := RX10) (T := TX10) (N := 71) hx hb hts hinX10 tyX10 tyX10_ok nmX10 hown hK hP hD hS 0 rfl rfl 55 (by decide) k_6_14 (fun _ h9 => h9) rfl hnm rfl (by decide +kernel) rfl rfl (by rw [hn31]; decide) dX10_init_284 (fun H locs hP hD hS => ?_)
  obtain ⟨fs32, ef32⟩ : ∃ z : List Value, z = fs31.set 55 (.ref q282) := ⟨_, rfl⟩
  have hn32 : fs32.length = 71 := by rw [ef32, List.length_set]; exact hn31
  have hP : va_P D vwCl ((o, .inr (9, fs32)) :: ar32) H := by rw [ef32]; exact hP
  have hD : va_D A ((o, .inr (9, fs32)) :: ar32) := by rw [ef32]; exact hD
  refine lv_aload_n hx hb dX10_init_287 rfl (lv_at hl 0 rfl) ?_
  refine lv_bipush (v := 50) hx hb dX10_init_288 (by decide) ?_
  refine m_newa (atype := .int) (ty := .int) (a0 := (50, .inl (fun _ => 0))) hx hb k_2_23 rfl hK 0 rfl (fun _ _ h => h) hP hD hS hA (fun _ => rfl) (by decide) (by decide) (by decide +kernel) (by show _ ≤ 37; omega) (by show _ ≤ 29664; omega) dX10_init_290 (fun q290 H hP hD hS => ?_)
  obtain ⟨ar33, ea33⟩ : ∃ z : va_W, z = ar32 ++ [(q290, .inl (cs 0, (50, .inl (fun _ => 0))))] := ⟨_, rfl⟩
  have hP : va_P D vwCl ((o, .inr (9, fs32)) :: ar33) H := by rw [ea33]; exact hP
  have hD : va_D A ((o, .inr (9, fs32)) :: ar33) := by rw [ea33]; exact hD
  refine va_putF (D := D) (ci := 9) (v := .ref q290) (ty := .array .int) (C := RX10) (T := TX10) (N := 71) hx hb hts hinX10 tyX10 tyX10_ok nmX10 hown hK hP hD hS 0 rfl rfl 61 (by decide) k_6_15 (fun _ h9 => h9) rfl hnm rfl (by decide +kernel) rfl rfl (by rw [hn32]; decide) dX10_init_292 (fun H locs hP hD hS => ?_)
  obtain ⟨fs33, ef33⟩ : ∃ z : List Value, z = fs32.set 61 (.ref q290) := ⟨_, rfl⟩
  have hn33 : fs33.length = 71 := by rw [ef33, List.length_set]; exact hn32
  have hP : va_P D vwCl ((o, .inr (9, fs33)) :: ar33) H := by rw [ef33]; exact hP
  have hD : va_D A ((o, .inr (9, fs33)) :: ar33) := by rw [ef33]; exact hD
  refine lv_aload_n hx hb dX10_init_295 rfl (lv_at hl 0 rfl) ?_
  refine lv_bipush (v := 50) hx hb dX10_init_296 (by decide) ?_
  refine m_newa (atype := .int) (ty := .int) (a0 := (50, .inl (fun _ => 0))) hx hb k_2_23 rfl hK 0 rfl (fun _ _ h => h) hP hD hS hA (fun _ => rfl) (by decide) (by decide) (by decide +kernel) (by show _ ≤ 37; omega) (by show _ ≤ 29664; omega) dX10_init_298 (fun q298 H hP hD hS => ?_)
  obtain ⟨ar34, ea34⟩ : ∃ z : va_W, z = ar33 ++ [(q298, .inl (cs 0, (50, .inl (fun _ => 0))))] := ⟨_, rfl⟩
  have hP : va_P D vwCl ((o, .inr (9, fs33)) :: ar34) H := by rw [ea34]; exact hP
  have hD : va_D A ((o, .inr (9, fs33)) :: ar34) := by rw [ea34]; exact hD
  refine va_putF (D := D) (ci := 9) (v := .ref q298) (ty := .array .int) (C := RX10) (T := TX10) (N := 71) hx hb hts hinX10 tyX10 tyX10_ok nmX10 hown hK hP hD hS 0 rfl rfl 62 (by decide) k_6_16 (fun _ h9 => h9) rfl hnm rfl (by decide +kernel) rfl rfl (by rw [hn33]; decide) dX10_init_300 (fun H locs hP hD hS => ?_)
  obtain ⟨fs34, ef34⟩ : ∃ z : List Value, z = fs33.set 62 (.ref q298) := ⟨_, rfl⟩
  have hn34 : fs34.length = 71 := by rw [ef34, List.length_set]; exact hn33
  have hP : va_P D vwCl ((o, .inr (9, fs34)) :: ar34) H := by rw [ef34]; exact hP
  have hD : va_D A ((o, .inr (9, fs34)) :: ar34) := by rw [ef34]; exact hD
  refine lv_aload_n hx hb dX10_init_303 rfl (lv_at hl 0 rfl) ?_
  refine lv_bipush (v := 50) hx hb dX10_init_304 (by decide) ?_
  refine m_newa (atype := .int) (ty := .int) (a0 := (50, .inl (fun _ => 0))) hx hb k_2_23 rfl hK 0 rfl (fun _ _ h => h) hP hD hS hA (fun _ => rfl) (by decide) (by decide) (by decide +kernel) (by show _ ≤ 37; omega) (by show _ ≤ 29664; omega) dX10_init_306 (fun q306 H hP hD hS => ?_)
  obtain ⟨ar35, ea35⟩ : ∃ z : va_W, z = ar34 ++ [(q306, .inl (cs 0, (50, .inl (fun _ => 0))))] := ⟨_, rfl⟩
  have hP : va_P D vwCl ((o, .inr (9, fs34)) :: ar35) H := by rw [ea35]; exact hP
  have hD : va_D A ((o, .inr (9, fs34)) :: ar35) := by rw [ea35]; exact hD
  refine va_putF (D := D) (ci := 9) (v := .ref q306) (ty := .array .int) (C := RX10) (T := TX10) (N := 71) hx hb hts hinX10 tyX10 tyX10_ok nmX10 hown hK hP hD hS 0 rfl rfl 63 (by decide) k_6_17 (fun _ h9 => h9) rfl hnm rfl (by decide +kernel) rfl rfl (by rw [hn34]; decide) dX10_init_308 (fun H locs hP hD hS => ?_)
  obtain ⟨fs35, ef35⟩ : ∃ z : List Value, z = fs34.set 63 (.ref q306) := ⟨_, rfl⟩
  have hn35 : fs35.length = 71 := by rw [ef35, List.length_set]; exact hn34
  have hP : va_P D vwCl ((o, .inr (9, fs35)) :: ar35) H := by rw [ef35]; exact hP
  have hD : va_D A ((o, .inr (9, fs35)) :: ar35) := by rw [ef35]; exact hD
  refine lv_aload_n hx hb dX10_init_311 rfl (lv_at hl 0 rfl) ?_
  refine lv_bipush (v := 50) hx hb dX10_init_312 (by decide) ?_
  refine m_newa (atype := .long) (ty := .long) (a0 := (50, .inr (.inl (fun _ => 0)))) hx hb k_1_6 rfl hK 1 rfl (fun _ _ h => h) hP hD hS hA (fun _ => rfl) (by decide) (by decide) (by decide +kernel) (by show _ ≤ 37; omega) (by show _ ≤ 29664; omega) dX10_init_314 (fun q314 H hP hD hS => ?_)
  obtain ⟨ar36, ea36⟩ : ∃ z : va_W, z = ar35 ++ [(q314, .inl (cs 1, (50, .inr (.inl (fun _ => 0)))))] := ⟨_, rfl⟩
  have hP : va_P D vwCl ((o, .inr (9, fs35)) :: ar36) H := by rw [ea36]; exact hP
  have hD : va_D A ((o, .inr (9, fs35)) :: ar36) := by rw [ea36]; exact hD
  refine va_putF (D := D) (ci := 9) (v := .ref q314) (ty := .array .long) (C := RX10) (T := TX10) (N := 71) hx hb hts hinX10 tyX10 tyX10_ok nmX10 hown hK hP hD hS 0 rfl rfl 64 (by decide) k_6_18 (fun _ h9 => h9) rfl hnm rfl (by decide +kernel) rfl rfl (by rw [hn35]; decide) dX10_init_316 (fun H locs hP hD hS => ?_)
  obtain ⟨fs36, ef36⟩ : ∃ z : List Value, z = fs35.set 64 (.ref q314) := ⟨_, rfl⟩
  have hn36 : fs36.length = 71 := by rw [ef36, List.length_set]; exact hn35
  have hP : va_P D vwCl ((o, .inr (9, fs36)) :: ar36) H := by rw [ef36]; exact hP
  have hD : va_D A ((o, .inr (9, fs36)) :: ar36) := by rw [ef36]; exact hD
  refine lv_aload_n hx hb dX10_init_319 rfl (lv_at hl 0 rfl) ?_
  refine lv_iconst (v := 4) hx hb dX10_init_320 (by decide) ?_
  refine m_newa (atype := .int) (ty := .int) (a0 := (4, .inl (fun _ => 0))) hx hb k_2_23 rfl hK 0 rfl (fun _ _ h => h) hP hD hS hA (fun _ => rfl) (by decide) (by decide) (by decide +kernel) (by show _ ≤ 37; omega) (by show _ ≤ 29664; omega) dX10_init_321 (fun q321 H hP hD hS => ?_)
  obtain ⟨ar37, ea37⟩ : ∃ z : va_W, z = ar36 ++ [(q321, .inl (cs 0, (4, .inl (fun _ => 0))))] := ⟨_, rfl⟩
  have hP : va_P D vwCl ((o, .inr (9, fs36)) :: ar37) H := by rw [ea37]; exact hP
  have hD : va_D A ((o, .inr (9, fs36)) :: ar37) := by rw [ea37]; exact hD
  refine va_putF (D := D) (ci := 9) (v := .ref q321) (ty := .array .int) (C := RX10) (T := TX10) (N := 71) hx hb hts hinX10 tyX10 tyX10_ok nmX10 hown hK hP hD hS 0 rfl rfl 68 (by decide) k_6_19 (fun _ h9 => h9) rfl hnm rfl (by decide +kernel) rfl rfl (by rw [hn36]; decide) dX10_init_323 (fun H locs hP hD hS => ?_)
  obtain ⟨fs37, ef37⟩ : ∃ z : List Value, z = fs36.set 68 (.ref q321) := ⟨_, rfl⟩
  have hn37 : fs37.length = 71 := by rw [ef37, List.length_set]; exact hn36
  have hP : va_P D vwCl ((o, .inr (9, fs37)) :: ar37) H := by rw [ef37]; exact hP
  have hD : va_D A ((o, .inr (9, fs37)) :: ar37) := by rw [ef37]; exact hD
  have lf0 : fs0 = cF0 := ef0
  have la0 : ar0 = cA0 cs := ea0
  have lf1 : fs1 = cF1 q8 := by rw [ef1, lf0]; exact eF1 q8
  have lf2 : fs2 = cF2 q8 q17 := by rw [ef2, lf1]; exact eF2 q8 q17
  have lf3 : fs3 = cF3 q8 q17 q26 := by rw [ef3, lf2]; exact eF3 q8 q17 q26
  have lf4 : fs4 = cF4 q8 q17 q26 q35 := by rw [ef4, lf3]; exact eF4 q8 q17 q26 q35
  have lf5 : fs5 = cF5 q8 q17 q26 q35 q44 := by rw [ef5, lf4]; exact eF5 q8 q17 q26 q35 q44
  have lf6 : fs6 = cF6 q8 q17 q26 q35 q44 q53 := by rw [ef6, lf5]; exact eF6 q8 q17 q26 q35 q44 q53
  have lf7 : fs7 = cF7 q8 q17 q26 q35 q44 q53 q62 := by rw [ef7, lf6]; exact eF7 q8 q17 q26 q35 q44 q53 q62
  have lf8 : fs8 = cF8 q8 q17 q26 q35 q44 q53 q62 q71 := by rw [ef8, lf7]; exact eF8 q8 q17 q26 q35 q44 q53 q62 q71
  have lf9 : fs9 = cF9 q8 q17 q26 q35 q44 q53 q62 q71 q80 := by rw [ef9, lf8]; exact eF9 q8 q17 q26 q35 q44 q53 q62 q71 q80
  have lf10 : fs10 = cF10 q8 q17 q26 q35 q44 q53 q62 q71 q80 q89 := by rw [ef10, lf9]; exact eF10 q8 q17 q26 q35 q44 q53 q62 q71 q80 q89
  have lf11 : fs11 = cF11 q8 q17 q26 q35 q44 q53 q62 q71 q80 q89 q98 := by rw [ef11, lf10]; exact eF11 q8 q17 q26 q35 q44 q53 q62 q71 q80 q89 q98
  have lf12 : fs12 = cF12 q8 q17 q26 q35 q44 q53 q62 q71 q80 q89 q98 q107 := by rw [ef12, lf11]; exact eF12 q8 q17 q26 q35 q44 q53 q62 q71 q80 q89 q98 q107
  have lf13 : fs13 = cF13 q8 q17 q26 q35 q44 q53 q62 q71 q80 q89 q98 q107 q116 := by rw [ef13, lf12]; exact eF13 q8 q17 q26 q35 q44 q53 q62 q71 q80 q89 q98 q107 q116
  have lf14 : fs14 = cF14 q8 q17 q26 q35 q44 q53 q62 q71 q80 q89 q98 q107 q116 q125 := by rw [ef14, lf13]; exact eF14 q8 q17 q26 q35 q44 q53 q62 q71 q80 q89 q98 q107 q116 q125
  have lf15 : fs15 = cF15 q8 q17 q26 q35 q44 q53 q62 q71 q80 q89 q98 q107 q116 q125 q134 := by rw [ef15, lf14]; exact eF15 q8 q17 q26 q35 q44 q53 q62 q71 q80 q89 q98 q107 q116 q125 q134
  have lf16 : fs16 = cF16 q8 q17 q26 q35 q44 q53 q62 q71 q80 q89 q98 q107 q116 q125 q134 q143 := by rw [ef16, lf15]; exact eF16 q8 q17 q26 q35 q44 q53 q62 q71 q80 q89 q98 q107 q116 q125 q134 q143
  have lf17 : fs17 = cF17 q8 q17 q26 q35 q44 q53 q62 q71 q80 q89 q98 q107 q116 q125 q134 q143 q152 := by rw [ef17, lf16]; exact eF17 q8 q17 q26 q35 q44 q53 q62 q71 q80 q89 q98 q107 q116 q125 q134 q143 q152
  have lf18 : fs18 = cF18 q8 q17 q26 q35 q44 q53 q62 q71 q80 q89 q98 q107 q116 q125 q134 q143 q152 q161 := by rw [ef18, lf17]; exact eF18 q8 q17 q26 q35 q44 q53 q62 q71 q80 q89 q98 q107 q116 q125 q134 q143 q152 q161
  have lf19 : fs19 = cF19 q8 q17 q26 q35 q44 q53 q62 q71 q80 q89 q98 q107 q116 q125 q134 q143 q152 q161 q169 := by rw [ef19, lf18]; exact eF19 q8 q17 q26 q35 q44 q53 q62 q71 q80 q89 q98 q107 q116 q125 q134 q143 q152 q161 q169
  have lf20 : fs20 = cF20 q8 q17 q26 q35 q44 q53 q62 q71 q80 q89 q98 q107 q116 q125 q134 q143 q152 q161 q169 q177 := by rw [ef20, lf19]; exact eF20 q8 q17 q26 q35 q44 q53 q62 q71 q80 q89 q98 q107 q116 q125 q134 q143 q152 q161 q169 q177
  have lf21 : fs21 = cF21 q8 q17 q26 q35 q44 q53 q62 q71 q80 q89 q98 q107 q116 q125 q134 q143 q152 q161 q169 q177 q185 := by rw [ef21, lf20]; exact eF21 q8 q17 q26 q35 q44 q53 q62 q71 q80 q89 q98 q107 q116 q125 q134 q143 q152 q161 q169 q177 q185
  have lf22 : fs22 = cF22 q8 q17 q26 q35 q44 q53 q62 q71 q80 q89 q98 q107 q116 q125 q134 q143 q152 q161 q169 q177 q185 q193 := by rw [ef22, lf21]; exact eF22 q8 q17 q26 q35 q44 q53 q62 q71 q80 q89 q98 q107 q116 q125 q134 q143 q152 q161 q169 q177 q185 q193
  have lf23 : fs23 = cF23 q8 q17 q26 q35 q44 q53 q62 q71 q80 q89 q98 q107 q116 q125 q134 q143 q152 q161 q169 q177 q185 q193 q202 := by rw [ef23, lf22]; exact eF23 q8 q17 q26 q35 q44 q53 q62 q71 q80 q89 q98 q107 q116 q125 q134 q143 q152 q161 q169 q177 q185 q193 q202
  have lf24 : fs24 = cF24 q8 q17 q26 q35 q44 q53 q62 q71 q80 q89 q98 q107 q116 q125 q134 q143 q152 q161 q169 q177 q185 q193 q202 q211 := by rw [ef24, lf23]; exact eF24 q8 q17 q26 q35 q44 q53 q62 q71 q80 q89 q98 q107 q116 q125 q134 q143 q152 q161 q169 q177 q185 q193 q202 q211
  have lf25 : fs25 = cF25 q8 q17 q26 q35 q44 q53 q62 q71 q80 q89 q98 q107 q116 q125 q134 q143 q152 q161 q169 q177 q185 q193 q202 q211 q220 := by rw [ef25, lf24]; exact eF25 q8 q17 q26 q35 q44 q53 q62 q71 q80 q89 q98 q107 q116 q125 q134 q143 q152 q161 q169 q177 q185 q193 q202 q211 q220
  have lf26 : fs26 = cF26 q8 q17 q26 q35 q44 q53 q62 q71 q80 q89 q98 q107 q116 q125 q134 q143 q152 q161 q169 q177 q185 q193 q202 q211 q220 q229 := by rw [ef26, lf25]; exact eF26 q8 q17 q26 q35 q44 q53 q62 q71 q80 q89 q98 q107 q116 q125 q134 q143 q152 q161 q169 q177 q185 q193 q202 q211 q220 q229
  have lf27 : fs27 = cF27 q8 q17 q26 q35 q44 q53 q62 q71 q80 q89 q98 q107 q116 q125 q134 q143 q152 q161 q169 q177 q185 q193 q202 q211 q220 q229 q238 := by rw [ef27, lf26]; exact eF27 q8 q17 q26 q35 q44 q53 q62 q71 q80 q89 q98 q107 q116 q125 q134 q143 q152 q161 q169 q177 q185 q193 q202 q211 q220 q229 q238
  have lf28 : fs28 = cF28 q8 q17 q26 q35 q44 q53 q62 q71 q80 q89 q98 q107 q116 q125 q134 q143 q152 q161 q169 q177 q185 q193 q202 q211 q220 q229 q238 q247 := by rw [ef28, lf27]; exact eF28 q8 q17 q26 q35 q44 q53 q62 q71 q80 q89 q98 q107 q116 q125 q134 q143 q152 q161 q169 q177 q185 q193 q202 q211 q220 q229 q238 q247
  have lf29 : fs29 = cF29 q8 q17 q26 q35 q44 q53 q62 q71 q80 q89 q98 q107 q116 q125 q134 q143 q152 q161 q169 q177 q185 q193 q202 q211 q220 q229 q238 q247 q256 := by rw [ef29, lf28]; exact eF29 q8 q17 q26 q35 q44 q53 q62 q71 q80 q89 q98 q107 q116 q125 q134 q143 q152 q161 q169 q177 q185 q193 q202 q211 q220 q229 q238 q247 q256
  have lf30 : fs30 = cF30 q8 q17 q26 q35 q44 q53 q62 q71 q80 q89 q98 q107 q116 q125 q134 q143 q152 q161 q169 q177 q185 q193 q202 q211 q220 q229 q238 q247 q256 q265 := by rw [ef30, lf29]; exact eF30 q8 q17 q26 q35 q44 q53 q62 q71 q80 q89 q98 q107 q116 q125 q134 q143 q152 q161 q169 q177 q185 q193 q202 q211 q220 q229 q238 q247 q256 q265
  have lf31 : fs31 = cF31 q8 q17 q26 q35 q44 q53 q62 q71 q80 q89 q98 q107 q116 q125 q134 q143 q152 q161 q169 q177 q185 q193 q202 q211 q220 q229 q238 q247 q256 q265 q274 := by rw [ef31, lf30]; exact eF31 q8 q17 q26 q35 q44 q53 q62 q71 q80 q89 q98 q107 q116 q125 q134 q143 q152 q161 q169 q177 q185 q193 q202 q211 q220 q229 q238 q247 q256 q265 q274
  have lf32 : fs32 = cF32 q8 q17 q26 q35 q44 q53 q62 q71 q80 q89 q98 q107 q116 q125 q134 q143 q152 q161 q169 q177 q185 q193 q202 q211 q220 q229 q238 q247 q256 q265 q274 q282 := by rw [ef32, lf31]; exact eF32 q8 q17 q26 q35 q44 q53 q62 q71 q80 q89 q98 q107 q116 q125 q134 q143 q152 q161 q169 q177 q185 q193 q202 q211 q220 q229 q238 q247 q256 q265 q274 q282
  have lf33 : fs33 = cF33 q8 q17 q26 q35 q44 q53 q62 q71 q80 q89 q98 q107 q116 q125 q134 q143 q152 q161 q169 q177 q185 q193 q202 q211 q220 q229 q238 q247 q256 q265 q274 q282 q290 := by rw [ef33, lf32]; exact eF33 q8 q17 q26 q35 q44 q53 q62 q71 q80 q89 q98 q107 q116 q125 q134 q143 q152 q161 q169 q177 q185 q193 q202 q211 q220 q229 q238 q247 q256 q265 q274 q282 q290
  have lf34 : fs34 = cF34 q8 q17 q26 q35 q44 q53 q62 q71 q80 q89 q98 q107 q116 q125 q134 q143 q152 q161 q169 q177 q185 q193 q202 q211 q220 q229 q238 q247 q256 q265 q274 q282 q290 q298 := by rw [ef34, lf33]; exact eF34 q8 q17 q26 q35 q44 q53 q62 q71 q80 q89 q98 q107 q116 q125 q134 q143 q152 q161 q169 q177 q185 q193 q202 q211 q220 q229 q238 q247 q256 q265 q274 q282 q290 q298
  have lf35 : fs35 = cF35 q8 q17 q26 q35 q44 q53 q62 q71 q80 q89 q98 q107 q116 q125 q134 q143 q152 q161 q169 q177 q185 q193 q202 q211 q220 q229 q238 q247 q256 q265 q274 q282 q290 q298 q306 := by rw [ef35, lf34]; exact eF35 q8 q17 q26 q35 q44 q53 q62 q71 q80 q89 q98 q107 q116 q125 q134 q143 q152 q161 q169 q177 q185 q193 q202 q211 q220 q229 q238 q247 q256 q265 q274 q282 q290 q298 q306
  have lf36 : fs36 = cF36 q8 q17 q26 q35 q44 q53 q62 q71 q80 q89 q98 q107 q116 q125 q134 q143 q152 q161 q169 q177 q185 q193 q202 q211 q220 q229 q238 q247 q256 q265 q274 q282 q290 q298 q306 q314 := by rw [ef36, lf35]; exact eF36 q8 q17 q26 q35 q44 q53 q62 q71 q80 q89 q98 q107 q116 q125 q134 q143 q152 q161 q169 q177 q185 q193 q202 q211 q220 q229 q238 q247 q256 q265 q274 q282 q290 q298 q306 q314
  have lf37 : fs37 = cF37 q8 q17 q26 q35 q44 q53 q62 q71 q80 q89 q98 q107 q116 q125 q134 q143 q152 q161 q169 q177 q185 q193 q202 q211 q220 q229 q238 q247 q256 q265 q274 q282 q290 q298 q306 q314 q321 := by rw [ef37, lf36]; exact eF37 q8 q17 q26 q35 q44 q53 q62 q71 q80 q89 q98 q107 q116 q125 q134 q143 q152 q161 q169 q177 q185 q193 q202 q211 q220 q229 q238 q247 q256 q265 q274 q282 q290 q298 q306 q314 q321
  have la1 : ar1 = cA1 cs q8 := by rw [ea1, la0]; exact eA1 cs q8
  have la2 : ar2 = cA2 cs q8 q17 := by rw [ea2, la1]; exact eA2 cs q8 q17
  have la3 : ar3 = cA3 cs q8 q17 q26 := by rw [ea3, la2]; exact eA3 cs q8 q17 q26
  have la4 : ar4 = cA4 cs q8 q17 q26 q35 := by rw [ea4, la3]; exact eA4 cs q8 q17 q26 q35
  have la5 : ar5 = cA5 cs q8 q17 q26 q35 q44 := by rw [ea5, la4]; exact eA5 cs q8 q17 q26 q35 q44
  have la6 : ar6 = cA6 cs q8 q17 q26 q35 q44 q53 := by rw [ea6, la5]; exact eA6 cs q8 q17 q26 q35 q44 q53
  have la7 : ar7 = cA7 cs q8 q17 q26 q35 q44 q53 q62 := by rw [ea7, la6]; exact eA7 cs q8 q17 q26 q35 q44 q53 q62
  have la8 : ar8 = cA8 cs q8 q17 q26 q35 q44 q53 q62 q71 := by rw [ea8, la7]; exact eA8 cs q8 q17 q26 q35 q44 q53 q62 q71
  have la9 : ar9 = cA9 cs q8 q17 q26 q35 q44 q53 q62 q71 q80 := by rw [ea9, la8]; exact eA9 cs q8 q17 q26 q35 q44 q53 q62 q71 q80
  have la10 : ar10 = cA10 cs q8 q17 q26 q35 q44 q53 q62 q71 q80 q89 := by rw [ea10, la9]; exact eA10 cs q8 q17 q26 q35 q44 q53 q62 q71 q80 q89
  have la11 : ar11 = cA11 cs q8 q17 q26 q35 q44 q53 q62 q71 q80 q89 q98 := by rw [ea11, la10]; exact eA11 cs q8 q17 q26 q35 q44 q53 q62 q71 q80 q89 q98
  have la12 : ar12 = cA12 cs q8 q17 q26 q35 q44 q53 q62 q71 q80 q89 q98 q107 := by rw [ea12, la11]; exact eA12 cs q8 q17 q26 q35 q44 q53 q62 q71 q80 q89 q98 q107
  have la13 : ar13 = cA13 cs q8 q17 q26 q35 q44 q53 q62 q71 q80 q89 q98 q107 q116 := by rw [ea13, la12]; exact eA13 cs q8 q17 q26 q35 q44 q53 q62 q71 q80 q89 q98 q107 q116
  have la14 : ar14 = cA14 cs q8 q17 q26 q35 q44 q53 q62 q71 q80 q89 q98 q107 q116 q125 := by rw [ea14, la13]; exact eA14 cs q8 q17 q26 q35 q44 q53 q62 q71 q80 q89 q98 q107 q116 q125
  have la15 : ar15 = cA15 cs q8 q17 q26 q35 q44 q53 q62 q71 q80 q89 q98 q107 q116 q125 q134 := by rw [ea15, la14]; exact eA15 cs q8 q17 q26 q35 q44 q53 q62 q71 q80 q89 q98 q107 q116 q125 q134
  have la16 : ar16 = cA16 cs q8 q17 q26 q35 q44 q53 q62 q71 q80 q89 q98 q107 q116 q125 q134 q143 := by rw [ea16, la15]; exact eA16 cs q8 q17 q26 q35 q44 q53 q62 q71 q80 q89 q98 q107 q116 q125 q134 q143
  have la17 : ar17 = cA17 cs q8 q17 q26 q35 q44 q53 q62 q71 q80 q89 q98 q107 q116 q125 q134 q143 q152 := by rw [ea17, la16]; exact eA17 cs q8 q17 q26 q35 q44 q53 q62 q71 q80 q89 q98 q107 q116 q125 q134 q143 q152
  have la18 : ar18 = cA18 cs q8 q17 q26 q35 q44 q53 q62 q71 q80 q89 q98 q107 q116 q125 q134 q143 q152 q161 := by rw [ea18, la17]; exact eA18 cs q8 q17 q26 q35 q44 q53 q62 q71 q80 q89 q98 q107 q116 q125 q134 q143 q152 q161
  have la19 : ar19 = cA19 cs q8 q17 q26 q35 q44 q53 q62 q71 q80 q89 q98 q107 q116 q125 q134 q143 q152 q161 q169 := by rw [ea19, la18]; exact eA19 cs q8 q17 q26 q35 q44 q53 q62 q71 q80 q89 q98 q107 q116 q125 q134 q143 q152 q161 q169
  have la20 : ar20 = cA20 cs q8 q17 q26 q35 q44 q53 q62 q71 q80 q89 q98 q107 q116 q125 q134 q143 q152 q161 q169 q177 := by rw [ea20, la19]; exact eA20 cs q8 q17 q26 q35 q44 q53 q62 q71 q80 q89 q98 q107 q116 q125 q134 q143 q152 q161 q169 q177
  have la21 : ar21 = cA21 cs q8 q17 q26 q35 q44 q53 q62 q71 q80 q89 q98 q107 q116 q125 q134 q143 q152 q161 q169 q177 q185 := by rw [ea21, la20]; exact eA21 cs q8 q17 q26 q35 q44 q53 q62 q71 q80 q89 q98 q107 q116 q125 q134 q143 q152 q161 q169 q177 q185
  have la22 : ar22 = cA22 cs q8 q17 q26 q35 q44 q53 q62 q71 q80 q89 q98 q107 q116 q125 q134 q143 q152 q161 q169 q177 q185 q193 := by rw [ea22, la21]; exact eA22 cs q8 q17 q26 q35 q44 q53 q62 q71 q80 q89 q98 q107 q116 q125 q134 q143 q152 q161 q169 q177 q185 q193
  have la23 : ar23 = cA23 cs q8 q17 q26 q35 q44 q53 q62 q71 q80 q89 q98 q107 q116 q125 q134 q143 q152 q161 q169 q177 q185 q193 q202 := by rw [ea23, la22]; exact eA23 cs q8 q17 q26 q35 q44 q53 q62 q71 q80 q89 q98 q107 q116 q125 q134 q143 q152 q161 q169 q177 q185 q193 q202
  have la24 : ar24 = cA24 cs q8 q17 q26 q35 q44 q53 q62 q71 q80 q89 q98 q107 q116 q125 q134 q143 q152 q161 q169 q177 q185 q193 q202 q211 := by rw [ea24, la23]; exact eA24 cs q8 q17 q26 q35 q44 q53 q62 q71 q80 q89 q98 q107 q116 q125 q134 q143 q152 q161 q169 q177 q185 q193 q202 q211
  have la25 : ar25 = cA25 cs q8 q17 q26 q35 q44 q53 q62 q71 q80 q89 q98 q107 q116 q125 q134 q143 q152 q161 q169 q177 q185 q193 q202 q211 q220 := by rw [ea25, la24]; exact eA25 cs q8 q17 q26 q35 q44 q53 q62 q71 q80 q89 q98 q107 q116 q125 q134 q143 q152 q161 q169 q177 q185 q193 q202 q211 q220
  have la26 : ar26 = cA26 cs q8 q17 q26 q35 q44 q53 q62 q71 q80 q89 q98 q107 q116 q125 q134 q143 q152 q161 q169 q177 q185 q193 q202 q211 q220 q229 := by rw [ea26, la25]; exact eA26 cs q8 q17 q26 q35 q44 q53 q62 q71 q80 q89 q98 q107 q116 q125 q134 q143 q152 q161 q169 q177 q185 q193 q202 q211 q220 q229
  have la27 : ar27 = cA27 cs q8 q17 q26 q35 q44 q53 q62 q71 q80 q89 q98 q107 q116 q125 q134 q143 q152 q161 q169 q177 q185 q193 q202 q211 q220 q229 q238 := by rw [ea27, la26]; exact eA27 cs q8 q17 q26 q35 q44 q53 q62 q71 q80 q89 q98 q107 q116 q125 q134 q143 q152 q161 q169 q177 q185 q193 q202 q211 q220 q229 q238
  have la28 : ar28 = cA28 cs q8 q17 q26 q35 q44 q53 q62 q71 q80 q89 q98 q107 q116 q125 q134 q143 q152 q161 q169 q177 q185 q193 q202 q211 q220 q229 q238 q247 := by rw [ea28, la27]; exact eA28 cs q8 q17 q26 q35 q44 q53 q62 q71 q80 q89 q98 q107 q116 q125 q134 q143 q152 q161 q169 q177 q185 q193 q202 q211 q220 q229 q238 q247
  have la29 : ar29 = cA29 cs q8 q17 q26 q35 q44 q53 q62 q71 q80 q89 q98 q107 q116 q125 q134 q143 q152 q161 q169 q177 q185 q193 q202 q211 q220 q229 q238 q247 q256 := by rw [ea29, la28]; exact eA29 cs q8 q17 q26 q35 q44 q53 q62 q71 q80 q89 q98 q107 q116 q125 q134 q143 q152 q161 q169 q177 q185 q193 q202 q211 q220 q229 q238 q247 q256
  have la30 : ar30 = cA30 cs q8 q17 q26 q35 q44 q53 q62 q71 q80 q89 q98 q107 q116 q125 q134 q143 q152 q161 q169 q177 q185 q193 q202 q211 q220 q229 q238 q247 q256 q265 := by rw [ea30, la29]; exact eA30 cs q8 q17 q26 q35 q44 q53 q62 q71 q80 q89 q98 q107 q116 q125 q134 q143 q152 q161 q169 q177 q185 q193 q202 q211 q220 q229 q238 q247 q256 q265
  have la31 : ar31 = cA31 cs q8 q17 q26 q35 q44 q53 q62 q71 q80 q89 q98 q107 q116 q125 q134 q143 q152 q161 q169 q177 q185 q193 q202 q211 q220 q229 q238 q247 q256 q265 q274 := by rw [ea31, la30]; exact eA31 cs q8 q17 q26 q35 q44 q53 q62 q71 q80 q89 q98 q107 q116 q125 q134 q143 q152 q161 q169 q177 q185 q193 q202 q211 q220 q229 q238 q247 q256 q265 q274
  have la32 : ar32 = cA32 cs q8 q17 q26 q35 q44 q53 q62 q71 q80 q89 q98 q107 q116 q125 q134 q143 q152 q161 q169 q177 q185 q193 q202 q211 q220 q229 q238 q247 q256 q265 q274 q282 := by rw [ea32, la31]; exact eA32 cs q8 q17 q26 q35 q44 q53 q62 q71 q80 q89 q98 q107 q116 q125 q134 q143 q152 q161 q169 q177 q185 q193 q202 q211 q220 q229 q238 q247 q256 q265 q274 q282
  have la33 : ar33 = cA33 cs q8 q17 q26 q35 q44 q53 q62 q71 q80 q89 q98 q107 q116 q125 q134 q143 q152 q161 q169 q177 q185 q193 q202 q211 q220 q229 q238 q247 q256 q265 q274 q282 q290 := by rw [ea33, la32]; exact eA33 cs q8 q17 q26 q35 q44 q53 q62 q71 q80 q89 q98 q107 q116 q125 q134 q143 q152 q161 q169 q177 q185 q193 q202 q211 q220 q229 q238 q247 q256 q265 q274 q282 q290
  have la34 : ar34 = cA34 cs q8 q17 q26 q35 q44 q53 q62 q71 q80 q89 q98 q107 q116 q125 q134 q143 q152 q161 q169 q177 q185 q193 q202 q211 q220 q229 q238 q247 q256 q265 q274 q282 q290 q298 := by rw [ea34, la33]; exact eA34 cs q8 q17 q26 q35 q44 q53 q62 q71 q80 q89 q98 q107 q116 q125 q134 q143 q152 q161 q169 q177 q185 q193 q202 q211 q220 q229 q238 q247 q256 q265 q274 q282 q290 q298
  have la35 : ar35 = cA35 cs q8 q17 q26 q35 q44 q53 q62 q71 q80 q89 q98 q107 q116 q125 q134 q143 q152 q161 q169 q177 q185 q193 q202 q211 q220 q229 q238 q247 q256 q265 q274 q282 q290 q298 q306 := by rw [ea35, la34]; exact eA35 cs q8 q17 q26 q35 q44 q53 q62 q71 q80 q89 q98 q107 q116 q125 q134 q143 q152 q161 q169 q177 q185 q193 q202 q211 q220 q229 q238 q247 q256 q265 q274 q282 q290 q298 q306
  have la36 : ar36 = cA36 cs q8 q17 q26 q35 q44 q53 q62 q71 q80 q89 q98 q107 q116 q125 q134 q143 q152 q161 q169 q177 q185 q193 q202 q211 q220 q229 q238 q247 q256 q265 q274 q282 q290 q298 q306 q314 := by rw [ea36, la35]; exact eA36 cs q8 q17 q26 q35 q44 q53 q62 q71 q80 q89 q98 q107 q116 q125 q134 q143 q152 q161 q169 q177 q185 q193 q202 q211 q220 q229 q238 q247 q256 q265 q274 q282 q290 q298 q306 q314
  have la37 : ar37 = cA37 cs q8 q17 q26 q35 q44 q53 q62 q71 q80 q89 q98 q107 q116 q125 q134 q143 q152 q161 q169 q177 q185 q193 q202 q211 q220 q229 q238 q247 q256 q265 q274 q282 q290 q298 q306 q314 q321 := by rw [ea37, la36]; exact eA37 cs q8 q17 q26 q35 q44 q53 q62 q71 q80 q89 q98 q107 q116 q125 q134 q143 q152 q161 q169 q177 q185 q193 q202 q211 q220 q229 q238 q247 q256 q265 q274 q282 q290 q298 q306 q314 q321
  rw [lf37, la37, eWm o cs q8 q17 q26 q35 q44 q53 q62 q71 q80 q89 q98 q107 q116 q125 q134 q143 q152 q161 q169 q177 q185 q193 q202 q211 q220 q229 q238 q247 q256 q265 q274 q282 q290 q298 q306 q314 q321] at hP hD
  subst hAe
  rw [hQ]
  exact W.vret hx hb hr (fun t ht hW => ⟨⟨_, rfl, ⟨q8, q17, q26, q35, q44, q53, q62, q71, q80, q89, q98, q107, q116, q125, q134, q143, q152, q161, q169, q177, q185, q193, q202, q211, q220, q229, q238, q247, q256, q265, q274, q282, q290, q298, q306, q314, q321, rfl⟩, by rw [ht]; exact hP, va_K.moved hW.alike hK, hD⟩, hS.F ht⟩) hS.2.2 dX10_init_326
