theorem dX10_init_0 : decode cX10_init 0 = .ok (.aload_n 0, 1) := by decide +kernel
theorem dX10_init_1 : decode cX10_init 1 = .ok (.invokespecial 1, 3) := by decide +kernel
theorem dX10_init_4 : decode cX10_init 4 = .ok (.aload_n 0, 1) := by decide +kernel
theorem dX10_init_5 : decode cX10_init 5 = .ok (.sipush 3100, 3) := by decide +kernel
theorem dX10_init_8 : decode cX10_init 8 = .ok (.newarray .int, 2) := by decide +kernel
theorem dX10_init_10 : decode cX10_init 10 = .ok (.putfield 9, 3) := by decide +kernel
theorem dX10_init_13 : decode cX10_init 13 = .ok (.aload_n 0, 1) := by decide +kernel
theorem dX10_init_14 : decode cX10_init 14 = .ok (.sipush 3100, 3) := by decide +kernel
theorem dX10_init_17 : decode cX10_init 17 = .ok (.newarray .int, 2) := by decide +kernel
theorem dX10_init_19 : decode cX10_init 19 = .ok (.putfield 13, 3) := by decide +kernel
theorem dX10_init_22 : decode cX10_init 22 = .ok (.aload_n 0, 1) := by decide +kernel
theorem dX10_init_23 : decode cX10_init 23 = .ok (.sipush 202, 3) := by decide +kernel
theorem dX10_init_26 : decode cX10_init 26 = .ok (.newarray .int, 2) := by decide +kernel
theorem dX10_init_28 : decode cX10_init 28 = .ok (.putfield 16, 3) := by decide +kernel
theorem dX10_init_31 : decode cX10_init 31 = .ok (.aload_n 0, 1) := by decide +kernel
theorem dX10_init_32 : decode cX10_init 32 = .ok (.sipush 202, 3) := by decide +kernel
theorem dX10_init_35 : decode cX10_init 35 = .ok (.newarray .int, 2) := by decide +kernel
theorem dX10_init_37 : decode cX10_init 37 = .ok (.putfield 19, 3) := by decide +kernel
theorem dX10_init_40 : decode cX10_init 40 = .ok (.aload_n 0, 1) := by decide +kernel
theorem dX10_init_41 : decode cX10_init 41 = .ok (.sipush 202, 3) := by decide +kernel
theorem dX10_init_44 : decode cX10_init 44 = .ok (.newarray .int, 2) := by decide +kernel
theorem dX10_init_46 : decode cX10_init 46 = .ok (.putfield 22, 3) := by decide +kernel
theorem dX10_init_49 : decode cX10_init 49 = .ok (.aload_n 0, 1) := by decide +kernel
theorem dX10_init_50 : decode cX10_init 50 = .ok (.sipush 202, 3) := by decide +kernel
theorem dX10_init_53 : decode cX10_init 53 = .ok (.newarray .int, 2) := by decide +kernel
theorem dX10_init_55 : decode cX10_init 55 = .ok (.putfield 25, 3) := by decide +kernel
theorem dX10_init_58 : decode cX10_init 58 = .ok (.aload_n 0, 1) := by decide +kernel
theorem dX10_init_59 : decode cX10_init 59 = .ok (.sipush 202, 3) := by decide +kernel
theorem dX10_init_62 : decode cX10_init 62 = .ok (.newarray .int, 2) := by decide +kernel
theorem dX10_init_64 : decode cX10_init 64 = .ok (.putfield 28, 3) := by decide +kernel
theorem dX10_init_67 : decode cX10_init 67 = .ok (.aload_n 0, 1) := by decide +kernel
theorem dX10_init_68 : decode cX10_init 68 = .ok (.sipush 202, 3) := by decide +kernel
theorem dX10_init_71 : decode cX10_init 71 = .ok (.newarray .int, 2) := by decide +kernel
theorem dX10_init_73 : decode cX10_init 73 = .ok (.putfield 31, 3) := by decide +kernel
theorem dX10_init_76 : decode cX10_init 76 = .ok (.aload_n 0, 1) := by decide +kernel
theorem dX10_init_77 : decode cX10_init 77 = .ok (.sipush 202, 3) := by decide +kernel
theorem dX10_init_80 : decode cX10_init 80 = .ok (.newarray .int, 2) := by decide +kernel
theorem dX10_init_82 : decode cX10_init 82 = .ok (.putfield 34, 3) := by decide +kernel
theorem dX10_init_85 : decode cX10_init 85 = .ok (.aload_n 0, 1) := by decide +kernel
theorem dX10_init_86 : decode cX10_init 86 = .ok (.sipush 202, 3) := by decide +kernel
theorem dX10_init_89 : decode cX10_init 89 = .ok (.newarray .int, 2) := by decide +kernel
theorem dX10_init_91 : decode cX10_init 91 = .ok (.putfield 37, 3) := by decide +kernel
theorem dX10_init_94 : decode cX10_init 94 = .ok (.aload_n 0, 1) := by decide +kernel
theorem dX10_init_95 : decode cX10_init 95 = .ok (.sipush 202, 3) := by decide +kernel
theorem dX10_init_98 : decode cX10_init 98 = .ok (.newarray .int, 2) := by decide +kernel
theorem dX10_init_100 : decode cX10_init 100 = .ok (.putfield 40, 3) := by decide +kernel
theorem dX10_init_103 : decode cX10_init 103 = .ok (.aload_n 0, 1) := by decide +kernel
theorem dX10_init_104 : decode cX10_init 104 = .ok (.sipush 202, 3) := by decide +kernel
theorem dX10_init_107 : decode cX10_init 107 = .ok (.newarray .int, 2) := by decide +kernel
theorem dX10_init_109 : decode cX10_init 109 = .ok (.putfield 43, 3) := by decide +kernel
theorem dX10_init_112 : decode cX10_init 112 = .ok (.aload_n 0, 1) := by decide +kernel
theorem dX10_init_113 : decode cX10_init 113 = .ok (.sipush 808, 3) := by decide +kernel
theorem dX10_init_116 : decode cX10_init 116 = .ok (.newarray .int, 2) := by decide +kernel
theorem dX10_init_118 : decode cX10_init 118 = .ok (.putfield 46, 3) := by decide +kernel
theorem dX10_init_121 : decode cX10_init 121 = .ok (.aload_n 0, 1) := by decide +kernel
theorem dX10_init_122 : decode cX10_init 122 = .ok (.sipush 808, 3) := by decide +kernel
theorem dX10_init_125 : decode cX10_init 125 = .ok (.newarray .int, 2) := by decide +kernel
theorem dX10_init_127 : decode cX10_init 127 = .ok (.putfield 49, 3) := by decide +kernel
theorem dX10_init_130 : decode cX10_init 130 = .ok (.aload_n 0, 1) := by decide +kernel
theorem dX10_init_131 : decode cX10_init 131 = .ok (.sipush 202, 3) := by decide +kernel
theorem dX10_init_134 : decode cX10_init 134 = .ok (.newarray .int, 2) := by decide +kernel
theorem dX10_init_136 : decode cX10_init 136 = .ok (.putfield 52, 3) := by decide +kernel
theorem dX10_init_139 : decode cX10_init 139 = .ok (.aload_n 0, 1) := by decide +kernel
theorem dX10_init_140 : decode cX10_init 140 = .ok (.sipush 202, 3) := by decide +kernel
theorem dX10_init_143 : decode cX10_init 143 = .ok (.newarray .int, 2) := by decide +kernel
theorem dX10_init_145 : decode cX10_init 145 = .ok (.putfield 55, 3) := by decide +kernel
theorem dX10_init_148 : decode cX10_init 148 = .ok (.aload_n 0, 1) := by decide +kernel
theorem dX10_init_149 : decode cX10_init 149 = .ok (.sipush 202, 3) := by decide +kernel
theorem dX10_init_152 : decode cX10_init 152 = .ok (.newarray .long, 2) := by decide +kernel
theorem dX10_init_154 : decode cX10_init 154 = .ok (.putfield 58, 3) := by decide +kernel
theorem dX10_init_157 : decode cX10_init 157 = .ok (.aload_n 0, 1) := by decide +kernel
theorem dX10_init_158 : decode cX10_init 158 = .ok (.sipush 4000, 3) := by decide +kernel
theorem dX10_init_161 : decode cX10_init 161 = .ok (.newarray .int, 2) := by decide +kernel
theorem dX10_init_163 : decode cX10_init 163 = .ok (.putfield 62, 3) := by decide +kernel
theorem dX10_init_166 : decode cX10_init 166 = .ok (.aload_n 0, 1) := by decide +kernel
theorem dX10_init_167 : decode cX10_init 167 = .ok (.bipush 26, 2) := by decide +kernel
theorem dX10_init_169 : decode cX10_init 169 = .ok (.newarray .int, 2) := by decide +kernel
theorem dX10_init_171 : decode cX10_init 171 = .ok (.putfield 65, 3) := by decide +kernel
theorem dX10_init_174 : decode cX10_init 174 = .ok (.aload_n 0, 1) := by decide +kernel
theorem dX10_init_175 : decode cX10_init 175 = .ok (.bipush 26, 2) := by decide +kernel
theorem dX10_init_177 : decode cX10_init 177 = .ok (.newarray .int, 2) := by decide +kernel
theorem dX10_init_179 : decode cX10_init 179 = .ok (.putfield 68, 3) := by decide +kernel
theorem dX10_init_182 : decode cX10_init 182 = .ok (.aload_n 0, 1) := by decide +kernel
theorem dX10_init_183 : decode cX10_init 183 = .ok (.bipush 26, 2) := by decide +kernel
theorem dX10_init_185 : decode cX10_init 185 = .ok (.newarray .long, 2) := by decide +kernel
theorem dX10_init_187 : decode cX10_init 187 = .ok (.putfield 71, 3) := by decide +kernel
theorem dX10_init_190 : decode cX10_init 190 = .ok (.aload_n 0, 1) := by decide +kernel
theorem dX10_init_191 : decode cX10_init 191 = .ok (.bipush 110, 2) := by decide +kernel
theorem dX10_init_193 : decode cX10_init 193 = .ok (.newarray .int, 2) := by decide +kernel
theorem dX10_init_195 : decode cX10_init 195 = .ok (.putfield 74, 3) := by decide +kernel
theorem dX10_init_198 : decode cX10_init 198 = .ok (.aload_n 0, 1) := by decide +kernel
theorem dX10_init_199 : decode cX10_init 199 = .ok (.sipush 210, 3) := by decide +kernel
theorem dX10_init_202 : decode cX10_init 202 = .ok (.newarray .int, 2) := by decide +kernel
theorem dX10_init_204 : decode cX10_init 204 = .ok (.putfield 77, 3) := by decide +kernel
theorem dX10_init_207 : decode cX10_init 207 = .ok (.aload_n 0, 1) := by decide +kernel
theorem dX10_init_208 : decode cX10_init 208 = .ok (.sipush 210, 3) := by decide +kernel
theorem dX10_init_211 : decode cX10_init 211 = .ok (.newarray .int, 2) := by decide +kernel
theorem dX10_init_213 : decode cX10_init 213 = .ok (.putfield 80, 3) := by decide +kernel
theorem dX10_init_216 : decode cX10_init 216 = .ok (.aload_n 0, 1) := by decide +kernel
theorem dX10_init_217 : decode cX10_init 217 = .ok (.sipush 210, 3) := by decide +kernel
theorem dX10_init_220 : decode cX10_init 220 = .ok (.newarray .int, 2) := by decide +kernel
theorem dX10_init_222 : decode cX10_init 222 = .ok (.putfield 83, 3) := by decide +kernel
theorem dX10_init_225 : decode cX10_init 225 = .ok (.aload_n 0, 1) := by decide +kernel
theorem dX10_init_226 : decode cX10_init 226 = .ok (.sipush 4100, 3) := by decide +kernel
theorem dX10_init_229 : decode cX10_init 229 = .ok (.newarray .int, 2) := by decide +kernel
theorem dX10_init_231 : decode cX10_init 231 = .ok (.putfield 86, 3) := by decide +kernel
theorem dX10_init_234 : decode cX10_init 234 = .ok (.aload_n 0, 1) := by decide +kernel
theorem dX10_init_235 : decode cX10_init 235 = .ok (.sipush 4100, 3) := by decide +kernel
theorem dX10_init_238 : decode cX10_init 238 = .ok (.newarray .int, 2) := by decide +kernel
theorem dX10_init_240 : decode cX10_init 240 = .ok (.putfield 89, 3) := by decide +kernel
theorem dX10_init_243 : decode cX10_init 243 = .ok (.aload_n 0, 1) := by decide +kernel
theorem dX10_init_244 : decode cX10_init 244 = .ok (.sipush 4100, 3) := by decide +kernel
theorem dX10_init_247 : decode cX10_init 247 = .ok (.newarray .long, 2) := by decide +kernel
theorem dX10_init_249 : decode cX10_init 249 = .ok (.putfield 92, 3) := by decide +kernel
theorem dX10_init_252 : decode cX10_init 252 = .ok (.aload_n 0, 1) := by decide +kernel
theorem dX10_init_253 : decode cX10_init 253 = .ok (.sipush 600, 3) := by decide +kernel
theorem dX10_init_256 : decode cX10_init 256 = .ok (.newarray .int, 2) := by decide +kernel
theorem dX10_init_258 : decode cX10_init 258 = .ok (.putfield 95, 3) := by decide +kernel
theorem dX10_init_261 : decode cX10_init 261 = .ok (.aload_n 0, 1) := by decide +kernel
theorem dX10_init_262 : decode cX10_init 262 = .ok (.sipush 600, 3) := by decide +kernel
theorem dX10_init_265 : decode cX10_init 265 = .ok (.newarray .int, 2) := by decide +kernel
theorem dX10_init_267 : decode cX10_init 267 = .ok (.putfield 98, 3) := by decide +kernel
theorem dX10_init_270 : decode cX10_init 270 = .ok (.aload_n 0, 1) := by decide +kernel
theorem dX10_init_271 : decode cX10_init 271 = .ok (.sipush 600, 3) := by decide +kernel
theorem dX10_init_274 : decode cX10_init 274 = .ok (.newarray .long, 2) := by decide +kernel
theorem dX10_init_276 : decode cX10_init 276 = .ok (.putfield 101, 3) := by decide +kernel
theorem dX10_init_279 : decode cX10_init 279 = .ok (.aload_n 0, 1) := by decide +kernel
theorem dX10_init_280 : decode cX10_init 280 = .ok (.bipush 100, 2) := by decide +kernel
theorem dX10_init_282 : decode cX10_init 282 = .ok (.newarray .int, 2) := by decide +kernel
theorem dX10_init_284 : decode cX10_init 284 = .ok (.putfield 104, 3) := by decide +kernel
theorem dX10_init_287 : decode cX10_init 287 = .ok (.aload_n 0, 1) := by decide +kernel
theorem dX10_init_288 : decode cX10_init 288 = .ok (.bipush 50, 2) := by decide +kernel
theorem dX10_init_290 : decode cX10_init 290 = .ok (.newarray .int, 2) := by decide +kernel
theorem dX10_init_292 : decode cX10_init 292 = .ok (.putfield 107, 3) := by decide +kernel
theorem dX10_init_295 : decode cX10_init 295 = .ok (.aload_n 0, 1) := by decide +kernel
theorem dX10_init_296 : decode cX10_init 296 = .ok (.bipush 50, 2) := by decide +kernel
theorem dX10_init_298 : decode cX10_init 298 = .ok (.newarray .int, 2) := by decide +kernel
theorem dX10_init_300 : decode cX10_init 300 = .ok (.putfield 110, 3) := by decide +kernel
theorem dX10_init_303 : decode cX10_init 303 = .ok (.aload_n 0, 1) := by decide +kernel
theorem dX10_init_304 : decode cX10_init 304 = .ok (.bipush 50, 2) := by decide +kernel
theorem dX10_init_306 : decode cX10_init 306 = .ok (.newarray .int, 2) := by decide +kernel
theorem dX10_init_308 : decode cX10_init 308 = .ok (.putfield 113, 3) := by decide +kernel
theorem dX10_init_311 : decode cX10_init 311 = .ok (.aload_n 0, 1) := by decide +kernel
theorem dX10_init_312 : decode cX10_init 312 = .ok (.bipush 50, 2) := by decide +kernel
theorem dX10_init_314 : decode cX10_init 314 = .ok (.newarray .long, 2) := by decide +kernel
theorem dX10_init_316 : decode cX10_init 316 = .ok (.putfield 116, 3) := by decide +kernel
theorem dX10_init_319 : decode cX10_init 319 = .ok (.aload_n 0, 1) := by decide +kernel
theorem dX10_init_320 : decode cX10_init 320 = .ok (.iconst 4, 1) := by decide +kernel
theorem dX10_init_321 : decode cX10_init 321 = .ok (.newarray .int, 2) := by decide +kernel
theorem dX10_init_323 : decode cX10_init 323 = .ok (.putfield 119, 3) := by decide +kernel
theorem dX10_init_326 : decode cX10_init 326 = .ok (.return_, 1) := by decide +kernel
def rmX10_init : Room := { frames := 20, cells := 37, slots := 29664, locals := 400 }
set_option maxHeartbeats 8000000 in
set_option maxRecDepth 100000 in
theorem tX10_init {l : Launch} {D : va_G} {K : Nat → Nat → Nat} {cs : Nat → ClassId} (o : Nat) : CtV l yX10_init (wG yX10_init cX10_init 1 none) rmX10_init D (mwT cs) K [.ref o] [(o, .inr (9, [.int 0, .null, .int 0, .int 0, .int 0, .int 0, .int 0, .long 0, .int 0, .long 0, .int 0, .int 0, .int 0, .int 0, .int 0, .null, .null, .null, .null, .null, .null, .null, .null, .null, .null, .null, .null, .null, .null, .null, .null, .int 0, .int 0, .int 0, .long 0, .int 0, .int 0, .null, .int 0, .null, .null, .null, .null, .int 0, .null, .null, .null, .int 0, .int 0, .null, .null, .null, .null, .null, .null, .null, .int 0, .int 0, .int 0, .int 0, .int 0, .null, .null, .null, .null, .int 0, .int 0, .long 0, .null, .int 0, .int 0]))] (fun w1 => ∃ q8 q17 q26 q35 q44 q53 q62 q71 q80 q89 q98 q107 q116 q125 q134 q143 q152 q161 q169 q177 q185 q193 q202 q211 q220 q229 q238 q247 q256 q265 q274 q282 q290 q298 q306 q314 q321 : Nat, w1 = [(o, .inr (9, [.int 0, .ref q8, .int 0, .int 0, .int 0, .int 0, .int 0, .long 0, .int 0, .long 0, .int 0, .int 0, .int 0, .int 0, .int 0, .ref q17, .ref q26, .ref q35, .ref q44, .ref q53, .ref q62, .ref q71, .ref q80, .ref q89, .ref q98, .ref q107, .ref q116, .ref q125, .ref q134, .ref q143, .ref q152, .int 0, .int 0, .int 0, .long 0, .int 0, .int 0, .ref q161, .int 0, .ref q169, .ref q177, .ref q185, .ref q193, .int 0, .ref q202, .ref q211, .ref q220, .int 0, .int 0, .ref q229, .ref q238, .ref q247, .ref q256, .ref q265, .ref q274, .ref q282, .int 0, .int 0, .int 0, .int 0, .int 0, .ref q290, .ref q298, .ref q306, .ref q314, .int 0, .int 0, .long 0, .ref q321, .int 0, .int 0])), (q8, .inl (cs 0, (3100, .inl (fun _ => 0)))), (q17, .inl (cs 0, (3100, .inl (fun _ => 0)))), (q26, .inl (cs 0, (202, .inl (fun _ => 0)))), (q35, .inl (cs 0, (202, .inl (fun _ => 0)))), (q44, .inl (cs 0, (202, .inl (fun _ => 0)))), (q53, .inl (cs 0, (202, .inl (fun _ => 0)))), (q62, .inl (cs 0, (202, .inl (fun _ => 0)))), (q71, .inl (cs 0, (202, .inl (fun _ => 0)))), (q80, .inl (cs 0, (202, .inl (fun _ => 0)))), (q89, .inl (cs 0, (202, .inl (fun _ => 0)))), (q98, .inl (cs 0, (202, .inl (fun _ => 0)))), (q107, .inl (cs 0, (202, .inl (fun _ => 0)))), (q116, .inl (cs 0, (808, .inl (fun _ => 0)))), (q125, .inl (cs 0, (808, .inl (fun _ => 0)))), (q134, .inl (cs 0, (202, .inl (fun _ => 0)))), (q143, .inl (cs 0, (202, .inl (fun _ => 0)))), (q152, .inl (cs 1, (202, .inr (.inl (fun _ => 0))))), (q161, .inl (cs 0, (4000, .inl (fun _ => 0)))), (q169, .inl (cs 0, (26, .inl (fun _ => 0)))), (q177, .inl (cs 0, (26, .inl (fun _ => 0)))), (q185, .inl (cs 1, (26, .inr (.inl (fun _ => 0))))), (q193, .inl (cs 0, (110, .inl (fun _ => 0)))), (q202, .inl (cs 0, (210, .inl (fun _ => 0)))), (q211, .inl (cs 0, (210, .inl (fun _ => 0)))), (q220, .inl (cs 0, (210, .inl (fun _ => 0)))), (q229, .inl (cs 0, (4100, .inl (fun _ => 0)))), (q238, .inl (cs 0, (4100, .inl (fun _ => 0)))), (q247, .inl (cs 1, (4100, .inr (.inl (fun _ => 0))))), (q256, .inl (cs 0, (600, .inl (fun _ => 0)))), (q265, .inl (cs 0, (600, .inl (fun _ => 0)))), (q274, .inl (cs 1, (600, .inr (.inl (fun _ => 0))))), (q282, .inl (cs 0, (100, .inl (fun _ => 0)))), (q290, .inl (cs 0, (50, .inl (fun _ => 0)))), (q298, .inl (cs 0, (50, .inl (fun _ => 0)))), (q306, .inl (cs 0, (50, .inl (fun _ => 0)))), (q314, .inl (cs 1, (50, .inr (.inl (fun _ => 0))))), (q321, .inl (cs 0, (4, .inl (fun _ => 0))))]) 37 29664 := by
  intro sz
  refine Met.ofW (cc := cX10_init) (maxL := 1) (ret := none) (by decide) rfl ?_
  intro p e s m args below meth c s₁ B hml hv
  obtain ⟨rfl, hsz, hP, hK, hD0, hE⟩ := hv
  have hx := B.exec
  have hb := B.bytes
  have hr := B.returns
  have hts := atoms_spec (ws := (wG yX10_init cX10_init 1 none)) B.pre
  have hown : s.vm.findClass RX10 = some m.cls := findClass_of_methodNamed B.named
  have hnm : meth.name = "<init>" := (name_of_methodNamed B.named B.method).1
  have hlocks := B.notSynchronized
  subst hsz
  have hD := hD0.self (sz := s.heap.size)
  obtain ⟨A, hAe⟩ : ∃ A : Nat → Prop, A = va_A [(o, .inr (9, [.int 0, .null, .int 0, .int 0, .int 0, .int 0, .int 0, .long 0, .int 0, .long 0, .int 0, .int 0, .int 0, .int 0, .int 0, .null, .null, .null, .null, .null, .null, .null, .null, .null, .null, .null, .null, .null, .null, .null, .null, .int 0, .int 0, .int 0, .long 0, .int 0, .int 0, .null, .int 0, .null, .null, .null, .null, .int 0, .null, .null, .null, .int 0, .int 0, .null, .null, .null, .null, .null, .null, .null, .int 0, .int 0, .int 0, .int 0, .int 0, .null, .null, .null, .null, .int 0, .int 0, .long 0, .null, .int 0, .int 0]))] s.heap.size := ⟨_, rfl⟩
  rw [← hAe] at hD hE
  have hA : ∀ q : Nat, s.heap.size ≤ q → A q := fun q h => by rw [hAe]; exact Or.inr h
  have hS : va_S A s.heap s.heap [] := va_S.rf
  have hl := lv_entry ([.ref o]) (n := 1) (Nat.le_of_ble_eq_true rfl)
  rw [lg_entry_eq]
  generalize (lg_sl ([.ref o]) ++ List.replicate (1 - (lg_sl ([.ref o])).length) Slot.unset).toArray = ls at hl ⊢
  have hl : lv_has ls 1 [(0, .ref o)] := hl
  refine wq (fun Q hQ => ?_)
  have hinX10 : ∀ w ∈ wsX100, w ∈ (wG yX10_init cX10_init 1 none) := fun w h => List.mem_cons_of_mem _ (inlX10 w h)
  have k_5_6 := hts (.methodLink RX10 1 objectInit) (List.mem_cons_of_mem _ (wr5 _ (List.mem_of_getElem? (i := 6) rfl)))
  have k_1_11 := hts (.instanceMethod objectInit) (List.mem_cons_of_mem _ (wr1 _ (List.mem_of_getElem? (i := 11) rfl)))
  have k_1_12 := hts (.code objectInit ⟨#[0xb1]⟩ 1 none) (List.mem_cons_of_mem _ (wr1 _ (List.mem_of_getElem? (i := 12) rfl)))
  have k_2_23 := hts (.arrayClass .int) (List.mem_cons_of_mem _ (wr2 _ (List.mem_of_getElem? (i := 23) rfl)))
  have k_5_7 := hts (.fieldLink RX10 9 "ArrayTrainerModel" "tape" "[I") (List.mem_cons_of_mem _ (wr5 _ (List.mem_of_getElem? (i := 7) rfl)))
  have k_5_8 := hts (.fieldLink RX10 13 "ArrayTrainerModel" "text" "[I") (List.mem_cons_of_mem _ (wr5 _ (List.mem_of_getElem? (i := 8) rfl)))
  have k_5_9 := hts (.fieldLink RX10 16 "ArrayTrainerModel" "act" "[I") (List.mem_cons_of_mem _ (wr5 _ (List.mem_of_getElem? (i := 9) rfl)))
  have k_5_10 := hts (.fieldLink RX10 19 "ArrayTrainerModel" "guess" "[I") (List.mem_cons_of_mem _ (wr5 _ (List.mem_of_getElem? (i := 10) rfl)))
  have k_5_11 := hts (.fieldLink RX10 22 "ArrayTrainerModel" "take" "[I") (List.mem_cons_of_mem _ (wr5 _ (List.mem_of_getElem? (i := 11) rfl)))
  have k_5_12 := hts (.fieldLink RX10 25 "ArrayTrainerModel" "begin" "[I") (List.mem_cons_of_mem _ (wr5 _ (List.mem_of_getElem? (i := 12) rfl)))
  have k_5_13 := hts (.fieldLink RX10 28 "ArrayTrainerModel" "finish" "[I") (List.mem_cons_of_mem _ (wr5 _ (List.mem_of_getElem? (i := 13) rfl)))
  have k_5_14 := hts (.fieldLink RX10 31 "ArrayTrainerModel" "to1" "[I") (List.mem_cons_of_mem _ (wr5 _ (List.mem_of_getElem? (i := 14) rfl)))
  have k_5_15 := hts (.fieldLink RX10 34 "ArrayTrainerModel" "one" "[I") (List.mem_cons_of_mem _ (wr5 _ (List.mem_of_getElem? (i := 15) rfl)))
  have k_5_16 := hts (.fieldLink RX10 37 "ArrayTrainerModel" "two" "[I") (List.mem_cons_of_mem _ (wr5 _ (List.mem_of_getElem? (i := 16) rfl)))
  have k_5_17 := hts (.fieldLink RX10 40 "ArrayTrainerModel" "what" "[I") (List.mem_cons_of_mem _ (wr5 _ (List.mem_of_getElem? (i := 17) rfl)))
  have k_5_18 := hts (.fieldLink RX10 43 "ArrayTrainerModel" "ats" "[I") (List.mem_cons_of_mem _ (wr5 _ (List.mem_of_getElem? (i := 18) rfl)))
  have k_5_19 := hts (.fieldLink RX10 46 "ArrayTrainerModel" "atVar" "[I") (List.mem_cons_of_mem _ (wr5 _ (List.mem_of_getElem? (i := 19) rfl)))
  have k_5_20 := hts (.fieldLink RX10 49 "ArrayTrainerModel" "atNumber" "[I") (List.mem_cons_of_mem _ (wr5 _ (List.mem_of_getElem? (i := 20) rfl)))
  have k_5_21 := hts (.fieldLink RX10 52 "ArrayTrainerModel" "atomSort" "[I") (List.mem_cons_of_mem _ (wr5 _ (List.mem_of_getElem? (i := 21) rfl)))
  have k_5_22 := hts (.fieldLink RX10 55 "ArrayTrainerModel" "atomKind" "[I") (List.mem_cons_of_mem _ (wr5 _ (List.mem_of_getElem? (i := 22) rfl)))
  have k_1_6 := hts (.arrayClass .long) (List.mem_cons_of_mem _ (wr1 _ (List.mem_of_getElem? (i := 6) rfl)))
  have k_5_23 := hts (.fieldLink RX10 58 "ArrayTrainerModel" "atomValue" "[J") (List.mem_cons_of_mem _ (wr5 _ (List.mem_of_getElem? (i := 23) rfl)))
  have k_6_0 := hts (.fieldLink RX10 62 "ArrayTrainerModel" "out" "[I") (List.mem_cons_of_mem _ (wr6 _ (List.mem_of_getElem? (i := 0) rfl)))
  have k_6_1 := hts (.fieldLink RX10 65 "ArrayTrainerModel" "varSort" "[I") (List.mem_cons_of_mem _ (wr6 _ (List.mem_of_getElem? (i := 1) rfl)))
  have k_6_2 := hts (.fieldLink RX10 68 "ArrayTrainerModel" "varKind" "[I") (List.mem_cons_of_mem _ (wr6 _ (List.mem_of_getElem? (i := 2) rfl)))
  have k_6_3 := hts (.fieldLink RX10 71 "ArrayTrainerModel" "varValue" "[J") (List.mem_cons_of_mem _ (wr6 _ (List.mem_of_getElem? (i := 3) rfl)))
  have k_6_4 := hts (.fieldLink RX10 74 "ArrayTrainerModel" "creature" "[I") (List.mem_cons_of_mem _ (wr6 _ (List.mem_of_getElem? (i := 4) rfl)))
  have k_6_5 := hts (.fieldLink RX10 77 "ArrayTrainerModel" "arrayClass" "[I") (List.mem_cons_of_mem _ (wr6 _ (List.mem_of_getElem? (i := 5) rfl)))
  have k_6_6 := hts (.fieldLink RX10 80 "ArrayTrainerModel" "arrayFrom" "[I") (List.mem_cons_of_mem _ (wr6 _ (List.mem_of_getElem? (i := 6) rfl)))
  have k_6_7 := hts (.fieldLink RX10 83 "ArrayTrainerModel" "arrayLong" "[I") (List.mem_cons_of_mem _ (wr6 _ (List.mem_of_getElem? (i := 7) rfl)))
  have k_6_8 := hts (.fieldLink RX10 86 "ArrayTrainerModel" "cellSort" "[I") (List.mem_cons_of_mem _ (wr6 _ (List.mem_of_getElem? (i := 8) rfl)))
  have k_6_9 := hts (.fieldLink RX10 89 "ArrayTrainerModel" "cellKind" "[I") (List.mem_cons_of_mem _ (wr6 _ (List.mem_of_getElem? (i := 9) rfl)))
  have k_6_10 := hts (.fieldLink RX10 92 "ArrayTrainerModel" "cellValue" "[J") (List.mem_cons_of_mem _ (wr6 _ (List.mem_of_getElem? (i := 10) rfl)))
  have k_6_11 := hts (.fieldLink RX10 95 "ArrayTrainerModel" "asideSort" "[I") (List.mem_cons_of_mem _ (wr6 _ (List.mem_of_getElem? (i := 11) rfl)))
  have k_6_12 := hts (.fieldLink RX10 98 "ArrayTrainerModel" "asideKind" "[I") (List.mem_cons_of_mem _ (wr6 _ (List.mem_of_getElem? (i := 12) rfl)))
  have k_6_13 := hts (.fieldLink RX10 101 "ArrayTrainerModel" "asideValue" "[J") (List.mem_cons_of_mem _ (wr6 _ (List.mem_of_getElem? (i := 13) rfl)))
  have k_6_14 := hts (.fieldLink RX10 104 "ArrayTrainerModel" "outcome" "[I") (List.mem_cons_of_mem _ (wr6 _ (List.mem_of_getElem? (i := 14) rfl)))
  have k_6_15 := hts (.fieldLink RX10 107 "ArrayTrainerModel" "markSort" "[I") (List.mem_cons_of_mem _ (wr6 _ (List.mem_of_getElem? (i := 15) rfl)))
  have k_6_16 := hts (.fieldLink RX10 110 "ArrayTrainerModel" "markKind" "[I") (List.mem_cons_of_mem _ (wr6 _ (List.mem_of_getElem? (i := 16) rfl)))
  have k_6_17 := hts (.fieldLink RX10 113 "ArrayTrainerModel" "markClass" "[I") (List.mem_cons_of_mem _ (wr6 _ (List.mem_of_getElem? (i := 17) rfl)))
  have k_6_18 := hts (.fieldLink RX10 116 "ArrayTrainerModel" "markValue" "[J") (List.mem_cons_of_mem _ (wr6 _ (List.mem_of_getElem? (i := 18) rfl)))
  have k_6_19 := hts (.fieldLink RX10 119 "ArrayTrainerModel" "index" "[I") (List.mem_cons_of_mem _ (wr6 _ (List.mem_of_getElem? (i := 19) rfl)))
  obtain ⟨H, hH⟩ : ∃ H : Heap, H = s.heap := ⟨_, rfl⟩
  obtain ⟨locs, hlc⟩ : ∃ L : List Loc, L = [] := ⟨_, rfl⟩
  have hP : va_P D vwCl [(o, .inr (9, [.int 0, .null, .int 0, .int 0, .int 0, .int 0, .int 0, .long 0, .int 0, .long 0, .int 0, .int 0, .int 0, .int 0, .int 0, .null, .null, .null, .null, .null, .null, .null, .null, .null, .null, .null, .null, .null, .null, .null, .null, .int 0, .int 0, .int 0, .long 0, .int 0, .int 0, .null, .int 0, .null, .null, .null, .null, .int 0, .null, .null, .null, .int 0, .int 0, .null, .null, .null, .null, .null, .null, .null, .int 0, .int 0, .int 0, .int 0, .int 0, .null, .null, .null, .null, .int 0, .int 0, .long 0, .null, .int 0, .int 0]))] H := by rw [hH]; exact hP
  have hS : va_S A s.heap H locs := by rw [hH, hlc]; exact hS
  refine wHL hH hlc ?_
  refine lv_aload_n hx hb dX10_init_0 rfl (lv_at hl 0 rfl) ?_
  refine W.objInit hx hb hown k_5_6 k_1_11 k_1_12 rfl (by rw [hml]; exact hl.1) rfl dX10_init_1 (Nat.le_of_ble_eq_true rfl) (Nat.le_of_ble_eq_true rfl) ?_
  refine lv_aload_n hx hb dX10_init_4 rfl (lv_at hl 0 rfl) ?_
  refine lv_sipush (v := 3100) hx hb dX10_init_5 (by decide) ?_
  refine m_newa (atype := .int) (ty := .int) (a0 := (3100, .inl (fun _ => 0))) hx hb k_2_23 rfl hK 0 rfl (fun _ _ h => h) hP hD hS hA (fun _ => rfl) (by decide) (by decide) (by decide +kernel) (by show _ ≤ 37; omega) (by show _ ≤ 29664; omega) dX10_init_8 (fun q8 H hP hD hS => ?_)
  refine va_putF (D := D) (ci := 9) (v := .ref q8) (ty := .array .int) (C := RX10) (T := TX10) (N := 71) hx hb hts hinX10 tyX10 tyX10_ok nmX10 hown hK hP hD hS 0 rfl rfl 1 (by decide) k_5_7 (fun _ h9 => h9) rfl hnm rfl (by decide +kernel) rfl rfl (Nat.le_of_ble_eq_true rfl) dX10_init_10 (fun H locs hP hD hS => ?_)
  refine lv_aload_n hx hb dX10_init_13 rfl (lv_at hl 0 rfl) ?_
  refine lv_sipush (v := 3100) hx hb dX10_init_14 (by decide) ?_
  refine m_newa (atype := .int) (ty := .int) (a0 := (3100, .inl (fun _ => 0))) hx hb k_2_23 rfl hK 0 rfl (fun _ _ h => h) hP hD hS hA (fun _ => rfl) (by decide) (by decide) (by decide +kernel) (by show _ ≤ 37; omega) (by show _ ≤ 29664; omega) dX10_init_17 (fun q17 H hP hD hS => ?_)
  refine va_putF (D := D) (ci := 9) (v := .ref q17) (ty := .array .int) (C := RX10) (T := TX10) (N := 71) hx hb hts hinX10 tyX10 tyX10_ok nmX10 hown hK hP hD hS 0 rfl rfl 15 (by decide) k_5_8 (fun _ h9 => h9) rfl hnm rfl (by decide +kernel) rfl rfl (Nat.le_of_ble_eq_true rfl) dX10_init_19 (fun H locs hP hD hS => ?_)
  refine lv_aload_n hx hb dX10_init_22 rfl (lv_at hl 0 rfl) ?_
  refine lv_sipush (v := 202) hx hb dX10_init_23 (by decide) ?_
  refine m_newa (atype := .int) (ty := .int) (a0 := (202, .inl (fun _ => 0))) hx hb k_2_23 rfl hK 0 rfl (fun _ _ h => h) hP hD hS hA (fun _ => rfl) (by decide) (by decide) (by decide +kernel) (by show _ ≤ 37; omega) (by show _ ≤ 29664; omega) dX10_init_26 (fun q26 H hP hD hS => ?_)
  refine va_putF (D := D) (ci := 9) (v := .ref q26) (ty := .array .int) (C := RX10) (T := TX10) (N := 71) hx hb hts hinX10 tyX10 tyX10_ok nmX10 hown hK hP hD hS 0 rfl rfl 16 (by decide) k_5_9 (fun _ h9 => h9) rfl hnm rfl (by decide +kernel) rfl rfl (Nat.le_of_ble_eq_true rfl) dX10_init_28 (fun H locs hP hD hS => ?_)
  refine lv_aload_n hx hb dX10_init_31 rfl (lv_at hl 0 rfl) ?_
  refine lv_sipush (v := 202) hx hb dX10_init_32 (by decide) ?_
  refine m_newa (atype := .int) (ty := .int) (a0 := (202, .inl (fun _ => 0))) hx hb k_2_23 rfl hK 0 rfl (fun _ _ h => h) hP hD hS hA (fun _ => rfl) (by decide) (by decide) (by decide +kernel) (by show _ ≤ 37; omega) (by show _ ≤ 29664; omega) dX10_init_35 (fun q35 H hP hD hS => ?_)
  refine va_putF (D := D) (ci := 9) (v := .ref q35) (ty := .array .int) (C := RX10) (T := TX10) (N := 71) hx hb hts hinX10 tyX10 tyX10_ok nmX10 hown hK hP hD hS 0 rfl rfl 17 (by decide) k_5_10 (fun _ h9 => h9) rfl hnm rfl (by decide +kernel) rfl rfl (Nat.le_of_ble_eq_true rfl) dX10_init_37 (fun H locs hP hD hS => ?_)
  refine lv_aload_n hx hb dX10_init_40 rfl (lv_at hl 0 rfl) ?_
  refine lv_sipush (v := 202) hx hb dX10_init_41 (by decide) ?_
  refine m_newa (atype := .int) (ty := .int) (a0 := (202, .inl (fun _ => 0))) hx hb k_2_23 rfl hK 0 rfl (fun _ _ h => h) hP hD hS hA (fun _ => rfl) (by decide) (by decide) (by decide +kernel) (by show _ ≤ 37; omega) (by show _ ≤ 29664; omega) dX10_init_44 (fun q44 H hP hD hS => ?_)
  refine va_putF (D := D) (ci := 9) (v := .ref q44) (ty := .array .int) (C := RX10) (T := TX10) (N := 71) hx hb hts hinX10 tyX10 tyX10_ok nmX10 hown hK hP hD hS 0 rfl rfl 18 (by decide) k_5_11 (fun _ h9 => h9) rfl hnm rfl (by decide +kernel) rfl rfl (Nat.le_of_ble_eq_true rfl) dX10_init_46 (fun H locs hP hD hS => ?_)
  refine lv_aload_n hx hb dX10_init_49 rfl (lv_at hl 0 rfl) ?_
  refine lv_sipush (v := 202) hx hb dX10_init_50 (by decide) ?_
  refine m_newa (atype := .int) (ty := .int) (a0 := (202, .inl (fun _ => 0))) hx hb k_2_23 rfl hK 0 rfl (fun _ _ h => h) hP hD hS hA (fun _ => rfl) (by decide) (by decide) (by decide +kernel) (by show _ ≤ 37; omega) (by show _ ≤ 29664; omega) dX10_init_53 (fun q53 H hP hD hS => ?_)
  refine va_putF (D := D) (ci := 9) (v := .ref q53) (ty := .array .int) (C := RX10) (T := TX10) (N := 71) hx hb hts hinX10 tyX10 tyX10_ok nmX10 hown hK hP hD hS 0 rfl rfl 19 (by decide) k_5_12 (fun _ h9 => h9) rfl hnm rfl (by decide +kernel) rfl rfl (Nat.le_of_ble_eq_true rfl) dX10_init_55 (fun H locs hP hD hS => ?_)
  refine lv_aload_n hx hb dX10_init_58 rfl (lv_at hl 0 rfl) ?_
  refine lv_sipush (v := 202) hx hb dX10_init_59 (by decide) ?_
  refine m_newa (atype := .int) (ty := .int) (a0 := (202, .inl (fun _ => 0))) hx hb k_2_23 rfl hK 0 rfl (fun _ _ h => h) hP hD hS hA (fun _ => rfl) (by decide) (by decide) (by decide +kernel) (by show _ ≤ 37; omega) (by show _ ≤ 29664; omega) dX10_init_62 (fun q62 H hP hD hS => ?_)
  refine va_putF (D := D) (ci := 9) (v := .ref q62) (ty := .array .int) (C := RX10) (T := TX10) (N := 71) hx hb hts hinX10 tyX10 tyX10_ok nmX10 hown hK hP hD hS 0 rfl rfl 20 (by decide) k_5_13 (fun _ h9 => h9) rfl hnm rfl (by decide +kernel) rfl rfl (Nat.le_of_ble_eq_true rfl) dX10_init_64 (fun H locs hP hD hS => ?_)
  refine lv_aload_n hx hb dX10_init_67 rfl (lv_at hl 0 rfl) ?_
  refine lv_sipush (v := 202) hx hb dX10_init_68 (by decide) ?_
  refine m_newa (atype := .int) (ty := .int) (a0 := (202, .inl (fun _ => 0))) hx hb k_2_23 rfl hK 0 rfl (fun _ _ h => h) hP hD hS hA (fun _ => rfl) (by decide) (by decide) (by decide +kernel) (by show _ ≤ 37; omega) (by show _ ≤ 29664; omega) dX10_init_71 (fun q71 H hP hD hS => ?_)
  refine va_putF (D := D) (ci := 9) (v := .ref q71) (ty := .array .int) (C := RX10) (T := TX10) (N := 71) hx hb hts hinX10 tyX10 tyX10_ok nmX10 hown hK hP hD hS 0 rfl rfl 21 (by decide) k_5_14 (fun _ h9 => h9) rfl hnm rfl (by decide +kernel) rfl rfl (Nat.le_of_ble_eq_true rfl) dX10_init_73 (fun H locs hP hD hS => ?_)
  refine lv_aload_n hx hb dX10_init_76 rfl (lv_at hl 0 rfl) ?_
  refine lv_sipush (v := 202) hx hb dX10_init_77 (by decide) ?_
  refine m_newa (atype := .int) (ty := .int) (a0 := (202, .inl (fun _ => 0))) hx hb k_2_23 rfl hK 0 rfl (fun _ _ h => h) hP hD hS hA (fun _ => rfl) (by decide) (by decide) (by decide +kernel) (by show _ ≤ 37; omega) (by show _ ≤ 29664; omega) dX10_init_80 (fun q80 H hP hD hS => ?_)
  refine va_putF (D := D) (ci := 9) (v := .ref q80) (ty := .array .int) (C := RX10) (T := TX10) (N := 71) hx hb hts hinX10 tyX10 tyX10_ok nmX10 hown hK hP hD hS 0 rfl rfl 22 (by decide) k_5_15 (fun _ h9 => h9) rfl hnm rfl (by decide +kernel) rfl rfl (Nat.le_of_ble_eq_true rfl) dX10_init_82 (fun H locs hP hD hS => ?_)
  refine lv_aload_n hx hb dX10_init_85 rfl (lv_at hl 0 rfl) ?_
  refine lv_sipush (v := 202) hx hb dX10_init_86 (by decide) ?_
  refine m_newa (atype := .int) (ty := .int) (a0 := (202, .inl (fun _ => 0))) hx hb k_2_23 rfl hK 0 rfl (fun _ _ h => h) hP hD hS hA (fun _ => rfl) (by decide) (by decide) (by decide +kernel) (by show _ ≤ 37; omega) (by show _ ≤ 29664; omega) dX10_init_89 (fun q89 H hP hD hS => ?_)
  refine va_putF (D := D) (ci := 9) (v := .ref q89) (ty := .array .int) (C := RX10) (T := TX10) (N := 71) hx hb hts hinX10 tyX10 tyX10_ok nmX10 hown hK hP hD hS 0 rfl rfl 23 (by decide) k_5_16 (fun _ h9 => h9) rfl hnm rfl (by decide +kernel) rfl rfl (Nat.le_of_ble_eq_true rfl) dX10_init_91 (fun H locs hP hD hS => ?_)
  refine lv_aload_n hx hb dX10_init_94 rfl (lv_at hl 0 rfl) ?_
  refine lv_sipush (v := 202) hx hb dX10_init_95 (by decide) ?_
  refine m_newa (atype := .int) (ty := .int) (a0 := (202, .inl (fun _ => 0))) hx hb k_2_23 rfl hK 0 rfl (fun _ _ h => h) hP hD hS hA (fun _ => rfl) (by decide) (by decide) (by decide +kernel) (by show _ ≤ 37; omega) (by show _ ≤ 29664; omega) dX10_init_98 (fun q98 H hP hD hS => ?_)
  refine va_putF (D := D) (ci := 9) (v := .ref q98) (ty := .array .int) (C := RX10) (T := TX10) (N := 71) hx hb hts hinX10 tyX10 tyX10_ok nmX10 hown hK hP hD hS 0 rfl rfl 24 (by decide) k_5_17 (fun _ h9 => h9) rfl hnm rfl (by decide +kernel) rfl rfl (Nat.le_of_ble_eq_true rfl) dX10_init_100 (fun H locs hP hD hS => ?_)
  refine lv_aload_n hx hb dX10_init_103 rfl (lv_at hl 0 rfl) ?_
  refine lv_sipush (v := 202) hx hb dX10_init_104 (by decide) ?_
  refine m_newa (atype := .int) (ty := .int) (a0 := (202, .inl (fun _ => 0))) hx hb k_2_23 rfl hK 0 rfl (fun _ _ h => h) hP hD hS hA (fun _ => rfl) (by decide) (by decide) (by decide +kernel) (by show _ ≤ 37; omega) (by show _ ≤ 29664; omega) dX10_init_107 (fun q107 H hP hD hS => ?_)
  refine va_putF (D := D) (ci := 9) (v := .ref q107) (ty := .array .int) (C := RX10) (T := TX10) (N := 71) hx hb hts hinX10 tyX10 tyX10_ok nmX10 hown hK hP hD hS 0 rfl rfl 25 (by decide) k_5_18 (fun _ h9 => h9) rfl hnm rfl (by decide +kernel) rfl rfl (Nat.le_of_ble_eq_true rfl) dX10_init_109 (fun H locs hP hD hS => ?_)
  refine lv_aload_n hx hb dX10_init_112 rfl (lv_at hl 0 rfl) ?_
  refine lv_sipush (v := 808) hx hb dX10_init_113 (by decide) ?_
  refine m_newa (atype := .int) (ty := .int) (a0 := (808, .inl (fun _ => 0))) hx hb k_2_23 rfl hK 0 rfl (fun _ _ h => h) hP hD hS hA (fun _ => rfl) (by decide) (by decide) (by decide +kernel) (by show _ ≤ 37; omega) (by show _ ≤ 29664; omega) dX10_init_116 (fun q116 H hP hD hS => ?_)
  refine va_putF (D := D) (ci := 9) (v := .ref q116) (ty := .array .int) (C := RX10) (T := TX10) (N := 71) hx hb hts hinX10 tyX10 tyX10_ok nmX10 hown hK hP hD hS 0 rfl rfl 26 (by decide) k_5_19 (fun _ h9 => h9) rfl hnm rfl (by decide +kernel) rfl rfl (Nat.le_of_ble_eq_true rfl) dX10_init_118 (fun H locs hP hD hS => ?_)
  refine lv_aload_n hx hb dX10_init_121 rfl (lv_at hl 0 rfl) ?_
  refine lv_sipush (v := 808) hx hb dX10_init_122 (by decide) ?_
  refine m_newa (atype := .int) (ty := .int) (a0 := (808, .inl (fun _ => 0))) hx hb k_2_23 rfl hK 0 rfl (fun _ _ h => h) hP hD hS hA (fun _ => rfl) (by decide) (by decide) (by decide +kernel) (by show _ ≤ 37; omega) (by show _ ≤ 29664; omega) dX10_init_125 (fun q125 H hP hD hS => ?_)
  refine va_putF (D := D) (ci := 9) (v := .ref q125) (ty := .array .int) (C := RX10) (T := TX10) (N := 71) hx hb hts hinX10 tyX10 tyX10_ok nmX10 hown hK hP hD hS 0 rfl rfl 27 (by decide) k_5_20 (fun _ h9 => h9) rfl hnm rfl (by decide +kernel) rfl rfl (Nat.le_of_ble_eq_true rfl) dX10_init_127 (fun H locs hP hD hS => ?_)
  refine lv_aload_n hx hb dX10_init_130 rfl (lv_at hl 0 rfl) ?_
  refine lv_sipush (v := 202) hx hb dX10_init_131 (by decide) ?_
  refine m_newa (atype := .int) (ty := .int) (a0 := (202, .inl (fun _ => 0))) hx hb k_2_23 rfl hK 0 rfl (fun _ _ h => h) hP hD hS hA (fun _ => rfl) (by decide) (by decide) (by decide +kernel) (by show _ ≤ 37; omega) (by show _ ≤ 29664; omega) dX10_init_134 (fun q134 H hP hD hS => ?_)
  refine va_putF (D := D) (ci := 9) (v := .ref q134) (ty := .array .int) (C := RX10) (T := TX10) (N := 71) hx hb hts hinX10 tyX10 tyX10_ok nmX10 hown hK hP hD hS 0 rfl rfl 28 (by decide) k_5_21 (fun _ h9 => h9) rfl hnm rfl (by decide +kernel) rfl rfl (Nat.le_of_ble_eq_true rfl) dX10_init_136 (fun H locs hP hD hS => ?_)
  refine lv_aload_n hx hb dX10_init_139 rfl (lv_at hl 0 rfl) ?_
  refine lv_sipush (v := 202) hx hb dX10_init_140 (by decide) ?_
  refine m_newa (atype := .int) (ty := .int) (a0 := (202, .inl (fun _ => 0))) hx hb k_2_23 rfl hK 0 rfl (fun _ _ h => h) hP hD hS hA (fun _ => rfl) (by decide) (by decide) (by decide +kernel) (by show _ ≤ 37; omega) (by show _ ≤ 29664; omega) dX10_init_143 (fun q143 H hP hD hS => ?_)
  refine va_putF (D := D) (ci := 9) (v := .ref q143) (ty := .array .int) (C := RX10) (T := TX10) (N := 71) hx hb hts hinX10 tyX10 tyX10_ok nmX10 hown hK hP hD hS 0 rfl rfl 29 (by decide) k_5_22 (fun _ h9 => h9) rfl hnm rfl (by decide +kernel) rfl rfl (Nat.le_of_ble_eq_true rfl) dX10_init_145 (fun H locs hP hD hS => ?_)
  refine lv_aload_n hx hb dX10_init_148 rfl (lv_at hl 0 rfl) ?_
  refine lv_sipush (v := 202) hx hb dX10_init_149 (by decide) ?_
  refine m_newa (atype := .long) (ty := .long) (a0 := (202, .inr (.inl (fun _ => 0)))) hx hb k_1_6 rfl hK 1 rfl (fun _ _ h => h) hP hD hS hA (fun _ => rfl) (by decide) (by decide) (by decide +kernel) (by show _ ≤ 37; omega) (by show _ ≤ 29664; omega) dX10_init_152 (fun q152 H hP hD hS => ?_)
  refine va_putF (D := D) (ci := 9) (v := .ref q152) (ty := .array .long) (C := RX10) (T := TX10) (N := 71) hx hb hts hinX10 tyX10 tyX10_ok nmX10 hown hK hP hD hS 0 rfl rfl 30 (by decide) k_5_23 (fun _ h9 => h9) rfl hnm rfl (by decide +kernel) rfl rfl (Nat.le_of_ble_eq_true rfl) dX10_init_154 (fun H locs hP hD hS => ?_)
  refine lv_aload_n hx hb dX10_init_157 rfl (lv_at hl 0 rfl) ?_
  refine lv_sipush (v := 4000) hx hb dX10_init_158 (by decide) ?_
  refine m_newa (atype := .int) (ty := .int) (a0 := (4000, .inl (fun _ => 0))) hx hb k_2_23 rfl hK 0 rfl (fun _ _ h => h) hP hD hS hA (fun _ => rfl) (by decide) (by decide) (by decide +kernel) (by show _ ≤ 37; omega) (by show _ ≤ 29664; omega) dX10_init_161 (fun q161 H hP hD hS => ?_)
  refine va_putF (D := D) (ci := 9) (v := .ref q161) (ty := .array .int) (C := RX10) (T := TX10) (N := 71) hx hb hts hinX10 tyX10 tyX10_ok nmX10 hown hK hP hD hS 0 rfl rfl 37 (by decide) k_6_0 (fun _ h9 => h9) rfl hnm rfl (by decide +kernel) rfl rfl (Nat.le_of_ble_eq_true rfl) dX10_init_163 (fun H locs hP hD hS => ?_)
  refine lv_aload_n hx hb dX10_init_166 rfl (lv_at hl 0 rfl) ?_
  refine lv_bipush (v := 26) hx hb dX10_init_167 (by decide) ?_
  refine m_newa (atype := .int) (ty := .int) (a0 := (26, .inl (fun _ => 0))) hx hb k_2_23 rfl hK 0 rfl (fun _ _ h => h) hP hD hS hA (fun _ => rfl) (by decide) (by decide) (by decide +kernel) (by show _ ≤ 37; omega) (by show _ ≤ 29664; omega) dX10_init_169 (fun q169 H hP hD hS => ?_)
  refine va_putF (D := D) (ci := 9) (v := .ref q169) (ty := .array .int) (C := RX10) (T := TX10) (N := 71) hx hb hts hinX10 tyX10 tyX10_ok nmX10 hown hK hP hD hS 0 rfl rfl 39 (by decide) k_6_1 (fun _ h9 => h9) rfl hnm rfl (by decide +kernel) rfl rfl (Nat.le_of_ble_eq_true rfl) dX10_init_171 (fun H locs hP hD hS => ?_)
  refine lv_aload_n hx hb dX10_init_174 rfl (lv_at hl 0 rfl) ?_
  refine lv_bipush (v := 26) hx hb dX10_init_175 (by decide) ?_
  refine m_newa (atype := .int) (ty := .int) (a0 := (26, .inl (fun _ => 0))) hx hb k_2_23 rfl hK 0 rfl (fun _ _ h => h) hP hD hS hA (fun _ => rfl) (by decide) (by decide) (by decide +kernel) (by show _ ≤ 37; omega) (by show _ ≤ 29664; omega) dX10_init_177 (fun q177 H hP hD hS => ?_)
  refine va_putF (D := D) (ci := 9) (v := .ref q177) (ty := .array .int) (C := RX10) (T := TX10) (N := 71) hx hb hts hinX10 tyX10 tyX10_ok nmX10 hown hK hP hD hS 0 rfl rfl 40 (by decide) k_6_2 (fun _ h9 => h9) rfl hnm rfl (by decide +kernel) rfl rfl (Nat.le_of_ble_eq_true rfl) dX10_init_179 (fun H locs hP hD hS => ?_)
  refine lv_aload_n hx hb dX10_init_182 rfl (lv_at hl 0 rfl) ?_
  refine lv_bipush (v := 26) hx hb dX10_init_183 (by decide) ?_
  refine m_newa (atype := .long) (ty := .long) (a0 := (26, .inr (.inl (fun _ => 0)))) hx hb k_1_6 rfl hK 1 rfl (fun _ _ h => h) hP hD hS hA (fun _ => rfl) (by decide) (by decide) (by decide +kernel) (by show _ ≤ 37; omega) (by show _ ≤ 29664; omega) dX10_init_185 (fun q185 H hP hD hS => ?_)
  refine va_putF (D := D) (ci := 9) (v := .ref q185) (ty := .array .long) (C := RX10) (T := TX10) (N := 71) hx hb hts hinX10 tyX10 tyX10_ok nmX10 hown hK hP hD hS 0 rfl rfl 41 (by decide) k_6_3 (fun _ h9 => h9) rfl hnm rfl (by decide +kernel) rfl rfl (Nat.le_of_ble_eq_true rfl) dX10_init_187 (fun H locs hP hD hS => ?_)
  refine lv_aload_n hx hb dX10_init_190 rfl (lv_at hl 0 rfl) ?_
  refine lv_bipush (v := 110) hx hb dX10_init_191 (by decide) ?_
  refine m_newa (atype := .int) (ty := .int) (a0 := (110, .inl (fun _ => 0))) hx hb k_2_23 rfl hK 0 rfl (fun _ _ h => h) hP hD hS hA (fun _ => rfl) (by decide) (by decide) (by decide +kernel) (by show _ ≤ 37; omega) (by show _ ≤ 29664; omega) dX10_init_193 (fun q193 H hP hD hS => ?_)
  refine va_putF (D := D) (ci := 9) (v := .ref q193) (ty := .array .int) (C := RX10) (T := TX10) (N := 71) hx hb hts hinX10 tyX10 tyX10_ok nmX10 hown hK hP hD hS 0 rfl rfl 42 (by decide) k_6_4 (fun _ h9 => h9) rfl hnm rfl (by decide +kernel) rfl rfl (Nat.le_of_ble_eq_true rfl) dX10_init_195 (fun H locs hP hD hS => ?_)
  refine lv_aload_n hx hb dX10_init_198 rfl (lv_at hl 0 rfl) ?_
  refine lv_sipush (v := 210) hx hb dX10_init_199 (by decide) ?_
  refine m_newa (atype := .int) (ty := .int) (a0 := (210, .inl (fun _ => 0))) hx hb k_2_23 rfl hK 0 rfl (fun _ _ h => h) hP hD hS hA (fun _ => rfl) (by decide) (by decide) (by decide +kernel) (by show _ ≤ 37; omega) (by show _ ≤ 29664; omega) dX10_init_202 (fun q202 H hP hD hS => ?_)
  refine va_putF (D := D) (ci := 9) (v := .ref q202) (ty := .array .int) (C := RX10) (T := TX10) (N := 71) hx hb hts hinX10 tyX10 tyX10_ok nmX10 hown hK hP hD hS 0 rfl rfl 44 (by decide) k_6_5 (fun _ h9 => h9) rfl hnm rfl (by decide +kernel) rfl rfl (Nat.le_of_ble_eq_true rfl) dX10_init_204 (fun H locs hP hD hS => ?_)
  refine lv_aload_n hx hb dX10_init_207 rfl (lv_at hl 0 rfl) ?_
  refine lv_sipush (v := 210) hx hb dX10_init_208 (by decide) ?_
  refine m_newa (atype := .int) (ty := .int) (a0 := (210, .inl (fun _ => 0))) hx hb k_2_23 rfl hK 0 rfl (fun _ _ h => h) hP hD hS hA (fun _ => rfl) (by decide) (by decide) (by decide +kernel) (by show _ ≤ 37; omega) (by show _ ≤ 29664; omega) dX10_init_211 (fun q211 H hP hD hS => ?_)
  refine va_putF (D := D) (ci := 9) (v := .ref q211) (ty := .array .int) (C := RX10) (T := TX10) (N := 71) hx hb hts hinX10 tyX10 tyX10_ok nmX10 hown hK hP hD hS 0 rfl rfl 45 (by decide) k_6_6 (fun _ h9 => h9) rfl hnm rfl (by decide +kernel) rfl rfl (Nat.le_of_ble_eq_true rfl) dX10_init_213 (fun H locs hP hD hS => ?_)
  refine lv_aload_n hx hb dX10_init_216 rfl (lv_at hl 0 rfl) ?_
  refine lv_sipush (v := 210) hx hb dX10_init_217 (by decide) ?_
  refine m_newa (atype := .int) (ty := .int) (a0 := (210, .inl (fun _ => 0))) hx hb k_2_23 rfl hK 0 rfl (fun _ _ h => h) hP hD hS hA (fun _ => rfl) (by decide) (by decide) (by decide +kernel) (by show _ ≤ 37; omega) (by show _ ≤ 29664; omega) dX10_init_220 (fun q220 H hP hD hS => ?_)
  refine va_putF (D := D) (ci := 9) (v := .ref q220) (ty := .array .int) (C := RX10) (T := TX10) (N := 71) hx hb hts hinX10 tyX10 tyX10_ok nmX10 hown hK hP hD hS 0 rfl rfl 46 (by decide) k_6_7 (fun _ h9 => h9) rfl hnm rfl (by decide +kernel) rfl rfl (Nat.le_of_ble_eq_true rfl) dX10_init_222 (fun H locs hP hD hS => ?_)
  refine lv_aload_n hx hb dX10_init_225 rfl (lv_at hl 0 rfl) ?_
  refine lv_sipush (v := 4100) hx hb dX10_init_226 (by decide) ?_
  refine m_newa (atype := .int) (ty := .int) (a0 := (4100, .inl (fun _ => 0))) hx hb k_2_23 rfl hK 0 rfl (fun _ _ h => h) hP hD hS hA (fun _ => rfl) (by decide) (by decide) (by decide +kernel) (by show _ ≤ 37; omega) (by show _ ≤ 29664; omega) dX10_init_229 (fun q229 H hP hD hS => ?_)
  refine va_putF (D := D) (ci := 9) (v := .ref q229) (ty := .array .int) (C := RX10) (T := TX10) (N := 71) hx hb hts hinX10 tyX10 tyX10_ok nmX10 hown hK hP hD hS 0 rfl rfl 49 (by decide) k_6_8 (fun _ h9 => h9) rfl hnm rfl (by decide +kernel) rfl rfl (Nat.le_of_ble_eq_true rfl) dX10_init_231 (fun H locs hP hD hS => ?_)
  refine lv_aload_n hx hb dX10_init_234 rfl (lv_at hl 0 rfl) ?_
  refine lv_sipush (v := 4100) hx hb dX10_init_235 (by decide) ?_
  refine m_newa (atype := .int) (ty := .int) (a0 := (4100, .inl (fun _ => 0))) hx hb k_2_23 rfl hK 0 rfl (fun _ _ h => h) hP hD hS hA (fun _ => rfl) (by decide) (by decide) (by decide +kernel) (by show _ ≤ 37; omega) (by show _ ≤ 29664; omega) dX10_init_238 (fun q238 H hP hD hS => ?_)
  refine va_putF (D := D) (ci := 9) (v := .ref q238) (ty := .array .int) (C := RX10) (T := TX10) (N := 71) hx hb hts hinX10 tyX10 tyX10_ok nmX10 hown hK hP hD hS 0 rfl rfl 50 (by decide) k_6_9 (fun _ h9 => h9) rfl hnm rfl (by decide +kernel) rfl rfl (Nat.le_of_ble_eq_true rfl) dX10_init_240 (fun H locs hP hD hS => ?_)
  refine lv_aload_n hx hb dX10_init_243 rfl (lv_at hl 0 rfl) ?_
  refine lv_sipush (v := 4100) hx hb dX10_init_244 (by decide) ?_
  refine m_newa (atype := .long) (ty := .long) (a0 := (4100, .inr (.inl (fun _ => 0)))) hx hb k_1_6 rfl hK 1 rfl (fun _ _ h => h) hP hD hS hA (fun _ => rfl) (by decide) (by decide) (by decide +kernel) (by show _ ≤ 37; omega) (by show _ ≤ 29664; omega) dX10_init_247 (fun q247 H hP hD hS => ?_)
  refine va_putF (D := D) (ci := 9) (v := .ref q247) (ty := .array .long) (C := RX10) (T := TX10) (N := 71) hx hb hts hinX10 tyX10 tyX10_ok nmX10 hown hK hP hD hS 0 rfl rfl 51 (by decide) k_6_10 (fun _ h9 => h9) rfl hnm rfl (by decide +kernel) rfl rfl (Nat.le_of_ble_eq_true rfl) dX10_init_249 (fun H locs hP hD hS => ?_)
  refine lv_aload_n hx hb dX10_init_252 rfl (lv_at hl 0 rfl) ?_
  refine lv_sipush (v := 600) hx hb dX10_init_253 (by decide) ?_
  refine m_newa (atype := .int) (ty := .int) (a0 := (600, .inl (fun _ => 0))) hx hb k_2_23 rfl hK 0 rfl (fun _ _ h => h) hP hD hS hA (fun _ => rfl) (by decide) (by decide) (by decide +kernel) (by show _ ≤ 37; omega) (by show _ ≤ 29664; omega) dX10_init_256 (fun q256 H hP hD hS => ?_)
  refine va_putF (D := D) (ci := 9) (v := .ref q256) (ty := .array .int) (C := RX10) (T := TX10) (N := 71) hx hb hts hinX10 tyX10 tyX10_ok nmX10 hown hK hP hD hS 0 rfl rfl 52 (by decide) k_6_11 (fun _ h9 => h9) rfl hnm rfl (by decide +kernel) rfl rfl (Nat.le_of_ble_eq_true rfl) dX10_init_258 (fun H locs hP hD hS => ?_)
  refine lv_aload_n hx hb dX10_init_261 rfl (lv_at hl 0 rfl) ?_
  refine lv_sipush (v := 600) hx hb dX10_init_262 (by decide) ?_
  refine m_newa (atype := .int) (ty := .int) (a0 := (600, .inl (fun _ => 0))) hx hb k_2_23 rfl hK 0 rfl (fun _ _ h => h) hP hD hS hA (fun _ => rfl) (by decide) (by decide) (by decide +kernel) (by show _ ≤ 37; omega) (by show _ ≤ 29664; omega) dX10_init_265 (fun q265 H hP hD hS => ?_)
  refine va_putF (D := D) (ci := 9) (v := .ref q265) (ty := .array .int) (C := RX10) (T := TX10) (N := 71) hx hb hts hinX10 tyX10 tyX10_ok nmX10 hown hK hP hD hS 0 rfl rfl 53 (by decide) k_6_12 (fun _ h9 => h9) rfl hnm rfl (by decide +kernel) rfl rfl (Nat.le_of_ble_eq_true rfl) dX10_init_267 (fun H locs hP hD hS => ?_)
  refine lv_aload_n hx hb dX10_init_270 rfl (lv_at hl 0 rfl) ?_
  refine lv_sipush (v := 600) hx hb dX10_init_271 (by decide) ?_
  refine m_newa (atype := .long) (ty := .long) (a0 := (600, .inr (.inl (fun _ => 0)))) hx hb k_1_6 rfl hK 1 rfl (fun _ _ h => h) hP hD hS hA (fun _ => rfl) (by decide) (by decide) (by decide +kernel) (by show _ ≤ 37; omega) (by show _ ≤ 29664; omega) dX10_init_274 (fun q274 H hP hD hS => ?_)
  refine va_putF (D := D) (ci := 9) (v := .ref q274) (ty := .array .long) (C := RX10) (T := TX10) (N := 71) hx hb hts hinX10 tyX10 tyX10_ok nmX10 hown hK hP hD hS 0 rfl rfl 54 (by decide) k_6_13 (fun _ h9 => h9) rfl hnm rfl (by decide +kernel) rfl rfl (Nat.le_of_ble_eq_true rfl) dX10_init_276 (fun H locs hP hD hS => ?_)
  refine lv_aload_n hx hb dX10_init_279 rfl (lv_at hl 0 rfl) ?_
  refine lv_bipush (v := 100) hx hb dX10_init_280 (by decide) ?_
  refine m_newa (atype := .int) (ty := .int) (a0 := (100, .inl (fun _ => 0))) hx hb k_2_23 rfl hK 0 rfl (fun _ _ h => h) hP hD hS hA (fun _ => rfl) (by decide) (by decide) (by decide +kernel) (by show _ ≤ 37; omega) (by show _ ≤ 29664; omega) dX10_init_282 (fun q282 H hP hD hS => ?_)
  refine va_putF (D := D) (ci := 9) (v := .ref q282) (ty := .array .int) (C := RX10) (T := TX10) (N := 71) hx hb hts hinX10 tyX10 tyX10_ok nmX10 hown hK hP hD hS 0 rfl rfl 55 (by decide) k_6_14 (fun _ h9 => h9) rfl hnm rfl (by decide +kernel) rfl rfl (Nat.le_of_ble_eq_true rfl) dX10_init_284 (fun H locs hP hD hS => ?_)
  refine lv_aload_n hx hb dX10_init_287 rfl (lv_at hl 0 rfl) ?_
  refine lv_bipush (v := 50) hx hb dX10_init_288 (by decide) ?_
  refine m_newa (atype := .int) (ty := .int) (a0 := (50, .inl (fun _ => 0))) hx hb k_2_23 rfl hK 0 rfl (fun _ _ h => h) hP hD hS hA (fun _ => rfl) (by decide) (by decide) (by decide +kernel) (by show _ ≤ 37; omega) (by show _ ≤ 29664; omega) dX10_init_290 (fun q290 H hP hD hS => ?_)
  refine va_putF (D := D) (ci := 9) (v := .ref q290) (ty := .array .int) (C := RX10) (T := TX10) (N := 71) hx hb hts hinX10 tyX10 tyX10_ok nmX10 hown hK hP hD hS 0 rfl rfl 61 (by decide) k_6_15 (fun _ h9 => h9) rfl hnm rfl (by decide +kernel) rfl rfl (Nat.le_of_ble_eq_true rfl) dX10_init_292 (fun H locs hP hD hS => ?_)
  refine lv_aload_n hx hb dX10_init_295 rfl (lv_at hl 0 rfl) ?_
  refine lv_bipush (v := 50) hx hb dX10_init_296 (by decide) ?_
  refine m_newa (atype := .int) (ty := .int) (a0 := (50, .inl (fun _ => 0))) hx hb k_2_23 rfl hK 0 rfl (fun _ _ h => h) hP hD hS hA (fun _ => rfl) (by decide) (by decide) (by decide +kernel) (by show _ ≤ 37; omega) (by show _ ≤ 29664; omega) dX10_init_298 (fun q298 H hP hD hS => ?_)
  refine va_putF (D := D) (ci := 9) (v := .ref q298) (ty := .array .int) (C := RX10) (T := TX10) (N := 71) hx hb hts hinX10 tyX10 tyX10_ok nmX10 hown hK hP hD hS 0 rfl rfl 62 (by decide) k_6_16 (fun _ h9 => h9) rfl hnm rfl (by decide +kernel) rfl rfl (Nat.le_of_ble_eq_true rfl) dX10_init_300 (fun H locs hP hD hS => ?_)
  refine lv_aload_n hx hb dX10_init_303 rfl (lv_at hl 0 rfl) ?_
  refine lv_bipush (v := 50) hx hb dX10_init_304 (by decide) ?_
  refine m_newa (atype := .int) (ty := .int) (a0 := (50, .inl (fun _ => 0))) hx hb k_2_23 rfl hK 0 rfl (fun _ _ h => h) hP hD hS hA (fun _ => rfl) (by decide) (by decide) (by decide +kernel) (by show _ ≤ 37; omega) (by show _ ≤ 29664; omega) dX10_init_306 (fun q306 H hP hD hS => ?_)
  refine va_putF (D := D) (ci := 9) (v := .ref q306) (ty := .array .int) (C := RX10) (T := TX10) (N := 71) hx hb hts hinX10 tyX10 tyX10_ok nmX10 hown hK hP hD hS 0 rfl rfl 63 (by decide) k_6_17 (fun _ h9 => h9) rfl hnm rfl (by decide +kernel) rfl rfl (Nat.le_of_ble_eq_true rfl) dX10_init_308 (fun H locs hP hD hS => ?_)
  refine lv_aload_n hx hb dX10_init_311 rfl (lv_at hl 0 rfl) ?_
  refine lv_bipush (v := 50) hx hb dX10_init_312 (by decide) ?_
  refine m_newa (atype := .long) (ty := .long) (a0 := (50, .inr (.inl (fun _ => 0)))) hx hb k_1_6 rfl hK 1 rfl (fun _ _ h => h) hP hD hS hA (fun _ => rfl) (by decide) (by decide) (by decide +kernel) (by show _ ≤ 37; omega) (by show _ ≤ 29664; omega) dX10_init_314 (fun q314 H hP hD hS => ?_)
  refine va_putF (D := D) (ci := 9) (v := .ref q314) (ty := .array .long) (C := RX10) (T := TX10) (N := 71) hx hb hts hinX10 tyX10 tyX10_ok nmX10 hown hK hP hD hS 0 rfl rfl 64 (by decide) k_6_18 (fun _ h9 => h9) rfl hnm rfl (by decide +kernel) rfl rfl (Nat.le_of_ble_eq_true rfl) dX10_init_316 (fun H locs hP hD hS => ?_)
  refine lv_aload_n hx hb dX10_init_319 rfl (lv_at hl 0 rfl) ?_
  refine lv_iconst (v := 4) hx hb dX10_init_320 (by decide) ?_
  refine m_newa (atype := .int) (ty := .int) (a0 := (4, .inl (fun _ => 0))) hx hb k_2_23 rfl hK 0 rfl (fun _ _ h => h) hP hD hS hA (fun _ => rfl) (by decide) (by decide) (by decide +kernel) (by show _ ≤ 37; omega) (by show _ ≤ 29664; omega) dX10_init_321 (fun q321 H hP hD hS => ?_)
  refine va_putF (D := D) (ci := 9) (v := .ref q321) (ty := .array .int) (C := RX10) (T := TX10) (N := 71) hx hb hts hinX10 tyX10 tyX10_ok nmX10 hown hK hP hD hS 0 rfl rfl 68 (by decide) k_6_19 (fun _ h9 => h9) rfl hnm rfl (by decide +kernel) rfl rfl (Nat.le_of_ble_eq_true rfl) dX10_init_323 (fun H locs hP hD hS => ?_)
  have hP : va_P D vwCl [(o, .inr (9, [.int 0, .ref q8, .int 0, .int 0, .int 0, .int 0, .int 0, .long 0, .int 0, .long 0, .int 0, .int 0, .int 0, .int 0, .int 0, .ref q17, .ref q26, .ref q35, .ref q44, .ref q53, .ref q62, .ref q71, .ref q80, .ref q89, .ref q98, .ref q107, .ref q116, .ref q125, .ref q134, .ref q143, .ref q152, .int 0, .int 0, .int 0, .long 0, .int 0, .int 0, .ref q161, .int 0, .ref q169, .ref q177, .ref q185, .ref q193, .int 0, .ref q202, .ref q211, .ref q220, .int 0, .int 0, .ref q229, .ref q238, .ref q247, .ref q256, .ref q265, .ref q274, .ref q282, .int 0, .int 0, .int 0, .int 0, .int 0, .ref q290, .ref q298, .ref q306, .ref q314, .int 0, .int 0, .long 0, .ref q321, .int 0, .int 0])), (q8, .inl (cs 0, (3100, .inl (fun _ => 0)))), (q17, .inl (cs 0, (3100, .inl (fun _ => 0)))), (q26, .inl (cs 0, (202, .inl (fun _ => 0)))), (q35, .inl (cs 0, (202, .inl (fun _ => 0)))), (q44, .inl (cs 0, (202, .inl (fun _ => 0)))), (q53, .inl (cs 0, (202, .inl (fun _ => 0)))), (q62, .inl (cs 0, (202, .inl (fun _ => 0)))), (q71, .inl (cs 0, (202, .inl (fun _ => 0)))), (q80, .inl (cs 0, (202, .inl (fun _ => 0)))), (q89, .inl (cs 0, (202, .inl (fun _ => 0)))), (q98, .inl (cs 0, (202, .inl (fun _ => 0)))), (q107, .inl (cs 0, (202, .inl (fun _ => 0)))), (q116, .inl (cs 0, (808, .inl (fun _ => 0)))), (q125, .inl (cs 0, (808, .inl (fun _ => 0)))), (q134, .inl (cs 0, (202, .inl (fun _ => 0)))), (q143, .inl (cs 0, (202, .inl (fun _ => 0)))), (q152, .inl (cs 1, (202, .inr (.inl (fun _ => 0))))), (q161, .inl (cs 0, (4000, .inl (fun _ => 0)))), (q169, .inl (cs 0, (26, .inl (fun _ => 0)))), (q177, .inl (cs 0, (26, .inl (fun _ => 0)))), (q185, .inl (cs 1, (26, .inr (.inl (fun _ => 0))))), (q193, .inl (cs 0, (110, .inl (fun _ => 0)))), (q202, .inl (cs 0, (210, .inl (fun _ => 0)))), (q211, .inl (cs 0, (210, .inl (fun _ => 0)))), (q220, .inl (cs 0, (210, .inl (fun _ => 0)))), (q229, .inl (cs 0, (4100, .inl (fun _ => 0)))), (q238, .inl (cs 0, (4100, .inl (fun _ => 0)))), (q247, .inl (cs 1, (4100, .inr (.inl (fun _ => 0))))), (q256, .inl (cs 0, (600, .inl (fun _ => 0)))), (q265, .inl (cs 0, (600, .inl (fun _ => 0)))), (q274, .inl (cs 1, (600, .inr (.inl (fun _ => 0))))), (q282, .inl (cs 0, (100, .inl (fun _ => 0)))), (q290, .inl (cs 0, (50, .inl (fun _ => 0)))), (q298, .inl (cs 0, (50, .inl (fun _ => 0)))), (q306, .inl (cs 0, (50, .inl (fun _ => 0)))), (q314, .inl (cs 1, (50, .inr (.inl (fun _ => 0))))), (q321, .inl (cs 0, (4, .inl (fun _ => 0))))] H := hP
  have hD : va_D A [(o, .inr (9, [.int 0, .ref q8, .int 0, .int 0, .int 0, .int 0, .int 0, .long 0, .int 0, .long 0, .int 0, .int 0, .int 0, .int 0, .int 0, .ref q17, .ref q26, .ref q35, .ref q44, .ref q53, .ref q62, .ref q71, .ref q80, .ref q89, .ref q98, .ref q107, .ref q116, .ref q125, .ref q134, .ref q143, .ref q152, .int 0, .int 0, .int 0, .long 0, .int 0, .int 0, .ref q161, .int 0, .ref q169, .ref q177, .ref q185, .ref q193, .int 0, .ref q202, .ref q211, .ref q220, .int 0, .int 0, .ref q229, .ref q238, .ref q247, .ref q256, .ref q265, .ref q274, .ref q282, .int 0, .int 0, .int 0, .int 0, .int 0, .ref q290, .ref q298, .ref q306, .ref q314, .int 0, .int 0, .long 0, .ref q321, .int 0, .int 0])), (q8, .inl (cs 0, (3100, .inl (fun _ => 0)))), (q17, .inl (cs 0, (3100, .inl (fun _ => 0)))), (q26, .inl (cs 0, (202, .inl (fun _ => 0)))), (q35, .inl (cs 0, (202, .inl (fun _ => 0)))), (q44, .inl (cs 0, (202, .inl (fun _ => 0)))), (q53, .inl (cs 0, (202, .inl (fun _ => 0)))), (q62, .inl (cs 0, (202, .inl (fun _ => 0)))), (q71, .inl (cs 0, (202, .inl (fun _ => 0)))), (q80, .inl (cs 0, (202, .inl (fun _ => 0)))), (q89, .inl (cs 0, (202, .inl (fun _ => 0)))), (q98, .inl (cs 0, (202, .inl (fun _ => 0)))), (q107, .inl (cs 0, (202, .inl (fun _ => 0)))), (q116, .inl (cs 0, (808, .inl (fun _ => 0)))), (q125, .inl (cs 0, (808, .inl (fun _ => 0)))), (q134, .inl (cs 0, (202, .inl (fun _ => 0)))), (q143, .inl (cs 0, (202, .inl (fun _ => 0)))), (q152, .inl (cs 1, (202, .inr (.inl (fun _ => 0))))), (q161, .inl (cs 0, (4000, .inl (fun _ => 0)))), (q169, .inl (cs 0, (26, .inl (fun _ => 0)))), (q177, .inl (cs 0, (26, .inl (fun _ => 0)))), (q185, .inl (cs 1, (26, .inr (.inl (fun _ => 0))))), (q193, .inl (cs 0, (110, .inl (fun _ => 0)))), (q202, .inl (cs 0, (210, .inl (fun _ => 0)))), (q211, .inl (cs 0, (210, .inl (fun _ => 0)))), (q220, .inl (cs 0, (210, .inl (fun _ => 0)))), (q229, .inl (cs 0, (4100, .inl (fun _ => 0)))), (q238, .inl (cs 0, (4100, .inl (fun _ => 0)))), (q247, .inl (cs 1, (4100, .inr (.inl (fun _ => 0))))), (q256, .inl (cs 0, (600, .inl (fun _ => 0)))), (q265, .inl (cs 0, (600, .inl (fun _ => 0)))), (q274, .inl (cs 1, (600, .inr (.inl (fun _ => 0))))), (q282, .inl (cs 0, (100, .inl (fun _ => 0)))), (q290, .inl (cs 0, (50, .inl (fun _ => 0)))), (q298, .inl (cs 0, (50, .inl (fun _ => 0)))), (q306, .inl (cs 0, (50, .inl (fun _ => 0)))), (q314, .inl (cs 1, (50, .inr (.inl (fun _ => 0))))), (q321, .inl (cs 0, (4, .inl (fun _ => 0))))] := hD
  subst hAe
  rw [hQ]
  exact W.vret hx hb hr (fun t ht hW => ⟨⟨_, rfl, ⟨q8, q17, q26, q35, q44, q53, q62, q71, q80, q89, q98, q107, q116, q125, q134, q143, q152, q161, q169, q177, q185, q193, q202, q211, q220, q229, q238, q247, q256, q265, q274, q282, q290, q298, q306, q314, q321, rfl⟩, by rw [ht]; exact hP, va_K.moved hW.alike hK, hD⟩, hS.F ht⟩) hS.2.2 dX10_init_326
