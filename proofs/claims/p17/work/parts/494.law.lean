theorem bothTF {a b : Int} {P : Prop} (h1 : (a = 1 ∧ P) ∨ (a = 0 ∧ ¬ P)) (h2 : (b = 1 ∧ P) ∨ (b = 0 ∧ ¬ P)) : a = b := by
  rcases h1 with ⟨h1, q1⟩ | ⟨h1, q1⟩ <;> rcases h2 with ⟨h2, q2⟩ | ⟨h2, q2⟩ <;> first | omega | exact absurd q1 q2 | exact absurd q2 q1
section LawLoop
variable {p : Program} {l : Launch} {e : Env} {s : State} {m : MethodId} {below : List Frame} {meth : Method} {c : Code} {Q : State → Prop} {D : va_G} {A : Nat → Prop} {K : Nat → Nat → Nat} {cs : Nat → ClassId} {x mo qo b L : Nat} {xs : Nat → Int32} {w0 : Cond}
set_option maxHeartbeats 20000000 in
set_option maxRecDepth 100000 in
theorem law_loop (hl9 : l.stackTraces = false) (hx : p.tables.exec = Jvm.exec) (hb : c.code = cL_law) (hml : c.maxLocals = 8) (hown : s.vm.findClass RL = some m.cls) (hts : ∀ w ∈ w0 :: wsL_law, w.before #[Value.ref b] s = true) (hK : va_K D vwCl (twT cs) s) (hE : sEnv K A s s.heap) (hA : ∀ q, s.heap.size ≤ q → A q) (hX : va_X b L xs s s.heap) (hbl : b < s.heap.size) (hbA : ¬ A b) (hL : L ≤ 3072)
    (hend : ∀ (H : Heap) (locs : List Loc) (ls : Array Slot), va_S A s.heap H locs → lv_has ls 8 [(0, .ref b)] → W p l e room_1 s m #[Value.ref b] below meth c H locs (149 + 310 * (513 - (0))) (41658 + 2200 * (513 - (0))) Q (F0 m 867 ls [])) :
    ∀ (n : Nat) (k : Int32) (H : Heap) (locs : List Loc) (ls : Array Slot), n ≤ 513 → 0 ≤ k.toInt → k.toInt ≤ L → (L : Int) - k.toInt < 6 * (n : Int) → LWI D A cs x mo qo H → va_S A s.heap H locs → lv_has ls 8 [(0, .ref b), (1, .ref x), (2, .ref mo), (3, .ref qo), (4, .int k)] → W p l e room_1 s m #[Value.ref b] below meth c H locs (149 + 310 * (513 - (n))) (41658 + 2200 * (513 - (n))) Q (F0 m 23 ls []) := by
  have hKm : va_K D vwCl (mwT cs) s := hK.sub [0, 1] rfl
  intro n
  induction n with
  | zero =>
    intro k H locs ls hn h0 h1 hm
    exfalso
    omega
  | succ n ih =>
    intro k H locs ls hn h0 h1 hm hLW hS hl
    have hS9 : CallFix p m c cL_law 8 s #[Value.ref b] (w0 :: wsL_law) RL := ⟨hx, hb, hml, hown, hts⟩
    refine lv_iload hx hb dL_law_23 (lv_at hl 4 rfl) ?_
    refine lv_aload_n hx hb dL_law_25 rfl (lv_at hl 0 rfl) ?_
    refine va_slen hx hb hX hbl hbA hS dL_law_26 ?_
    refine lv_topi (fun z26 e26 => ?_)
    have hz26 : z26.toInt = L := by rw [e26]; exact nI_toInt (n := L) (by omega)
    refine lv_bipush (v := 6) hx hb dL_law_27 (by decide) ?_
    refine m_isub (X := z26.toInt) (Y := 6) hx hb dL_law_29 rfl (by decide) (fun z29 e29 g29 => ?_)
    obtain ⟨k29, g29⟩ := g29
    have b29 := iB z29
    have hz29 : z29.toInt = L - 6 := by omega
    refine m_icmp_gt (X := k.toInt) (Y := z29.toInt) (tgt := 867) hx hb dL_law_30 (by decide) rfl rfl (fun c30 => ?_) (fun c30 => ?_)
    · skip
      refine W.widen (k := 149 + 310 * (513 - (0))) (n := 41658 + 2200 * (513 - (0))) (by omega) (by omega) ?_
      exact hend H locs ls hS (lv_sub hl [0] rfl)
    · skip
      have J861 : ∀ (H : Heap) (locs : List Loc) (ls : Array Slot), LWI D A cs x mo qo H → va_S A s.heap H locs → lv_has ls 8 [(0, .ref b), (1, .ref x), (2, .ref mo), (3, .ref qo), (4, .int k)] → W p l e room_1 s m #[Value.ref b] below meth c H locs (149 + 310 * (513 - (n))) (41658 + 2200 * (513 - (n))) Q (F0 m 861 ls []) := by
        intro H locs ls hLW hS hl
        obtain ⟨k2, ek⟩ : ∃ z : Int32, z = k + (6 : Int32) := ⟨_, rfl⟩
        obtain ⟨kz, gk⟩ : ∃ k9 : Int, k2.toInt = k.toInt + (6) + k9 * 4294967296 := by rw [ek]; exact iAdd k (6)
        have bk := iB k2
        refine lv_iinc (v := k2) (lv' := [(4, .int k2), (0, .ref b), (1, .ref x), (2, .ref mo), (3, .ref qo)]) hx hb dL_law_861 hl (k := 4) rfl (by rw [ek]; rfl) (by decide) rfl (fun ls hl => ?_)
        refine lv_goto (tgt := 23) hx hb dL_law_864 (by decide) ?_
        exact ih k2 H locs ls (by omega) (by omega) (by omega) (by omega) hLW hS (lv_sub hl [1, 2, 3, 4, 0] rfl)
      refine lv_aload_n hx hb dL_law_33 rfl (lv_at hl 0 rfl) ?_
      refine lv_iload hx hb dL_law_34 (lv_at hl 4 rfl) ?_
      refine va_sld hx hb hX hbl hbA hS (ix (by omega) (by omega)) dL_law_36 ?_
      refine lv_topi (fun z36 e36 => ?_)
      refine lv_bipush (v := 31) hx hb dL_law_37 (by decide) ?_
      refine m_iand hx hb dL_law_39 (fun z39 e39 => ?_)
      rcases (show (z39.toInt < 0 ∨ 19 < z39.toInt) ∨ z39.toInt = 0 ∨ z39.toInt = 1 ∨ z39.toInt = 2 ∨ z39.toInt = 3 ∨ z39.toInt = 4 ∨ z39.toInt = 5 ∨ z39.toInt = 6 ∨ z39.toInt = 7 ∨ z39.toInt = 8 ∨ z39.toInt = 9 ∨ z39.toInt = 10 ∨ z39.toInt = 11 ∨ z39.toInt = 12 ∨ z39.toInt = 13 ∨ z39.toInt = 14 ∨ z39.toInt = 15 ∨ z39.toInt = 16 ∨ z39.toInt = 17 ∨ z39.toInt = 18 ∨ z39.toInt = 19 by omega) with c40 | c40 | c40 | c40 | c40 | c40 | c40 | c40 | c40 | c40 | c40 | c40 | c40 | c40 | c40 | c40 | c40 | c40 | c40 | c40 | c40
      · skip
        refine lv_tableOut (tgt := 861) hx hb dL_law_40 c40 (by decide) ?_
        refine W.widen (k := 149 + 310 * (513 - (n))) (n := 41658 + 2200 * (513 - (n))) (by omega) (by omega) ?_
        exact J861 H locs ls hLW hS hl
      · skip
        refine lv_tableIn (tgt := 136) (off := 96) hx hb dL_law_40 (by omega) (by omega) (by rw [c40]; rfl) (by decide) ?_
        refine lv_aload_n hx hb dL_law_136 rfl (lv_at hl 1 rfl) ?_
        refine lv_aload_n hx hb dL_law_137 rfl (lv_at hl 0 rfl) ?_
        refine lv_iload hx hb dL_law_138 (lv_at hl 4 rfl) ?_
        refine lv_iconst (v := 1) hx hb dL_law_140 (by decide) ?_
        refine m_iadd (X := k.toInt) (Y := 1) hx hb dL_law_141 rfl (by decide) (fun z141 e141 g141 => ?_)
        obtain ⟨k141, g141⟩ := g141
        have b141 := iB z141
        refine va_sld hx hb hX hbl hbA hS (ix (by omega) (by omega)) dL_law_142 ?_
        refine lv_topi (fun y142 ey142 => ?_)
        refine lv_aload_n hx hb dL_law_143 rfl (lv_at hl 0 rfl) ?_
        refine lv_iload hx hb dL_law_144 (lv_at hl 4 rfl) ?_
        refine lv_iconst (v := 2) hx hb dL_law_146 (by decide) ?_
        refine m_iadd (X := k.toInt) (Y := 2) hx hb dL_law_147 rfl (by decide) (fun z147 e147 g147 => ?_)
        obtain ⟨k147, g147⟩ := g147
        have b147 := iB z147
        refine va_sld hx hb hX hbl hbA hS (ix (by omega) (by omega)) dL_law_148 ?_
        refine lv_topi (fun y148 ey148 => ?_)
        refine lv_aload_n hx hb dL_law_149 rfl (lv_at hl 0 rfl) ?_
        refine lv_iload hx hb dL_law_150 (lv_at hl 4 rfl) ?_
        refine lv_iconst (v := 3) hx hb dL_law_152 (by decide) ?_
        refine m_iadd (X := k.toInt) (Y := 3) hx hb dL_law_153 rfl (by decide) (fun z153 e153 g153 => ?_)
        obtain ⟨k153, g153⟩ := g153
        have b153 := iB z153
        refine va_sld hx hb hX hbl hbA hS (ix (by omega) (by omega)) dL_law_154 ?_
        refine lv_topi (fun y154 ey154 => ?_)
        refine lv_aload_n hx hb dL_law_155 rfl (lv_at hl 0 rfl) ?_
        refine lv_iload hx hb dL_law_156 (lv_at hl 4 rfl) ?_
        refine lv_iconst (v := 4) hx hb dL_law_158 (by decide) ?_
        refine m_iadd (X := k.toInt) (Y := 4) hx hb dL_law_159 rfl (by decide) (fun z159 e159 g159 => ?_)
        obtain ⟨k159, g159⟩ := g159
        have b159 := iB z159
        refine va_sld hx hb hX hbl hbA hS (ix (by omega) (by omega)) dL_law_160 ?_
        refine lv_topi (fun y160 ey160 => ?_)
        refine lv_aload_n hx hb dL_law_161 rfl (lv_at hl 0 rfl) ?_
        refine lv_iload hx hb dL_law_162 (lv_at hl 4 rfl) ?_
        refine lv_iconst (v := 5) hx hb dL_law_164 (by decide) ?_
        refine m_iadd (X := k.toInt) (Y := 5) hx hb dL_law_165 rfl (by decide) (fun z165 e165 g165 => ?_)
        obtain ⟨k165, g165⟩ := g165
        have b165 := iB z165
        refine va_sld hx hb hX hbl hbA hS (ix (by omega) (by omega)) dL_law_166 ?_
        refine lv_topi (fun y166 ey166 => ?_)
        refine lc_X9_feed (rest := []) hS9 hK hE hS hA hLW hl.1 (Nat.le_of_ble_eq_true rfl) dL_law_167 ⟨by show _ ≤ 2048; omega, by show _ ≤ 84000; omega⟩ ⟨by show _ ≤ 601024; omega, by show _ ≤ 7293034; omega⟩ (fun r167 H locs hLW hS => ?_)
        refine lv_pop hx hb dL_law_170 rfl ?_
        refine lv_aload_n hx hb dL_law_171 rfl (lv_at hl 2 rfl) ?_
        refine lv_aload_n hx hb dL_law_172 rfl (lv_at hl 0 rfl) ?_
        refine lv_iload hx hb dL_law_173 (lv_at hl 4 rfl) ?_
        refine lv_iconst (v := 1) hx hb dL_law_175 (by decide) ?_
        refine m_iadd (X := k.toInt) (Y := 1) hx hb dL_law_176 rfl (by decide) (fun z176 e176 g176 => ?_)
        obtain ⟨k176, g176⟩ := g176
        have b176 := iB z176
        refine va_sld hx hb hX hbl hbA hS (ix (by omega) (by omega)) dL_law_177 ?_
        refine lv_topi (fun y177 ey177 => ?_)
        refine lv_aload_n hx hb dL_law_178 rfl (lv_at hl 0 rfl) ?_
        refine lv_iload hx hb dL_law_179 (lv_at hl 4 rfl) ?_
        refine lv_iconst (v := 2) hx hb dL_law_181 (by decide) ?_
        refine m_iadd (X := k.toInt) (Y := 2) hx hb dL_law_182 rfl (by decide) (fun z182 e182 g182 => ?_)
        obtain ⟨k182, g182⟩ := g182
        have b182 := iB z182
        refine va_sld hx hb hX hbl hbA hS (ix (by omega) (by omega)) dL_law_183 ?_
        refine lv_topi (fun y183 ey183 => ?_)
        refine lv_aload_n hx hb dL_law_184 rfl (lv_at hl 0 rfl) ?_
        refine lv_iload hx hb dL_law_185 (lv_at hl 4 rfl) ?_
        refine lv_iconst (v := 3) hx hb dL_law_187 (by decide) ?_
        refine m_iadd (X := k.toInt) (Y := 3) hx hb dL_law_188 rfl (by decide) (fun z188 e188 g188 => ?_)
        obtain ⟨k188, g188⟩ := g188
        have b188 := iB z188
        refine va_sld hx hb hX hbl hbA hS (ix (by omega) (by omega)) dL_law_189 ?_
        refine lv_topi (fun y189 ey189 => ?_)
        refine lv_aload_n hx hb dL_law_190 rfl (lv_at hl 0 rfl) ?_
        refine lv_iload hx hb dL_law_191 (lv_at hl 4 rfl) ?_
        refine lv_iconst (v := 4) hx hb dL_law_193 (by decide) ?_
        refine m_iadd (X := k.toInt) (Y := 4) hx hb dL_law_194 rfl (by decide) (fun z194 e194 g194 => ?_)
        obtain ⟨k194, g194⟩ := g194
        have b194 := iB z194
        refine va_sld hx hb hX hbl hbA hS (ix (by omega) (by omega)) dL_law_195 ?_
        refine lv_topi (fun y195 ey195 => ?_)
        refine lv_aload_n hx hb dL_law_196 rfl (lv_at hl 0 rfl) ?_
        refine lv_iload hx hb dL_law_197 (lv_at hl 4 rfl) ?_
        refine lv_iconst (v := 5) hx hb dL_law_199 (by decide) ?_
        refine m_iadd (X := k.toInt) (Y := 5) hx hb dL_law_200 rfl (by decide) (fun z200 e200 g200 => ?_)
        obtain ⟨k200, g200⟩ := g200
        have b200 := iB z200
        refine va_sld hx hb hX hbl hbA hS (ix (by omega) (by omega)) dL_law_201 ?_
        refine lv_topi (fun y201 ey201 => ?_)
        refine lc_X10_feed (rest := []) hS9 hKm hE hS hA hLW hl.1 (Nat.le_of_ble_eq_true rfl) dL_law_202 ⟨by show _ ≤ 2048; omega, by show _ ≤ 84000; omega⟩ ⟨by show _ ≤ 601024; omega, by show _ ≤ 7293034; omega⟩ (fun r202 H locs hLW hS => ?_)
        refine lv_pop hx hb dL_law_205 rfl ?_
        refine lv_goto (tgt := 861) hx hb dL_law_206 (by decide) ?_
        refine W.widen (k := 149 + 310 * (513 - (n))) (n := 41658 + 2200 * (513 - (n))) (by omega) (by omega) ?_
        exact J861 H locs ls hLW hS (lv_sub hl [0, 1, 2, 3, 4] rfl)
      · skip
        refine lv_tableIn (tgt := 209) (off := 169) hx hb dL_law_40 (by omega) (by omega) (by rw [c40]; rfl) (by decide) ?_
        refine lv_aload_n hx hb dL_law_209 rfl (lv_at hl 1 rfl) ?_
        refine lv_aload_n hx hb dL_law_210 rfl (lv_at hl 0 rfl) ?_
        refine lv_iload hx hb dL_law_211 (lv_at hl 4 rfl) ?_
        refine lv_iconst (v := 1) hx hb dL_law_213 (by decide) ?_
        refine m_iadd (X := k.toInt) (Y := 1) hx hb dL_law_214 rfl (by decide) (fun z214 e214 g214 => ?_)
        obtain ⟨k214, g214⟩ := g214
        have b214 := iB z214
        refine va_sld hx hb hX hbl hbA hS (ix (by omega) (by omega)) dL_law_215 ?_
        refine lv_topi (fun y215 ey215 => ?_)
        refine lc_X9_end (rest := []) hS9 hK hE hS hA hLW hl.1 (Nat.le_of_ble_eq_true rfl) dL_law_216 ⟨by show _ ≤ 2048; omega, by show _ ≤ 84000; omega⟩ ⟨by show _ ≤ 601024; omega, by show _ ≤ 7293034; omega⟩ (fun r216 H locs hLW hS => ?_)
        refine lv_pop hx hb dL_law_219 rfl ?_
        refine lv_aload_n hx hb dL_law_220 rfl (lv_at hl 2 rfl) ?_
        refine lv_aload_n hx hb dL_law_221 rfl (lv_at hl 0 rfl) ?_
        refine lv_iload hx hb dL_law_222 (lv_at hl 4 rfl) ?_
        refine lv_iconst (v := 1) hx hb dL_law_224 (by decide) ?_
        refine m_iadd (X := k.toInt) (Y := 1) hx hb dL_law_225 rfl (by decide) (fun z225 e225 g225 => ?_)
        obtain ⟨k225, g225⟩ := g225
        have b225 := iB z225
        refine va_sld hx hb hX hbl hbA hS (ix (by omega) (by omega)) dL_law_226 ?_
        refine lv_topi (fun y226 ey226 => ?_)
        refine lc_X10_end (rest := []) hS9 hKm hE hS hA hLW hl.1 (Nat.le_of_ble_eq_true rfl) dL_law_227 ⟨by show _ ≤ 2048; omega, by show _ ≤ 84000; omega⟩ ⟨by show _ ≤ 601024; omega, by show _ ≤ 7293034; omega⟩ (fun r227 H locs hLW hS => ?_)
        refine lv_pop hx hb dL_law_230 rfl ?_
        refine lv_goto (tgt := 861) hx hb dL_law_231 (by decide) ?_
        refine W.widen (k := 149 + 310 * (513 - (n))) (n := 41658 + 2200 * (513 - (n))) (by omega) (by omega) ?_
        exact J861 H locs ls hLW hS (lv_sub hl [0, 1, 2, 3, 4] rfl)
      · skip
        refine lv_tableIn (tgt := 234) (off := 194) hx hb dL_law_40 (by omega) (by omega) (by rw [c40]; rfl) (by decide) ?_
        refine lv_aload_n hx hb dL_law_234 rfl (lv_at hl 1 rfl) ?_
        refine lc_X9_compile (rest := []) hS9 hK hE hS hA hLW hl.1 (Nat.le_of_ble_eq_true rfl) dL_law_235 ⟨by show _ ≤ 2048; omega, by show _ ≤ 84000; omega⟩ ⟨by show _ ≤ 601024; omega, by show _ ≤ 7293034; omega⟩ (fun r235 H locs hLW hS => ?_)
        refine lv_pop hx hb dL_law_238 rfl ?_
        refine lv_aload_n hx hb dL_law_239 rfl (lv_at hl 2 rfl) ?_
        refine lc_X10_compile (rest := []) hS9 hKm hE hS hA hLW hl.1 (Nat.le_of_ble_eq_true rfl) dL_law_240 ⟨by show _ ≤ 2048; omega, by show _ ≤ 84000; omega⟩ ⟨by show _ ≤ 601024; omega, by show _ ≤ 7293034; omega⟩ (fun r240 H locs hLW hS => ?_)
        refine lv_pop hx hb dL_law_243 rfl ?_
        refine lv_goto (tgt := 861) hx hb dL_law_244 (by decide) ?_
        refine W.widen (k := 149 + 310 * (513 - (n))) (n := 41658 + 2200 * (513 - (n))) (by omega) (by omega) ?_
        exact J861 H locs ls hLW hS (lv_sub hl [0, 1, 2, 3, 4] rfl)
      · skip
        refine lv_tableIn (tgt := 247) (off := 207) hx hb dL_law_40 (by omega) (by omega) (by rw [c40]; rfl) (by decide) ?_
        refine lv_aload_n hx hb dL_law_247 rfl (lv_at hl 1 rfl) ?_
        refine lc_X9_fault (rest := []) hS9 hK hE hS hA hLW hl.1 (Nat.le_of_ble_eq_true rfl) dL_law_248 ⟨by show _ ≤ 2048; omega, by show _ ≤ 84000; omega⟩ ⟨by show _ ≤ 601024; omega, by show _ ≤ 7293034; omega⟩ (fun r248 H locs hLW hS => ?_)
        refine lv_pop hx hb dL_law_251 rfl ?_
        refine lv_aload_n hx hb dL_law_252 rfl (lv_at hl 2 rfl) ?_
        refine lc_X10_fault (rest := []) hS9 hKm hE hS hA hLW hl.1 (Nat.le_of_ble_eq_true rfl) dL_law_253 ⟨by show _ ≤ 2048; omega, by show _ ≤ 84000; omega⟩ ⟨by show _ ≤ 601024; omega, by show _ ≤ 7293034; omega⟩ (fun r253 H locs hLW hS => ?_)
        refine lv_pop hx hb dL_law_256 rfl ?_
        refine lv_goto (tgt := 861) hx hb dL_law_257 (by decide) ?_
        refine W.widen (k := 149 + 310 * (513 - (n))) (n := 41658 + 2200 * (513 - (n))) (by omega) (by omega) ?_
        exact J861 H locs ls hLW hS (lv_sub hl [0, 1, 2, 3, 4] rfl)
      · skip
        refine lv_tableIn (tgt := 260) (off := 220) hx hb dL_law_40 (by omega) (by omega) (by rw [c40]; rfl) (by decide) ?_
        refine lv_aload_n hx hb dL_law_260 rfl (lv_at hl 1 rfl) ?_
        refine lv_aload_n hx hb dL_law_261 rfl (lv_at hl 0 rfl) ?_
        refine lv_iload hx hb dL_law_262 (lv_at hl 4 rfl) ?_
        refine lv_iconst (v := 1) hx hb dL_law_264 (by decide) ?_
        refine m_iadd (X := k.toInt) (Y := 1) hx hb dL_law_265 rfl (by decide) (fun z265 e265 g265 => ?_)
        obtain ⟨k265, g265⟩ := g265
        have b265 := iB z265
        refine va_sld hx hb hX hbl hbA hS (ix (by omega) (by omega)) dL_law_266 ?_
        refine lv_topi (fun y266 ey266 => ?_)
        refine lv_aload_n hx hb dL_law_267 rfl (lv_at hl 0 rfl) ?_
        refine lv_iload hx hb dL_law_268 (lv_at hl 4 rfl) ?_
        refine lv_iconst (v := 2) hx hb dL_law_270 (by decide) ?_
        refine m_iadd (X := k.toInt) (Y := 2) hx hb dL_law_271 rfl (by decide) (fun z271 e271 g271 => ?_)
        obtain ⟨k271, g271⟩ := g271
        have b271 := iB z271
        refine va_sld hx hb hX hbl hbA hS (ix (by omega) (by omega)) dL_law_272 ?_
        refine lv_topi (fun y272 ey272 => ?_)
        refine lv_aload_n hx hb dL_law_273 rfl (lv_at hl 3 rfl) ?_
        refine lc_S (As := [.ref x, .int y266, .int y272, .ref qo]) (rest := []) hS9 (tL_step (l := l) hl9 y266 y272) (vx_cwSW 4 hts (gSW (wr31 _ (List.mem_of_getElem? (i := 19) rfl)) (wr31 _ (List.mem_of_getElem? (i := 20) rfl)) (wr31 _ (List.mem_of_getElem? (i := 21) rfl)) (wr31 _ (List.mem_of_getElem? (i := 22) rfl))) rfl rfl rfl (by decide +kernel) ⟨by show 100 + 1 ≤ 2048; omega, by show 8 + (5 + 11) + 2000 ≤ 84000; omega⟩) hK hE hS hA hLW rfl hl.1 rfl (Nat.le_of_ble_eq_true rfl) dL_law_274 ⟨by show _ ≤ 601024; omega, by show _ ≤ 7293034; omega⟩ (fun r274 H locs hLW hS => ?_)
        refine lv_istore (lv' := [(5, .int r274), (0, .ref b), (1, .ref x), (2, .ref mo), (3, .ref qo), (4, .int k)]) hx hb dL_law_277 hl (by decide) rfl (fun ls hl => ?_)
        refine lv_aload_n hx hb dL_law_279 rfl (lv_at hl 3 rfl) ?_
        refine lv_aload_n hx hb dL_law_280 rfl (lv_at hl 1 rfl) ?_
        refine lv_iload hx hb dL_law_281 (lv_at hl 5 rfl) ?_
        refine lv_iconst (v := 1) hx hb dL_law_283 (by decide) ?_
        refine m_iadd (X := k.toInt) (Y := 1) hx hb dL_law_284 rfl (by decide) (fun z284 e284 g284 => ?_)
        obtain ⟨k284, g284⟩ := g284
        have b284 := iB z284
        refine va_sld hx hb hX hbl hbA hS (ix (by omega) (by omega)) dL_law_285 ?_
        refine lv_topi (fun y285 ey285 => ?_)
        refine lv_aload_n hx hb dL_law_286 rfl (lv_at hl 1 rfl) ?_
        refine lv_iload hx hb dL_law_287 (lv_at hl 5 rfl) ?_
        refine lv_iconst (v := 2) hx hb dL_law_289 (by decide) ?_
        refine m_iadd (X := k.toInt) (Y := 2) hx hb dL_law_290 rfl (by decide) (fun z290 e290 g290 => ?_)
        obtain ⟨k290, g290⟩ := g290
        have b290 := iB z290
        refine va_sld hx hb hX hbl hbA hS (ix (by omega) (by omega)) dL_law_291 ?_
        refine lv_topi (fun y291 ey291 => ?_)
        refine lc_X10_step (rest := []) hS9 hKm hE hS hA hLW hl.1 (Nat.le_of_ble_eq_true rfl) dL_law_292 ⟨by show _ ≤ 2048; omega, by show _ ≤ 84000; omega⟩ ⟨by show _ ≤ 601024; omega, by show _ ≤ 7293034; omega⟩ (fun r292 H locs hLW hS => ?_)
        refine lv_istore (lv' := [(6, .int r292), (5, .int r274), (0, .ref b), (1, .ref x), (2, .ref mo), (3, .ref qo), (4, .int k)]) hx hb dL_law_295 hl (by decide) rfl (fun ls hl => ?_)
        refine lv_goto (tgt := 861) hx hb dL_law_297 (by decide) ?_
        refine W.widen (k := 149 + 310 * (513 - (n))) (n := 41658 + 2200 * (513 - (n))) (by omega) (by omega) ?_
        exact J861 H locs ls hLW hS (lv_sub hl [2, 3, 4, 5, 6] rfl)
      · skip
        refine lv_tableIn (tgt := 300) (off := 260) hx hb dL_law_40 (by omega) (by omega) (by rw [c40]; rfl) (by decide) ?_
        refine lv_aload_n hx hb dL_law_300 rfl (lv_at hl 1 rfl) ?_
        refine lv_aload_n hx hb dL_law_301 rfl (lv_at hl 0 rfl) ?_
        refine lv_iload hx hb dL_law_302 (lv_at hl 4 rfl) ?_
        refine lv_iconst (v := 1) hx hb dL_law_304 (by decide) ?_
        refine m_iadd (X := k.toInt) (Y := 1) hx hb dL_law_305 rfl (by decide) (fun z305 e305 g305 => ?_)
        obtain ⟨k305, g305⟩ := g305
        have b305 := iB z305
        refine va_sld hx hb hX hbl hbA hS (ix (by omega) (by omega)) dL_law_306 ?_
        refine lv_topi (fun y306 ey306 => ?_)
        refine lv_aload_n hx hb dL_law_307 rfl (lv_at hl 3 rfl) ?_
        refine lc_S (As := [.ref x, .int y306, .ref qo]) (rest := []) hS9 (tL_spell (l := l) hl9 y306) (vx_cwSW 3 hts (gSW (wr32 _ (List.mem_of_getElem? (i := 15) rfl)) (wr32 _ (List.mem_of_getElem? (i := 16) rfl)) (wr31 _ (List.mem_of_getElem? (i := 21) rfl)) (wr32 _ (List.mem_of_getElem? (i := 17) rfl))) rfl rfl rfl (by decide +kernel) ⟨by show 180 + 1 ≤ 2048; omega, by show 8 + (4 + 11) + 3600 ≤ 84000; omega⟩) hK hE hS hA hLW rfl hl.1 rfl (Nat.le_of_ble_eq_true rfl) dL_law_308 ⟨by show _ ≤ 601024; omega, by show _ ≤ 7293034; omega⟩ (fun r308 H locs hLW hS => ?_)
        refine lv_istore (lv' := [(5, .int r308), (0, .ref b), (1, .ref x), (2, .ref mo), (3, .ref qo), (4, .int k)]) hx hb dL_law_311 hl (by decide) rfl (fun ls hl => ?_)
        refine lv_aload_n hx hb dL_law_313 rfl (lv_at hl 3 rfl) ?_
        refine lv_aload_n hx hb dL_law_314 rfl (lv_at hl 1 rfl) ?_
        refine lv_iload hx hb dL_law_315 (lv_at hl 5 rfl) ?_
        refine lv_iconst (v := 1) hx hb dL_law_317 (by decide) ?_
        refine m_iadd (X := k.toInt) (Y := 1) hx hb dL_law_318 rfl (by decide) (fun z318 e318 g318 => ?_)
        obtain ⟨k318, g318⟩ := g318
        have b318 := iB z318
        refine va_sld hx hb hX hbl hbA hS (ix (by omega) (by omega)) dL_law_319 ?_
        refine lv_topi (fun y319 ey319 => ?_)
        refine lc_X10_spell (rest := []) hS9 hKm hE hS hA hLW hl.1 (Nat.le_of_ble_eq_true rfl) dL_law_320 ⟨by show _ ≤ 2048; omega, by show _ ≤ 84000; omega⟩ ⟨by show _ ≤ 601024; omega, by show _ ≤ 7293034; omega⟩ (fun r320 H locs hLW hS => ?_)
        refine lv_istore (lv' := [(6, .int r320), (5, .int r308), (0, .ref b), (1, .ref x), (2, .ref mo), (3, .ref qo), (4, .int k)]) hx hb dL_law_323 hl (by decide) rfl (fun ls hl => ?_)
        refine lv_goto (tgt := 861) hx hb dL_law_325 (by decide) ?_
        refine W.widen (k := 149 + 310 * (513 - (n))) (n := 41658 + 2200 * (513 - (n))) (by omega) (by omega) ?_
        exact J861 H locs ls hLW hS (lv_sub hl [2, 3, 4, 5, 6] rfl)
      · skip
        refine lv_tableIn (tgt := 328) (off := 288) hx hb dL_law_40 (by omega) (by omega) (by rw [c40]; rfl) (by decide) ?_
        refine lv_aload_n hx hb dL_law_328 rfl (lv_at hl 1 rfl) ?_
        refine lv_aload_n hx hb dL_law_329 rfl (lv_at hl 0 rfl) ?_
        refine lv_iload hx hb dL_law_330 (lv_at hl 4 rfl) ?_
        refine lv_iconst (v := 1) hx hb dL_law_332 (by decide) ?_
        refine m_iadd (X := k.toInt) (Y := 1) hx hb dL_law_333 rfl (by decide) (fun z333 e333 g333 => ?_)
        obtain ⟨k333, g333⟩ := g333
        have b333 := iB z333
        refine va_sld hx hb hX hbl hbA hS (ix (by omega) (by omega)) dL_law_334 ?_
        refine lv_topi (fun y334 ey334 => ?_)
        refine lv_aload_n hx hb dL_law_335 rfl (lv_at hl 3 rfl) ?_
        refine lc_S (As := [.ref x, .int y334, .ref qo]) (rest := []) hS9 (tL_octet (l := l) hl9 y334) (vx_cwSW 3 hts (gSW (wr34 _ (List.mem_of_getElem? (i := 14) rfl)) (wr34 _ (List.mem_of_getElem? (i := 15) rfl)) (wr31 _ (List.mem_of_getElem? (i := 21) rfl)) (wr34 _ (List.mem_of_getElem? (i := 16) rfl))) rfl rfl rfl (by decide +kernel) ⟨by show 60 + 1 ≤ 2048; omega, by show 8 + (4 + 11) + 1200 ≤ 84000; omega⟩) hK hE hS hA hLW rfl hl.1 rfl (Nat.le_of_ble_eq_true rfl) dL_law_336 ⟨by show _ ≤ 601024; omega, by show _ ≤ 7293034; omega⟩ (fun r336 H locs hLW hS => ?_)
        refine lv_istore (lv' := [(5, .int r336), (0, .ref b), (1, .ref x), (2, .ref mo), (3, .ref qo), (4, .int k)]) hx hb dL_law_339 hl (by decide) rfl (fun ls hl => ?_)
        refine lv_aload_n hx hb dL_law_341 rfl (lv_at hl 3 rfl) ?_
        refine lv_aload_n hx hb dL_law_342 rfl (lv_at hl 1 rfl) ?_
        refine lv_iload hx hb dL_law_343 (lv_at hl 5 rfl) ?_
        refine lv_iconst (v := 1) hx hb dL_law_345 (by decide) ?_
        refine m_iadd (X := k.toInt) (Y := 1) hx hb dL_law_346 rfl (by decide) (fun z346 e346 g346 => ?_)
        obtain ⟨k346, g346⟩ := g346
        have b346 := iB z346
        refine va_sld hx hb hX hbl hbA hS (ix (by omega) (by omega)) dL_law_347 ?_
        refine lv_topi (fun y347 ey347 => ?_)
        refine lc_X10_octet (rest := []) hS9 hKm hE hS hA hLW hl.1 (Nat.le_of_ble_eq_true rfl) dL_law_348 ⟨by show _ ≤ 2048; omega, by show _ ≤ 84000; omega⟩ ⟨by show _ ≤ 601024; omega, by show _ ≤ 7293034; omega⟩ (fun r348 H locs hLW hS => ?_)
        refine lv_istore (lv' := [(6, .int r348), (5, .int r336), (0, .ref b), (1, .ref x), (2, .ref mo), (3, .ref qo), (4, .int k)]) hx hb dL_law_351 hl (by decide) rfl (fun ls hl => ?_)
        refine lv_goto (tgt := 861) hx hb dL_law_353 (by decide) ?_
        refine W.widen (k := 149 + 310 * (513 - (n))) (n := 41658 + 2200 * (513 - (n))) (by omega) (by omega) ?_
        exact J861 H locs ls hLW hS (lv_sub hl [2, 3, 4, 5, 6] rfl)
      · skip
        refine lv_tableIn (tgt := 356) (off := 316) hx hb dL_law_40 (by omega) (by omega) (by rw [c40]; rfl) (by decide) ?_
        refine lv_aload_n hx hb dL_law_356 rfl (lv_at hl 1 rfl) ?_
        refine lv_aload_n hx hb dL_law_357 rfl (lv_at hl 3 rfl) ?_
        refine lc_S (As := [.ref x, .ref qo]) (rest := []) hS9 (tL_run (l := l) hl9 ) (vx_cwSW 2 hts (gSW (wr35 _ (List.mem_of_getElem? (i := 5) rfl)) (wr35 _ (List.mem_of_getElem? (i := 6) rfl)) (wr31 _ (List.mem_of_getElem? (i := 21) rfl)) (wr35 _ (List.mem_of_getElem? (i := 7) rfl))) rfl rfl rfl (by decide +kernel) ⟨by show 240 + 1 ≤ 2048; omega, by show 8 + (3 + 11) + 4800 ≤ 84000; omega⟩) hK hE hS hA hLW rfl hl.1 rfl (Nat.le_of_ble_eq_true rfl) dL_law_358 ⟨by show _ ≤ 601024; omega, by show _ ≤ 7293034; omega⟩ (fun r358 H locs hLW hS => ?_)
        refine lv_istore (lv' := [(5, .int r358), (0, .ref b), (1, .ref x), (2, .ref mo), (3, .ref qo), (4, .int k)]) hx hb dL_law_361 hl (by decide) rfl (fun ls hl => ?_)
        refine lv_aload_n hx hb dL_law_363 rfl (lv_at hl 3 rfl) ?_
        refine lc_X10_run (rest := []) hS9 hKm hE hS hA hLW hl.1 (Nat.le_of_ble_eq_true rfl) dL_law_364 ⟨by show _ ≤ 2048; omega, by show _ ≤ 84000; omega⟩ ⟨by show _ ≤ 601024; omega, by show _ ≤ 7293034; omega⟩ (fun r364 H locs hLW hS => ?_)
        refine lv_istore (lv' := [(6, .int r364), (5, .int r358), (0, .ref b), (1, .ref x), (2, .ref mo), (3, .ref qo), (4, .int k)]) hx hb dL_law_367 hl (by decide) rfl (fun ls hl => ?_)
        refine lv_goto (tgt := 861) hx hb dL_law_369 (by decide) ?_
        refine W.widen (k := 149 + 310 * (513 - (n))) (n := 41658 + 2200 * (513 - (n))) (by omega) (by omega) ?_
        exact J861 H locs ls hLW hS (lv_sub hl [2, 3, 4, 5, 6] rfl)
      · skip
        refine lv_tableIn (tgt := 372) (off := 332) hx hb dL_law_40 (by omega) (by omega) (by rw [c40]; rfl) (by decide) ?_
        refine lv_aload_n hx hb dL_law_372 rfl (lv_at hl 1 rfl) ?_
        refine lv_aload_n hx hb dL_law_373 rfl (lv_at hl 0 rfl) ?_
        refine lv_iload hx hb dL_law_374 (lv_at hl 4 rfl) ?_
        refine lv_iconst (v := 1) hx hb dL_law_376 (by decide) ?_
        refine m_iadd (X := k.toInt) (Y := 1) hx hb dL_law_377 rfl (by decide) (fun z377 e377 g377 => ?_)
        obtain ⟨k377, g377⟩ := g377
        have b377 := iB z377
        refine va_sld hx hb hX hbl hbA hS (ix (by omega) (by omega)) dL_law_378 ?_
        refine lv_topi (fun y378 ey378 => ?_)
        refine lv_aload_n hx hb dL_law_379 rfl (lv_at hl 3 rfl) ?_
        refine lc_S (As := [.ref x, .int y378, .ref qo]) (rest := []) hS9 (tL_outcome (l := l) hl9 y378) (vx_cwSW 3 hts (gSW (wr53 _ (List.mem_of_getElem? (i := 1) rfl)) (wr53 _ (List.mem_of_getElem? (i := 2) rfl)) (wr31 _ (List.mem_of_getElem? (i := 21) rfl)) (wr53 _ (List.mem_of_getElem? (i := 3) rfl))) rfl rfl rfl (by decide +kernel) ⟨by show 60 + 1 ≤ 2048; omega, by show 8 + (4 + 11) + 1200 ≤ 84000; omega⟩) hK hE hS hA hLW rfl hl.1 rfl (Nat.le_of_ble_eq_true rfl) dL_law_380 ⟨by show _ ≤ 601024; omega, by show _ ≤ 7293034; omega⟩ (fun r380 H locs hLW hS => ?_)
        refine lv_istore (lv' := [(5, .int r380), (0, .ref b), (1, .ref x), (2, .ref mo), (3, .ref qo), (4, .int k)]) hx hb dL_law_383 hl (by decide) rfl (fun ls hl => ?_)
        refine lv_aload_n hx hb dL_law_385 rfl (lv_at hl 3 rfl) ?_
        refine lv_aload_n hx hb dL_law_386 rfl (lv_at hl 1 rfl) ?_
        refine lv_iload hx hb dL_law_387 (lv_at hl 5 rfl) ?_
        refine lv_iconst (v := 1) hx hb dL_law_389 (by decide) ?_
        refine m_iadd (X := k.toInt) (Y := 1) hx hb dL_law_390 rfl (by decide) (fun z390 e390 g390 => ?_)
        obtain ⟨k390, g390⟩ := g390
        have b390 := iB z390
        refine va_sld hx hb hX hbl hbA hS (ix (by omega) (by omega)) dL_law_391 ?_
        refine lv_topi (fun y391 ey391 => ?_)
        refine lc_X10_outcome (rest := []) hS9 hKm hE hS hA hLW hl.1 (Nat.le_of_ble_eq_true rfl) dL_law_392 ⟨by show _ ≤ 2048; omega, by show _ ≤ 84000; omega⟩ ⟨by show _ ≤ 601024; omega, by show _ ≤ 7293034; omega⟩ (fun r392 H locs hLW hS => ?_)
        refine lv_istore (lv' := [(6, .int r392), (5, .int r380), (0, .ref b), (1, .ref x), (2, .ref mo), (3, .ref qo), (4, .int k)]) hx hb dL_law_395 hl (by decide) rfl (fun ls hl => ?_)
        refine lv_goto (tgt := 861) hx hb dL_law_397 (by decide) ?_
        refine W.widen (k := 149 + 310 * (513 - (n))) (n := 41658 + 2200 * (513 - (n))) (by omega) (by omega) ?_
        exact J861 H locs ls hLW hS (lv_sub hl [2, 3, 4, 5, 6] rfl)
      · skip
        refine lv_tableIn (tgt := 400) (off := 360) hx hb dL_law_40 (by omega) (by omega) (by rw [c40]; rfl) (by decide) ?_
        refine lv_aload_n hx hb dL_law_400 rfl (lv_at hl 1 rfl) ?_
        refine lv_aload_n hx hb dL_law_401 rfl (lv_at hl 0 rfl) ?_
        refine lv_iload hx hb dL_law_402 (lv_at hl 4 rfl) ?_
        refine lv_iconst (v := 1) hx hb dL_law_404 (by decide) ?_
        refine m_iadd (X := k.toInt) (Y := 1) hx hb dL_law_405 rfl (by decide) (fun z405 e405 g405 => ?_)
        obtain ⟨k405, g405⟩ := g405
        have b405 := iB z405
        refine va_sld hx hb hX hbl hbA hS (ix (by omega) (by omega)) dL_law_406 ?_
        refine lv_topi (fun y406 ey406 => ?_)
        refine lv_aload_n hx hb dL_law_407 rfl (lv_at hl 0 rfl) ?_
        refine lv_iload hx hb dL_law_408 (lv_at hl 4 rfl) ?_
        refine lv_iconst (v := 2) hx hb dL_law_410 (by decide) ?_
        refine m_iadd (X := k.toInt) (Y := 2) hx hb dL_law_411 rfl (by decide) (fun z411 e411 g411 => ?_)
        obtain ⟨k411, g411⟩ := g411
        have b411 := iB z411
        refine va_sld hx hb hX hbl hbA hS (ix (by omega) (by omega)) dL_law_412 ?_
        refine lv_topi (fun y412 ey412 => ?_)
        refine lv_aload_n hx hb dL_law_413 rfl (lv_at hl 0 rfl) ?_
        refine lv_iload hx hb dL_law_414 (lv_at hl 4 rfl) ?_
        refine lv_iconst (v := 3) hx hb dL_law_416 (by decide) ?_
        refine m_iadd (X := k.toInt) (Y := 3) hx hb dL_law_417 rfl (by decide) (fun z417 e417 g417 => ?_)
        obtain ⟨k417, g417⟩ := g417
        have b417 := iB z417
        refine va_sld hx hb hX hbl hbA hS (ix (by omega) (by omega)) dL_law_418 ?_
        refine lv_topi (fun y418 ey418 => ?_)
        refine lv_aload_n hx hb dL_law_419 rfl (lv_at hl 0 rfl) ?_
        refine lv_iload hx hb dL_law_420 (lv_at hl 4 rfl) ?_
        refine lv_iconst (v := 4) hx hb dL_law_422 (by decide) ?_
        refine m_iadd (X := k.toInt) (Y := 4) hx hb dL_law_423 rfl (by decide) (fun z423 e423 g423 => ?_)
        obtain ⟨k423, g423⟩ := g423
        have b423 := iB z423
        refine va_sld hx hb hX hbl hbA hS (ix (by omega) (by omega)) dL_law_424 ?_
        refine lv_topi (fun y424 ey424 => ?_)
        refine lv_aload_n hx hb dL_law_425 rfl (lv_at hl 0 rfl) ?_
        refine lv_iload hx hb dL_law_426 (lv_at hl 4 rfl) ?_
        refine lv_iconst (v := 5) hx hb dL_law_428 (by decide) ?_
        refine m_iadd (X := k.toInt) (Y := 5) hx hb dL_law_429 rfl (by decide) (fun z429 e429 g429 => ?_)
        obtain ⟨k429, g429⟩ := g429
        have b429 := iB z429
        refine va_sld hx hb hX hbl hbA hS (ix (by omega) (by omega)) dL_law_430 ?_
        refine lv_topi (fun y430 ey430 => ?_)
        refine lc_X9_look (rest := []) hS9 hK hE hS hA hLW hl.1 (Nat.le_of_ble_eq_true rfl) dL_law_431 ⟨by show _ ≤ 2048; omega, by show _ ≤ 84000; omega⟩ ⟨by show _ ≤ 601024; omega, by show _ ≤ 7293034; omega⟩ (fun r431 H locs hLW hS => ?_)
        refine lv_pop hx hb dL_law_434 rfl ?_
        refine lv_aload_n hx hb dL_law_435 rfl (lv_at hl 2 rfl) ?_
        refine lv_aload_n hx hb dL_law_436 rfl (lv_at hl 0 rfl) ?_
        refine lv_iload hx hb dL_law_437 (lv_at hl 4 rfl) ?_
        refine lv_iconst (v := 1) hx hb dL_law_439 (by decide) ?_
        refine m_iadd (X := k.toInt) (Y := 1) hx hb dL_law_440 rfl (by decide) (fun z440 e440 g440 => ?_)
        obtain ⟨k440, g440⟩ := g440
        have b440 := iB z440
        refine va_sld hx hb hX hbl hbA hS (ix (by omega) (by omega)) dL_law_441 ?_
        refine lv_topi (fun y441 ey441 => ?_)
        refine lv_aload_n hx hb dL_law_442 rfl (lv_at hl 0 rfl) ?_
        refine lv_iload hx hb dL_law_443 (lv_at hl 4 rfl) ?_
        refine lv_iconst (v := 2) hx hb dL_law_445 (by decide) ?_
        refine m_iadd (X := k.toInt) (Y := 2) hx hb dL_law_446 rfl (by decide) (fun z446 e446 g446 => ?_)
        obtain ⟨k446, g446⟩ := g446
        have b446 := iB z446
        refine va_sld hx hb hX hbl hbA hS (ix (by omega) (by omega)) dL_law_447 ?_
        refine lv_topi (fun y447 ey447 => ?_)
        refine lv_aload_n hx hb dL_law_448 rfl (lv_at hl 0 rfl) ?_
        refine lv_iload hx hb dL_law_449 (lv_at hl 4 rfl) ?_
        refine lv_iconst (v := 3) hx hb dL_law_451 (by decide) ?_
        refine m_iadd (X := k.toInt) (Y := 3) hx hb dL_law_452 rfl (by decide) (fun z452 e452 g452 => ?_)
        obtain ⟨k452, g452⟩ := g452
        have b452 := iB z452
        refine va_sld hx hb hX hbl hbA hS (ix (by omega) (by omega)) dL_law_453 ?_
        refine lv_topi (fun y453 ey453 => ?_)
        refine lv_aload_n hx hb dL_law_454 rfl (lv_at hl 0 rfl) ?_
        refine lv_iload hx hb dL_law_455 (lv_at hl 4 rfl) ?_
        refine lv_iconst (v := 4) hx hb dL_law_457 (by decide) ?_
        refine m_iadd (X := k.toInt) (Y := 4) hx hb dL_law_458 rfl (by decide) (fun z458 e458 g458 => ?_)
        obtain ⟨k458, g458⟩ := g458
        have b458 := iB z458
        refine va_sld hx hb hX hbl hbA hS (ix (by omega) (by omega)) dL_law_459 ?_
        refine lv_topi (fun y459 ey459 => ?_)
        refine lv_aload_n hx hb dL_law_460 rfl (lv_at hl 0 rfl) ?_
        refine lv_iload hx hb dL_law_461 (lv_at hl 4 rfl) ?_
        refine lv_iconst (v := 5) hx hb dL_law_463 (by decide) ?_
        refine m_iadd (X := k.toInt) (Y := 5) hx hb dL_law_464 rfl (by decide) (fun z464 e464 g464 => ?_)
        obtain ⟨k464, g464⟩ := g464
        have b464 := iB z464
        refine va_sld hx hb hX hbl hbA hS (ix (by omega) (by omega)) dL_law_465 ?_
        refine lv_topi (fun y465 ey465 => ?_)
        refine lc_X10_look (rest := []) hS9 hKm hE hS hA hLW hl.1 (Nat.le_of_ble_eq_true rfl) dL_law_466 ⟨by show _ ≤ 2048; omega, by show _ ≤ 84000; omega⟩ ⟨by show _ ≤ 601024; omega, by show _ ≤ 7293034; omega⟩ (fun r466 H locs hLW hS => ?_)
        refine lv_pop hx hb dL_law_469 rfl ?_
        refine lv_goto (tgt := 861) hx hb dL_law_470 (by decide) ?_
        refine W.widen (k := 149 + 310 * (513 - (n))) (n := 41658 + 2200 * (513 - (n))) (by omega) (by omega) ?_
        exact J861 H locs ls hLW hS (lv_sub hl [0, 1, 2, 3, 4] rfl)
      · skip
        refine lv_tableIn (tgt := 473) (off := 433) hx hb dL_law_40 (by omega) (by omega) (by rw [c40]; rfl) (by decide) ?_
        refine lv_aload_n hx hb dL_law_473 rfl (lv_at hl 1 rfl) ?_
        refine lv_aload_n hx hb dL_law_474 rfl (lv_at hl 0 rfl) ?_
        refine lv_iload hx hb dL_law_475 (lv_at hl 4 rfl) ?_
        refine lv_iconst (v := 1) hx hb dL_law_477 (by decide) ?_
        refine m_iadd (X := k.toInt) (Y := 1) hx hb dL_law_478 rfl (by decide) (fun z478 e478 g478 => ?_)
        obtain ⟨k478, g478⟩ := g478
        have b478 := iB z478
        refine va_sld hx hb hX hbl hbA hS (ix (by omega) (by omega)) dL_law_479 ?_
        refine lv_topi (fun y479 ey479 => ?_)
        refine lv_aload_n hx hb dL_law_480 rfl (lv_at hl 0 rfl) ?_
        refine lv_iload hx hb dL_law_481 (lv_at hl 4 rfl) ?_
        refine lv_iconst (v := 2) hx hb dL_law_483 (by decide) ?_
        refine m_iadd (X := k.toInt) (Y := 2) hx hb dL_law_484 rfl (by decide) (fun z484 e484 g484 => ?_)
        obtain ⟨k484, g484⟩ := g484
        have b484 := iB z484
        refine va_sld hx hb hX hbl hbA hS (ix (by omega) (by omega)) dL_law_485 ?_
        refine lv_topi (fun y485 ey485 => ?_)
        refine lv_aload_n hx hb dL_law_486 rfl (lv_at hl 0 rfl) ?_
        refine lv_iload hx hb dL_law_487 (lv_at hl 4 rfl) ?_
        refine lv_iconst (v := 3) hx hb dL_law_489 (by decide) ?_
        refine m_iadd (X := k.toInt) (Y := 3) hx hb dL_law_490 rfl (by decide) (fun z490 e490 g490 => ?_)
        obtain ⟨k490, g490⟩ := g490
        have b490 := iB z490
        refine va_sld hx hb hX hbl hbA hS (ix (by omega) (by omega)) dL_law_491 ?_
        refine lv_topi (fun y491 ey491 => ?_)
        refine lv_aload_n hx hb dL_law_492 rfl (lv_at hl 0 rfl) ?_
        refine lv_iload hx hb dL_law_493 (lv_at hl 4 rfl) ?_
        refine lv_iconst (v := 4) hx hb dL_law_495 (by decide) ?_
        refine m_iadd (X := k.toInt) (Y := 4) hx hb dL_law_496 rfl (by decide) (fun z496 e496 g496 => ?_)
        obtain ⟨k496, g496⟩ := g496
        have b496 := iB z496
        refine va_sld hx hb hX hbl hbA hS (ix (by omega) (by omega)) dL_law_497 ?_
        refine lv_topi (fun y497 ey497 => ?_)
        refine lv_aload_n hx hb dL_law_498 rfl (lv_at hl 3 rfl) ?_
        refine lc_S (As := [.ref x, .int y479, .int y485, .int y491, .int y497, .ref qo]) (rest := []) hS9 (tL_value (l := l) hl9 y479 y485 y491 y497) (vx_cwSW 6 hts (gSW (wr54 _ (List.mem_of_getElem? (i := 18) rfl)) (wr54 _ (List.mem_of_getElem? (i := 19) rfl)) (wr31 _ (List.mem_of_getElem? (i := 21) rfl)) (wr54 _ (List.mem_of_getElem? (i := 20) rfl))) rfl rfl rfl (by decide +kernel) ⟨by show 100 + 1 ≤ 2048; omega, by show 8 + (7 + 11) + 2000 ≤ 84000; omega⟩) hK hE hS hA hLW rfl hl.1 rfl (Nat.le_of_ble_eq_true rfl) dL_law_499 ⟨by show _ ≤ 601024; omega, by show _ ≤ 7293034; omega⟩ (fun r499 H locs hLW hS => ?_)
        refine lv_istore (lv' := [(5, .int r499), (0, .ref b), (1, .ref x), (2, .ref mo), (3, .ref qo), (4, .int k)]) hx hb dL_law_502 hl (by decide) rfl (fun ls hl => ?_)
        refine lv_aload_n hx hb dL_law_504 rfl (lv_at hl 3 rfl) ?_
        refine lv_aload_n hx hb dL_law_505 rfl (lv_at hl 1 rfl) ?_
        refine lv_iload hx hb dL_law_506 (lv_at hl 5 rfl) ?_
        refine lv_iconst (v := 1) hx hb dL_law_508 (by decide) ?_
        refine m_iadd (X := k.toInt) (Y := 1) hx hb dL_law_509 rfl (by decide) (fun z509 e509 g509 => ?_)
        obtain ⟨k509, g509⟩ := g509
        have b509 := iB z509
        refine va_sld hx hb hX hbl hbA hS (ix (by omega) (by omega)) dL_law_510 ?_
        refine lv_topi (fun y510 ey510 => ?_)
        refine lv_aload_n hx hb dL_law_511 rfl (lv_at hl 1 rfl) ?_
        refine lv_iload hx hb dL_law_512 (lv_at hl 5 rfl) ?_
        refine lv_iconst (v := 2) hx hb dL_law_514 (by decide) ?_
        refine m_iadd (X := k.toInt) (Y := 2) hx hb dL_law_515 rfl (by decide) (fun z515 e515 g515 => ?_)
        obtain ⟨k515, g515⟩ := g515
        have b515 := iB z515
        refine va_sld hx hb hX hbl hbA hS (ix (by omega) (by omega)) dL_law_516 ?_
        refine lv_topi (fun y516 ey516 => ?_)
        refine lv_aload_n hx hb dL_law_517 rfl (lv_at hl 1 rfl) ?_
        refine lv_iload hx hb dL_law_518 (lv_at hl 5 rfl) ?_
        refine lv_iconst (v := 3) hx hb dL_law_520 (by decide) ?_
        refine m_iadd (X := k.toInt) (Y := 3) hx hb dL_law_521 rfl (by decide) (fun z521 e521 g521 => ?_)
        obtain ⟨k521, g521⟩ := g521
        have b521 := iB z521
        refine va_sld hx hb hX hbl hbA hS (ix (by omega) (by omega)) dL_law_522 ?_
        refine lv_topi (fun y522 ey522 => ?_)
        refine lv_aload_n hx hb dL_law_523 rfl (lv_at hl 1 rfl) ?_
        refine lv_iload hx hb dL_law_524 (lv_at hl 5 rfl) ?_
        refine lv_iconst (v := 4) hx hb dL_law_526 (by decide) ?_
        refine m_iadd (X := k.toInt) (Y := 4) hx hb dL_law_527 rfl (by decide) (fun z527 e527 g527 => ?_)
        obtain ⟨k527, g527⟩ := g527
        have b527 := iB z527
        refine va_sld hx hb hX hbl hbA hS (ix (by omega) (by omega)) dL_law_528 ?_
        refine lv_topi (fun y528 ey528 => ?_)
        refine lc_X10_value (rest := []) hS9 hKm hE hS hA hLW hl.1 (Nat.le_of_ble_eq_true rfl) dL_law_529 ⟨by show _ ≤ 2048; omega, by show _ ≤ 84000; omega⟩ ⟨by show _ ≤ 601024; omega, by show _ ≤ 7293034; omega⟩ (fun r529 H locs hLW hS => ?_)
        refine lv_lstore (lv' := [(6, .long r529), (5, .int r499), (0, .ref b), (1, .ref x), (2, .ref mo), (3, .ref qo), (4, .int k)]) hx hb dL_law_532 hl (by decide) rfl (fun ls hl => ?_)
        refine lv_goto (tgt := 861) hx hb dL_law_534 (by decide) ?_
        refine W.widen (k := 149 + 310 * (513 - (n))) (n := 41658 + 2200 * (513 - (n))) (by omega) (by omega) ?_
        exact J861 H locs ls hLW hS (lv_sub hl [2, 3, 4, 5, 6] rfl)
      · skip
        refine lv_tableIn (tgt := 537) (off := 497) hx hb dL_law_40 (by omega) (by omega) (by rw [c40]; rfl) (by decide) ?_
        refine lv_aload_n hx hb dL_law_537 rfl (lv_at hl 1 rfl) ?_
        refine lv_aload_n hx hb dL_law_538 rfl (lv_at hl 0 rfl) ?_
        refine lv_iload hx hb dL_law_539 (lv_at hl 4 rfl) ?_
        refine lv_iconst (v := 1) hx hb dL_law_541 (by decide) ?_
        refine m_iadd (X := k.toInt) (Y := 1) hx hb dL_law_542 rfl (by decide) (fun z542 e542 g542 => ?_)
        obtain ⟨k542, g542⟩ := g542
        have b542 := iB z542
        refine va_sld hx hb hX hbl hbA hS (ix (by omega) (by omega)) dL_law_543 ?_
        refine lv_topi (fun y543 ey543 => ?_)
        refine lv_aload_n hx hb dL_law_544 rfl (lv_at hl 0 rfl) ?_
        refine lv_iload hx hb dL_law_545 (lv_at hl 4 rfl) ?_
        refine lv_iconst (v := 2) hx hb dL_law_547 (by decide) ?_
        refine m_iadd (X := k.toInt) (Y := 2) hx hb dL_law_548 rfl (by decide) (fun z548 e548 g548 => ?_)
        obtain ⟨k548, g548⟩ := g548
        have b548 := iB z548
        refine va_sld hx hb hX hbl hbA hS (ix (by omega) (by omega)) dL_law_549 ?_
        refine lv_topi (fun y549 ey549 => ?_)
        refine lv_aload_n hx hb dL_law_550 rfl (lv_at hl 0 rfl) ?_
        refine lv_iload hx hb dL_law_551 (lv_at hl 4 rfl) ?_
        refine lv_iconst (v := 3) hx hb dL_law_553 (by decide) ?_
        refine m_iadd (X := k.toInt) (Y := 3) hx hb dL_law_554 rfl (by decide) (fun z554 e554 g554 => ?_)
        obtain ⟨k554, g554⟩ := g554
        have b554 := iB z554
        refine va_sld hx hb hX hbl hbA hS (ix (by omega) (by omega)) dL_law_555 ?_
        refine lv_topi (fun y555 ey555 => ?_)
        refine lv_aload_n hx hb dL_law_556 rfl (lv_at hl 0 rfl) ?_
        refine lv_iload hx hb dL_law_557 (lv_at hl 4 rfl) ?_
        refine lv_iconst (v := 4) hx hb dL_law_559 (by decide) ?_
        refine m_iadd (X := k.toInt) (Y := 4) hx hb dL_law_560 rfl (by decide) (fun z560 e560 g560 => ?_)
        obtain ⟨k560, g560⟩ := g560
        have b560 := iB z560
        refine va_sld hx hb hX hbl hbA hS (ix (by omega) (by omega)) dL_law_561 ?_
        refine lv_topi (fun y561 ey561 => ?_)
        refine lc_X9_same (rest := []) hS9 hK hE hS hA hLW hl.1 (Nat.le_of_ble_eq_true rfl) dL_law_562 ⟨by show _ ≤ 2048; omega, by show _ ≤ 84000; omega⟩ ⟨by show _ ≤ 601024; omega, by show _ ≤ 7293034; omega⟩ (fun r562 H locs hLW hS => ?_)
        refine lv_pop hx hb dL_law_565 rfl ?_
        refine lv_aload_n hx hb dL_law_566 rfl (lv_at hl 2 rfl) ?_
        refine lv_aload_n hx hb dL_law_567 rfl (lv_at hl 0 rfl) ?_
        refine lv_iload hx hb dL_law_568 (lv_at hl 4 rfl) ?_
        refine lv_iconst (v := 1) hx hb dL_law_570 (by decide) ?_
        refine m_iadd (X := k.toInt) (Y := 1) hx hb dL_law_571 rfl (by decide) (fun z571 e571 g571 => ?_)
        obtain ⟨k571, g571⟩ := g571
        have b571 := iB z571
        refine va_sld hx hb hX hbl hbA hS (ix (by omega) (by omega)) dL_law_572 ?_
        refine lv_topi (fun y572 ey572 => ?_)
        refine lv_aload_n hx hb dL_law_573 rfl (lv_at hl 0 rfl) ?_
        refine lv_iload hx hb dL_law_574 (lv_at hl 4 rfl) ?_
        refine lv_iconst (v := 2) hx hb dL_law_576 (by decide) ?_
        refine m_iadd (X := k.toInt) (Y := 2) hx hb dL_law_577 rfl (by decide) (fun z577 e577 g577 => ?_)
        obtain ⟨k577, g577⟩ := g577
        have b577 := iB z577
        refine va_sld hx hb hX hbl hbA hS (ix (by omega) (by omega)) dL_law_578 ?_
        refine lv_topi (fun y578 ey578 => ?_)
        refine lv_aload_n hx hb dL_law_579 rfl (lv_at hl 0 rfl) ?_
        refine lv_iload hx hb dL_law_580 (lv_at hl 4 rfl) ?_
        refine lv_iconst (v := 3) hx hb dL_law_582 (by decide) ?_
        refine m_iadd (X := k.toInt) (Y := 3) hx hb dL_law_583 rfl (by decide) (fun z583 e583 g583 => ?_)
        obtain ⟨k583, g583⟩ := g583
        have b583 := iB z583
        refine va_sld hx hb hX hbl hbA hS (ix (by omega) (by omega)) dL_law_584 ?_
        refine lv_topi (fun y584 ey584 => ?_)
        refine lv_aload_n hx hb dL_law_585 rfl (lv_at hl 0 rfl) ?_
        refine lv_iload hx hb dL_law_586 (lv_at hl 4 rfl) ?_
        refine lv_iconst (v := 4) hx hb dL_law_588 (by decide) ?_
        refine m_iadd (X := k.toInt) (Y := 4) hx hb dL_law_589 rfl (by decide) (fun z589 e589 g589 => ?_)
        obtain ⟨k589, g589⟩ := g589
        have b589 := iB z589
        refine va_sld hx hb hX hbl hbA hS (ix (by omega) (by omega)) dL_law_590 ?_
        refine lv_topi (fun y590 ey590 => ?_)
        refine lc_X10_same (rest := []) hS9 hKm hE hS hA hLW hl.1 (Nat.le_of_ble_eq_true rfl) dL_law_591 ⟨by show _ ≤ 2048; omega, by show _ ≤ 84000; omega⟩ ⟨by show _ ≤ 601024; omega, by show _ ≤ 7293034; omega⟩ (fun r591 H locs hLW hS => ?_)
        refine lv_pop hx hb dL_law_594 rfl ?_
        refine lv_goto (tgt := 861) hx hb dL_law_595 (by decide) ?_
        refine W.widen (k := 149 + 310 * (513 - (n))) (n := 41658 + 2200 * (513 - (n))) (by omega) (by omega) ?_
        exact J861 H locs ls hLW hS (lv_sub hl [0, 1, 2, 3, 4] rfl)
      · skip
        refine lv_tableIn (tgt := 598) (off := 558) hx hb dL_law_40 (by omega) (by omega) (by rw [c40]; rfl) (by decide) ?_
        refine lv_aload_n hx hb dL_law_598 rfl (lv_at hl 1 rfl) ?_
        refine lv_aload_n hx hb dL_law_599 rfl (lv_at hl 0 rfl) ?_
        refine lv_iload hx hb dL_law_600 (lv_at hl 4 rfl) ?_
        refine lv_iconst (v := 1) hx hb dL_law_602 (by decide) ?_
        refine m_iadd (X := k.toInt) (Y := 1) hx hb dL_law_603 rfl (by decide) (fun z603 e603 g603 => ?_)
        obtain ⟨k603, g603⟩ := g603
        have b603 := iB z603
        refine va_sld hx hb hX hbl hbA hS (ix (by omega) (by omega)) dL_law_604 ?_
        refine lv_topi (fun y604 ey604 => ?_)
        refine lv_aload_n hx hb dL_law_605 rfl (lv_at hl 0 rfl) ?_
        refine lv_iload hx hb dL_law_606 (lv_at hl 4 rfl) ?_
        refine lv_iconst (v := 2) hx hb dL_law_608 (by decide) ?_
        refine m_iadd (X := k.toInt) (Y := 2) hx hb dL_law_609 rfl (by decide) (fun z609 e609 g609 => ?_)
        obtain ⟨k609, g609⟩ := g609
        have b609 := iB z609
        refine va_sld hx hb hX hbl hbA hS (ix (by omega) (by omega)) dL_law_610 ?_
        refine lv_topi (fun y610 ey610 => ?_)
        refine lc_X9_mark (rest := []) hS9 hK hE hS hA hLW hl.1 (Nat.le_of_ble_eq_true rfl) dL_law_611 ⟨by show _ ≤ 2048; omega, by show _ ≤ 84000; omega⟩ ⟨by show _ ≤ 601024; omega, by show _ ≤ 7293034; omega⟩ (fun r611 H locs hLW hS => ?_)
        refine lv_pop hx hb dL_law_614 rfl ?_
        refine lv_aload_n hx hb dL_law_615 rfl (lv_at hl 2 rfl) ?_
        refine lv_aload_n hx hb dL_law_616 rfl (lv_at hl 0 rfl) ?_
        refine lv_iload hx hb dL_law_617 (lv_at hl 4 rfl) ?_
        refine lv_iconst (v := 1) hx hb dL_law_619 (by decide) ?_
        refine m_iadd (X := k.toInt) (Y := 1) hx hb dL_law_620 rfl (by decide) (fun z620 e620 g620 => ?_)
        obtain ⟨k620, g620⟩ := g620
        have b620 := iB z620
        refine va_sld hx hb hX hbl hbA hS (ix (by omega) (by omega)) dL_law_621 ?_
        refine lv_topi (fun y621 ey621 => ?_)
        refine lv_aload_n hx hb dL_law_622 rfl (lv_at hl 0 rfl) ?_
        refine lv_iload hx hb dL_law_623 (lv_at hl 4 rfl) ?_
        refine lv_iconst (v := 2) hx hb dL_law_625 (by decide) ?_
        refine m_iadd (X := k.toInt) (Y := 2) hx hb dL_law_626 rfl (by decide) (fun z626 e626 g626 => ?_)
        obtain ⟨k626, g626⟩ := g626
        have b626 := iB z626
        refine va_sld hx hb hX hbl hbA hS (ix (by omega) (by omega)) dL_law_627 ?_
        refine lv_topi (fun y627 ey627 => ?_)
        refine lc_X10_mark (rest := []) hS9 hKm hE hS hA hLW hl.1 (Nat.le_of_ble_eq_true rfl) dL_law_628 ⟨by show _ ≤ 2048; omega, by show _ ≤ 84000; omega⟩ ⟨by show _ ≤ 601024; omega, by show _ ≤ 7293034; omega⟩ (fun r628 H locs hLW hS => ?_)
        refine lv_pop hx hb dL_law_631 rfl ?_
        refine lv_goto (tgt := 861) hx hb dL_law_632 (by decide) ?_
        refine W.widen (k := 149 + 310 * (513 - (n))) (n := 41658 + 2200 * (513 - (n))) (by omega) (by omega) ?_
        exact J861 H locs ls hLW hS (lv_sub hl [0, 1, 2, 3, 4] rfl)
      · skip
        refine lv_tableIn (tgt := 635) (off := 595) hx hb dL_law_40 (by omega) (by omega) (by rw [c40]; rfl) (by decide) ?_
        refine lv_aload_n hx hb dL_law_635 rfl (lv_at hl 1 rfl) ?_
        refine lv_aload_n hx hb dL_law_636 rfl (lv_at hl 0 rfl) ?_
        refine lv_iload hx hb dL_law_637 (lv_at hl 4 rfl) ?_
        refine lv_iconst (v := 1) hx hb dL_law_639 (by decide) ?_
        refine m_iadd (X := k.toInt) (Y := 1) hx hb dL_law_640 rfl (by decide) (fun z640 e640 g640 => ?_)
        obtain ⟨k640, g640⟩ := g640
        have b640 := iB z640
        refine va_sld hx hb hX hbl hbA hS (ix (by omega) (by omega)) dL_law_641 ?_
        refine lv_topi (fun y641 ey641 => ?_)
        refine lv_aload_n hx hb dL_law_642 rfl (lv_at hl 3 rfl) ?_
        refine lc_S (As := [.ref x, .int y641, .ref qo]) (rest := []) hS9 (tL_marked (l := l) hl9 y641) (vx_cwSW 3 hts (gSW (wr56 _ (List.mem_of_getElem? (i := 13) rfl)) (wr56 _ (List.mem_of_getElem? (i := 14) rfl)) (wr31 _ (List.mem_of_getElem? (i := 21) rfl)) (wr56 _ (List.mem_of_getElem? (i := 15) rfl))) rfl rfl rfl (by decide +kernel) ⟨by show 80 + 1 ≤ 2048; omega, by show 8 + (4 + 11) + 1600 ≤ 84000; omega⟩) hK hE hS hA hLW rfl hl.1 rfl (Nat.le_of_ble_eq_true rfl) dL_law_643 ⟨by show _ ≤ 601024; omega, by show _ ≤ 7293034; omega⟩ (fun r643 H locs hLW hS => ?_)
        refine lv_istore (lv' := [(5, .int r643), (0, .ref b), (1, .ref x), (2, .ref mo), (3, .ref qo), (4, .int k)]) hx hb dL_law_646 hl (by decide) rfl (fun ls hl => ?_)
        refine lv_aload_n hx hb dL_law_648 rfl (lv_at hl 3 rfl) ?_
        refine lv_aload_n hx hb dL_law_649 rfl (lv_at hl 1 rfl) ?_
        refine lv_iload hx hb dL_law_650 (lv_at hl 5 rfl) ?_
        refine lv_iconst (v := 1) hx hb dL_law_652 (by decide) ?_
        refine m_iadd (X := k.toInt) (Y := 1) hx hb dL_law_653 rfl (by decide) (fun z653 e653 g653 => ?_)
        obtain ⟨k653, g653⟩ := g653
        have b653 := iB z653
        refine va_sld hx hb hX hbl hbA hS (ix (by omega) (by omega)) dL_law_654 ?_
        refine lv_topi (fun y654 ey654 => ?_)
        refine lc_X10_marked (rest := []) hS9 hKm hE hS hA hLW hl.1 (Nat.le_of_ble_eq_true rfl) dL_law_655 ⟨by show _ ≤ 2048; omega, by show _ ≤ 84000; omega⟩ ⟨by show _ ≤ 601024; omega, by show _ ≤ 7293034; omega⟩ (fun r655 H locs hLW hS => ?_)
        refine lv_lstore (lv' := [(6, .long r655), (5, .int r643), (0, .ref b), (1, .ref x), (2, .ref mo), (3, .ref qo), (4, .int k)]) hx hb dL_law_658 hl (by decide) rfl (fun ls hl => ?_)
        refine lv_goto (tgt := 861) hx hb dL_law_660 (by decide) ?_
        refine W.widen (k := 149 + 310 * (513 - (n))) (n := 41658 + 2200 * (513 - (n))) (by omega) (by omega) ?_
        exact J861 H locs ls hLW hS (lv_sub hl [2, 3, 4, 5, 6] rfl)
      · skip
        refine lv_tableIn (tgt := 663) (off := 623) hx hb dL_law_40 (by omega) (by omega) (by rw [c40]; rfl) (by decide) ?_
        refine lv_aload_n hx hb dL_law_663 rfl (lv_at hl 1 rfl) ?_
        refine lc_X9_named (rest := []) hS9 hK hE hS hA hLW hl.1 (Nat.le_of_ble_eq_true rfl) dL_law_664 ⟨by show _ ≤ 2048; omega, by show _ ≤ 84000; omega⟩ ⟨by show _ ≤ 601024; omega, by show _ ≤ 7293034; omega⟩ (fun r664 H locs hLW hS => ?_)
        refine lv_pop hx hb dL_law_667 rfl ?_
        refine lv_aload_n hx hb dL_law_668 rfl (lv_at hl 2 rfl) ?_
        refine lc_X10_named (rest := []) hS9 hKm hE hS hA hLW hl.1 (Nat.le_of_ble_eq_true rfl) dL_law_669 ⟨by show _ ≤ 2048; omega, by show _ ≤ 84000; omega⟩ ⟨by show _ ≤ 601024; omega, by show _ ≤ 7293034; omega⟩ (fun r669 H locs hLW hS => ?_)
        refine lv_pop hx hb dL_law_672 rfl ?_
        refine lv_goto (tgt := 861) hx hb dL_law_673 (by decide) ?_
        refine W.widen (k := 149 + 310 * (513 - (n))) (n := 41658 + 2200 * (513 - (n))) (by omega) (by omega) ?_
        exact J861 H locs ls hLW hS (lv_sub hl [0, 1, 2, 3, 4] rfl)
      · skip
        refine lv_tableIn (tgt := 676) (off := 636) hx hb dL_law_40 (by omega) (by omega) (by rw [c40]; rfl) (by decide) ?_
        refine lv_aload_n hx hb dL_law_676 rfl (lv_at hl 1 rfl) ?_
        refine lv_aload_n hx hb dL_law_677 rfl (lv_at hl 0 rfl) ?_
        refine lv_iload hx hb dL_law_678 (lv_at hl 4 rfl) ?_
        refine lv_iconst (v := 1) hx hb dL_law_680 (by decide) ?_
        refine m_iadd (X := k.toInt) (Y := 1) hx hb dL_law_681 rfl (by decide) (fun z681 e681 g681 => ?_)
        obtain ⟨k681, g681⟩ := g681
        have b681 := iB z681
        refine va_sld hx hb hX hbl hbA hS (ix (by omega) (by omega)) dL_law_682 ?_
        refine lv_topi (fun y682 ey682 => ?_)
        refine lv_aload_n hx hb dL_law_683 rfl (lv_at hl 0 rfl) ?_
        refine lv_iload hx hb dL_law_684 (lv_at hl 4 rfl) ?_
        refine lv_iconst (v := 2) hx hb dL_law_686 (by decide) ?_
        refine m_iadd (X := k.toInt) (Y := 2) hx hb dL_law_687 rfl (by decide) (fun z687 e687 g687 => ?_)
        obtain ⟨k687, g687⟩ := g687
        have b687 := iB z687
        refine va_sld hx hb hX hbl hbA hS (ix (by omega) (by omega)) dL_law_688 ?_
        refine lv_topi (fun y688 ey688 => ?_)
        refine lc_X9_name (rest := []) hS9 hK hE hS hA hLW hl.1 (Nat.le_of_ble_eq_true rfl) dL_law_689 ⟨by show _ ≤ 2048; omega, by show _ ≤ 84000; omega⟩ ⟨by show _ ≤ 601024; omega, by show _ ≤ 7293034; omega⟩ (fun r689 H locs h689 hLW hS => ?_)
        refine lv_aload_n hx hb dL_law_692 rfl (lv_at hl 2 rfl) ?_
        refine lv_aload_n hx hb dL_law_693 rfl (lv_at hl 0 rfl) ?_
        refine lv_iload hx hb dL_law_694 (lv_at hl 4 rfl) ?_
        refine lv_iconst (v := 1) hx hb dL_law_696 (by decide) ?_
        refine m_iadd (X := k.toInt) (Y := 1) hx hb dL_law_697 rfl (by decide) (fun z697 e697 g697 => ?_)
        obtain ⟨k697, g697⟩ := g697
        have b697 := iB z697
        refine va_sld hx hb hX hbl hbA hS (ix (by omega) (by omega)) dL_law_698 ?_
        refine lv_topi (fun y698 ey698 => ?_)
        refine lv_aload_n hx hb dL_law_699 rfl (lv_at hl 0 rfl) ?_
        refine lv_iload hx hb dL_law_700 (lv_at hl 4 rfl) ?_
        refine lv_iconst (v := 2) hx hb dL_law_702 (by decide) ?_
        refine m_iadd (X := k.toInt) (Y := 2) hx hb dL_law_703 rfl (by decide) (fun z703 e703 g703 => ?_)
        obtain ⟨k703, g703⟩ := g703
        have b703 := iB z703
        refine va_sld hx hb hX hbl hbA hS (ix (by omega) (by omega)) dL_law_704 ?_
        refine lv_topi (fun y704 ey704 => ?_)
        refine lc_X10_name (rest := [.int r689]) hS9 hKm hE hS hA hLW hl.1 (Nat.le_of_ble_eq_true rfl) dL_law_705 ⟨by show _ ≤ 2048; omega, by show _ ≤ 84000; omega⟩ ⟨by show _ ≤ 601024; omega, by show _ ≤ 7293034; omega⟩ (fun r705 H locs h705 hLW hS => ?_)
        refine m_icmp_eq (X := r689.toInt) (Y := r705.toInt) (tgt := 861) hx hb dL_law_708 (by decide) rfl rfl (fun c9 => ?_) (fun c9 => ?_)
        · skip
          refine W.widen (k := 149 + 310 * (513 - (n))) (n := 41658 + 2200 * (513 - (n))) (by omega) (by omega) ?_
          exact J861 H locs ls hLW hS (lv_sub hl [0, 1, 2, 3, 4] rfl)
        · skip
          exfalso
          have q698 : y698 = y682 := by rw [ey698, ey682, show z697 = z681 from iEq.mpr (by omega)]
          have q704 : y704 = y688 := by rw [ey704, ey688, show z703 = z687 from iEq.mpr (by omega)]
          rw [q698, q704] at h705
          exact c9 (NMq.uniq h689 h705)
      · skip
        refine lv_tableIn (tgt := 713) (off := 673) hx hb dL_law_40 (by omega) (by omega) (by rw [c40]; rfl) (by decide) ?_
        refine lv_aload_n hx hb dL_law_713 rfl (lv_at hl 1 rfl) ?_
        refine lv_aload_n hx hb dL_law_714 rfl (lv_at hl 0 rfl) ?_
        refine lv_iload hx hb dL_law_715 (lv_at hl 4 rfl) ?_
        refine lv_iconst (v := 1) hx hb dL_law_717 (by decide) ?_
        refine m_iadd (X := k.toInt) (Y := 1) hx hb dL_law_718 rfl (by decide) (fun z718 e718 g718 => ?_)
        obtain ⟨k718, g718⟩ := g718
        have b718 := iB z718
        refine va_sld hx hb hX hbl hbA hS (ix (by omega) (by omega)) dL_law_719 ?_
        refine lv_topi (fun y719 ey719 => ?_)
        refine lv_aload_n hx hb dL_law_720 rfl (lv_at hl 0 rfl) ?_
        refine lv_iload hx hb dL_law_721 (lv_at hl 4 rfl) ?_
        refine lv_iconst (v := 2) hx hb dL_law_723 (by decide) ?_
        refine m_iadd (X := k.toInt) (Y := 2) hx hb dL_law_724 rfl (by decide) (fun z724 e724 g724 => ?_)
        obtain ⟨k724, g724⟩ := g724
        have b724 := iB z724
        refine va_sld hx hb hX hbl hbA hS (ix (by omega) (by omega)) dL_law_725 ?_
        refine lv_topi (fun y725 ey725 => ?_)
        refine lc_X9_below (rest := []) hS9 hK hE hS hA hLW hl.1 (Nat.le_of_ble_eq_true rfl) dL_law_726 ⟨by show _ ≤ 2048; omega, by show _ ≤ 84000; omega⟩ ⟨by show _ ≤ 601024; omega, by show _ ≤ 7293034; omega⟩ (fun r726 H locs h726 hLW hS => ?_)
        refine lv_pop hx hb dL_law_729 rfl ?_
        refine lv_aload_n hx hb dL_law_730 rfl (lv_at hl 2 rfl) ?_
        refine lv_aload_n hx hb dL_law_731 rfl (lv_at hl 0 rfl) ?_
        refine lv_iload hx hb dL_law_732 (lv_at hl 4 rfl) ?_
        refine lv_iconst (v := 1) hx hb dL_law_734 (by decide) ?_
        refine m_iadd (X := k.toInt) (Y := 1) hx hb dL_law_735 rfl (by decide) (fun z735 e735 g735 => ?_)
        obtain ⟨k735, g735⟩ := g735
        have b735 := iB z735
        refine va_sld hx hb hX hbl hbA hS (ix (by omega) (by omega)) dL_law_736 ?_
        refine lv_topi (fun y736 ey736 => ?_)
        refine lv_aload_n hx hb dL_law_737 rfl (lv_at hl 0 rfl) ?_
        refine lv_iload hx hb dL_law_738 (lv_at hl 4 rfl) ?_
        refine lv_iconst (v := 2) hx hb dL_law_740 (by decide) ?_
        refine m_iadd (X := k.toInt) (Y := 2) hx hb dL_law_741 rfl (by decide) (fun z741 e741 g741 => ?_)
        obtain ⟨k741, g741⟩ := g741
        have b741 := iB z741
        refine va_sld hx hb hX hbl hbA hS (ix (by omega) (by omega)) dL_law_742 ?_
        refine lv_topi (fun y742 ey742 => ?_)
        refine lc_X10_below (rest := []) hS9 hKm hE hS hA hLW hl.1 (Nat.le_of_ble_eq_true rfl) dL_law_743 ⟨by show _ ≤ 2048; omega, by show _ ≤ 84000; omega⟩ ⟨by show _ ≤ 601024; omega, by show _ ≤ 7293034; omega⟩ (fun r743 H locs h743 hLW hS => ?_)
        refine lv_pop hx hb dL_law_746 rfl ?_
        refine lv_goto (tgt := 861) hx hb dL_law_747 (by decide) ?_
        refine W.widen (k := 149 + 310 * (513 - (n))) (n := 41658 + 2200 * (513 - (n))) (by omega) (by omega) ?_
        exact J861 H locs ls hLW hS (lv_sub hl [0, 1, 2, 3, 4] rfl)
      · skip
        refine lv_tableIn (tgt := 750) (off := 710) hx hb dL_law_40 (by omega) (by omega) (by rw [c40]; rfl) (by decide) ?_
        refine lv_aload_n hx hb dL_law_750 rfl (lv_at hl 1 rfl) ?_
        refine lv_aload_n hx hb dL_law_751 rfl (lv_at hl 0 rfl) ?_
        refine lv_iload hx hb dL_law_752 (lv_at hl 4 rfl) ?_
        refine lv_iconst (v := 1) hx hb dL_law_754 (by decide) ?_
        refine m_iadd (X := k.toInt) (Y := 1) hx hb dL_law_755 rfl (by decide) (fun z755 e755 g755 => ?_)
        obtain ⟨k755, g755⟩ := g755
        have b755 := iB z755
        refine va_sld hx hb hX hbl hbA hS (ix (by omega) (by omega)) dL_law_756 ?_
        refine lv_topi (fun y756 ey756 => ?_)
        refine lv_aload_n hx hb dL_law_757 rfl (lv_at hl 0 rfl) ?_
        refine lv_iload hx hb dL_law_758 (lv_at hl 4 rfl) ?_
        refine lv_iconst (v := 2) hx hb dL_law_760 (by decide) ?_
        refine m_iadd (X := k.toInt) (Y := 2) hx hb dL_law_761 rfl (by decide) (fun z761 e761 g761 => ?_)
        obtain ⟨k761, g761⟩ := g761
        have b761 := iB z761
        refine va_sld hx hb hX hbl hbA hS (ix (by omega) (by omega)) dL_law_762 ?_
        refine lv_topi (fun y762 ey762 => ?_)
        refine lc_X9_stores (rest := []) hS9 hK hE hS hA hLW hl.1 (Nat.le_of_ble_eq_true rfl) dL_law_763 ⟨by show _ ≤ 2048; omega, by show _ ≤ 84000; omega⟩ ⟨by show _ ≤ 601024; omega, by show _ ≤ 7293034; omega⟩ (fun r763 H locs h763 hLW hS => ?_)
        refine lv_pop hx hb dL_law_766 rfl ?_
        refine lv_aload_n hx hb dL_law_767 rfl (lv_at hl 2 rfl) ?_
        refine lv_aload_n hx hb dL_law_768 rfl (lv_at hl 0 rfl) ?_
        refine lv_iload hx hb dL_law_769 (lv_at hl 4 rfl) ?_
        refine lv_iconst (v := 1) hx hb dL_law_771 (by decide) ?_
        refine m_iadd (X := k.toInt) (Y := 1) hx hb dL_law_772 rfl (by decide) (fun z772 e772 g772 => ?_)
        obtain ⟨k772, g772⟩ := g772
        have b772 := iB z772
        refine va_sld hx hb hX hbl hbA hS (ix (by omega) (by omega)) dL_law_773 ?_
        refine lv_topi (fun y773 ey773 => ?_)
        refine lv_aload_n hx hb dL_law_774 rfl (lv_at hl 0 rfl) ?_
        refine lv_iload hx hb dL_law_775 (lv_at hl 4 rfl) ?_
        refine lv_iconst (v := 2) hx hb dL_law_777 (by decide) ?_
        refine m_iadd (X := k.toInt) (Y := 2) hx hb dL_law_778 rfl (by decide) (fun z778 e778 g778 => ?_)
        obtain ⟨k778, g778⟩ := g778
        have b778 := iB z778
        refine va_sld hx hb hX hbl hbA hS (ix (by omega) (by omega)) dL_law_779 ?_
        refine lv_topi (fun y779 ey779 => ?_)
        refine lc_X10_stores (rest := []) hS9 hKm hE hS hA hLW hl.1 (Nat.le_of_ble_eq_true rfl) dL_law_780 ⟨by show _ ≤ 2048; omega, by show _ ≤ 84000; omega⟩ ⟨by show _ ≤ 601024; omega, by show _ ≤ 7293034; omega⟩ (fun r780 H locs h780 hLW hS => ?_)
        refine lv_pop hx hb dL_law_783 rfl ?_
        refine lv_goto (tgt := 861) hx hb dL_law_784 (by decide) ?_
        refine W.widen (k := 149 + 310 * (513 - (n))) (n := 41658 + 2200 * (513 - (n))) (by omega) (by omega) ?_
        exact J861 H locs ls hLW hS (lv_sub hl [0, 1, 2, 3, 4] rfl)
      · skip
        refine lv_tableIn (tgt := 787) (off := 747) hx hb dL_law_40 (by omega) (by omega) (by rw [c40]; rfl) (by decide) ?_
        refine lv_aload_n hx hb dL_law_787 rfl (lv_at hl 1 rfl) ?_
        refine lv_aload_n hx hb dL_law_788 rfl (lv_at hl 0 rfl) ?_
        refine lv_iload hx hb dL_law_789 (lv_at hl 4 rfl) ?_
        refine lv_iconst (v := 1) hx hb dL_law_791 (by decide) ?_
        refine m_iadd (X := k.toInt) (Y := 1) hx hb dL_law_792 rfl (by decide) (fun z792 e792 g792 => ?_)
        obtain ⟨k792, g792⟩ := g792
        have b792 := iB z792
        refine va_sld hx hb hX hbl hbA hS (ix (by omega) (by omega)) dL_law_793 ?_
        refine lv_topi (fun y793 ey793 => ?_)
        refine lv_aload_n hx hb dL_law_794 rfl (lv_at hl 0 rfl) ?_
        refine lv_iload hx hb dL_law_795 (lv_at hl 4 rfl) ?_
        refine lv_iconst (v := 2) hx hb dL_law_797 (by decide) ?_
        refine m_iadd (X := k.toInt) (Y := 2) hx hb dL_law_798 rfl (by decide) (fun z798 e798 g798 => ?_)
        obtain ⟨k798, g798⟩ := g798
        have b798 := iB z798
        refine va_sld hx hb hX hbl hbA hS (ix (by omega) (by omega)) dL_law_799 ?_
        refine lv_topi (fun y799 ey799 => ?_)
        refine lv_aload_n hx hb dL_law_800 rfl (lv_at hl 0 rfl) ?_
        refine lv_iload hx hb dL_law_801 (lv_at hl 4 rfl) ?_
        refine lv_iconst (v := 3) hx hb dL_law_803 (by decide) ?_
        refine m_iadd (X := k.toInt) (Y := 3) hx hb dL_law_804 rfl (by decide) (fun z804 e804 g804 => ?_)
        obtain ⟨k804, g804⟩ := g804
        have b804 := iB z804
        refine va_sld hx hb hX hbl hbA hS (ix (by omega) (by omega)) dL_law_805 ?_
        refine lv_topi (fun y805 ey805 => ?_)
        refine lc_X9_copies (rest := []) hS9 hK hE hS hA hLW hl.1 (Nat.le_of_ble_eq_true rfl) dL_law_806 ⟨by show _ ≤ 2048; omega, by show _ ≤ 84000; omega⟩ ⟨by show _ ≤ 601024; omega, by show _ ≤ 7293034; omega⟩ (fun r806 H locs h806 hLW hS => ?_)
        refine lv_pop hx hb dL_law_809 rfl ?_
        refine lv_aload_n hx hb dL_law_810 rfl (lv_at hl 2 rfl) ?_
        refine lv_aload_n hx hb dL_law_811 rfl (lv_at hl 0 rfl) ?_
        refine lv_iload hx hb dL_law_812 (lv_at hl 4 rfl) ?_
        refine lv_iconst (v := 1) hx hb dL_law_814 (by decide) ?_
        refine m_iadd (X := k.toInt) (Y := 1) hx hb dL_law_815 rfl (by decide) (fun z815 e815 g815 => ?_)
        obtain ⟨k815, g815⟩ := g815
        have b815 := iB z815
        refine va_sld hx hb hX hbl hbA hS (ix (by omega) (by omega)) dL_law_816 ?_
        refine lv_topi (fun y816 ey816 => ?_)
        refine lv_aload_n hx hb dL_law_817 rfl (lv_at hl 0 rfl) ?_
        refine lv_iload hx hb dL_law_818 (lv_at hl 4 rfl) ?_
        refine lv_iconst (v := 2) hx hb dL_law_820 (by decide) ?_
        refine m_iadd (X := k.toInt) (Y := 2) hx hb dL_law_821 rfl (by decide) (fun z821 e821 g821 => ?_)
        obtain ⟨k821, g821⟩ := g821
        have b821 := iB z821
        refine va_sld hx hb hX hbl hbA hS (ix (by omega) (by omega)) dL_law_822 ?_
        refine lv_topi (fun y822 ey822 => ?_)
        refine lv_aload_n hx hb dL_law_823 rfl (lv_at hl 0 rfl) ?_
        refine lv_iload hx hb dL_law_824 (lv_at hl 4 rfl) ?_
        refine lv_iconst (v := 3) hx hb dL_law_826 (by decide) ?_
        refine m_iadd (X := k.toInt) (Y := 3) hx hb dL_law_827 rfl (by decide) (fun z827 e827 g827 => ?_)
        obtain ⟨k827, g827⟩ := g827
        have b827 := iB z827
        refine va_sld hx hb hX hbl hbA hS (ix (by omega) (by omega)) dL_law_828 ?_
        refine lv_topi (fun y828 ey828 => ?_)
        refine lc_X10_copies_ (rest := []) hS9 hKm hE hS hA hLW hl.1 (Nat.le_of_ble_eq_true rfl) dL_law_829 ⟨by show _ ≤ 2048; omega, by show _ ≤ 84000; omega⟩ ⟨by show _ ≤ 601024; omega, by show _ ≤ 7293034; omega⟩ (fun r829 H locs h829 hLW hS => ?_)
        refine lv_pop hx hb dL_law_832 rfl ?_
        refine lv_goto (tgt := 861) hx hb dL_law_833 (by decide) ?_
        refine W.widen (k := 149 + 310 * (513 - (n))) (n := 41658 + 2200 * (513 - (n))) (by omega) (by omega) ?_
        exact J861 H locs ls hLW hS (lv_sub hl [0, 1, 2, 3, 4] rfl)
      · skip
        refine lv_tableIn (tgt := 836) (off := 796) hx hb dL_law_40 (by omega) (by omega) (by rw [c40]; rfl) (by decide) ?_
        refine lv_aload_n hx hb dL_law_836 rfl (lv_at hl 1 rfl) ?_
        refine lv_aload_n hx hb dL_law_837 rfl (lv_at hl 0 rfl) ?_
        refine lv_iload hx hb dL_law_838 (lv_at hl 4 rfl) ?_
        refine lv_iconst (v := 1) hx hb dL_law_840 (by decide) ?_
        refine m_iadd (X := k.toInt) (Y := 1) hx hb dL_law_841 rfl (by decide) (fun z841 e841 g841 => ?_)
        obtain ⟨k841, g841⟩ := g841
        have b841 := iB z841
        refine va_sld hx hb hX hbl hbA hS (ix (by omega) (by omega)) dL_law_842 ?_
        refine lv_topi (fun y842 ey842 => ?_)
        refine lc_X9_count (rest := []) hS9 hK hE hS hA hLW hl.1 (Nat.le_of_ble_eq_true rfl) dL_law_843 ⟨by show _ ≤ 2048; omega, by show _ ≤ 84000; omega⟩ ⟨by show _ ≤ 601024; omega, by show _ ≤ 7293034; omega⟩ (fun r843 H locs hLW hS => ?_)
        refine lv_pop hx hb dL_law_846 rfl ?_
        refine lv_aload_n hx hb dL_law_847 rfl (lv_at hl 2 rfl) ?_
        refine lv_aload_n hx hb dL_law_848 rfl (lv_at hl 0 rfl) ?_
        refine lv_iload hx hb dL_law_849 (lv_at hl 4 rfl) ?_
        refine lv_iconst (v := 1) hx hb dL_law_851 (by decide) ?_
        refine m_iadd (X := k.toInt) (Y := 1) hx hb dL_law_852 rfl (by decide) (fun z852 e852 g852 => ?_)
        obtain ⟨k852, g852⟩ := g852
        have b852 := iB z852
        refine va_sld hx hb hX hbl hbA hS (ix (by omega) (by omega)) dL_law_853 ?_
        refine lv_topi (fun y853 ey853 => ?_)
        refine lc_X10_count (rest := []) hS9 hKm hE hS hA hLW hl.1 (Nat.le_of_ble_eq_true rfl) dL_law_854 ⟨by show _ ≤ 2048; omega, by show _ ≤ 84000; omega⟩ ⟨by show _ ≤ 601024; omega, by show _ ≤ 7293034; omega⟩ (fun r854 H locs hLW hS => ?_)
        refine lv_pop hx hb dL_law_857 rfl ?_
        refine lv_goto (tgt := 861) hx hb dL_law_858 (by decide) ?_
        refine W.widen (k := 149 + 310 * (513 - (n))) (n := 41658 + 2200 * (513 - (n))) (by omega) (by omega) ?_
        exact J861 H locs ls hLW hS (lv_sub hl [0, 1, 2, 3, 4] rfl)
end LawLoop
