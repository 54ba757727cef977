theorem dL_step_0 : decode cL_step 0 = .ok (.aload_n 3, 1) := by decide +kernel
theorem dL_step_1 : decode cL_step 1 = .ok (.iconst 0, 1) := by decide +kernel
theorem dL_step_2 : decode cL_step 2 = .ok (.aload_n 0, 1) := by decide +kernel
theorem dL_step_3 : decode cL_step 3 = .ok (.iload_n 1, 1) := by decide +kernel
theorem dL_step_4 : decode cL_step 4 = .ok (.iload_n 2, 1) := by decide +kernel
theorem dL_step_5 : decode cL_step 5 = .ok (.invokevirtual 7, 3) := by decide +kernel
theorem dL_step_8 : decode cL_step 8 = .ok (.i2l, 1) := by decide +kernel
theorem dL_step_9 : decode cL_step 9 = .ok (.lastore, 1) := by decide +kernel
theorem dL_step_10 : decode cL_step 10 = .ok (.goto 7, 3) := by decide +kernel
theorem dL_step_13 : decode cL_step 13 = .ok (.astore 4, 2) := by decide +kernel
theorem dL_step_15 : decode cL_step 15 = .ok (.iconst 1, 1) := by decide +kernel
theorem dL_step_16 : decode cL_step 16 = .ok (.ireturn, 1) := by decide +kernel
theorem dL_step_17 : decode cL_step 17 = .ok (.iconst 0, 1) := by decide +kernel
theorem dL_step_18 : decode cL_step 18 = .ok (.ireturn, 1) := by decide +kernel
theorem dL_spell_0 : decode cL_spell 0 = .ok (.aload_n 2, 1) := by decide +kernel
theorem dL_spell_1 : decode cL_spell 1 = .ok (.iconst 0, 1) := by decide +kernel
theorem dL_spell_2 : decode cL_spell 2 = .ok (.aload_n 0, 1) := by decide +kernel
theorem dL_spell_3 : decode cL_spell 3 = .ok (.iload_n 1, 1) := by decide +kernel
theorem dL_spell_4 : decode cL_spell 4 = .ok (.invokevirtual 15, 3) := by decide +kernel
theorem dL_spell_7 : decode cL_spell 7 = .ok (.i2l, 1) := by decide +kernel
theorem dL_spell_8 : decode cL_spell 8 = .ok (.lastore, 1) := by decide +kernel
theorem dL_spell_9 : decode cL_spell 9 = .ok (.goto 6, 3) := by decide +kernel
theorem dL_spell_12 : decode cL_spell 12 = .ok (.astore_n 3, 1) := by decide +kernel
theorem dL_spell_13 : decode cL_spell 13 = .ok (.iconst 1, 1) := by decide +kernel
theorem dL_spell_14 : decode cL_spell 14 = .ok (.ireturn, 1) := by decide +kernel
theorem dL_spell_15 : decode cL_spell 15 = .ok (.iconst 0, 1) := by decide +kernel
theorem dL_spell_16 : decode cL_spell 16 = .ok (.ireturn, 1) := by decide +kernel
theorem dL_octet_0 : decode cL_octet 0 = .ok (.aload_n 2, 1) := by decide +kernel
theorem dL_octet_1 : decode cL_octet 1 = .ok (.iconst 0, 1) := by decide +kernel
theorem dL_octet_2 : decode cL_octet 2 = .ok (.aload_n 0, 1) := by decide +kernel
theorem dL_octet_3 : decode cL_octet 3 = .ok (.iload_n 1, 1) := by decide +kernel
theorem dL_octet_4 : decode cL_octet 4 = .ok (.invokevirtual 19, 3) := by decide +kernel
theorem dL_octet_7 : decode cL_octet 7 = .ok (.i2l, 1) := by decide +kernel
theorem dL_octet_8 : decode cL_octet 8 = .ok (.lastore, 1) := by decide +kernel
theorem dL_octet_9 : decode cL_octet 9 = .ok (.goto 6, 3) := by decide +kernel
theorem dL_octet_12 : decode cL_octet 12 = .ok (.astore_n 3, 1) := by decide +kernel
theorem dL_octet_13 : decode cL_octet 13 = .ok (.iconst 1, 1) := by decide +kernel
theorem dL_octet_14 : decode cL_octet 14 = .ok (.ireturn, 1) := by decide +kernel
theorem dL_octet_15 : decode cL_octet 15 = .ok (.iconst 0, 1) := by decide +kernel
theorem dL_octet_16 : decode cL_octet 16 = .ok (.ireturn, 1) := by decide +kernel
theorem dL_run_0 : decode cL_run 0 = .ok (.aload_n 1, 1) := by decide +kernel
theorem dL_run_1 : decode cL_run 1 = .ok (.iconst 0, 1) := by decide +kernel
theorem dL_run_2 : decode cL_run 2 = .ok (.aload_n 0, 1) := by decide +kernel
theorem dL_run_3 : decode cL_run 3 = .ok (.invokevirtual 22, 3) := by decide +kernel
theorem dL_run_6 : decode cL_run 6 = .ok (.i2l, 1) := by decide +kernel
theorem dL_run_7 : decode cL_run 7 = .ok (.lastore, 1) := by decide +kernel
theorem dL_run_8 : decode cL_run 8 = .ok (.goto 6, 3) := by decide +kernel
theorem dL_run_11 : decode cL_run 11 = .ok (.astore_n 2, 1) := by decide +kernel
theorem dL_run_12 : decode cL_run 12 = .ok (.iconst 1, 1) := by decide +kernel
theorem dL_run_13 : decode cL_run 13 = .ok (.ireturn, 1) := by decide +kernel
theorem dL_run_14 : decode cL_run 14 = .ok (.iconst 0, 1) := by decide +kernel
theorem dL_run_15 : decode cL_run 15 = .ok (.ireturn, 1) := by decide +kernel
theorem dL_outcome_0 : decode cL_outcome 0 = .ok (.aload_n 2, 1) := by decide +kernel
theorem dL_outcome_1 : decode cL_outcome 1 = .ok (.iconst 0, 1) := by decide +kernel
theorem dL_outcome_2 : decode cL_outcome 2 = .ok (.aload_n 0, 1) := by decide +kernel
theorem dL_outcome_3 : decode cL_outcome 3 = .ok (.iload_n 1, 1) := by decide +kernel
theorem dL_outcome_4 : decode cL_outcome 4 = .ok (.invokevirtual 28, 3) := by decide +kernel
theorem dL_outcome_7 : decode cL_outcome 7 = .ok (.i2l, 1) := by decide +kernel
theorem dL_outcome_8 : decode cL_outcome 8 = .ok (.lastore, 1) := by decide +kernel
theorem dL_outcome_9 : decode cL_outcome 9 = .ok (.goto 6, 3) := by decide +kernel
theorem dL_outcome_12 : decode cL_outcome 12 = .ok (.astore_n 3, 1) := by decide +kernel
theorem dL_outcome_13 : decode cL_outcome 13 = .ok (.iconst 1, 1) := by decide +kernel
theorem dL_outcome_14 : decode cL_outcome 14 = .ok (.ireturn, 1) := by decide +kernel
theorem dL_outcome_15 : decode cL_outcome 15 = .ok (.iconst 0, 1) := by decide +kernel
theorem dL_outcome_16 : decode cL_outcome 16 = .ok (.ireturn, 1) := by decide +kernel
theorem dL_value_0 : decode cL_value 0 = .ok (.aload 5, 2) := by decide +kernel
theorem dL_value_2 : decode cL_value 2 = .ok (.iconst 0, 1) := by decide +kernel
theorem dL_value_3 : decode cL_value 3 = .ok (.aload_n 0, 1) := by decide +kernel
theorem dL_value_4 : decode cL_value 4 = .ok (.iload_n 1, 1) := by decide +kernel
theorem dL_value_5 : decode cL_value 5 = .ok (.iload_n 2, 1) := by decide +kernel
theorem dL_value_6 : decode cL_value 6 = .ok (.iload_n 3, 1) := by decide +kernel
theorem dL_value_7 : decode cL_value 7 = .ok (.iload 4, 2) := by decide +kernel
theorem dL_value_9 : decode cL_value 9 = .ok (.invokevirtual 31, 3) := by decide +kernel
theorem dL_value_12 : decode cL_value 12 = .ok (.lastore, 1) := by decide +kernel
theorem dL_value_13 : decode cL_value 13 = .ok (.goto 7, 3) := by decide +kernel
theorem dL_value_16 : decode cL_value 16 = .ok (.astore 6, 2) := by decide +kernel
theorem dL_value_18 : decode cL_value 18 = .ok (.iconst 1, 1) := by decide +kernel
theorem dL_value_19 : decode cL_value 19 = .ok (.ireturn, 1) := by decide +kernel
theorem dL_value_20 : decode cL_value 20 = .ok (.iconst 0, 1) := by decide +kernel
theorem dL_value_21 : decode cL_value 21 = .ok (.ireturn, 1) := by decide +kernel
theorem dL_marked_0 : decode cL_marked 0 = .ok (.aload_n 2, 1) := by decide +kernel
theorem dL_marked_1 : decode cL_marked 1 = .ok (.iconst 0, 1) := by decide +kernel
theorem dL_marked_2 : decode cL_marked 2 = .ok (.aload_n 0, 1) := by decide +kernel
theorem dL_marked_3 : decode cL_marked 3 = .ok (.iload_n 1, 1) := by decide +kernel
theorem dL_marked_4 : decode cL_marked 4 = .ok (.invokevirtual 35, 3) := by decide +kernel
theorem dL_marked_7 : decode cL_marked 7 = .ok (.lastore, 1) := by decide +kernel
theorem dL_marked_8 : decode cL_marked 8 = .ok (.goto 6, 3) := by decide +kernel
theorem dL_marked_11 : decode cL_marked 11 = .ok (.astore_n 3, 1) := by decide +kernel
theorem dL_marked_12 : decode cL_marked 12 = .ok (.iconst 1, 1) := by decide +kernel
theorem dL_marked_13 : decode cL_marked 13 = .ok (.ireturn, 1) := by decide +kernel
theorem dL_marked_14 : decode cL_marked 14 = .ok (.iconst 0, 1) := by decide +kernel
theorem dL_marked_15 : decode cL_marked 15 = .ok (.ireturn, 1) := by decide +kernel
section LawS
abbrev wGW (y : MethodName) (c : ByteArray) (n : Nat) (r : Option FieldType) (hh : List (Nat × Nat × Nat × Nat)) : List Cond := .codeWith y c n r hh :: wsL_law
abbrev lPre (D : va_G) (A : Nat → Prop) (K : Nat → Nat → Nat) (cs : Nat → ClassId) (x mo qo : Nat) (av : List Value) : Array Value → State → Prop := va_Pc av (fun U => (∀ q, U.heap.size ≤ q → A q) ∧ LWI D A cs x mo qo U.heap ∧ va_K D vwCl (twT cs) U ∧ sEnv K A U U.heap)
abbrev lPost (D : va_G) (A : Nat → Prop) (cs : Nat → ClassId) (x mo qo : Nat) : Array Value → State → Outcome → State → Prop := va_Qi (fun (_ : Int32) (_ : Unit) => True) (fun _ t => LWI D A cs x mo qo t.heap) A
theorem lBlind {D : va_G} {A : Nat → Prop} {K : Nat → Nat → Nat} {cs : Nat → ClassId} {x mo qo : Nat} {av : List Value} : FrameBlind (lPre D A K cs x mo qo av) := fun a U g mk q => by
  obtain ⟨q0, q1, q2, q3, q4⟩ := q
  exact ⟨q0, q1, q2, va_K.moved (u := U) (U := U.calling g mk a) (Vm.Alike.refl U.vm) q3, sEnv.same (s := U) (U := U.calling g mk a) rfl q4⟩
variable {p : Program} {l : Launch} {e : Env} {R : Room} {s : State} {m : MethodId} {args : Array Value} {below : List Frame} {meth : Method} {c : Code} {H : Heap} {locs : List Loc} {cells slots : Nat} {Q : State → Prop}
variable {cc : ByteArray} {pc : Nat} {ls : Array Slot} {rest : List Value} {D : va_G} {A : Nat → Prop} {K : Nat → Nat → Nat} {cs : Nat → ClassId} {x mo qo nL : Nat} {w0 : Cond}
theorem lc_out (hx : p.tables.exec = Jvm.exec) (hb : c.code = cc) (hK : va_K D vwCl (twT cs) s) (hS : va_S A s.heap H locs) (hLW : LWI D A cs x mo qo H) {v : Int64} (hdg : decode cc pc = .ok (.lastore, 1)) (kk : ∀ (H1 : Heap) (locs1 : List Loc), LWI D A cs x mo qo H1 → va_S A s.heap H1 locs1 → W p l e R s m args below meth c H1 locs1 cells slots Q (F0 m (pc + 1) ls rest)) : W p l e R s m args below meth c H locs cells slots Q (F0 m pc ls (.long v :: .int 0 :: .ref qo :: rest)) := by
  obtain ⟨q, qm, icI, icA, icN, icQ, icB, a_L, a_K, a_vc, a_vd, a_si, a_sj, a_iv, a_inn, a_ac, imI, imA, imJ, imB, oc, hqc, hqm, hP, hD, hT, hM⟩ := hLW
  refine va_last hx hb hK hP hD hS 60 1 rfl rfl (ix (by decide) (by decide)) hdg (fun H1 locs1 hP1 hD1 hS1 => ?_)
  have hP2 : va_P D vwCl (((LWX cs q qm qo (icI 0) (icI 1) (icI 2) (icA 0) (icA 1) (icN 0) (icI 3) (icQ 0) (icN 1) (icI 4) (icQ 1) (icN 2) (icN 3) (icI 5) (icI 6) (icI 7) (icI 8) (icI 9) (icI 10) (icI 11) (icI 12) (icI 13) (icI 14) (icI 15) (icI 16) (icA 2) (icI 17) (icI 18) (icI 19) (icI 20) (icI 21) (icI 22) (icN 4) (icN 5) (icN 6) (icI 23) (icI 24) (icI 25) (icI 26) (icI 27) (icQ 2) (icQ 3) (icA 3) (icA 4) (icI 28) (icI 29) (icI 30) (icI 31) (icI 32) (icA 5) (icA 6) (icA 7) (icB 0) (imI 0) (imA 0) (imI 1) (imI 2) (imI 3) (imI 4) (imI 5) (imJ 0) (imI 6) (imJ 1) (imI 7) (imI 8) (imI 9) (imI 10) (imI 11) (imA 1) (imA 2) (imA 3) (imA 4) (imA 5) (imA 6) (imA 7) (imA 8) (imA 9) (imA 10) (imA 11) (imA 12) (imA 13) (imA 14) (imA 15) (imB 0) (imI 12) (imI 13) (imI 14) (imJ 2) (imI 15) (imI 16) (imA 16) (imI 17) (imA 17) (imA 18) (imB 1) (imA 19) (imI 18) (imA 20) (imA 21) (imA 22) (imI 19) (imI 20) (imA 23) (imA 24) (imB 2) (imA 25) (imA 26) (imB 3) (imA 27) (imI 21) (imI 22) (imI 23) (imI 24) (imI 25) (imA 28) (imA 29) (imA 30) (imB 4) (imI 26) (imI 27) (imJ 3) (imA 31) (imI 28) (imI 29) (vp_updL oc (0 : Int32).toNatClampNeg v))) ++ (twP cs a_L a_K a_vc a_vd a_si a_sj a_iv a_inn a_ac)) H1 := hP1
  have hD2 : va_D A (((LWX cs q qm qo (icI 0) (icI 1) (icI 2) (icA 0) (icA 1) (icN 0) (icI 3) (icQ 0) (icN 1) (icI 4) (icQ 1) (icN 2) (icN 3) (icI 5) (icI 6) (icI 7) (icI 8) (icI 9) (icI 10) (icI 11) (icI 12) (icI 13) (icI 14) (icI 15) (icI 16) (icA 2) (icI 17) (icI 18) (icI 19) (icI 20) (icI 21) (icI 22) (icN 4) (icN 5) (icN 6) (icI 23) (icI 24) (icI 25) (icI 26) (icI 27) (icQ 2) (icQ 3) (icA 3) (icA 4) (icI 28) (icI 29) (icI 30) (icI 31) (icI 32) (icA 5) (icA 6) (icA 7) (icB 0) (imI 0) (imA 0) (imI 1) (imI 2) (imI 3) (imI 4) (imI 5) (imJ 0) (imI 6) (imJ 1) (imI 7) (imI 8) (imI 9) (imI 10) (imI 11) (imA 1) (imA 2) (imA 3) (imA 4) (imA 5) (imA 6) (imA 7) (imA 8) (imA 9) (imA 10) (imA 11) (imA 12) (imA 13) (imA 14) (imA 15) (imB 0) (imI 12) (imI 13) (imI 14) (imJ 2) (imI 15) (imI 16) (imA 16) (imI 17) (imA 17) (imA 18) (imB 1) (imA 19) (imI 18) (imA 20) (imA 21) (imA 22) (imI 19) (imI 20) (imA 23) (imA 24) (imB 2) (imA 25) (imA 26) (imB 3) (imA 27) (imI 21) (imI 22) (imI 23) (imI 24) (imI 25) (imA 28) (imA 29) (imA 30) (imB 4) (imI 26) (imI 27) (imJ 3) (imA 31) (imI 28) (imI 29) (vp_updL oc (0 : Int32).toNatClampNeg v))) ++ (twP cs a_L a_K a_vc a_vd a_si a_sj a_iv a_inn a_ac)) := hD1
  exact kk H1 locs1 ⟨q, qm, icI, icA, icN, icQ, icB, a_L, a_K, a_vc, a_vd, a_si, a_sj, a_iv, a_inn, a_ac, imI, imA, imJ, imB, _, hqc, hqm, hP2, hD2, hT, hM⟩ hS1
theorem lc_S {y : MethodName} {ws : List Cond} {rm : Room} {mc ms n index maxL : Nat} {bytes : ByteArray} {ret : Option FieldType} {hh : List (Nat × Nat × Nat × Nat)} {As st : List Value} {Ts : List Cond} (S9 : CallFix p m c cc nL s args Ts RL) (hM : Met l y ws rm (lPre D A K cs x mo qo As) (lPost D A cs x mo qo) mc ms A) (cw : vx_CSW R s args RL index y bytes maxL ret hh ws rm mc ms n) (hK : va_K D vwCl (twT cs) s) (hE : sEnv K A s s.heap) (hS : va_S A s.heap H locs) (hA : ∀ q, s.heap.size ≤ q → A q) (hLW : LWI D A cs x mo qo H) (hn : As.length = n) (hsz : ls.size = nL) (hst : st = As.reverse ++ rest) (hW : (rest.map fun v => v.category).sum ≤ 8) (hdg : decode cc pc = .ok (.invokestatic index, 3)) (hf : cells + mc ≤ R.cells ∧ slots + ms ≤ R.slots)
    (kk : ∀ (r : Int32) (H1 : Heap) (locs1 : List Loc), LWI D A cs x mo qo H1 → va_S A s.heap H1 locs1 → W p l e R s m args below meth c H1 locs1 (cells + mc) (slots + ms) Q (F0 m (pc + 3) ls (.int r :: rest))) : W p l e R s m args below meth c H locs cells slots Q (F0 m pc ls st) := by
  refine va_calli (vx_runSW S9 hM cw ⟨lBlind, fun U hU hW9 => ⟨rfl, fun q h => hA q (by rw [hU] at h; exact Nat.le_trans hS.1 h), by rw [hU]; exact hLW, va_K.moved hW9.alike hK, by rw [hU]; exact (hE.kept hS.2.1).warm hW9⟩⟩ rfl hn hsz hst (lv_room hW) hdg hf) hS (fun q _ h => h) (fun q h => h) (fun r u t H1 locs1 ht hvm hw hB hz hk hS1 => kk r H1 locs1 (by rw [← ht]; exact hB) hS1)
end LawS
def rmL_step : Room := { frames := 100, cells := 3, slots := 21, locals := 2000 }
set_option maxHeartbeats 4000000 in
set_option maxRecDepth 100000 in
theorem tL_step {l : Launch} (hl9 : l.stackTraces = false) {D : va_G} {A : Nat → Prop} {K : Nat → Nat → Nat} {cs : Nat → ClassId} {x mo qo : Nat} (u0 u1 : Int32) : Met l yL_step (wGW yL_step cL_step 5 (some .int) [(0, 10, 13, 13)]) rmL_step (lPre D A K cs x mo qo [.ref x, .int u0, .int u1, .ref qo]) (lPost D A cs x mo qo) 3 21 A := by
  refine va_MetW (cc := cL_step) (maxL := 5) (ret := some .int) (hh := [(0, 10, 13, 13)]) (by decide) rfl ?_
  intro p e s m args below meth c s₁ B hml hv
  obtain ⟨rfl, hA, hLW, hK, hE⟩ := hv
  have hx := B.exec
  have hb := B.bytes
  have hr := B.returns
  have hts := atoms_spec (ws := (wGW yL_step cL_step 5 (some .int) [(0, 10, 13, 13)])) B.pre
  have hown : s.vm.findClass RL = some m.cls := findClass_of_methodNamed B.named
  have hlocks := B.notSynchronized
  have hS : va_S A s.heap s.heap [] := va_S.rf
  have hl := lv_entry ([.ref x, .int u0, .int u1, .ref qo]) (n := 5) (Nat.le_of_ble_eq_true rfl)
  rw [lg_entry_eq]
  generalize (lg_sl ([.ref x, .int u0, .int u1, .ref qo]) ++ List.replicate (5 - (lg_sl ([.ref x, .int u0, .int u1, .ref qo])).length) Slot.unset).toArray = ls at hl ⊢
  have hl : lv_has ls 5 [(0, .ref x), (1, .int u0), (2, .int u1), (3, .ref qo)] := hl
  refine wq (fun Q hQ => ?_)
  obtain ⟨H, hH⟩ : ∃ H : Heap, H = s.heap := ⟨_, rfl⟩
  obtain ⟨locs, hlc⟩ : ∃ L : List Loc, L = [] := ⟨_, rfl⟩
  have hLW : LWI D A cs x mo qo H := by rw [hH]; exact hLW
  have hS : va_S A s.heap H locs := by rw [hH, hlc]; exact hS
  refine wHL hH hlc ?_
  refine lv_aload_n hx hb dL_step_0 rfl (lv_at hl 3 rfl) ?_
  refine lv_iconst (v := 0) hx hb dL_step_1 (by decide) ?_
  refine lv_aload_n hx hb dL_step_2 rfl (lv_at hl 0 rfl) ?_
  refine lv_iload_n hx hb dL_step_3 rfl (lv_at hl 1 rfl) ?_
  refine lv_iload_n hx hb dL_step_4 rfl (lv_at hl 2 rfl) ?_
  refine lc_X9_step (rest := [.int 0, .ref qo]) hl9 ⟨hx, hb, hml, hown, hts⟩ hK hE hS hA hLW hl.1 (Nat.le_of_ble_eq_true rfl) dL_step_5 ⟨(Nat.le_of_ble_eq_true rfl), (Nat.le_of_ble_eq_true rfl)⟩ ⟨by show _ ≤ 3; omega, by show _ ≤ 21; omega⟩ (fun ce q9 H locs hLW hS h1 h2 h3 => ?_) (fun r H locs hLW hS => ?_)
  · refine vx_catch hown [] ⟨0, 10, 13, 13⟩ [] (by rw [vx_table (x := yL_step) B (hts _ List.mem_cons_self)]; rfl) (fun z h => by cases h) (by decide) (by decide) (hts (.classLink RL 13 nsE) (List.mem_cons_of_mem _ (wr31 _ (List.mem_of_getElem? (i := 23) rfl)))) (va_Nw.use rfl hE.2.2.2.2.2.2.2.2.2.2.2.2.2.2.1) h1 h2 h3 ?_
    refine lv_astore (lv' := [(4, .ref q9), (0, .ref x), (1, .int u0), (2, .int u1), (3, .ref qo)]) hx hb dL_step_13 hl (by decide) rfl (fun ls hl => ?_)
    refine lv_iconst (v := 1) hx hb dL_step_15 (by decide) ?_
    rw [hQ]
    exact W.iret (v := 1) hx hb hr (fun t ht hW => ⟨⟨1, (), rfl, trivial, (show LWI D A cs x mo qo t.heap by rw [ht]; exact hLW)⟩, hS.F ht⟩) hS.2.2 dL_step_16
  · skip
    refine m_i2l (X := r.toInt) hx hb dL_step_8 rfl (fun r2 e2 g2 => ?_)
    refine lc_out hx hb hK hS hLW dL_step_9 (fun H locs hLW hS => ?_)
    refine lv_goto (tgt := 17) hx hb dL_step_10 (by decide) ?_
    refine lv_iconst (v := 0) hx hb dL_step_17 (by decide) ?_
    rw [hQ]
    exact W.iret (v := 0) hx hb hr (fun t ht hW => ⟨⟨0, (), rfl, trivial, (show LWI D A cs x mo qo t.heap by rw [ht]; exact hLW)⟩, hS.F ht⟩) hS.2.2 dL_step_18
def rmL_spell : Room := { frames := 180, cells := 3, slots := 21, locals := 3600 }
set_option maxHeartbeats 4000000 in
set_option maxRecDepth 100000 in
theorem tL_spell {l : Launch} (hl9 : l.stackTraces = false) {D : va_G} {A : Nat → Prop} {K : Nat → Nat → Nat} {cs : Nat → ClassId} {x mo qo : Nat} (u0 : Int32) : Met l yL_spell (wGW yL_spell cL_spell 4 (some .int) [(0, 9, 12, 13)]) rmL_spell (lPre D A K cs x mo qo [.ref x, .int u0, .ref qo]) (lPost D A cs x mo qo) 3 21 A := by
  refine va_MetW (cc := cL_spell) (maxL := 4) (ret := some .int) (hh := [(0, 9, 12, 13)]) (by decide) rfl ?_
  intro p e s m args below meth c s₁ B hml hv
  obtain ⟨rfl, hA, hLW, hK, hE⟩ := hv
  have hx := B.exec
  have hb := B.bytes
  have hr := B.returns
  have hts := atoms_spec (ws := (wGW yL_spell cL_spell 4 (some .int) [(0, 9, 12, 13)])) B.pre
  have hown : s.vm.findClass RL = some m.cls := findClass_of_methodNamed B.named
  have hlocks := B.notSynchronized
  have hS : va_S A s.heap s.heap [] := va_S.rf
  have hl := lv_entry ([.ref x, .int u0, .ref qo]) (n := 4) (Nat.le_of_ble_eq_true rfl)
  rw [lg_entry_eq]
  generalize (lg_sl ([.ref x, .int u0, .ref qo]) ++ List.replicate (4 - (lg_sl ([.ref x, .int u0, .ref qo])).length) Slot.unset).toArray = ls at hl ⊢
  have hl : lv_has ls 4 [(0, .ref x), (1, .int u0), (2, .ref qo)] := hl
  refine wq (fun Q hQ => ?_)
  obtain ⟨H, hH⟩ : ∃ H : Heap, H = s.heap := ⟨_, rfl⟩
  obtain ⟨locs, hlc⟩ : ∃ L : List Loc, L = [] := ⟨_, rfl⟩
  have hLW : LWI D A cs x mo qo H := by rw [hH]; exact hLW
  have hS : va_S A s.heap H locs := by rw [hH, hlc]; exact hS
  refine wHL hH hlc ?_
  refine lv_aload_n hx hb dL_spell_0 rfl (lv_at hl 2 rfl) ?_
  refine lv_iconst (v := 0) hx hb dL_spell_1 (by decide) ?_
  refine lv_aload_n hx hb dL_spell_2 rfl (lv_at hl 0 rfl) ?_
  refine lv_iload_n hx hb dL_spell_3 rfl (lv_at hl 1 rfl) ?_
  refine lc_X9_spell (rest := [.int 0, .ref qo]) hl9 ⟨hx, hb, hml, hown, hts⟩ hK hE hS hA hLW hl.1 (Nat.le_of_ble_eq_true rfl) dL_spell_4 ⟨(Nat.le_of_ble_eq_true rfl), (Nat.le_of_ble_eq_true rfl)⟩ ⟨by show _ ≤ 3; omega, by show _ ≤ 21; omega⟩ (fun ce q9 H locs hLW hS h1 h2 h3 => ?_) (fun r H locs hLW hS => ?_)
  · refine vx_catch hown [] ⟨0, 9, 12, 13⟩ [] (by rw [vx_table (x := yL_spell) B (hts _ List.mem_cons_self)]; rfl) (fun z h => by cases h) (by decide) (by decide) (hts (.classLink RL 13 nsE) (List.mem_cons_of_mem _ (wr31 _ (List.mem_of_getElem? (i := 23) rfl)))) (va_Nw.use rfl hE.2.2.2.2.2.2.2.2.2.2.2.2.2.2.1) h1 h2 h3 ?_
    refine lv_astore_n (lv' := [(3, .ref q9), (0, .ref x), (1, .int u0), (2, .ref qo)]) hx hb dL_spell_12 rfl hl (by decide) rfl (fun ls hl => ?_)
    refine lv_iconst (v := 1) hx hb dL_spell_13 (by decide) ?_
    rw [hQ]
    exact W.iret (v := 1) hx hb hr (fun t ht hW => ⟨⟨1, (), rfl, trivial, (show LWI D A cs x mo qo t.heap by rw [ht]; exact hLW)⟩, hS.F ht⟩) hS.2.2 dL_spell_14
  · skip
    refine m_i2l (X := r.toInt) hx hb dL_spell_7 rfl (fun r2 e2 g2 => ?_)
    refine lc_out hx hb hK hS hLW dL_spell_8 (fun H locs hLW hS => ?_)
    refine lv_goto (tgt := 15) hx hb dL_spell_9 (by decide) ?_
    refine lv_iconst (v := 0) hx hb dL_spell_15 (by decide) ?_
    rw [hQ]
    exact W.iret (v := 0) hx hb hr (fun t ht hW => ⟨⟨0, (), rfl, trivial, (show LWI D A cs x mo qo t.heap by rw [ht]; exact hLW)⟩, hS.F ht⟩) hS.2.2 dL_spell_16
def rmL_octet : Room := { frames := 60, cells := 1, slots := 6, locals := 1200 }
set_option maxHeartbeats 4000000 in
set_option maxRecDepth 100000 in
theorem tL_octet {l : Launch} (hl9 : l.stackTraces = false) {D : va_G} {A : Nat → Prop} {K : Nat → Nat → Nat} {cs : Nat → ClassId} {x mo qo : Nat} (u0 : Int32) : Met l yL_octet (wGW yL_octet cL_octet 4 (some .int) [(0, 9, 12, 13)]) rmL_octet (lPre D A K cs x mo qo [.ref x, .int u0, .ref qo]) (lPost D A cs x mo qo) 1 6 A := by
  refine va_MetW (cc := cL_octet) (maxL := 4) (ret := some .int) (hh := [(0, 9, 12, 13)]) (by decide) rfl ?_
  intro p e s m args below meth c s₁ B hml hv
  obtain ⟨rfl, hA, hLW, hK, hE⟩ := hv
  have hx := B.exec
  have hb := B.bytes
  have hr := B.returns
  have hts := atoms_spec (ws := (wGW yL_octet cL_octet 4 (some .int) [(0, 9, 12, 13)])) B.pre
  have hown : s.vm.findClass RL = some m.cls := findClass_of_methodNamed B.named
  have hlocks := B.notSynchronized
  have hS : va_S A s.heap s.heap [] := va_S.rf
  have hl := lv_entry ([.ref x, .int u0, .ref qo]) (n := 4) (Nat.le_of_ble_eq_true rfl)
  rw [lg_entry_eq]
  generalize (lg_sl ([.ref x, .int u0, .ref qo]) ++ List.replicate (4 - (lg_sl ([.ref x, .int u0, .ref qo])).length) Slot.unset).toArray = ls at hl ⊢
  have hl : lv_has ls 4 [(0, .ref x), (1, .int u0), (2, .ref qo)] := hl
  refine wq (fun Q hQ => ?_)
  obtain ⟨H, hH⟩ : ∃ H : Heap, H = s.heap := ⟨_, rfl⟩
  obtain ⟨locs, hlc⟩ : ∃ L : List Loc, L = [] := ⟨_, rfl⟩
  have hLW : LWI D A cs x mo qo H := by rw [hH]; exact hLW
  have hS : va_S A s.heap H locs := by rw [hH, hlc]; exact hS
  refine wHL hH hlc ?_
  refine lv_aload_n hx hb dL_octet_0 rfl (lv_at hl 2 rfl) ?_
  refine lv_iconst (v := 0) hx hb dL_octet_1 (by decide) ?_
  refine lv_aload_n hx hb dL_octet_2 rfl (lv_at hl 0 rfl) ?_
  refine lv_iload_n hx hb dL_octet_3 rfl (lv_at hl 1 rfl) ?_
  refine lc_X9_octet (rest := [.int 0, .ref qo]) hl9 ⟨hx, hb, hml, hown, hts⟩ hK hE hS hA hLW hl.1 (Nat.le_of_ble_eq_true rfl) dL_octet_4 ⟨(Nat.le_of_ble_eq_true rfl), (Nat.le_of_ble_eq_true rfl)⟩ ⟨by show _ ≤ 1; omega, by show _ ≤ 6; omega⟩ (fun ce q9 H locs hLW hS h1 h2 h3 => ?_) (fun r H locs hLW hS => ?_)
  · refine vx_catch hown [] ⟨0, 9, 12, 13⟩ [] (by rw [vx_table (x := yL_octet) B (hts _ List.mem_cons_self)]; rfl) (fun z h => by cases h) (by decide) (by decide) (hts (.classLink RL 13 nsE) (List.mem_cons_of_mem _ (wr31 _ (List.mem_of_getElem? (i := 23) rfl)))) (va_Nw.use rfl hE.2.2.2.2.2.2.2.2.2.2.2.2.2.2.1) h1 h2 h3 ?_
    refine lv_astore_n (lv' := [(3, .ref q9), (0, .ref x), (1, .int u0), (2, .ref qo)]) hx hb dL_octet_12 rfl hl (by decide) rfl (fun ls hl => ?_)
    refine lv_iconst (v := 1) hx hb dL_octet_13 (by decide) ?_
    rw [hQ]
    exact W.iret (v := 1) hx hb hr (fun t ht hW => ⟨⟨1, (), rfl, trivial, (show LWI D A cs x mo qo t.heap by rw [ht]; exact hLW)⟩, hS.F ht⟩) hS.2.2 dL_octet_14
  · skip
    refine m_i2l (X := r.toInt) hx hb dL_octet_7 rfl (fun r2 e2 g2 => ?_)
    refine lc_out hx hb hK hS hLW dL_octet_8 (fun H locs hLW hS => ?_)
    refine lv_goto (tgt := 15) hx hb dL_octet_9 (by decide) ?_
    refine lv_iconst (v := 0) hx hb dL_octet_15 (by decide) ?_
    rw [hQ]
    exact W.iret (v := 0) hx hb hr (fun t ht hW => ⟨⟨0, (), rfl, trivial, (show LWI D A cs x mo qo t.heap by rw [ht]; exact hLW)⟩, hS.F ht⟩) hS.2.2 dL_octet_16
def rmL_run : Room := { frames := 240, cells := 306, slots := 2142, locals := 4800 }
set_option maxHeartbeats 4000000 in
set_option maxRecDepth 100000 in
theorem tL_run {l : Launch} (hl9 : l.stackTraces = false) {D : va_G} {A : Nat → Prop} {K : Nat → Nat → Nat} {cs : Nat → ClassId} {x mo qo : Nat} : Met l yL_run (wGW yL_run cL_run 3 (some .int) [(0, 8, 11, 26)]) rmL_run (lPre D A K cs x mo qo [.ref x, .ref qo]) (lPost D A cs x mo qo) 306 2142 A := by
  refine va_MetW (cc := cL_run) (maxL := 3) (ret := some .int) (hh := [(0, 8, 11, 26)]) (by decide) rfl ?_
  intro p e s m args below meth c s₁ B hml hv
  obtain ⟨rfl, hA, hLW, hK, hE⟩ := hv
  have hx := B.exec
  have hb := B.bytes
  have hr := B.returns
  have hts := atoms_spec (ws := (wGW yL_run cL_run 3 (some .int) [(0, 8, 11, 26)])) B.pre
  have hown : s.vm.findClass RL = some m.cls := findClass_of_methodNamed B.named
  have hlocks := B.notSynchronized
  have hS : va_S A s.heap s.heap [] := va_S.rf
  have hl := lv_entry ([.ref x, .ref qo]) (n := 3) (Nat.le_of_ble_eq_true rfl)
  rw [lg_entry_eq]
  generalize (lg_sl ([.ref x, .ref qo]) ++ List.replicate (3 - (lg_sl ([.ref x, .ref qo])).length) Slot.unset).toArray = ls at hl ⊢
  have hl : lv_has ls 3 [(0, .ref x), (1, .ref qo)] := hl
  refine wq (fun Q hQ => ?_)
  obtain ⟨H, hH⟩ : ∃ H : Heap, H = s.heap := ⟨_, rfl⟩
  obtain ⟨locs, hlc⟩ : ∃ L : List Loc, L = [] := ⟨_, rfl⟩
  have hLW : LWI D A cs x mo qo H := by rw [hH]; exact hLW
  have hS : va_S A s.heap H locs := by rw [hH, hlc]; exact hS
  refine wHL hH hlc ?_
  refine lv_aload_n hx hb dL_run_0 rfl (lv_at hl 1 rfl) ?_
  refine lv_iconst (v := 0) hx hb dL_run_1 (by decide) ?_
  refine lv_aload_n hx hb dL_run_2 rfl (lv_at hl 0 rfl) ?_
  refine lc_X9_run (rest := [.int 0, .ref qo]) hl9 ⟨hx, hb, hml, hown, hts⟩ hK hE hS hA hLW hl.1 (Nat.le_of_ble_eq_true rfl) dL_run_3 ⟨(Nat.le_of_ble_eq_true rfl), (Nat.le_of_ble_eq_true rfl)⟩ ⟨by show _ ≤ 306; omega, by show _ ≤ 2142; omega⟩ (fun ce q9 H locs hLW hS h1 h2 h3 => ?_) (fun r H locs hLW hS => ?_)
  · refine vx_catch hown [] ⟨0, 8, 11, 26⟩ [] (by rw [vx_table (x := yL_run) B (hts _ List.mem_cons_self)]; rfl) (fun z h => by cases h) (by decide) (by decide) (hts (.classLink RL 26 isE) (List.mem_cons_of_mem _ (wr35 _ (List.mem_of_getElem? (i := 8) rfl)))) (va_Nw.use rfl hE.2.2.2.2.2.2.2.2.2.2.2.2.2.2.2.1) h1 h2 h3 ?_
    refine lv_astore_n (lv' := [(2, .ref q9), (0, .ref x), (1, .ref qo)]) hx hb dL_run_11 rfl hl (by decide) rfl (fun ls hl => ?_)
    refine lv_iconst (v := 1) hx hb dL_run_12 (by decide) ?_
    rw [hQ]
    exact W.iret (v := 1) hx hb hr (fun t ht hW => ⟨⟨1, (), rfl, trivial, (show LWI D A cs x mo qo t.heap by rw [ht]; exact hLW)⟩, hS.F ht⟩) hS.2.2 dL_run_13
  · skip
    refine m_i2l (X := r.toInt) hx hb dL_run_6 rfl (fun r2 e2 g2 => ?_)
    refine lc_out hx hb hK hS hLW dL_run_7 (fun H locs hLW hS => ?_)
    refine lv_goto (tgt := 14) hx hb dL_run_8 (by decide) ?_
    refine lv_iconst (v := 0) hx hb dL_run_14 (by decide) ?_
    rw [hQ]
    exact W.iret (v := 0) hx hb hr (fun t ht hW => ⟨⟨0, (), rfl, trivial, (show LWI D A cs x mo qo t.heap by rw [ht]; exact hLW)⟩, hS.F ht⟩) hS.2.2 dL_run_15
def rmL_outcome : Room := { frames := 60, cells := 1, slots := 6, locals := 1200 }
set_option maxHeartbeats 4000000 in
set_option maxRecDepth 100000 in
theorem tL_outcome {l : Launch} (hl9 : l.stackTraces = false) {D : va_G} {A : Nat → Prop} {K : Nat → Nat → Nat} {cs : Nat → ClassId} {x mo qo : Nat} (u0 : Int32) : Met l yL_outcome (wGW yL_outcome cL_outcome 4 (some .int) [(0, 9, 12, 13)]) rmL_outcome (lPre D A K cs x mo qo [.ref x, .int u0, .ref qo]) (lPost D A cs x mo qo) 1 6 A := by
  refine va_MetW (cc := cL_outcome) (maxL := 4) (ret := some .int) (hh := [(0, 9, 12, 13)]) (by decide) rfl ?_
  intro p e s m args below meth c s₁ B hml hv
  obtain ⟨rfl, hA, hLW, hK, hE⟩ := hv
  have hx := B.exec
  have hb := B.bytes
  have hr := B.returns
  have hts := atoms_spec (ws := (wGW yL_outcome cL_outcome 4 (some .int) [(0, 9, 12, 13)])) B.pre
  have hown : s.vm.findClass RL = some m.cls := findClass_of_methodNamed B.named
  have hlocks := B.notSynchronized
  have hS : va_S A s.heap s.heap [] := va_S.rf
  have hl := lv_entry ([.ref x, .int u0, .ref qo]) (n := 4) (Nat.le_of_ble_eq_true rfl)
  rw [lg_entry_eq]
  generalize (lg_sl ([.ref x, .int u0, .ref qo]) ++ List.replicate (4 - (lg_sl ([.ref x, .int u0, .ref qo])).length) Slot.unset).toArray = ls at hl ⊢
  have hl : lv_has ls 4 [(0, .ref x), (1, .int u0), (2, .ref qo)] := hl
  refine wq (fun Q hQ => ?_)
  obtain ⟨H, hH⟩ : ∃ H : Heap, H = s.heap := ⟨_, rfl⟩
  obtain ⟨locs, hlc⟩ : ∃ L : List Loc, L = [] := ⟨_, rfl⟩
  have hLW : LWI D A cs x mo qo H := by rw [hH]; exact hLW
  have hS : va_S A s.heap H locs := by rw [hH, hlc]; exact hS
  refine wHL hH hlc ?_
  refine lv_aload_n hx hb dL_outcome_0 rfl (lv_at hl 2 rfl) ?_
  refine lv_iconst (v := 0) hx hb dL_outcome_1 (by decide) ?_
  refine lv_aload_n hx hb dL_outcome_2 rfl (lv_at hl 0 rfl) ?_
  refine lv_iload_n hx hb dL_outcome_3 rfl (lv_at hl 1 rfl) ?_
  refine lc_X9_outcome (rest := [.int 0, .ref qo]) hl9 ⟨hx, hb, hml, hown, hts⟩ hK hE hS hA hLW hl.1 (Nat.le_of_ble_eq_true rfl) dL_outcome_4 ⟨(Nat.le_of_ble_eq_true rfl), (Nat.le_of_ble_eq_true rfl)⟩ ⟨by show _ ≤ 1; omega, by show _ ≤ 6; omega⟩ (fun ce q9 H locs hLW hS h1 h2 h3 => ?_) (fun r H locs hLW hS => ?_)
  · refine vx_catch hown [] ⟨0, 9, 12, 13⟩ [] (by rw [vx_table (x := yL_outcome) B (hts _ List.mem_cons_self)]; rfl) (fun z h => by cases h) (by decide) (by decide) (hts (.classLink RL 13 nsE) (List.mem_cons_of_mem _ (wr31 _ (List.mem_of_getElem? (i := 23) rfl)))) (va_Nw.use rfl hE.2.2.2.2.2.2.2.2.2.2.2.2.2.2.1) h1 h2 h3 ?_
    refine lv_astore_n (lv' := [(3, .ref q9), (0, .ref x), (1, .int u0), (2, .ref qo)]) hx hb dL_outcome_12 rfl hl (by decide) rfl (fun ls hl => ?_)
    refine lv_iconst (v := 1) hx hb dL_outcome_13 (by decide) ?_
    rw [hQ]
    exact W.iret (v := 1) hx hb hr (fun t ht hW => ⟨⟨1, (), rfl, trivial, (show LWI D A cs x mo qo t.heap by rw [ht]; exact hLW)⟩, hS.F ht⟩) hS.2.2 dL_outcome_14
  · skip
    refine m_i2l (X := r.toInt) hx hb dL_outcome_7 rfl (fun r2 e2 g2 => ?_)
    refine lc_out hx hb hK hS hLW dL_outcome_8 (fun H locs hLW hS => ?_)
    refine lv_goto (tgt := 15) hx hb dL_outcome_9 (by decide) ?_
    refine lv_iconst (v := 0) hx hb dL_outcome_15 (by decide) ?_
    rw [hQ]
    exact W.iret (v := 0) hx hb hr (fun t ht hW => ⟨⟨0, (), rfl, trivial, (show LWI D A cs x mo qo t.heap by rw [ht]; exact hLW)⟩, hS.F ht⟩) hS.2.2 dL_outcome_16
def rmL_value : Room := { frames := 100, cells := 1, slots := 6, locals := 2000 }
set_option maxHeartbeats 4000000 in
set_option maxRecDepth 100000 in
theorem tL_value {l : Launch} (hl9 : l.stackTraces = false) {D : va_G} {A : Nat → Prop} {K : Nat → Nat → Nat} {cs : Nat → ClassId} {x mo qo : Nat} (u0 u1 u2 u3 : Int32) : Met l yL_value (wGW yL_value cL_value 7 (some .int) [(0, 13, 16, 13)]) rmL_value (lPre D A K cs x mo qo [.ref x, .int u0, .int u1, .int u2, .int u3, .ref qo]) (lPost D A cs x mo qo) 1 6 A := by
  refine va_MetW (cc := cL_value) (maxL := 7) (ret := some .int) (hh := [(0, 13, 16, 13)]) (by decide) rfl ?_
  intro p e s m args below meth c s₁ B hml hv
  obtain ⟨rfl, hA, hLW, hK, hE⟩ := hv
  have hx := B.exec
  have hb := B.bytes
  have hr := B.returns
  have hts := atoms_spec (ws := (wGW yL_value cL_value 7 (some .int) [(0, 13, 16, 13)])) B.pre
  have hown : s.vm.findClass RL = some m.cls := findClass_of_methodNamed B.named
  have hlocks := B.notSynchronized
  have hS : va_S A s.heap s.heap [] := va_S.rf
  have hl := lv_entry ([.ref x, .int u0, .int u1, .int u2, .int u3, .ref qo]) (n := 7) (Nat.le_of_ble_eq_true rfl)
  rw [lg_entry_eq]
  generalize (lg_sl ([.ref x, .int u0, .int u1, .int u2, .int u3, .ref qo]) ++ List.replicate (7 - (lg_sl ([.ref x, .int u0, .int u1, .int u2, .int u3, .ref qo])).length) Slot.unset).toArray = ls at hl ⊢
  have hl : lv_has ls 7 [(0, .ref x), (1, .int u0), (2, .int u1), (3, .int u2), (4, .int u3), (5, .ref qo)] := hl
  refine wq (fun Q hQ => ?_)
  obtain ⟨H, hH⟩ : ∃ H : Heap, H = s.heap := ⟨_, rfl⟩
  obtain ⟨locs, hlc⟩ : ∃ L : List Loc, L = [] := ⟨_, rfl⟩
  have hLW : LWI D A cs x mo qo H := by rw [hH]; exact hLW
  have hS : va_S A s.heap H locs := by rw [hH, hlc]; exact hS
  refine wHL hH hlc ?_
  refine lv_aload hx hb dL_value_0 (lv_at hl 5 rfl) ?_
  refine lv_iconst (v := 0) hx hb dL_value_2 (by decide) ?_
  refine lv_aload_n hx hb dL_value_3 rfl (lv_at hl 0 rfl) ?_
  refine lv_iload_n hx hb dL_value_4 rfl (lv_at hl 1 rfl) ?_
  refine lv_iload_n hx hb dL_value_5 rfl (lv_at hl 2 rfl) ?_
  refine lv_iload_n hx hb dL_value_6 rfl (lv_at hl 3 rfl) ?_
  refine lv_iload hx hb dL_value_7 (lv_at hl 4 rfl) ?_
  refine lc_X9_value (rest := [.int 0, .ref qo]) hl9 ⟨hx, hb, hml, hown, hts⟩ hK hE hS hA hLW hl.1 (Nat.le_of_ble_eq_true rfl) dL_value_9 ⟨(Nat.le_of_ble_eq_true rfl), (Nat.le_of_ble_eq_true rfl)⟩ ⟨by show _ ≤ 1; omega, by show _ ≤ 6; omega⟩ (fun ce q9 H locs hLW hS h1 h2 h3 => ?_) (fun r H locs hLW hS => ?_)
  · refine vx_catch hown [] ⟨0, 13, 16, 13⟩ [] (by rw [vx_table (x := yL_value) B (hts _ List.mem_cons_self)]; rfl) (fun z h => by cases h) (by decide) (by decide) (hts (.classLink RL 13 nsE) (List.mem_cons_of_mem _ (wr31 _ (List.mem_of_getElem? (i := 23) rfl)))) (va_Nw.use rfl hE.2.2.2.2.2.2.2.2.2.2.2.2.2.2.1) h1 h2 h3 ?_
    refine lv_astore (lv' := [(6, .ref q9), (0, .ref x), (1, .int u0), (2, .int u1), (3, .int u2), (4, .int u3), (5, .ref qo)]) hx hb dL_value_16 hl (by decide) rfl (fun ls hl => ?_)
    refine lv_iconst (v := 1) hx hb dL_value_18 (by decide) ?_
    rw [hQ]
    exact W.iret (v := 1) hx hb hr (fun t ht hW => ⟨⟨1, (), rfl, trivial, (show LWI D A cs x mo qo t.heap by rw [ht]; exact hLW)⟩, hS.F ht⟩) hS.2.2 dL_value_19
  · skip
    refine lc_out hx hb hK hS hLW dL_value_12 (fun H locs hLW hS => ?_)
    refine lv_goto (tgt := 20) hx hb dL_value_13 (by decide) ?_
    refine lv_iconst (v := 0) hx hb dL_value_20 (by decide) ?_
    rw [hQ]
    exact W.iret (v := 0) hx hb hr (fun t ht hW => ⟨⟨0, (), rfl, trivial, (show LWI D A cs x mo qo t.heap by rw [ht]; exact hLW)⟩, hS.F ht⟩) hS.2.2 dL_value_21
def rmL_marked : Room := { frames := 80, cells := 1, slots := 6, locals := 1600 }
set_option maxHeartbeats 4000000 in
set_option maxRecDepth 100000 in
theorem tL_marked {l : Launch} (hl9 : l.stackTraces = false) {D : va_G} {A : Nat → Prop} {K : Nat → Nat → Nat} {cs : Nat → ClassId} {x mo qo : Nat} (u0 : Int32) : Met l yL_marked (wGW yL_marked cL_marked 4 (some .int) [(0, 8, 11, 13)]) rmL_marked (lPre D A K cs x mo qo [.ref x, .int u0, .ref qo]) (lPost D A cs x mo qo) 1 6 A := by
  refine va_MetW (cc := cL_marked) (maxL := 4) (ret := some .int) (hh := [(0, 8, 11, 13)]) (by decide) rfl ?_
  intro p e s m args below meth c s₁ B hml hv
  obtain ⟨rfl, hA, hLW, hK, hE⟩ := hv
  have hx := B.exec
  have hb := B.bytes
  have hr := B.returns
  have hts := atoms_spec (ws := (wGW yL_marked cL_marked 4 (some .int) [(0, 8, 11, 13)])) B.pre
  have hown : s.vm.findClass RL = some m.cls := findClass_of_methodNamed B.named
  have hlocks := B.notSynchronized
  have hS : va_S A s.heap s.heap [] := va_S.rf
  have hl := lv_entry ([.ref x, .int u0, .ref qo]) (n := 4) (Nat.le_of_ble_eq_true rfl)
  rw [lg_entry_eq]
  generalize (lg_sl ([.ref x, .int u0, .ref qo]) ++ List.replicate (4 - (lg_sl ([.ref x, .int u0, .ref qo])).length) Slot.unset).toArray = ls at hl ⊢
  have hl : lv_has ls 4 [(0, .ref x), (1, .int u0), (2, .ref qo)] := hl
  refine wq (fun Q hQ => ?_)
  obtain ⟨H, hH⟩ : ∃ H : Heap, H = s.heap := ⟨_, rfl⟩
  obtain ⟨locs, hlc⟩ : ∃ L : List Loc, L = [] := ⟨_, rfl⟩
  have hLW : LWI D A cs x mo qo H := by rw [hH]; exact hLW
  have hS : va_S A s.heap H locs := by rw [hH, hlc]; exact hS
  refine wHL hH hlc ?_
  refine lv_aload_n hx hb dL_marked_0 rfl (lv_at hl 2 rfl) ?_
  refine lv_iconst (v := 0) hx hb dL_marked_1 (by decide) ?_
  refine lv_aload_n hx hb dL_marked_2 rfl (lv_at hl 0 rfl) ?_
  refine lv_iload_n hx hb dL_marked_3 rfl (lv_at hl 1 rfl) ?_
  refine lc_X9_marked (rest := [.int 0, .ref qo]) hl9 ⟨hx, hb, hml, hown, hts⟩ hK hE hS hA hLW hl.1 (Nat.le_of_ble_eq_true rfl) dL_marked_4 ⟨(Nat.le_of_ble_eq_true rfl), (Nat.le_of_ble_eq_true rfl)⟩ ⟨by show _ ≤ 1; omega, by show _ ≤ 6; omega⟩ (fun ce q9 H locs hLW hS h1 h2 h3 => ?_) (fun r H locs hLW hS => ?_)
  · refine vx_catch hown [] ⟨0, 8, 11, 13⟩ [] (by rw [vx_table (x := yL_marked) B (hts _ List.mem_cons_self)]; rfl) (fun z h => by cases h) (by decide) (by decide) (hts (.classLink RL 13 nsE) (List.mem_cons_of_mem _ (wr31 _ (List.mem_of_getElem? (i := 23) rfl)))) (va_Nw.use rfl hE.2.2.2.2.2.2.2.2.2.2.2.2.2.2.1) h1 h2 h3 ?_
    refine lv_astore_n (lv' := [(3, .ref q9), (0, .ref x), (1, .int u0), (2, .ref qo)]) hx hb dL_marked_11 rfl hl (by decide) rfl (fun ls hl => ?_)
    refine lv_iconst (v := 1) hx hb dL_marked_12 (by decide) ?_
    rw [hQ]
    exact W.iret (v := 1) hx hb hr (fun t ht hW => ⟨⟨1, (), rfl, trivial, (show LWI D A cs x mo qo t.heap by rw [ht]; exact hLW)⟩, hS.F ht⟩) hS.2.2 dL_marked_13
  · skip
    refine lc_out hx hb hK hS hLW dL_marked_7 (fun H locs hLW hS => ?_)
    refine lv_goto (tgt := 14) hx hb dL_marked_8 (by decide) ?_
    refine lv_iconst (v := 0) hx hb dL_marked_14 (by decide) ?_
    rw [hQ]
    exact W.iret (v := 0) hx hb hr (fun t ht hW => ⟨⟨0, (), rfl, trivial, (show LWI D A cs x mo qo t.heap by rw [ht]; exact hLW)⟩, hS.F ht⟩) hS.2.2 dL_marked_15
