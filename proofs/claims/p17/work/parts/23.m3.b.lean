set_option maxHeartbeats 4000000 in
set_option maxRecDepth 100000 in
theorem tX10_goB {l : Launch} {D : va_G} {K : Nat → Nat → Nat} {cs : Nat → ClassId} {q : Nat → Nat} {v_thrown v_taped v_size v_to v_kind v_from v_letterMany v_isBeyond v_suffix v_steps v_fault v_hasProgram v_wrong v_wrongAt v_variable v_numberKind v_takes v_outed v_creatures v_arrays v_cells v_marks v_came v_guessed v_right v_taken v_sort v_kindAt v_reached v_looked : Int32} {a_tape a_text a_act a_guess a_take a_begin a_finish a_to1 a_one a_two a_what a_ats a_atVar a_atNumber a_atomSort a_atomKind a_out a_varSort a_varKind a_creature a_arrayClass a_arrayFrom a_arrayLong a_cellSort a_cellKind a_asideSort a_asideKind a_outcome a_markSort a_markKind a_markClass a_index : Nat → Int32} {v_letters v_digits v_number v_value : Int64} {a_atomValue a_varValue a_cellValue a_asideValue a_markValue : Nat → Int64} (p_0 : LX0 v_size v_to v_isBeyond) : CtV l yX10_go (wG yX10_go cX10_go 2 none) rmX10_go D (mwT cs) K [.ref (q 0)] (mw cs q v_thrown a_tape v_taped v_size v_to v_kind v_from v_letters v_letterMany v_digits v_isBeyond v_suffix v_steps v_fault v_hasProgram a_text a_act a_guess a_take a_begin a_finish a_to1 a_one a_two a_what a_ats a_atVar a_atNumber a_atomSort a_atomKind a_atomValue v_wrong v_wrongAt v_variable v_number v_numberKind v_takes a_out v_outed a_varSort a_varKind a_varValue a_creature v_creatures a_arrayClass a_arrayFrom a_arrayLong v_arrays v_cells a_cellSort a_cellKind a_cellValue a_asideSort a_asideKind a_asideValue a_outcome v_marks v_came v_guessed v_right v_taken a_markSort a_markKind a_markClass a_markValue v_sort v_kindAt v_value a_index v_reached v_looked) (fun w1 => ∃ (v_to' : Int32) (v_kind' : Int32) (v_from' : Int32) (v_letters' : Int64) (v_letterMany' : Int32) (v_digits' : Int64) (v_isBeyond' : Int32) (v_suffix' : Int32), w1 = (mw cs q v_thrown a_tape v_taped v_size v_to' v_kind' v_from' v_letters' v_letterMany' v_digits' v_isBeyond' v_suffix' v_steps v_fault v_hasProgram a_text a_act a_guess a_take a_begin a_finish a_to1 a_one a_two a_what a_ats a_atVar a_atNumber a_atomSort a_atomKind a_atomValue v_wrong v_wrongAt v_variable v_number v_numberKind v_takes a_out v_outed a_varSort a_varKind a_varValue a_creature v_creatures a_arrayClass a_arrayFrom a_arrayLong v_arrays v_cells a_cellSort a_cellKind a_cellValue a_asideSort a_asideKind a_asideValue a_outcome v_marks v_came v_guessed v_right v_taken a_markSort a_markKind a_markClass a_markValue v_sort v_kindAt v_value a_index v_reached v_looked) ∧ (LX a_tape v_size v_to' v_from' v_kind' v_letters' v_letterMany' v_isBeyond') ∧ (v_to.toInt ≤ v_to'.toInt) ∧ (ph a_tape v_to' ≤ ph a_tape v_to + 1)) 0 0 := by
  obtain ⟨⟨h1, h2⟩, ⟨h3, h4⟩, h5⟩ := p_0
  refine CtV.mono (tX10_go h1 h2 h3 h4 h5) ?_
  rintro w1 ⟨u1, u2, u3, u4, u5, u6, u7, u8, rfl, f0, f1, f2, f3, f4, f5, f6, f7, f8⟩
  exact ⟨u1, u2, u3, u4, u5, u6, u7, u8, rfl, ⟨⟨⟨h1, h2⟩, ⟨by omega, f3⟩, f7⟩, ⟨f0, f1⟩, f5, f6, f8⟩, f2, f4⟩
def rmX10_bad : Room := { frames := 20, cells := 0, slots := 0, locals := 400 }
set_option maxHeartbeats 4000000 in
set_option maxRecDepth 100000 in
theorem tX10_bad {l : Launch} {D : va_G} {K : Nat → Nat → Nat} {cs : Nat → ClassId} {q : Nat → Nat} {v_thrown v_taped v_size v_to v_kind v_from v_letterMany v_isBeyond v_suffix v_steps v_fault v_hasProgram v_wrong v_wrongAt v_variable v_numberKind v_takes v_outed v_creatures v_arrays v_cells v_marks v_came v_guessed v_right v_taken v_sort v_kindAt v_reached v_looked : Int32} {a_tape a_text a_act a_guess a_take a_begin a_finish a_to1 a_one a_two a_what a_ats a_atVar a_atNumber a_atomSort a_atomKind a_out a_varSort a_varKind a_creature a_arrayClass a_arrayFrom a_arrayLong a_cellSort a_cellKind a_asideSort a_asideKind a_outcome a_markSort a_markKind a_markClass a_index : Nat → Int32} {v_letters v_digits v_number v_value : Int64} {a_atomValue a_varValue a_cellValue a_asideValue a_markValue : Nat → Int64} (k9 : Int32) : CtI l yX10_bad (wG yX10_bad cX10_bad 2 (some .boolean)) rmX10_bad D (mwT cs) K [.ref (q 0), .int k9] (mw cs q v_thrown a_tape v_taped v_size v_to v_kind v_from v_letters v_letterMany v_digits v_isBeyond v_suffix v_steps v_fault v_hasProgram a_text a_act a_guess a_take a_begin a_finish a_to1 a_one a_two a_what a_ats a_atVar a_atNumber a_atomSort a_atomKind a_atomValue v_wrong v_wrongAt v_variable v_number v_numberKind v_takes a_out v_outed a_varSort a_varKind a_varValue a_creature v_creatures a_arrayClass a_arrayFrom a_arrayLong v_arrays v_cells a_cellSort a_cellKind a_cellValue a_asideSort a_asideKind a_asideValue a_outcome v_marks v_came v_guessed v_right v_taken a_markSort a_markKind a_markClass a_markValue v_sort v_kindAt v_value a_index v_reached v_looked) (fun r w1 => ∃ (v_wrong' : Int32) (v_wrongAt' : Int32), w1 = (mw cs q v_thrown a_tape v_taped v_size v_to v_kind v_from v_letters v_letterMany v_digits v_isBeyond v_suffix v_steps v_fault v_hasProgram a_text a_act a_guess a_take a_begin a_finish a_to1 a_one a_two a_what a_ats a_atVar a_atNumber a_atomSort a_atomKind a_atomValue v_wrong' v_wrongAt' v_variable v_number v_numberKind v_takes a_out v_outed a_varSort a_varKind a_varValue a_creature v_creatures a_arrayClass a_arrayFrom a_arrayLong v_arrays v_cells a_cellSort a_cellKind a_cellValue a_asideSort a_asideKind a_asideValue a_outcome v_marks v_came v_guessed v_right v_taken a_markSort a_markKind a_markClass a_markValue v_sort v_kindAt v_value a_index v_reached v_looked) ∧ (r.toInt = 0)) 0 0 := by
  intro sz
  refine Met.ofW (cc := cX10_bad) (maxL := 2) (ret := (some .boolean)) (by decide) rfl ?_
  intro p e s m args below meth c s₁ B hml hv
  obtain ⟨rfl, hsz, hP, hK, hD0, hE⟩ := hv
  have hx := B.exec
  have hb := B.bytes
  have hr := B.returns
  have hts := atoms_spec (ws := (wG yX10_bad cX10_bad 2 (some .boolean))) B.pre
  have hown : s.vm.findClass RX10 = some m.cls := findClass_of_methodNamed B.named
  have hlocks := B.notSynchronized
  subst hsz
  have hD := hD0.self (sz := s.heap.size)
  obtain ⟨A, hAe⟩ : ∃ A : Nat → Prop, A = va_A (mw cs q v_thrown a_tape v_taped v_size v_to v_kind v_from v_letters v_letterMany v_digits v_isBeyond v_suffix v_steps v_fault v_hasProgram a_text a_act a_guess a_take a_begin a_finish a_to1 a_one a_two a_what a_ats a_atVar a_atNumber a_atomSort a_atomKind a_atomValue v_wrong v_wrongAt v_variable v_number v_numberKind v_takes a_out v_outed a_varSort a_varKind a_varValue a_creature v_creatures a_arrayClass a_arrayFrom a_arrayLong v_arrays v_cells a_cellSort a_cellKind a_cellValue a_asideSort a_asideKind a_asideValue a_outcome v_marks v_came v_guessed v_right v_taken a_markSort a_markKind a_markClass a_markValue v_sort v_kindAt v_value a_index v_reached v_looked) s.heap.size := ⟨_, rfl⟩
  rw [← hAe] at hD hE
  have hA : ∀ q : Nat, s.heap.size ≤ q → A q := fun q h => by rw [hAe]; exact Or.inr h
  have hS : va_S A s.heap s.heap [] := va_S.rf
  have hl := lv_entry ([.ref (q 0), .int k9]) (n := 2) (Nat.le_of_ble_eq_true rfl)
  rw [lg_entry_eq]
  generalize (lg_sl ([.ref (q 0), .int k9]) ++ List.replicate (2 - (lg_sl ([.ref (q 0), .int k9])).length) Slot.unset).toArray = ls at hl ⊢
  have hl : lv_has ls 2 [(0, .ref (q 0)), (1, .int k9)] := hl
  refine wq (fun Q hQ => ?_)
  have hin : ∀ w ∈ wsX100, w ∈ (wG yX10_bad cX10_bad 2 (some .boolean)) := fun w h => List.mem_cons_of_mem _ (inlX10 w h)
  have kc0 : (0 : Int32).toInt = 0 := by decide
  have kc1 : (1 : Int32).toInt = 1 := by decide
  have k_22_15 := hts (.fieldLink RX10 273 "ArrayTrainerModel" "kind" "I") (List.mem_cons_of_mem _ (wr22 _ (List.mem_of_getElem? (i := 15) rfl)))
  have k_22_16 := hts (.fieldLink RX10 310 "ArrayTrainerModel" "wrong" "I") (List.mem_cons_of_mem _ (wr22 _ (List.mem_of_getElem? (i := 16) rfl)))
  have k_23_0 := hts (.fieldLink RX10 270 "ArrayTrainerModel" "from" "I") (List.mem_cons_of_mem _ (wr23 _ (List.mem_of_getElem? (i := 0) rfl)))
  have k_22_17 := hts (.fieldLink RX10 313 "ArrayTrainerModel" "wrongAt" "I") (List.mem_cons_of_mem _ (wr22 _ (List.mem_of_getElem? (i := 17) rfl)))
  obtain ⟨H, hH⟩ : ∃ H : Heap, H = s.heap := ⟨_, rfl⟩
  obtain ⟨locs, hlc⟩ : ∃ L : List Loc, L = [] := ⟨_, rfl⟩
  have hP : va_P D vwCl (mw cs q v_thrown a_tape v_taped v_size v_to v_kind v_from v_letters v_letterMany v_digits v_isBeyond v_suffix v_steps v_fault v_hasProgram a_text a_act a_guess a_take a_begin a_finish a_to1 a_one a_two a_what a_ats a_atVar a_atNumber a_atomSort a_atomKind a_atomValue v_wrong v_wrongAt v_variable v_number v_numberKind v_takes a_out v_outed a_varSort a_varKind a_varValue a_creature v_creatures a_arrayClass a_arrayFrom a_arrayLong v_arrays v_cells a_cellSort a_cellKind a_cellValue a_asideSort a_asideKind a_asideValue a_outcome v_marks v_came v_guessed v_right v_taken a_markSort a_markKind a_markClass a_markValue v_sort v_kindAt v_value a_index v_reached v_looked) H := by rw [hH]; exact hP
  have hS : va_S A s.heap H locs := by rw [hH, hlc]; exact hS
  refine wHL hH hlc ?_
  have b_k9 := iB k9
  refine lv_aload_n hx hb dX10_bad_0 rfl (lv_at hl 0 rfl) ?_
  refine lv_aload_n hx hb dX10_bad_1 rfl (lv_at hl 0 rfl) ?_
  refine va_get (D := D) (ci := 9) (v := .int v_kind) (C := RX10) (T := TX10) (N := 71) hx hb hts hin hown hK hP 0 rfl rfl 5 (by decide) k_22_15 (fun _ h9 => h9) rfl dX10_bad_2 ?_
  refine lv_iconst (v := 1) hx hb dX10_bad_5 (by decide) ?_
  have J14 : ∀ (s1_14 : Int32) (H : Heap) (locs : List Loc) (ls : Array Slot), va_P D vwCl (mw cs q v_thrown a_tape v_taped v_size v_to v_kind v_from v_letters v_letterMany v_digits v_isBeyond v_suffix v_steps v_fault v_hasProgram a_text a_act a_guess a_take a_begin a_finish a_to1 a_one a_two a_what a_ats a_atVar a_atNumber a_atomSort a_atomKind a_atomValue v_wrong v_wrongAt v_variable v_number v_numberKind v_takes a_out v_outed a_varSort a_varKind a_varValue a_creature v_creatures a_arrayClass a_arrayFrom a_arrayLong v_arrays v_cells a_cellSort a_cellKind a_cellValue a_asideSort a_asideKind a_asideValue a_outcome v_marks v_came v_guessed v_right v_taken a_markSort a_markKind a_markClass a_markValue v_sort v_kindAt v_value a_index v_reached v_looked) H → va_D A (mw cs q v_thrown a_tape v_taped v_size v_to v_kind v_from v_letters v_letterMany v_digits v_isBeyond v_suffix v_steps v_fault v_hasProgram a_text a_act a_guess a_take a_begin a_finish a_to1 a_one a_two a_what a_ats a_atVar a_atNumber a_atomSort a_atomKind a_atomValue v_wrong v_wrongAt v_variable v_number v_numberKind v_takes a_out v_outed a_varSort a_varKind a_varValue a_creature v_creatures a_arrayClass a_arrayFrom a_arrayLong v_arrays v_cells a_cellSort a_cellKind a_cellValue a_asideSort a_asideKind a_asideValue a_outcome v_marks v_came v_guessed v_right v_taken a_markSort a_markKind a_markClass a_markValue v_sort v_kindAt v_value a_index v_reached v_looked) → va_S A s.heap H locs → lv_has ls 2 [(0, .ref (q 0))] → W p l e (headSpec (wG yX10_bad cX10_bad 2 (some .boolean)) rmX10_bad).room s m ([.ref (q 0), .int k9] : List Value).toArray below meth c H locs 0 0 Q (F0 m 14 ls [.int s1_14, .ref (q 0)]) := by
    intro s1_14 H locs ls hP hD hS hl
    refine va_put (D := D) (ci := 9) (v := .int s1_14) (ty := .int) (C := RX10) (T := TX10) (N := 71) hx hb hts hin tyX10 tyX10_ok nmX10 hown hK hP hD hS 0 rfl rfl 31 (by decide) k_22_16 (fun _ h9 => h9) rfl (by decide +kernel) rfl rfl (Nat.le_of_ble_eq_true rfl) dX10_bad_14 (fun H locs hP hD hS => ?_)
    have hP : va_P D vwCl (mw cs q v_thrown a_tape v_taped v_size v_to v_kind v_from v_letters v_letterMany v_digits v_isBeyond v_suffix v_steps v_fault v_hasProgram a_text a_act a_guess a_take a_begin a_finish a_to1 a_one a_two a_what a_ats a_atVar a_atNumber a_atomSort a_atomKind a_atomValue s1_14 v_wrongAt v_variable v_number v_numberKind v_takes a_out v_outed a_varSort a_varKind a_varValue a_creature v_creatures a_arrayClass a_arrayFrom a_arrayLong v_arrays v_cells a_cellSort a_cellKind a_cellValue a_asideSort a_asideKind a_asideValue a_outcome v_marks v_came v_guessed v_right v_taken a_markSort a_markKind a_markClass a_markValue v_sort v_kindAt v_value a_index v_reached v_looked) H := hP
    have hD : va_D A (mw cs q v_thrown a_tape v_taped v_size v_to v_kind v_from v_letters v_letterMany v_digits v_isBeyond v_suffix v_steps v_fault v_hasProgram a_text a_act a_guess a_take a_begin a_finish a_to1 a_one a_two a_what a_ats a_atVar a_atNumber a_atomSort a_atomKind a_atomValue s1_14 v_wrongAt v_variable v_number v_numberKind v_takes a_out v_outed a_varSort a_varKind a_varValue a_creature v_creatures a_arrayClass a_arrayFrom a_arrayLong v_arrays v_cells a_cellSort a_cellKind a_cellValue a_asideSort a_asideKind a_asideValue a_outcome v_marks v_came v_guessed v_right v_taken a_markSort a_markKind a_markClass a_markValue v_sort v_kindAt v_value a_index v_reached v_looked) := hD
    refine lv_aload_n hx hb dX10_bad_17 rfl (lv_at hl 0 rfl) ?_
    refine lv_aload_n hx hb dX10_bad_18 rfl (lv_at hl 0 rfl) ?_
    refine va_get (D := D) (ci := 9) (v := .int v_from) (C := RX10) (T := TX10) (N := 71) hx hb hts hin hown hK hP 0 rfl rfl 6 (by decide) k_23_0 (fun _ h9 => h9) rfl dX10_bad_19 ?_
    refine va_put (D := D) (ci := 9) (v := .int v_from) (ty := .int) (C := RX10) (T := TX10) (N := 71) hx hb hts hin tyX10 tyX10_ok nmX10 hown hK hP hD hS 0 rfl rfl 32 (by decide) k_22_17 (fun _ h9 => h9) rfl (by decide +kernel) rfl rfl (Nat.le_of_ble_eq_true rfl) dX10_bad_22 (fun H locs hP hD hS => ?_)
    have hP : va_P D vwCl (mw cs q v_thrown a_tape v_taped v_size v_to v_kind v_from v_letters v_letterMany v_digits v_isBeyond v_suffix v_steps v_fault v_hasProgram a_text a_act a_guess a_take a_begin a_finish a_to1 a_one a_two a_what a_ats a_atVar a_atNumber a_atomSort a_atomKind a_atomValue s1_14 v_from v_variable v_number v_numberKind v_takes a_out v_outed a_varSort a_varKind a_varValue a_creature v_creatures a_arrayClass a_arrayFrom a_arrayLong v_arrays v_cells a_cellSort a_cellKind a_cellValue a_asideSort a_asideKind a_asideValue a_outcome v_marks v_came v_guessed v_right v_taken a_markSort a_markKind a_markClass a_markValue v_sort v_kindAt v_value a_index v_reached v_looked) H := hP
    have hD : va_D A (mw cs q v_thrown a_tape v_taped v_size v_to v_kind v_from v_letters v_letterMany v_digits v_isBeyond v_suffix v_steps v_fault v_hasProgram a_text a_act a_guess a_take a_begin a_finish a_to1 a_one a_two a_what a_ats a_atVar a_atNumber a_atomSort a_atomKind a_atomValue s1_14 v_from v_variable v_number v_numberKind v_takes a_out v_outed a_varSort a_varKind a_varValue a_creature v_creatures a_arrayClass a_arrayFrom a_arrayLong v_arrays v_cells a_cellSort a_cellKind a_cellValue a_asideSort a_asideKind a_asideValue a_outcome v_marks v_came v_guessed v_right v_taken a_markSort a_markKind a_markClass a_markValue v_sort v_kindAt v_value a_index v_reached v_looked) := hD
    refine lv_iconst (v := 0) hx hb dX10_bad_25 (by decide) ?_
    subst hAe
    rw [hQ]
    exact W.zret (v := 0) hx hb hr (by decide) (fun t ht hW => ⟨⟨0, _, rfl, ⟨s1_14, v_from, rfl, by first | assumption | omega | (intros; omega) | decide⟩, by rw [ht]; exact hP, va_K.moved hW.alike hK, hD⟩, hS.F ht⟩) hS.2.2 dX10_bad_26
  refine m_icmp_ne (X := v_kind.toInt) (Y := 1) (tgt := 13) hx hb dX10_bad_6 (by decide) rfl (by decide) (fun c6 => ?_) (fun c6 => ?_)
  · skip
    refine lv_iload_n hx hb dX10_bad_13 rfl (lv_at hl 1 rfl) ?_
    exact J14 k9 H locs ls hP hD hS (lv_sub hl [0] rfl)
  · skip
    refine lv_iconst (v := 1) hx hb dX10_bad_9 (by decide) ?_
    refine lv_goto (tgt := 14) hx hb dX10_bad_10 (by decide) ?_
    exact J14 (1 : Int32) H locs ls hP hD hS (lv_sub hl [0] rfl)

def rmX10_is : Room := { frames := 120, cells := 0, slots := 0, locals := 2400 }
set_option maxHeartbeats 4000000 in
set_option maxRecDepth 100000 in
theorem tX10_is {l : Launch} {D : va_G} {K : Nat → Nat → Nat} {cs : Nat → ClassId} {q : Nat → Nat} {v_thrown v_taped v_size v_to v_kind v_from v_letterMany v_isBeyond v_suffix v_steps v_fault v_hasProgram v_wrong v_wrongAt v_variable v_numberKind v_takes v_outed v_creatures v_arrays v_cells v_marks v_came v_guessed v_right v_taken v_sort v_kindAt v_reached v_looked : Int32} {a_tape a_text a_act a_guess a_take a_begin a_finish a_to1 a_one a_two a_what a_ats a_atVar a_atNumber a_atomSort a_atomKind a_out a_varSort a_varKind a_creature a_arrayClass a_arrayFrom a_arrayLong a_cellSort a_cellKind a_asideSort a_asideKind a_outcome a_markSort a_markKind a_markClass a_index : Nat → Int32} {v_letters v_digits v_number v_value : Int64} {a_atomValue a_varValue a_cellValue a_asideValue a_markValue : Nat → Int64} (s9 : Nat) {tx_s9 : List Int32} (hs_s9 : sOf s9 tx_s9) : CtI l yX10_is (wG yX10_is cX10_is 2 (some .boolean)) rmX10_is D (mwT cs) K [.ref (q 0), .ref (K 0 s9)] (mw cs q v_thrown a_tape v_taped v_size v_to v_kind v_from v_letters v_letterMany v_digits v_isBeyond v_suffix v_steps v_fault v_hasProgram a_text a_act a_guess a_take a_begin a_finish a_to1 a_one a_two a_what a_ats a_atVar a_atNumber a_atomSort a_atomKind a_atomValue v_wrong v_wrongAt v_variable v_number v_numberKind v_takes a_out v_outed a_varSort a_varKind a_varValue a_creature v_creatures a_arrayClass a_arrayFrom a_arrayLong v_arrays v_cells a_cellSort a_cellKind a_cellValue a_asideSort a_asideKind a_asideValue a_outcome v_marks v_came v_guessed v_right v_taken a_markSort a_markKind a_markClass a_markValue v_sort v_kindAt v_value a_index v_reached v_looked) (fun r w1 => w1 = (mw cs q v_thrown a_tape v_taped v_size v_to v_kind v_from v_letters v_letterMany v_digits v_isBeyond v_suffix v_steps v_fault v_hasProgram a_text a_act a_guess a_take a_begin a_finish a_to1 a_one a_two a_what a_ats a_atVar a_atNumber a_atomSort a_atomKind a_atomValue v_wrong v_wrongAt v_variable v_number v_numberKind v_takes a_out v_outed a_varSort a_varKind a_varValue a_creature v_creatures a_arrayClass a_arrayFrom a_arrayLong v_arrays v_cells a_cellSort a_cellKind a_cellValue a_asideSort a_asideKind a_asideValue a_outcome v_marks v_came v_guessed v_right v_taken a_markSort a_markKind a_markClass a_markValue v_sort v_kindAt v_value a_index v_reached v_looked) ∧ ((r.toInt = 1 ∧ v_kind.toInt = 2) ∨ r.toInt = 0)) 0 0 := by
  intro sz
  refine Met.ofW (cc := cX10_is) (maxL := 2) (ret := (some .boolean)) (by decide) rfl ?_
  intro p e s m args below meth c s₁ B hml hv
  obtain ⟨rfl, hsz, hP, hK, hD0, hE⟩ := hv
  have hx := B.exec
  have hb := B.bytes
  have hr := B.returns
  have hts := atoms_spec (ws := (wG yX10_is cX10_is 2 (some .boolean))) B.pre
  have hown : s.vm.findClass RX10 = some m.cls := findClass_of_methodNamed B.named
  have hlocks := B.notSynchronized
  subst hsz
  have hD := hD0.self (sz := s.heap.size)
  obtain ⟨A, hAe⟩ : ∃ A : Nat → Prop, A = va_A (mw cs q v_thrown a_tape v_taped v_size v_to v_kind v_from v_letters v_letterMany v_digits v_isBeyond v_suffix v_steps v_fault v_hasProgram a_text a_act a_guess a_take a_begin a_finish a_to1 a_one a_two a_what a_ats a_atVar a_atNumber a_atomSort a_atomKind a_atomValue v_wrong v_wrongAt v_variable v_number v_numberKind v_takes a_out v_outed a_varSort a_varKind a_varValue a_creature v_creatures a_arrayClass a_arrayFrom a_arrayLong v_arrays v_cells a_cellSort a_cellKind a_cellValue a_asideSort a_asideKind a_asideValue a_outcome v_marks v_came v_guessed v_right v_taken a_markSort a_markKind a_markClass a_markValue v_sort v_kindAt v_value a_index v_reached v_looked) s.heap.size := ⟨_, rfl⟩
  rw [← hAe] at hD hE
  have hA : ∀ q : Nat, s.heap.size ≤ q → A q := fun q h => by rw [hAe]; exact Or.inr h
  have hS : va_S A s.heap s.heap [] := va_S.rf
  have hl := lv_entry ([.ref (q 0), .ref (K 0 s9)]) (n := 2) (Nat.le_of_ble_eq_true rfl)
  rw [lg_entry_eq]
  generalize (lg_sl ([.ref (q 0), .ref (K 0 s9)]) ++ List.replicate (2 - (lg_sl ([.ref (q 0), .ref (K 0 s9)])).length) Slot.unset).toArray = ls at hl ⊢
  have hl : lv_has ls 2 [(0, .ref (q 0)), (1, .ref (K 0 s9))] := hl
  refine wq (fun Q hQ => ?_)
  have hin : ∀ w ∈ wsX100, w ∈ (wG yX10_is cX10_is 2 (some .boolean)) := fun w h => List.mem_cons_of_mem _ (inlX10 w h)
  have kc0 : (0 : Int32).toInt = 0 := by decide
  have kc1 : (1 : Int32).toInt = 1 := by decide
  have kc2 : (2 : Int32).toInt = 2 := by decide
  have k_22_15 := hts (.fieldLink RX10 273 "ArrayTrainerModel" "kind" "I") (List.mem_cons_of_mem _ (wr22 _ (List.mem_of_getElem? (i := 15) rfl)))
  have k_23_1 := hts (.fieldLink RX10 289 "ArrayTrainerModel" "letters" "J") (List.mem_cons_of_mem _ (wr23 _ (List.mem_of_getElem? (i := 1) rfl)))
  obtain ⟨H, hH⟩ : ∃ H : Heap, H = s.heap := ⟨_, rfl⟩
  obtain ⟨locs, hlc⟩ : ∃ L : List Loc, L = [] := ⟨_, rfl⟩
  have hP : va_P D vwCl (mw cs q v_thrown a_tape v_taped v_size v_to v_kind v_from v_letters v_letterMany v_digits v_isBeyond v_suffix v_steps v_fault v_hasProgram a_text a_act a_guess a_take a_begin a_finish a_to1 a_one a_two a_what a_ats a_atVar a_atNumber a_atomSort a_atomKind a_atomValue v_wrong v_wrongAt v_variable v_number v_numberKind v_takes a_out v_outed a_varSort a_varKind a_varValue a_creature v_creatures a_arrayClass a_arrayFrom a_arrayLong v_arrays v_cells a_cellSort a_cellKind a_cellValue a_asideSort a_asideKind a_asideValue a_outcome v_marks v_came v_guessed v_right v_taken a_markSort a_markKind a_markClass a_markValue v_sort v_kindAt v_value a_index v_reached v_looked) H := by rw [hH]; exact hP
  have hS : va_S A s.heap H locs := by rw [hH, hlc]; exact hS
  refine wHL hH hlc ?_
  have st_s9 := hE.str hs_s9
  have ln_s9 := sOf_len hs_s9
  refine lv_aload_n hx hb dX10_is_0 rfl (lv_at hl 0 rfl) ?_
  refine va_get (D := D) (ci := 9) (v := .int v_kind) (C := RX10) (T := TX10) (N := 71) hx hb hts hin hown hK hP 0 rfl rfl 5 (by decide) k_22_15 (fun _ h9 => h9) rfl dX10_is_1 ?_
  refine lv_iconst (v := 2) hx hb dX10_is_4 (by decide) ?_
  refine m_icmp_ne (X := v_kind.toInt) (Y := 2) (tgt := 24) hx hb dX10_is_5 (by decide) rfl (by decide) (fun c5 => ?_) (fun c5 => ?_)
  · skip
    refine lv_iconst (v := 0) hx hb dX10_is_24 (by decide) ?_
    subst hAe
    rw [hQ]
    exact W.zret (v := 0) hx hb hr (by decide) (fun t ht hW => ⟨⟨0, _, rfl, ⟨rfl, by first | assumption | omega | (intros; omega) | decide⟩, by rw [ht]; exact hP, va_K.moved hW.alike hK, hD⟩, hS.F ht⟩) hS.2.2 dX10_is_25
  · skip
    refine lv_aload_n hx hb dX10_is_8 rfl (lv_at hl 0 rfl) ?_
    refine va_get (D := D) (ci := 9) (v := .long v_letters) (C := RX10) (T := TX10) (N := 71) hx hb hts hin hown hK hP 0 rfl rfl 7 (by decide) k_23_1 (fun _ h9 => h9) rfl dX10_is_9 ?_
    refine lv_aload_n hx hb dX10_is_12 rfl (lv_at hl 1 rfl) ?_
    refine call_jSP (As := [.ref (K 0 s9)]) (rest := [.long v_letters]) ⟨hx, hb, hml, hown, hts⟩ (tX10_word (l := l) s9 hs_s9) (va_cwS 1 hts (gS (wr24 _ (List.mem_of_getElem? (i := 12) rfl)) (wr24 _ (List.mem_of_getElem? (i := 13) rfl)) (wr1 _ (List.mem_of_getElem? (i := 5) rfl)) (wr24 _ (List.mem_of_getElem? (i := 14) rfl))) rfl rfl rfl (by decide +kernel) ⟨Nat.le_of_ble_eq_true rfl, Nat.le_of_ble_eq_true rfl⟩) (hK.sub [] rfl) hP hD hE hS hA rfl hl.1 rfl (Nat.le_of_ble_eq_true rfl) dX10_is_13 ⟨Nat.le_of_ble_eq_true rfl, Nat.le_of_ble_eq_true rfl⟩ (fun r13 w9 H locs hw13 hP hD hS => ?_)
    obtain ⟨rfl⟩ := hw13
    have b_r13 := jB r13
    refine m_lcmp (X := v_letters.toInt) (Y := r13.toInt) hx hb dX10_is_16 rfl rfl (fun x16 g_x16 => ?_)
    refine m_if_ne (X := x16.toInt) (tgt := 24) hx hb dX10_is_17 (by decide) rfl (fun c17 => ?_) (fun c17 => ?_)
    · skip
      refine lv_iconst (v := 0) hx hb dX10_is_24 (by decide) ?_
      subst hAe
      rw [hQ]
      exact W.zret (v := 0) hx hb hr (by decide) (fun t ht hW => ⟨⟨0, _, rfl, ⟨rfl, by first | assumption | omega | (intros; omega) | decide⟩, by rw [ht]; exact hP, va_K.moved hW.alike hK, hD⟩, hS.F ht⟩) hS.2.2 dX10_is_25
    · skip
      refine lv_iconst (v := 1) hx hb dX10_is_20 (by decide) ?_
      refine lv_goto (tgt := 25) hx hb dX10_is_21 (by decide) ?_
      subst hAe
      rw [hQ]
      exact W.zret (v := 1) hx hb hr (by decide) (fun t ht hW => ⟨⟨1, _, rfl, ⟨rfl, by first | assumption | omega | (intros; omega) | decide⟩, by rw [ht]; exact hP, va_K.moved hW.alike hK, hD⟩, hS.F ht⟩) hS.2.2 dX10_is_25

def rmX10_isSign : Room := { frames := 20, cells := 0, slots := 0, locals := 400 }
set_option maxHeartbeats 4000000 in
set_option maxRecDepth 100000 in
theorem tX10_isSign {l : Launch} {D : va_G} {K : Nat → Nat → Nat} {cs : Nat → ClassId} {q : Nat → Nat} {v_thrown v_taped v_size v_to v_kind v_from v_letterMany v_isBeyond v_suffix v_steps v_fault v_hasProgram v_wrong v_wrongAt v_variable v_numberKind v_takes v_outed v_creatures v_arrays v_cells v_marks v_came v_guessed v_right v_taken v_sort v_kindAt v_reached v_looked : Int32} {a_tape a_text a_act a_guess a_take a_begin a_finish a_to1 a_one a_two a_what a_ats a_atVar a_atNumber a_atomSort a_atomKind a_out a_varSort a_varKind a_creature a_arrayClass a_arrayFrom a_arrayLong a_cellSort a_cellKind a_asideSort a_asideKind a_outcome a_markSort a_markKind a_markClass a_index : Nat → Int32} {v_letters v_digits v_number v_value : Int64} {a_atomValue a_varValue a_cellValue a_asideValue a_markValue : Nat → Int64} (c9 : Int32) : CtI l yX10_isSign (wG yX10_isSign cX10_isSign 2 (some .boolean)) rmX10_isSign D (mwT cs) K [.ref (q 0), .int c9] (mw cs q v_thrown a_tape v_taped v_size v_to v_kind v_from v_letters v_letterMany v_digits v_isBeyond v_suffix v_steps v_fault v_hasProgram a_text a_act a_guess a_take a_begin a_finish a_to1 a_one a_two a_what a_ats a_atVar a_atNumber a_atomSort a_atomKind a_atomValue v_wrong v_wrongAt v_variable v_number v_numberKind v_takes a_out v_outed a_varSort a_varKind a_varValue a_creature v_creatures a_arrayClass a_arrayFrom a_arrayLong v_arrays v_cells a_cellSort a_cellKind a_cellValue a_asideSort a_asideKind a_asideValue a_outcome v_marks v_came v_guessed v_right v_taken a_markSort a_markKind a_markClass a_markValue v_sort v_kindAt v_value a_index v_reached v_looked) (fun r w1 => w1 = (mw cs q v_thrown a_tape v_taped v_size v_to v_kind v_from v_letters v_letterMany v_digits v_isBeyond v_suffix v_steps v_fault v_hasProgram a_text a_act a_guess a_take a_begin a_finish a_to1 a_one a_two a_what a_ats a_atVar a_atNumber a_atomSort a_atomKind a_atomValue v_wrong v_wrongAt v_variable v_number v_numberKind v_takes a_out v_outed a_varSort a_varKind a_varValue a_creature v_creatures a_arrayClass a_arrayFrom a_arrayLong v_arrays v_cells a_cellSort a_cellKind a_cellValue a_asideSort a_asideKind a_asideValue a_outcome v_marks v_came v_guessed v_right v_taken a_markSort a_markKind a_markClass a_markValue v_sort v_kindAt v_value a_index v_reached v_looked) ∧ ((r.toInt = 1 ∧ v_kind.toInt = 4 ∧ v_letters.toInt = c9.toInt) ∨ (r.toInt = 0 ∧ ¬ (v_kind.toInt = 4 ∧ v_letters.toInt = c9.toInt)))) 0 0 := by
  intro sz
  refine Met.ofW (cc := cX10_isSign) (maxL := 2) (ret := (some .boolean)) (by decide) rfl ?_
  intro p e s m args below meth c s₁ B hml hv
  obtain ⟨rfl, hsz, hP, hK, hD0, hE⟩ := hv
  have hx := B.exec
  have hb := B.bytes
  have hr := B.returns
  have hts := atoms_spec (ws := (wG yX10_isSign cX10_isSign 2 (some .boolean))) B.pre
  have hown : s.vm.findClass RX10 = some m.cls := findClass_of_methodNamed B.named
  have hlocks := B.notSynchronized
  subst hsz
  have hD := hD0.self (sz := s.heap.size)
  obtain ⟨A, hAe⟩ : ∃ A : Nat → Prop, A = va_A (mw cs q v_thrown a_tape v_taped v_size v_to v_kind v_from v_letters v_letterMany v_digits v_isBeyond v_suffix v_steps v_fault v_hasProgram a_text a_act a_guess a_take a_begin a_finish a_to1 a_one a_two a_what a_ats a_atVar a_atNumber a_atomSort a_atomKind a_atomValue v_wrong v_wrongAt v_variable v_number v_numberKind v_takes a_out v_outed a_varSort a_varKind a_varValue a_creature v_creatures a_arrayClass a_arrayFrom a_arrayLong v_arrays v_cells a_cellSort a_cellKind a_cellValue a_asideSort a_asideKind a_asideValue a_outcome v_marks v_came v_guessed v_right v_taken a_markSort a_markKind a_markClass a_markValue v_sort v_kindAt v_value a_index v_reached v_looked) s.heap.size := ⟨_, rfl⟩
  rw [← hAe] at hD hE
  have hA : ∀ q : Nat, s.heap.size ≤ q → A q := fun q h => by rw [hAe]; exact Or.inr h
  have hS : va_S A s.heap s.heap [] := va_S.rf
  have hl := lv_entry ([.ref (q 0), .int c9]) (n := 2) (Nat.le_of_ble_eq_true rfl)
  rw [lg_entry_eq]
  generalize (lg_sl ([.ref (q 0), .int c9]) ++ List.replicate (2 - (lg_sl ([.ref (q 0), .int c9])).length) Slot.unset).toArray = ls at hl ⊢
  have hl : lv_has ls 2 [(0, .ref (q 0)), (1, .int c9)] := hl
  refine wq (fun Q hQ => ?_)
  have hin : ∀ w ∈ wsX100, w ∈ (wG yX10_isSign cX10_isSign 2 (some .boolean)) := fun w h => List.mem_cons_of_mem _ (inlX10 w h)
  have kc0 : (0 : Int32).toInt = 0 := by decide
  have kc1 : (1 : Int32).toInt = 1 := by decide
  have kc2 : (4 : Int32).toInt = 4 := by decide
  have k_22_15 := hts (.fieldLink RX10 273 "ArrayTrainerModel" "kind" "I") (List.mem_cons_of_mem _ (wr22 _ (List.mem_of_getElem? (i := 15) rfl)))
  have k_23_1 := hts (.fieldLink RX10 289 "ArrayTrainerModel" "letters" "J") (List.mem_cons_of_mem _ (wr23 _ (List.mem_of_getElem? (i := 1) rfl)))
  obtain ⟨H, hH⟩ : ∃ H : Heap, H = s.heap := ⟨_, rfl⟩
  obtain ⟨locs, hlc⟩ : ∃ L : List Loc, L = [] := ⟨_, rfl⟩
  have hP : va_P D vwCl (mw cs q v_thrown a_tape v_taped v_size v_to v_kind v_from v_letters v_letterMany v_digits v_isBeyond v_suffix v_steps v_fault v_hasProgram a_text a_act a_guess a_take a_begin a_finish a_to1 a_one a_two a_what a_ats a_atVar a_atNumber a_atomSort a_atomKind a_atomValue v_wrong v_wrongAt v_variable v_number v_numberKind v_takes a_out v_outed a_varSort a_varKind a_varValue a_creature v_creatures a_arrayClass a_arrayFrom a_arrayLong v_arrays v_cells a_cellSort a_cellKind a_cellValue a_asideSort a_asideKind a_asideValue a_outcome v_marks v_came v_guessed v_right v_taken a_markSort a_markKind a_markClass a_markValue v_sort v_kindAt v_value a_index v_reached v_looked) H := by rw [hH]; exact hP
  have hS : va_S A s.heap H locs := by rw [hH, hlc]; exact hS
  refine wHL hH hlc ?_
  have b_c9 := iB c9
  refine lv_aload_n hx hb dX10_isSign_0 rfl (lv_at hl 0 rfl) ?_
  refine va_get (D := D) (ci := 9) (v := .int v_kind) (C := RX10) (T := TX10) (N := 71) hx hb hts hin hown hK hP 0 rfl rfl 5 (by decide) k_22_15 (fun _ h9 => h9) rfl dX10_isSign_1 ?_
  refine lv_iconst (v := 4) hx hb dX10_isSign_4 (by decide) ?_
  refine m_icmp_ne (X := v_kind.toInt) (Y := 4) (tgt := 22) hx hb dX10_isSign_5 (by decide) rfl (by decide) (fun c5 => ?_) (fun c5 => ?_)
  · skip
    refine lv_iconst (v := 0) hx hb dX10_isSign_22 (by decide) ?_
    subst hAe
    rw [hQ]
    exact W.zret (v := 0) hx hb hr (by decide) (fun t ht hW => ⟨⟨0, _, rfl, ⟨rfl, by first | assumption | omega | (intros; omega) | decide⟩, by rw [ht]; exact hP, va_K.moved hW.alike hK, hD⟩, hS.F ht⟩) hS.2.2 dX10_isSign_23
  · skip
    refine lv_aload_n hx hb dX10_isSign_8 rfl (lv_at hl 0 rfl) ?_
    refine va_get (D := D) (ci := 9) (v := .long v_letters) (C := RX10) (T := TX10) (N := 71) hx hb hts hin hown hK hP 0 rfl rfl 7 (by decide) k_23_1 (fun _ h9 => h9) rfl dX10_isSign_9 ?_
    refine lv_iload_n hx hb dX10_isSign_12 rfl (lv_at hl 1 rfl) ?_
    refine m_i2l (X := c9.toInt) hx hb dX10_isSign_13 rfl (fun x13 e_x13 g_x13 => ?_)
    refine m_lcmp (X := v_letters.toInt) (Y := x13.toInt) hx hb dX10_isSign_14 rfl rfl (fun x14 g_x14 => ?_)
    refine m_if_ne (X := x14.toInt) (tgt := 22) hx hb dX10_isSign_15 (by decide) rfl (fun c15 => ?_) (fun c15 => ?_)
    · skip
      refine lv_iconst (v := 0) hx hb dX10_isSign_22 (by decide) ?_
      subst hAe
      rw [hQ]
      exact W.zret (v := 0) hx hb hr (by decide) (fun t ht hW => ⟨⟨0, _, rfl, ⟨rfl, by first | assumption | omega | (intros; omega) | decide⟩, by rw [ht]; exact hP, va_K.moved hW.alike hK, hD⟩, hS.F ht⟩) hS.2.2 dX10_isSign_23
    · skip
      refine lv_iconst (v := 1) hx hb dX10_isSign_18 (by decide) ?_
      refine lv_goto (tgt := 23) hx hb dX10_isSign_19 (by decide) ?_
      subst hAe
      rw [hQ]
      exact W.zret (v := 1) hx hb hr (by decide) (fun t ht hW => ⟨⟨1, _, rfl, ⟨rfl, by first | assumption | omega | (intros; omega) | decide⟩, by rw [ht]; exact hP, va_K.moved hW.alike hK, hD⟩, hS.F ht⟩) hS.2.2 dX10_isSign_23

def rmX10_sign : Room := { frames := 80, cells := 0, slots := 0, locals := 1600 }
set_option maxHeartbeats 4000000 in
set_option maxRecDepth 100000 in
theorem tX10_sign {l : Launch} {D : va_G} {K : Nat → Nat → Nat} {cs : Nat → ClassId} {q : Nat → Nat} {v_thrown v_taped v_size v_to v_kind v_from v_letterMany v_isBeyond v_suffix v_steps v_fault v_hasProgram v_wrong v_wrongAt v_variable v_numberKind v_takes v_outed v_creatures v_arrays v_cells v_marks v_came v_guessed v_right v_taken v_sort v_kindAt v_reached v_looked : Int32} {a_tape a_text a_act a_guess a_take a_begin a_finish a_to1 a_one a_two a_what a_ats a_atVar a_atNumber a_atomSort a_atomKind a_out a_varSort a_varKind a_creature a_arrayClass a_arrayFrom a_arrayLong a_cellSort a_cellKind a_asideSort a_asideKind a_outcome a_markSort a_markKind a_markClass a_index : Nat → Int32} {v_letters v_digits v_number v_value : Int64} {a_atomValue a_varValue a_cellValue a_asideValue a_markValue : Nat → Int64} (c9 : Int32) (p_0 : LX a_tape v_size v_to v_from v_kind v_letters v_letterMany v_isBeyond) : CtI l yX10_sign (wG yX10_sign cX10_sign 2 (some .boolean)) rmX10_sign D (mwT cs) K [.ref (q 0), .int c9] (mw cs q v_thrown a_tape v_taped v_size v_to v_kind v_from v_letters v_letterMany v_digits v_isBeyond v_suffix v_steps v_fault v_hasProgram a_text a_act a_guess a_take a_begin a_finish a_to1 a_one a_two a_what a_ats a_atVar a_atNumber a_atomSort a_atomKind a_atomValue v_wrong v_wrongAt v_variable v_number v_numberKind v_takes a_out v_outed a_varSort a_varKind a_varValue a_creature v_creatures a_arrayClass a_arrayFrom a_arrayLong v_arrays v_cells a_cellSort a_cellKind a_cellValue a_asideSort a_asideKind a_asideValue a_outcome v_marks v_came v_guessed v_right v_taken a_markSort a_markKind a_markClass a_markValue v_sort v_kindAt v_value a_index v_reached v_looked) (fun r w1 => ∃ (v_to' : Int32) (v_kind' : Int32) (v_from' : Int32) (v_letters' : Int64) (v_letterMany' : Int32) (v_digits' : Int64) (v_isBeyond' : Int32) (v_suffix' : Int32) (v_wrong' : Int32) (v_wrongAt' : Int32), w1 = (mw cs q v_thrown a_tape v_taped v_size v_to' v_kind' v_from' v_letters' v_letterMany' v_digits' v_isBeyond' v_suffix' v_steps v_fault v_hasProgram a_text a_act a_guess a_take a_begin a_finish a_to1 a_one a_two a_what a_ats a_atVar a_atNumber a_atomSort a_atomKind a_atomValue v_wrong' v_wrongAt' v_variable v_number v_numberKind v_takes a_out v_outed a_varSort a_varKind a_varValue a_creature v_creatures a_arrayClass a_arrayFrom a_arrayLong v_arrays v_cells a_cellSort a_cellKind a_cellValue a_asideSort a_asideKind a_asideValue a_outcome v_marks v_came v_guessed v_right v_taken a_markSort a_markKind a_markClass a_markValue v_sort v_kindAt v_value a_index v_reached v_looked) ∧ (LX a_tape v_size v_to' v_from' v_kind' v_letters' v_letterMany' v_isBeyond') ∧ (v_to.toInt ≤ v_to'.toInt) ∧ (ph a_tape v_to' ≤ ph a_tape v_to + 1) ∧ ((r.toInt = 1 ∧ v_kind.toInt = 4 ∧ v_letters.toInt = c9.toInt) ∨ r.toInt = 0)) 0 0 := by
  intro sz
  refine Met.ofW (cc := cX10_sign) (maxL := 2) (ret := (some .boolean)) (by decide) rfl ?_
  intro p e s m args below meth c s₁ B hml hv
  obtain ⟨rfl, hsz, hP, hK, hD0, hE⟩ := hv
  have hx := B.exec
  have hb := B.bytes
  have hr := B.returns
  have hts := atoms_spec (ws := (wG yX10_sign cX10_sign 2 (some .boolean))) B.pre
  have hown : s.vm.findClass RX10 = some m.cls := findClass_of_methodNamed B.named
  have hlocks := B.notSynchronized
  subst hsz
  have hD := hD0.self (sz := s.heap.size)
  obtain ⟨A, hAe⟩ : ∃ A : Nat → Prop, A = va_A (mw cs q v_thrown a_tape v_taped v_size v_to v_kind v_from v_letters v_letterMany v_digits v_isBeyond v_suffix v_steps v_fault v_hasProgram a_text a_act a_guess a_take a_begin a_finish a_to1 a_one a_two a_what a_ats a_atVar a_atNumber a_atomSort a_atomKind a_atomValue v_wrong v_wrongAt v_variable v_number v_numberKind v_takes a_out v_outed a_varSort a_varKind a_varValue a_creature v_creatures a_arrayClass a_arrayFrom a_arrayLong v_arrays v_cells a_cellSort a_cellKind a_cellValue a_asideSort a_asideKind a_asideValue a_outcome v_marks v_came v_guessed v_right v_taken a_markSort a_markKind a_markClass a_markValue v_sort v_kindAt v_value a_index v_reached v_looked) s.heap.size := ⟨_, rfl⟩
  rw [← hAe] at hD hE
  have hA : ∀ q : Nat, s.heap.size ≤ q → A q := fun q h => by rw [hAe]; exact Or.inr h
  have hS : va_S A s.heap s.heap [] := va_S.rf
  have hl := lv_entry ([.ref (q 0), .int c9]) (n := 2) (Nat.le_of_ble_eq_true rfl)
  rw [lg_entry_eq]
  generalize (lg_sl ([.ref (q 0), .int c9]) ++ List.replicate (2 - (lg_sl ([.ref (q 0), .int c9])).length) Slot.unset).toArray = ls at hl ⊢
  have hl : lv_has ls 2 [(0, .ref (q 0)), (1, .int c9)] := hl
  refine wq (fun Q hQ => ?_)
  have hin : ∀ w ∈ wsX100, w ∈ (wG yX10_sign cX10_sign 2 (some .boolean)) := fun w h => List.mem_cons_of_mem _ (inlX10 w h)
  have kc0 : (1 : Int32).toInt = 1 := by decide
  have kc1 : (2 : Int32).toInt = 2 := by decide
  obtain ⟨H, hH⟩ : ∃ H : Heap, H = s.heap := ⟨_, rfl⟩
  obtain ⟨locs, hlc⟩ : ∃ L : List Loc, L = [] := ⟨_, rfl⟩
  have hP : va_P D vwCl (mw cs q v_thrown a_tape v_taped v_size v_to v_kind v_from v_letters v_letterMany v_digits v_isBeyond v_suffix v_steps v_fault v_hasProgram a_text a_act a_guess a_take a_begin a_finish a_to1 a_one a_two a_what a_ats a_atVar a_atNumber a_atomSort a_atomKind a_atomValue v_wrong v_wrongAt v_variable v_number v_numberKind v_takes a_out v_outed a_varSort a_varKind a_varValue a_creature v_creatures a_arrayClass a_arrayFrom a_arrayLong v_arrays v_cells a_cellSort a_cellKind a_cellValue a_asideSort a_asideKind a_asideValue a_outcome v_marks v_came v_guessed v_right v_taken a_markSort a_markKind a_markClass a_markValue v_sort v_kindAt v_value a_index v_reached v_looked) H := by rw [hH]; exact hP
  have hS : va_S A s.heap H locs := by rw [hH, hlc]; exact hS
  refine wHL hH hlc ?_
  have b_c9 := iB c9
  refine lv_aload_n hx hb dX10_sign_0 rfl (lv_at hl 0 rfl) ?_
  refine lv_iload_n hx hb dX10_sign_1 rfl (lv_at hl 1 rfl) ?_
  refine call_i (As := [.int c9]) (rest := []) ⟨hx, hb, hml, hown, hts⟩ (tX10_isSign (l := l) c9) (cwV 1 hts (gV (wr26 _ (List.mem_of_getElem? (i := 3) rfl)) (wr26 _ (List.mem_of_getElem? (i := 4) rfl)) (wr26 _ (List.mem_of_getElem? (i := 5) rfl)) (wr1 _ (List.mem_of_getElem? (i := 5) rfl)) (wr26 _ (List.mem_of_getElem? (i := 6) rfl))) rfl rfl rfl (by decide +kernel) ⟨Nat.le_of_ble_eq_true rfl, Nat.le_of_ble_eq_true rfl⟩) (va_recv hK hP (ci := 9) (q0 := 0) rfl rfl) hK hP hD hE hS hA rfl hl.1 rfl (Nat.le_of_ble_eq_true rfl) dX10_sign_2 ⟨Nat.le_of_ble_eq_true rfl, Nat.le_of_ble_eq_true rfl⟩ (fun r2 w9 H locs hw2 hP hD hS => ?_)
  obtain ⟨rfl, hw2_0⟩ := hw2
  have b_r2 := iB r2
  refine m_if_ne (X := r2.toInt) (tgt := 14) hx hb dX10_sign_5 (by decide) rfl (fun c5 => ?_) (fun c5 => ?_)
  · skip
    refine lv_aload_n hx hb dX10_sign_14 rfl (lv_at hl 0 rfl) ?_
    refine call_v (As := []) (rest := []) ⟨hx, hb, hml, hown, hts⟩ (tX10_goB (l := l)  (by first | assumption | exact LX.z (by assumption))) (cwV 0 hts (gV (wr22 _ (List.mem_of_getElem? (i := 20) rfl)) (wr22 _ (List.mem_of_getElem? (i := 21) rfl)) (wr22 _ (List.mem_of_getElem? (i := 22) rfl)) (wr1 _ (List.mem_of_getElem? (i := 5) rfl)) (wr22 _ (List.mem_of_getElem? (i := 23) rfl))) rfl rfl rfl (by decide +kernel) ⟨Nat.le_of_ble_eq_true rfl, Nat.le_of_ble_eq_true rfl⟩) (va_recv hK hP (ci := 9) (q0 := 0) rfl rfl) hK hP hD hE hS hA rfl hl.1 rfl (Nat.le_of_ble_eq_true rfl) dX10_sign_15 ⟨Nat.le_of_ble_eq_true rfl, Nat.le_of_ble_eq_true rfl⟩ (fun w9 H locs hw15 hP hD hS => ?_)
    obtain ⟨v_to_15, v_kind_15, v_from_15, v_letters_15, v_letterMany_15, v_digits_15, v_isBeyond_15, v_suffix_15, rfl, hw15_0, hw15_1, hw15_2⟩ := hw15
    have b_v_to_15 := iB v_to_15
    have b_v_kind_15 := iB v_kind_15
    have b_v_from_15 := iB v_from_15
    have b_v_letters_15 := jB v_letters_15
    have b_v_letterMany_15 := iB v_letterMany_15
    have b_v_digits_15 := jB v_digits_15
    have b_v_isBeyond_15 := iB v_isBeyond_15
    have b_v_suffix_15 := iB v_suffix_15
    refine lv_iconst (v := 1) hx hb dX10_sign_18 (by decide) ?_
    subst hAe
    rw [hQ]
    exact W.zret (v := 1) hx hb hr (by decide) (fun t ht hW => ⟨⟨1, _, rfl, ⟨v_to_15, v_kind_15, v_from_15, v_letters_15, v_letterMany_15, v_digits_15, v_isBeyond_15, v_suffix_15, v_wrong, v_wrongAt, rfl, by first | assumption | omega | (intros; omega) | decide, by first | assumption | omega | (intros; omega) | decide, by first | assumption | omega | (intros; omega) | decide, by first | assumption | omega | (intros; omega) | decide⟩, by rw [ht]; exact hP, va_K.moved hW.alike hK, hD⟩, hS.F ht⟩) hS.2.2 dX10_sign_19
  · skip
    refine lv_aload_n hx hb dX10_sign_8 rfl (lv_at hl 0 rfl) ?_
    refine lv_iconst (v := 2) hx hb dX10_sign_9 (by decide) ?_
    refine call_i (As := [.int 2]) (rest := []) ⟨hx, hb, hml, hown, hts⟩ (tX10_bad (l := l) (2 : Int32)) (cwV 1 hts (gV (wr25 _ (List.mem_of_getElem? (i := 0) rfl)) (wr25 _ (List.mem_of_getElem? (i := 1) rfl)) (wr25 _ (List.mem_of_getElem? (i := 2) rfl)) (wr1 _ (List.mem_of_getElem? (i := 5) rfl)) (wr25 _ (List.mem_of_getElem? (i := 3) rfl))) rfl rfl rfl (by decide +kernel) ⟨Nat.le_of_ble_eq_true rfl, Nat.le_of_ble_eq_true rfl⟩) (va_recv hK hP (ci := 9) (q0 := 0) rfl rfl) hK hP hD hE hS hA rfl hl.1 rfl (Nat.le_of_ble_eq_true rfl) dX10_sign_10 ⟨Nat.le_of_ble_eq_true rfl, Nat.le_of_ble_eq_true rfl⟩ (fun r10 w9 H locs hw10 hP hD hS => ?_)
    obtain ⟨v_wrong_10, v_wrongAt_10, rfl, hw10_0⟩ := hw10
    have b_v_wrong_10 := iB v_wrong_10
    have b_v_wrongAt_10 := iB v_wrongAt_10
    have b_r10 := iB r10
    subst hAe
    rw [hQ]
    exact W.zret (v := r10) hx hb hr (nbool (by first | omega | decide)) (fun t ht hW => ⟨⟨r10, _, rfl, ⟨v_to, v_kind, v_from, v_letters, v_letterMany, v_digits, v_isBeyond, v_suffix, v_wrong_10, v_wrongAt_10, rfl, by first | assumption | omega | (intros; omega) | decide, by first | assumption | omega | (intros; omega) | decide, by first | assumption | omega | (intros; omega) | decide, by first | assumption | omega | (intros; omega) | decide⟩, by rw [ht]; exact hP, va_K.moved hW.alike hK, hD⟩, hS.F ht⟩) hS.2.2 dX10_sign_13

def rmX10_key : Room := { frames := 140, cells := 0, slots := 0, locals := 2800 }
set_option maxHeartbeats 4000000 in
set_option maxRecDepth 100000 in
theorem tX10_key {l : Launch} {D : va_G} {K : Nat → Nat → Nat} {cs : Nat → ClassId} {q : Nat → Nat} {v_thrown v_taped v_size v_to v_kind v_from v_letterMany v_isBeyond v_suffix v_steps v_fault v_hasProgram v_wrong v_wrongAt v_variable v_numberKind v_takes v_outed v_creatures v_arrays v_cells v_marks v_came v_guessed v_right v_taken v_sort v_kindAt v_reached v_looked : Int32} {a_tape a_text a_act a_guess a_take a_begin a_finish a_to1 a_one a_two a_what a_ats a_atVar a_atNumber a_atomSort a_atomKind a_out a_varSort a_varKind a_creature a_arrayClass a_arrayFrom a_arrayLong a_cellSort a_cellKind a_asideSort a_asideKind a_outcome a_markSort a_markKind a_markClass a_index : Nat → Int32} {v_letters v_digits v_number v_value : Int64} {a_atomValue a_varValue a_cellValue a_asideValue a_markValue : Nat → Int64} (s9 : Nat) {tx_s9 : List Int32} (hs_s9 : sOf s9 tx_s9) (p_0 : LX a_tape v_size v_to v_from v_kind v_letters v_letterMany v_isBeyond) : CtI l yX10_key (wG yX10_key cX10_key 2 (some .boolean)) rmX10_key D (mwT cs) K [.ref (q 0), .ref (K 0 s9)] (mw cs q v_thrown a_tape v_taped v_size v_to v_kind v_from v_letters v_letterMany v_digits v_isBeyond v_suffix v_steps v_fault v_hasProgram a_text a_act a_guess a_take a_begin a_finish a_to1 a_one a_two a_what a_ats a_atVar a_atNumber a_atomSort a_atomKind a_atomValue v_wrong v_wrongAt v_variable v_number v_numberKind v_takes a_out v_outed a_varSort a_varKind a_varValue a_creature v_creatures a_arrayClass a_arrayFrom a_arrayLong v_arrays v_cells a_cellSort a_cellKind a_cellValue a_asideSort a_asideKind a_asideValue a_outcome v_marks v_came v_guessed v_right v_taken a_markSort a_markKind a_markClass a_markValue v_sort v_kindAt v_value a_index v_reached v_looked) (fun r w1 => ∃ (v_to' : Int32) (v_kind' : Int32) (v_from' : Int32) (v_letters' : Int64) (v_letterMany' : Int32) (v_digits' : Int64) (v_isBeyond' : Int32) (v_suffix' : Int32) (v_wrong' : Int32) (v_wrongAt' : Int32), w1 = (mw cs q v_thrown a_tape v_taped v_size v_to' v_kind' v_from' v_letters' v_letterMany' v_digits' v_isBeyond' v_suffix' v_steps v_fault v_hasProgram a_text a_act a_guess a_take a_begin a_finish a_to1 a_one a_two a_what a_ats a_atVar a_atNumber a_atomSort a_atomKind a_atomValue v_wrong' v_wrongAt' v_variable v_number v_numberKind v_takes a_out v_outed a_varSort a_varKind a_varValue a_creature v_creatures a_arrayClass a_arrayFrom a_arrayLong v_arrays v_cells a_cellSort a_cellKind a_cellValue a_asideSort a_asideKind a_asideValue a_outcome v_marks v_came v_guessed v_right v_taken a_markSort a_markKind a_markClass a_markValue v_sort v_kindAt v_value a_index v_reached v_looked) ∧ (LX a_tape v_size v_to' v_from' v_kind' v_letters' v_letterMany' v_isBeyond') ∧ (v_to.toInt ≤ v_to'.toInt) ∧ (ph a_tape v_to' ≤ ph a_tape v_to + 1) ∧ (r.toInt = 0 ∨ r.toInt = 1)) 0 0 := by
  intro sz
  refine Met.ofW (cc := cX10_key) (maxL := 2) (ret := (some .boolean)) (by decide) rfl ?_
  intro p e s m args below meth c s₁ B hml hv
  obtain ⟨rfl, hsz, hP, hK, hD0, hE⟩ := hv
  have hx := B.exec
  have hb := B.bytes
  have hr := B.returns
  have hts := atoms_spec (ws := (wG yX10_key cX10_key 2 (some .boolean))) B.pre
  have hown : s.vm.findClass RX10 = some m.cls := findClass_of_methodNamed B.named
  have hlocks := B.notSynchronized
  subst hsz
  have hD := hD0.self (sz := s.heap.size)
  obtain ⟨A, hAe⟩ : ∃ A : Nat → Prop, A = va_A (mw cs q v_thrown a_tape v_taped v_size v_to v_kind v_from v_letters v_letterMany v_digits v_isBeyond v_suffix v_steps v_fault v_hasProgram a_text a_act a_guess a_take a_begin a_finish a_to1 a_one a_two a_what a_ats a_atVar a_atNumber a_atomSort a_atomKind a_atomValue v_wrong v_wrongAt v_variable v_number v_numberKind v_takes a_out v_outed a_varSort a_varKind a_varValue a_creature v_creatures a_arrayClass a_arrayFrom a_arrayLong v_arrays v_cells a_cellSort a_cellKind a_cellValue a_asideSort a_asideKind a_asideValue a_outcome v_marks v_came v_guessed v_right v_taken a_markSort a_markKind a_markClass a_markValue v_sort v_kindAt v_value a_index v_reached v_looked) s.heap.size := ⟨_, rfl⟩
  rw [← hAe] at hD hE
  have hA : ∀ q : Nat, s.heap.size ≤ q → A q := fun q h => by rw [hAe]; exact Or.inr h
  have hS : va_S A s.heap s.heap [] := va_S.rf
  have hl := lv_entry ([.ref (q 0), .ref (K 0 s9)]) (n := 2) (Nat.le_of_ble_eq_true rfl)
  rw [lg_entry_eq]
  generalize (lg_sl ([.ref (q 0), .ref (K 0 s9)]) ++ List.replicate (2 - (lg_sl ([.ref (q 0), .ref (K 0 s9)])).length) Slot.unset).toArray = ls at hl ⊢
  have hl : lv_has ls 2 [(0, .ref (q 0)), (1, .ref (K 0 s9))] := hl
  refine wq (fun Q hQ => ?_)
  have hin : ∀ w ∈ wsX100, w ∈ (wG yX10_key cX10_key 2 (some .boolean)) := fun w h => List.mem_cons_of_mem _ (inlX10 w h)
  have kc0 : (1 : Int32).toInt = 1 := by decide
  have kc1 : (2 : Int32).toInt = 2 := by decide
  obtain ⟨H, hH⟩ : ∃ H : Heap, H = s.heap := ⟨_, rfl⟩
  obtain ⟨locs, hlc⟩ : ∃ L : List Loc, L = [] := ⟨_, rfl⟩
  have hP : va_P D vwCl (mw cs q v_thrown a_tape v_taped v_size v_to v_kind v_from v_letters v_letterMany v_digits v_isBeyond v_suffix v_steps v_fault v_hasProgram a_text a_act a_guess a_take a_begin a_finish a_to1 a_one a_two a_what a_ats a_atVar a_atNumber a_atomSort a_atomKind a_atomValue v_wrong v_wrongAt v_variable v_number v_numberKind v_takes a_out v_outed a_varSort a_varKind a_varValue a_creature v_creatures a_arrayClass a_arrayFrom a_arrayLong v_arrays v_cells a_cellSort a_cellKind a_cellValue a_asideSort a_asideKind a_asideValue a_outcome v_marks v_came v_guessed v_right v_taken a_markSort a_markKind a_markClass a_markValue v_sort v_kindAt v_value a_index v_reached v_looked) H := by rw [hH]; exact hP
  have hS : va_S A s.heap H locs := by rw [hH, hlc]; exact hS
  refine wHL hH hlc ?_
  have st_s9 := hE.str hs_s9
  have ln_s9 := sOf_len hs_s9
  refine lv_aload_n hx hb dX10_key_0 rfl (lv_at hl 0 rfl) ?_
  refine lv_aload_n hx hb dX10_key_1 rfl (lv_at hl 1 rfl) ?_
  refine call_i (As := [.ref (K 0 s9)]) (rest := []) ⟨hx, hb, hml, hown, hts⟩ (tX10_is (l := l) s9 hs_s9) (cwV 1 hts (gV (wr24 _ (List.mem_of_getElem? (i := 8) rfl)) (wr24 _ (List.mem_of_getElem? (i := 9) rfl)) (wr24 _ (List.mem_of_getElem? (i := 10) rfl)) (wr1 _ (List.mem_of_getElem? (i := 5) rfl)) (wr24 _ (List.mem_of_getElem? (i := 11) rfl))) rfl rfl rfl (by decide +kernel) ⟨Nat.le_of_ble_eq_true rfl, Nat.le_of_ble_eq_true rfl⟩) (va_recv hK hP (ci := 9) (q0 := 0) rfl rfl) hK hP hD hE hS hA rfl hl.1 rfl (Nat.le_of_ble_eq_true rfl) dX10_key_2 ⟨Nat.le_of_ble_eq_true rfl, Nat.le_of_ble_eq_true rfl⟩ (fun r2 w9 H locs hw2 hP hD hS => ?_)
  obtain ⟨rfl, hw2_0⟩ := hw2
  have b_r2 := iB r2
  refine m_if_ne (X := r2.toInt) (tgt := 14) hx hb dX10_key_5 (by decide) rfl (fun c5 => ?_) (fun c5 => ?_)
  · skip
    refine lv_aload_n hx hb dX10_key_14 rfl (lv_at hl 0 rfl) ?_
    refine call_v (As := []) (rest := []) ⟨hx, hb, hml, hown, hts⟩ (tX10_goB (l := l)  (by first | assumption | exact LX.z (by assumption))) (cwV 0 hts (gV (wr22 _ (List.mem_of_getElem? (i := 20) rfl)) (wr22 _ (List.mem_of_getElem? (i := 21) rfl)) (wr22 _ (List.mem_of_getElem? (i := 22) rfl)) (wr1 _ (List.mem_of_getElem? (i := 5) rfl)) (wr22 _ (List.mem_of_getElem? (i := 23) rfl))) rfl rfl rfl (by decide +kernel) ⟨Nat.le_of_ble_eq_true rfl, Nat.le_of_ble_eq_true rfl⟩) (va_recv hK hP (ci := 9) (q0 := 0) rfl rfl) hK hP hD hE hS hA rfl hl.1 rfl (Nat.le_of_ble_eq_true rfl) dX10_key_15 ⟨Nat.le_of_ble_eq_true rfl, Nat.le_of_ble_eq_true rfl⟩ (fun w9 H locs hw15 hP hD hS => ?_)
    obtain ⟨v_to_15, v_kind_15, v_from_15, v_letters_15, v_letterMany_15, v_digits_15, v_isBeyond_15, v_suffix_15, rfl, hw15_0, hw15_1, hw15_2⟩ := hw15
    have b_v_to_15 := iB v_to_15
    have b_v_kind_15 := iB v_kind_15
    have b_v_from_15 := iB v_from_15
    have b_v_letters_15 := jB v_letters_15
    have b_v_letterMany_15 := iB v_letterMany_15
    have b_v_digits_15 := jB v_digits_15
    have b_v_isBeyond_15 := iB v_isBeyond_15
    have b_v_suffix_15 := iB v_suffix_15
    refine lv_iconst (v := 1) hx hb dX10_key_18 (by decide) ?_
    subst hAe
    rw [hQ]
    exact W.zret (v := 1) hx hb hr (by decide) (fun t ht hW => ⟨⟨1, _, rfl, ⟨v_to_15, v_kind_15, v_from_15, v_letters_15, v_letterMany_15, v_digits_15, v_isBeyond_15, v_suffix_15, v_wrong, v_wrongAt, rfl, by first | assumption | omega | (intros; omega) | decide, by first | assumption | omega | (intros; omega) | decide, by first | assumption | omega | (intros; omega) | decide, by first | assumption | omega | (intros; omega) | decide⟩, by rw [ht]; exact hP, va_K.moved hW.alike hK, hD⟩, hS.F ht⟩) hS.2.2 dX10_key_19
  · skip
    refine lv_aload_n hx hb dX10_key_8 rfl (lv_at hl 0 rfl) ?_
    refine lv_iconst (v := 2) hx hb dX10_key_9 (by decide) ?_
    refine call_i (As := [.int 2]) (rest := []) ⟨hx, hb, hml, hown, hts⟩ (tX10_bad (l := l) (2 : Int32)) (cwV 1 hts (gV (wr25 _ (List.mem_of_getElem? (i := 0) rfl)) (wr25 _ (List.mem_of_getElem? (i := 1) rfl)) (wr25 _ (List.mem_of_getElem? (i := 2) rfl)) (wr1 _ (List.mem_of_getElem? (i := 5) rfl)) (wr25 _ (List.mem_of_getElem? (i := 3) rfl))) rfl rfl rfl (by decide +kernel) ⟨Nat.le_of_ble_eq_true rfl, Nat.le_of_ble_eq_true rfl⟩) (va_recv hK hP (ci := 9) (q0 := 0) rfl rfl) hK hP hD hE hS hA rfl hl.1 rfl (Nat.le_of_ble_eq_true rfl) dX10_key_10 ⟨Nat.le_of_ble_eq_true rfl, Nat.le_of_ble_eq_true rfl⟩ (fun r10 w9 H locs hw10 hP hD hS => ?_)
    obtain ⟨v_wrong_10, v_wrongAt_10, rfl, hw10_0⟩ := hw10
    have b_v_wrong_10 := iB v_wrong_10
    have b_v_wrongAt_10 := iB v_wrongAt_10
    have b_r10 := iB r10
    subst hAe
    rw [hQ]
    exact W.zret (v := r10) hx hb hr (nbool (by first | omega | decide)) (fun t ht hW => ⟨⟨r10, _, rfl, ⟨v_to, v_kind, v_from, v_letters, v_letterMany, v_digits, v_isBeyond, v_suffix, v_wrong_10, v_wrongAt_10, rfl, by first | assumption | omega | (intros; omega) | decide, by first | assumption | omega | (intros; omega) | decide, by first | assumption | omega | (intros; omega) | decide, by first | assumption | omega | (intros; omega) | decide⟩, by rw [ht]; exact hP, va_K.moved hW.alike hK, hD⟩, hS.F ht⟩) hS.2.2 dX10_key_13

def rmX10_isVar : Room := { frames := 20, cells := 0, slots := 0, locals := 400 }
set_option maxHeartbeats 4000000 in
set_option maxRecDepth 100000 in
theorem tX10_isVar {l : Launch} {D : va_G} {K : Nat → Nat → Nat} {cs : Nat → ClassId} {q : Nat → Nat} {v_thrown v_taped v_size v_to v_kind v_from v_letterMany v_isBeyond v_suffix v_steps v_fault v_hasProgram v_wrong v_wrongAt v_variable v_numberKind v_takes v_outed v_creatures v_arrays v_cells v_marks v_came v_guessed v_right v_taken v_sort v_kindAt v_reached v_looked : Int32} {a_tape a_text a_act a_guess a_take a_begin a_finish a_to1 a_one a_two a_what a_ats a_atVar a_atNumber a_atomSort a_atomKind a_out a_varSort a_varKind a_creature a_arrayClass a_arrayFrom a_arrayLong a_cellSort a_cellKind a_asideSort a_asideKind a_outcome a_markSort a_markKind a_markClass a_index : Nat → Int32} {v_letters v_digits v_number v_value : Int64} {a_atomValue a_varValue a_cellValue a_asideValue a_markValue : Nat → Int64} : CtI l yX10_isVar (wG yX10_isVar cX10_isVar 1 (some .boolean)) rmX10_isVar D (mwT cs) K [.ref (q 0)] (mw cs q v_thrown a_tape v_taped v_size v_to v_kind v_from v_letters v_letterMany v_digits v_isBeyond v_suffix v_steps v_fault v_hasProgram a_text a_act a_guess a_take a_begin a_finish a_to1 a_one a_two a_what a_ats a_atVar a_atNumber a_atomSort a_atomKind a_atomValue v_wrong v_wrongAt v_variable v_number v_numberKind v_takes a_out v_outed a_varSort a_varKind a_varValue a_creature v_creatures a_arrayClass a_arrayFrom a_arrayLong v_arrays v_cells a_cellSort a_cellKind a_cellValue a_asideSort a_asideKind a_asideValue a_outcome v_marks v_came v_guessed v_right v_taken a_markSort a_markKind a_markClass a_markValue v_sort v_kindAt v_value a_index v_reached v_looked) (fun r w1 => w1 = (mw cs q v_thrown a_tape v_taped v_size v_to v_kind v_from v_letters v_letterMany v_digits v_isBeyond v_suffix v_steps v_fault v_hasProgram a_text a_act a_guess a_take a_begin a_finish a_to1 a_one a_two a_what a_ats a_atVar a_atNumber a_atomSort a_atomKind a_atomValue v_wrong v_wrongAt v_variable v_number v_numberKind v_takes a_out v_outed a_varSort a_varKind a_varValue a_creature v_creatures a_arrayClass a_arrayFrom a_arrayLong v_arrays v_cells a_cellSort a_cellKind a_cellValue a_asideSort a_asideKind a_asideValue a_outcome v_marks v_came v_guessed v_right v_taken a_markSort a_markKind a_markClass a_markValue v_sort v_kindAt v_value a_index v_reached v_looked) ∧ ((r.toInt = 1 ∧ v_kind.toInt = 2 ∧ v_letterMany.toInt = 1) ∨ r.toInt = 0)) 0 0 := by
  intro sz
  refine Met.ofW (cc := cX10_isVar) (maxL := 1) (ret := (some .boolean)) (by decide) rfl ?_
  intro p e s m args below meth c s₁ B hml hv
  obtain ⟨rfl, hsz, hP, hK, hD0, hE⟩ := hv
  have hx := B.exec
  have hb := B.bytes
  have hr := B.returns
  have hts := atoms_spec (ws := (wG yX10_isVar cX10_isVar 1 (some .boolean))) B.pre
  have hown : s.vm.findClass RX10 = some m.cls := findClass_of_methodNamed B.named
  have hlocks := B.notSynchronized
  subst hsz
  have hD := hD0.self (sz := s.heap.size)
  obtain ⟨A, hAe⟩ : ∃ A : Nat → Prop, A = va_A (mw cs q v_thrown a_tape v_taped v_size v_to v_kind v_from v_letters v_letterMany v_digits v_isBeyond v_suffix v_steps v_fault v_hasProgram a_text a_act a_guess a_take a_begin a_finish a_to1 a_one a_two a_what a_ats a_atVar a_atNumber a_atomSort a_atomKind a_atomValue v_wrong v_wrongAt v_variable v_number v_numberKind v_takes a_out v_outed a_varSort a_varKind a_varValue a_creature v_creatures a_arrayClass a_arrayFrom a_arrayLong v_arrays v_cells a_cellSort a_cellKind a_cellValue a_asideSort a_asideKind a_asideValue a_outcome v_marks v_came v_guessed v_right v_taken a_markSort a_markKind a_markClass a_markValue v_sort v_kindAt v_value a_index v_reached v_looked) s.heap.size := ⟨_, rfl⟩
  rw [← hAe] at hD hE
  have hA : ∀ q : Nat, s.heap.size ≤ q → A q := fun q h => by rw [hAe]; exact Or.inr h
  have hS : va_S A s.heap s.heap [] := va_S.rf
  have hl := lv_entry ([.ref (q 0)]) (n := 1) (Nat.le_of_ble_eq_true rfl)
  rw [lg_entry_eq]
  generalize (lg_sl ([.ref (q 0)]) ++ List.replicate (1 - (lg_sl ([.ref (q 0)])).length) Slot.unset).toArray = ls at hl ⊢
  have hl : lv_has ls 1 [(0, .ref (q 0))] := hl
  refine wq (fun Q hQ => ?_)
  have hin : ∀ w ∈ wsX100, w ∈ (wG yX10_isVar cX10_isVar 1 (some .boolean)) := fun w h => List.mem_cons_of_mem _ (inlX10 w h)
  have kc0 : (0 : Int32).toInt = 0 := by decide
  have kc1 : (1 : Int32).toInt = 1 := by decide
  have kc2 : (2 : Int32).toInt = 2 := by decide
  have k_22_15 := hts (.fieldLink RX10 273 "ArrayTrainerModel" "kind" "I") (List.mem_cons_of_mem _ (wr22 _ (List.mem_of_getElem? (i := 15) rfl)))
  have k_23_16 := hts (.fieldLink RX10 293 "ArrayTrainerModel" "letterMany" "I") (List.mem_cons_of_mem _ (wr23 _ (List.mem_of_getElem? (i := 16) rfl)))
  obtain ⟨H, hH⟩ : ∃ H : Heap, H = s.heap := ⟨_, rfl⟩
  obtain ⟨locs, hlc⟩ : ∃ L : List Loc, L = [] := ⟨_, rfl⟩
  have hP : va_P D vwCl (mw cs q v_thrown a_tape v_taped v_size v_to v_kind v_from v_letters v_letterMany v_digits v_isBeyond v_suffix v_steps v_fault v_hasProgram a_text a_act a_guess a_take a_begin a_finish a_to1 a_one a_two a_what a_ats a_atVar a_atNumber a_atomSort a_atomKind a_atomValue v_wrong v_wrongAt v_variable v_number v_numberKind v_takes a_out v_outed a_varSort a_varKind a_varValue a_creature v_creatures a_arrayClass a_arrayFrom a_arrayLong v_arrays v_cells a_cellSort a_cellKind a_cellValue a_asideSort a_asideKind a_asideValue a_outcome v_marks v_came v_guessed v_right v_taken a_markSort a_markKind a_markClass a_markValue v_sort v_kindAt v_value a_index v_reached v_looked) H := by rw [hH]; exact hP
  have hS : va_S A s.heap H locs := by rw [hH, hlc]; exact hS
  refine wHL hH hlc ?_
  refine lv_aload_n hx hb dX10_isVar_0 rfl (lv_at hl 0 rfl) ?_
  refine va_get (D := D) (ci := 9) (v := .int v_kind) (C := RX10) (T := TX10) (N := 71) hx hb hts hin hown hK hP 0 rfl rfl 5 (by decide) k_22_15 (fun _ h9 => h9) rfl dX10_isVar_1 ?_
  refine lv_iconst (v := 2) hx hb dX10_isVar_4 (by decide) ?_
  refine m_icmp_ne (X := v_kind.toInt) (Y := 2) (tgt := 20) hx hb dX10_isVar_5 (by decide) rfl (by decide) (fun c5 => ?_) (fun c5 => ?_)
  · skip
    refine lv_iconst (v := 0) hx hb dX10_isVar_20 (by decide) ?_
    subst hAe
    rw [hQ]
    exact W.zret (v := 0) hx hb hr (by decide) (fun t ht hW => ⟨⟨0, _, rfl, ⟨rfl, by first | assumption | omega | (intros; omega) | decide⟩, by rw [ht]; exact hP, va_K.moved hW.alike hK, hD⟩, hS.F ht⟩) hS.2.2 dX10_isVar_21
  · skip
    refine lv_aload_n hx hb dX10_isVar_8 rfl (lv_at hl 0 rfl) ?_
    refine va_get (D := D) (ci := 9) (v := .int v_letterMany) (C := RX10) (T := TX10) (N := 71) hx hb hts hin hown hK hP 0 rfl rfl 8 (by decide) k_23_16 (fun _ h9 => h9) rfl dX10_isVar_9 ?_
    refine lv_iconst (v := 1) hx hb dX10_isVar_12 (by decide) ?_
    refine m_icmp_ne (X := v_letterMany.toInt) (Y := 1) (tgt := 20) hx hb dX10_isVar_13 (by decide) rfl (by decide) (fun c13 => ?_) (fun c13 => ?_)
    · skip
      refine lv_iconst (v := 0) hx hb dX10_isVar_20 (by decide) ?_
      subst hAe
      rw [hQ]
      exact W.zret (v := 0) hx hb hr (by decide) (fun t ht hW => ⟨⟨0, _, rfl, ⟨rfl, by first | assumption | omega | (intros; omega) | decide⟩, by rw [ht]; exact hP, va_K.moved hW.alike hK, hD⟩, hS.F ht⟩) hS.2.2 dX10_isVar_21
    · skip
      refine lv_iconst (v := 1) hx hb dX10_isVar_16 (by decide) ?_
      refine lv_goto (tgt := 21) hx hb dX10_isVar_17 (by decide) ?_
      subst hAe
      rw [hQ]
      exact W.zret (v := 1) hx hb hr (by decide) (fun t ht hW => ⟨⟨1, _, rfl, ⟨rfl, by first | assumption | omega | (intros; omega) | decide⟩, by rw [ht]; exact hP, va_K.moved hW.alike hK, hD⟩, hS.F ht⟩) hS.2.2 dX10_isVar_21

def rmX10_readVar : Room := { frames := 80, cells := 0, slots := 0, locals := 1600 }
set_option maxHeartbeats 4000000 in
set_option maxRecDepth 100000 in
theorem tX10_readVar {l : Launch} {D : va_G} {K : Nat → Nat → Nat} {cs : Nat → ClassId} {q : Nat → Nat} {v_thrown v_taped v_size v_to v_kind v_from v_letterMany v_isBeyond v_suffix v_steps v_fault v_hasProgram v_wrong v_wrongAt v_variable v_numberKind v_takes v_outed v_creatures v_arrays v_cells v_marks v_came v_guessed v_right v_taken v_sort v_kindAt v_reached v_looked : Int32} {a_tape a_text a_act a_guess a_take a_begin a_finish a_to1 a_one a_two a_what a_ats a_atVar a_atNumber a_atomSort a_atomKind a_out a_varSort a_varKind a_creature a_arrayClass a_arrayFrom a_arrayLong a_cellSort a_cellKind a_asideSort a_asideKind a_outcome a_markSort a_markKind a_markClass a_index : Nat → Int32} {v_letters v_digits v_number v_value : Int64} {a_atomValue a_varValue a_cellValue a_asideValue a_markValue : Nat → Int64} (p_0 : LX a_tape v_size v_to v_from v_kind v_letters v_letterMany v_isBeyond) (p_1 : 0 ≤ v_variable.toInt ∧ v_variable.toInt ≤ 25) : CtI l yX10_readVar (wG yX10_readVar cX10_readVar 1 (some .boolean)) rmX10_readVar D (mwT cs) K [.ref (q 0)] (mw cs q v_thrown a_tape v_taped v_size v_to v_kind v_from v_letters v_letterMany v_digits v_isBeyond v_suffix v_steps v_fault v_hasProgram a_text a_act a_guess a_take a_begin a_finish a_to1 a_one a_two a_what a_ats a_atVar a_atNumber a_atomSort a_atomKind a_atomValue v_wrong v_wrongAt v_variable v_number v_numberKind v_takes a_out v_outed a_varSort a_varKind a_varValue a_creature v_creatures a_arrayClass a_arrayFrom a_arrayLong v_arrays v_cells a_cellSort a_cellKind a_cellValue a_asideSort a_asideKind a_asideValue a_outcome v_marks v_came v_guessed v_right v_taken a_markSort a_markKind a_markClass a_markValue v_sort v_kindAt v_value a_index v_reached v_looked) (fun r w1 => ∃ (v_to' : Int32) (v_kind' : Int32) (v_from' : Int32) (v_letters' : Int64) (v_letterMany' : Int32) (v_digits' : Int64) (v_isBeyond' : Int32) (v_suffix' : Int32) (v_wrong' : Int32) (v_wrongAt' : Int32) (v_variable' : Int32), w1 = (mw cs q v_thrown a_tape v_taped v_size v_to' v_kind' v_from' v_letters' v_letterMany' v_digits' v_isBeyond' v_suffix' v_steps v_fault v_hasProgram a_text a_act a_guess a_take a_begin a_finish a_to1 a_one a_two a_what a_ats a_atVar a_atNumber a_atomSort a_atomKind a_atomValue v_wrong' v_wrongAt' v_variable' v_number v_numberKind v_takes a_out v_outed a_varSort a_varKind a_varValue a_creature v_creatures a_arrayClass a_arrayFrom a_arrayLong v_arrays v_cells a_cellSort a_cellKind a_cellValue a_asideSort a_asideKind a_asideValue a_outcome v_marks v_came v_guessed v_right v_taken a_markSort a_markKind a_markClass a_markValue v_sort v_kindAt v_value a_index v_reached v_looked) ∧ (LX a_tape v_size v_to' v_from' v_kind' v_letters' v_letterMany' v_isBeyond') ∧ (v_to.toInt ≤ v_to'.toInt) ∧ (ph a_tape v_to' ≤ ph a_tape v_to + 1) ∧ (0 ≤ v_variable'.toInt ∧ v_variable'.toInt ≤ 25) ∧ ((r.toInt = 1 ∧ v_kind.toInt = 2) ∨ r.toInt = 0)) 0 0 := by
  intro sz
  refine Met.ofW (cc := cX10_readVar) (maxL := 1) (ret := (some .boolean)) (by decide) rfl ?_
  intro p e s m args below meth c s₁ B hml hv
  obtain ⟨rfl, hsz, hP, hK, hD0, hE⟩ := hv
  have hx := B.exec
  have hb := B.bytes
  have hr := B.returns
  have hts := atoms_spec (ws := (wG yX10_readVar cX10_readVar 1 (some .boolean))) B.pre
  have hown : s.vm.findClass RX10 = some m.cls := findClass_of_methodNamed B.named
  have hlocks := B.notSynchronized
  subst hsz
  have hD := hD0.self (sz := s.heap.size)
  obtain ⟨A, hAe⟩ : ∃ A : Nat → Prop, A = va_A (mw cs q v_thrown a_tape v_taped v_size v_to v_kind v_from v_letters v_letterMany v_digits v_isBeyond v_suffix v_steps v_fault v_hasProgram a_text a_act a_guess a_take a_begin a_finish a_to1 a_one a_two a_what a_ats a_atVar a_atNumber a_atomSort a_atomKind a_atomValue v_wrong v_wrongAt v_variable v_number v_numberKind v_takes a_out v_outed a_varSort a_varKind a_varValue a_creature v_creatures a_arrayClass a_arrayFrom a_arrayLong v_arrays v_cells a_cellSort a_cellKind a_cellValue a_asideSort a_asideKind a_asideValue a_outcome v_marks v_came v_guessed v_right v_taken a_markSort a_markKind a_markClass a_markValue v_sort v_kindAt v_value a_index v_reached v_looked) s.heap.size := ⟨_, rfl⟩
  rw [← hAe] at hD hE
  have hA : ∀ q : Nat, s.heap.size ≤ q → A q := fun q h => by rw [hAe]; exact Or.inr h
  have hS : va_S A s.heap s.heap [] := va_S.rf
  have hl := lv_entry ([.ref (q 0)]) (n := 1) (Nat.le_of_ble_eq_true rfl)
  rw [lg_entry_eq]
  generalize (lg_sl ([.ref (q 0)]) ++ List.replicate (1 - (lg_sl ([.ref (q 0)])).length) Slot.unset).toArray = ls at hl ⊢
  have hl : lv_has ls 1 [(0, .ref (q 0))] := hl
  refine wq (fun Q hQ => ?_)
  have hin : ∀ w ∈ wsX100, w ∈ (wG yX10_readVar cX10_readVar 1 (some .boolean)) := fun w h => List.mem_cons_of_mem _ (inlX10 w h)
  have kc0 : (1 : Int32).toInt = 1 := by decide
  have kc1 : (2 : Int32).toInt = 2 := by decide
  have k_23_1 := hts (.fieldLink RX10 289 "ArrayTrainerModel" "letters" "J") (List.mem_cons_of_mem _ (wr23 _ (List.mem_of_getElem? (i := 1) rfl)))
  have k_25_22 := hts (.fieldLink RX10 332 "ArrayTrainerModel" "variable" "I") (List.mem_cons_of_mem _ (wr25 _ (List.mem_of_getElem? (i := 22) rfl)))
  obtain ⟨H, hH⟩ : ∃ H : Heap, H = s.heap := ⟨_, rfl⟩
  obtain ⟨locs, hlc⟩ : ∃ L : List Loc, L = [] := ⟨_, rfl⟩
  have hP : va_P D vwCl (mw cs q v_thrown a_tape v_taped v_size v_to v_kind v_from v_letters v_letterMany v_digits v_isBeyond v_suffix v_steps v_fault v_hasProgram a_text a_act a_guess a_take a_begin a_finish a_to1 a_one a_two a_what a_ats a_atVar a_atNumber a_atomSort a_atomKind a_atomValue v_wrong v_wrongAt v_variable v_number v_numberKind v_takes a_out v_outed a_varSort a_varKind a_varValue a_creature v_creatures a_arrayClass a_arrayFrom a_arrayLong v_arrays v_cells a_cellSort a_cellKind a_cellValue a_asideSort a_asideKind a_asideValue a_outcome v_marks v_came v_guessed v_right v_taken a_markSort a_markKind a_markClass a_markValue v_sort v_kindAt v_value a_index v_reached v_looked) H := by rw [hH]; exact hP
  have hS : va_S A s.heap H locs := by rw [hH, hlc]; exact hS
  refine wHL hH hlc ?_
  refine lv_aload_n hx hb dX10_readVar_0 rfl (lv_at hl 0 rfl) ?_
  refine call_i (As := []) (rest := []) ⟨hx, hb, hml, hown, hts⟩ (tX10_isVar (l := l) ) (cwV 0 hts (gV (wr24 _ (List.mem_of_getElem? (i := 17) rfl)) (wr24 _ (List.mem_of_getElem? (i := 18) rfl)) (wr24 _ (List.mem_of_getElem? (i := 19) rfl)) (wr1 _ (List.mem_of_getElem? (i := 5) rfl)) (wr24 _ (List.mem_of_getElem? (i := 20) rfl))) rfl rfl rfl (by decide +kernel) ⟨Nat.le_of_ble_eq_true rfl, Nat.le_of_ble_eq_true rfl⟩) (va_recv hK hP (ci := 9) (q0 := 0) rfl rfl) hK hP hD hE hS hA rfl hl.1 rfl (Nat.le_of_ble_eq_true rfl) dX10_readVar_1 ⟨Nat.le_of_ble_eq_true rfl, Nat.le_of_ble_eq_true rfl⟩ (fun r1 w9 H locs hw1 hP hD hS => ?_)
  obtain ⟨rfl, hw1_0⟩ := hw1
  have b_r1 := iB r1
  refine m_if_ne (X := r1.toInt) (tgt := 13) hx hb dX10_readVar_4 (by decide) rfl (fun c4 => ?_) (fun c4 => ?_)
  · skip
    refine lv_aload_n hx hb dX10_readVar_13 rfl (lv_at hl 0 rfl) ?_
    refine lv_aload_n hx hb dX10_readVar_14 rfl (lv_at hl 0 rfl) ?_
    refine va_get (D := D) (ci := 9) (v := .long v_letters) (C := RX10) (T := TX10) (N := 71) hx hb hts hin hown hK hP 0 rfl rfl 7 (by decide) k_23_1 (fun _ h9 => h9) rfl dX10_readVar_15 ?_
    refine m_l2i hx hb dX10_readVar_18 (fun x18 e_x18 => ?_)
    have b_x18 := iB x18
    have hv := p_0.2.2.1 (by omega) (by omega)
    have hx18 := l2iT e_x18 (by omega) (by omega)
    refine lv_iconst (v := 1) hx hb dX10_readVar_19 (by decide) ?_
    refine m_isub (X := x18.toInt) (Y := 1) hx hb dX10_readVar_20 rfl (by decide) (fun x20 e_x20 g9 => ?_)
    obtain ⟨k_x20, g_x20⟩ := g9
    have b_x20 := iB x20
    try (have q_x20 : x20.toInt = x18.toInt - 1 := (by omega); clear g_x20 k_x20)
    refine va_put (D := D) (ci := 9) (v := .int x20) (ty := .int) (C := RX10) (T := TX10) (N := 71) hx hb hts hin tyX10 tyX10_ok nmX10 hown hK hP hD hS 0 rfl rfl 33 (by decide) k_25_22 (fun _ h9 => h9) rfl (by decide +kernel) rfl rfl (Nat.le_of_ble_eq_true rfl) dX10_readVar_21 (fun H locs hP hD hS => ?_)
    have hP : va_P D vwCl (mw cs q v_thrown a_tape v_taped v_size v_to v_kind v_from v_letters v_letterMany v_digits v_isBeyond v_suffix v_steps v_fault v_hasProgram a_text a_act a_guess a_take a_begin a_finish a_to1 a_one a_two a_what a_ats a_atVar a_atNumber a_atomSort a_atomKind a_atomValue v_wrong v_wrongAt x20 v_number v_numberKind v_takes a_out v_outed a_varSort a_varKind a_varValue a_creature v_creatures a_arrayClass a_arrayFrom a_arrayLong v_arrays v_cells a_cellSort a_cellKind a_cellValue a_asideSort a_asideKind a_asideValue a_outcome v_marks v_came v_guessed v_right v_taken a_markSort a_markKind a_markClass a_markValue v_sort v_kindAt v_value a_index v_reached v_looked) H := hP
    have hD : va_D A (mw cs q v_thrown a_tape v_taped v_size v_to v_kind v_from v_letters v_letterMany v_digits v_isBeyond v_suffix v_steps v_fault v_hasProgram a_text a_act a_guess a_take a_begin a_finish a_to1 a_one a_two a_what a_ats a_atVar a_atNumber a_atomSort a_atomKind a_atomValue v_wrong v_wrongAt x20 v_number v_numberKind v_takes a_out v_outed a_varSort a_varKind a_varValue a_creature v_creatures a_arrayClass a_arrayFrom a_arrayLong v_arrays v_cells a_cellSort a_cellKind a_cellValue a_asideSort a_asideKind a_asideValue a_outcome v_marks v_came v_guessed v_right v_taken a_markSort a_markKind a_markClass a_markValue v_sort v_kindAt v_value a_index v_reached v_looked) := hD
    refine lv_aload_n hx hb dX10_readVar_24 rfl (lv_at hl 0 rfl) ?_
    refine call_v (As := []) (rest := []) ⟨hx, hb, hml, hown, hts⟩ (tX10_goB (l := l)  (by first | assumption | exact LX.z (by assumption))) (cwV 0 hts (gV (wr22 _ (List.mem_of_getElem? (i := 20) rfl)) (wr22 _ (List.mem_of_getElem? (i := 21) rfl)) (wr22 _ (List.mem_of_getElem? (i := 22) rfl)) (wr1 _ (List.mem_of_getElem? (i := 5) rfl)) (wr22 _ (List.mem_of_getElem? (i := 23) rfl))) rfl rfl rfl (by decide +kernel) ⟨Nat.le_of_ble_eq_true rfl, Nat.le_of_ble_eq_true rfl⟩) (va_recv hK hP (ci := 9) (q0 := 0) rfl rfl) hK hP hD hE hS hA rfl hl.1 rfl (Nat.le_of_ble_eq_true rfl) dX10_readVar_25 ⟨Nat.le_of_ble_eq_true rfl, Nat.le_of_ble_eq_true rfl⟩ (fun w9 H locs hw25 hP hD hS => ?_)
    obtain ⟨v_to_25, v_kind_25, v_from_25, v_letters_25, v_letterMany_25, v_digits_25, v_isBeyond_25, v_suffix_25, rfl, hw25_0, hw25_1, hw25_2⟩ := hw25
    have b_v_to_25 := iB v_to_25
    have b_v_kind_25 := iB v_kind_25
    have b_v_from_25 := iB v_from_25
    have b_v_letters_25 := jB v_letters_25
    have b_v_letterMany_25 := iB v_letterMany_25
    have b_v_digits_25 := jB v_digits_25
    have b_v_isBeyond_25 := iB v_isBeyond_25
    have b_v_suffix_25 := iB v_suffix_25
    refine lv_iconst (v := 1) hx hb dX10_readVar_28 (by decide) ?_
    subst hAe
    rw [hQ]
    exact W.zret (v := 1) hx hb hr (by decide) (fun t ht hW => ⟨⟨1, _, rfl, ⟨v_to_25, v_kind_25, v_from_25, v_letters_25, v_letterMany_25, v_digits_25, v_isBeyond_25, v_suffix_25, v_wrong, v_wrongAt, x20, rfl, by first | assumption | omega | (intros; omega) | decide, by first | assumption | omega | (intros; omega) | decide, by first | assumption | omega | (intros; omega) | decide, by first | assumption | omega | (intros; omega) | decide, by first | assumption | omega | (intros; omega) | decide⟩, by rw [ht]; exact hP, va_K.moved hW.alike hK, hD⟩, hS.F ht⟩) hS.2.2 dX10_readVar_29
  · skip
    refine lv_aload_n hx hb dX10_readVar_7 rfl (lv_at hl 0 rfl) ?_
    refine lv_iconst (v := 2) hx hb dX10_readVar_8 (by decide) ?_
    refine call_i (As := [.int 2]) (rest := []) ⟨hx, hb, hml, hown, hts⟩ (tX10_bad (l := l) (2 : Int32)) (cwV 1 hts (gV (wr25 _ (List.mem_of_getElem? (i := 0) rfl)) (wr25 _ (List.mem_of_getElem? (i := 1) rfl)) (wr25 _ (List.mem_of_getElem? (i := 2) rfl)) (wr1 _ (List.mem_of_getElem? (i := 5) rfl)) (wr25 _ (List.mem_of_getElem? (i := 3) rfl))) rfl rfl rfl (by decide +kernel) ⟨Nat.le_of_ble_eq_true rfl, Nat.le_of_ble_eq_true rfl⟩) (va_recv hK hP (ci := 9) (q0 := 0) rfl rfl) hK hP hD hE hS hA rfl hl.1 rfl (Nat.le_of_ble_eq_true rfl) dX10_readVar_9 ⟨Nat.le_of_ble_eq_true rfl, Nat.le_of_ble_eq_true rfl⟩ (fun r9 w9 H locs hw9 hP hD hS => ?_)
    obtain ⟨v_wrong_9, v_wrongAt_9, rfl, hw9_0⟩ := hw9
    have b_v_wrong_9 := iB v_wrong_9
    have b_v_wrongAt_9 := iB v_wrongAt_9
    have b_r9 := iB r9
    subst hAe
    rw [hQ]
    exact W.zret (v := r9) hx hb hr (nbool (by first | omega | decide)) (fun t ht hW => ⟨⟨r9, _, rfl, ⟨v_to, v_kind, v_from, v_letters, v_letterMany, v_digits, v_isBeyond, v_suffix, v_wrong_9, v_wrongAt_9, v_variable, rfl, by first | assumption | omega | (intros; omega) | decide, by first | assumption | omega | (intros; omega) | decide, by first | assumption | omega | (intros; omega) | decide, by first | assumption | omega | (intros; omega) | decide, by first | assumption | omega | (intros; omega) | decide⟩, by rw [ht]; exact hP, va_K.moved hW.alike hK, hD⟩, hS.F ht⟩) hS.2.2 dX10_readVar_12

def rmX10_readNumber_ : Room := { frames := 80, cells := 0, slots := 0, locals := 1600 }
set_option maxHeartbeats 4000000 in
set_option maxRecDepth 100000 in
theorem tX10_readNumber_ {l : Launch} {D : va_G} {K : Nat → Nat → Nat} {cs : Nat → ClassId} {q : Nat → Nat} {v_thrown v_taped v_size v_to v_kind v_from v_letterMany v_isBeyond v_suffix v_steps v_fault v_hasProgram v_wrong v_wrongAt v_variable v_numberKind v_takes v_outed v_creatures v_arrays v_cells v_marks v_came v_guessed v_right v_taken v_sort v_kindAt v_reached v_looked : Int32} {a_tape a_text a_act a_guess a_take a_begin a_finish a_to1 a_one a_two a_what a_ats a_atVar a_atNumber a_atomSort a_atomKind a_out a_varSort a_varKind a_creature a_arrayClass a_arrayFrom a_arrayLong a_cellSort a_cellKind a_asideSort a_asideKind a_outcome a_markSort a_markKind a_markClass a_index : Nat → Int32} {v_letters v_digits v_number v_value : Int64} {a_atomValue a_varValue a_cellValue a_asideValue a_markValue : Nat → Int64} (z9 : Int32) (p_0 : LX a_tape v_size v_to v_from v_kind v_letters v_letterMany v_isBeyond) (p_1 : NumOK v_numberKind v_number) : CtI l yX10_readNumber_ (wG yX10_readNumber_ cX10_readNumber_ 8 (some .boolean)) rmX10_readNumber_ D (mwT cs) K [.ref (q 0), .int z9] (mw cs q v_thrown a_tape v_taped v_size v_to v_kind v_from v_letters v_letterMany v_digits v_isBeyond v_suffix v_steps v_fault v_hasProgram a_text a_act a_guess a_take a_begin a_finish a_to1 a_one a_two a_what a_ats a_atVar a_atNumber a_atomSort a_atomKind a_atomValue v_wrong v_wrongAt v_variable v_number v_numberKind v_takes a_out v_outed a_varSort a_varKind a_varValue a_creature v_creatures a_arrayClass a_arrayFrom a_arrayLong v_arrays v_cells a_cellSort a_cellKind a_cellValue a_asideSort a_asideKind a_asideValue a_outcome v_marks v_came v_guessed v_right v_taken a_markSort a_markKind a_markClass a_markValue v_sort v_kindAt v_value a_index v_reached v_looked) (fun r w1 => ∃ (v_to' : Int32) (v_kind' : Int32) (v_from' : Int32) (v_letters' : Int64) (v_letterMany' : Int32) (v_digits' : Int64) (v_isBeyond' : Int32) (v_suffix' : Int32) (v_wrong' : Int32) (v_wrongAt' : Int32) (v_number' : Int64) (v_numberKind' : Int32), w1 = (mw cs q v_thrown a_tape v_taped v_size v_to' v_kind' v_from' v_letters' v_letterMany' v_digits' v_isBeyond' v_suffix' v_steps v_fault v_hasProgram a_text a_act a_guess a_take a_begin a_finish a_to1 a_one a_two a_what a_ats a_atVar a_atNumber a_atomSort a_atomKind a_atomValue v_wrong' v_wrongAt' v_variable v_number' v_numberKind' v_takes a_out v_outed a_varSort a_varKind a_varValue a_creature v_creatures a_arrayClass a_arrayFrom a_arrayLong v_arrays v_cells a_cellSort a_cellKind a_cellValue a_asideSort a_asideKind a_asideValue a_outcome v_marks v_came v_guessed v_right v_taken a_markSort a_markKind a_markClass a_markValue v_sort v_kindAt v_value a_index v_reached v_looked) ∧ (LX a_tape v_size v_to' v_from' v_kind' v_letters' v_letterMany' v_isBeyond') ∧ (v_to.toInt ≤ v_to'.toInt) ∧ (ph a_tape v_to' ≤ ph a_tape v_to + 2) ∧ (NumOK v_numberKind' v_number') ∧ (r.toInt = 0 ∨ r.toInt = 1)) 0 0 := by
  intro sz
  refine Met.ofW (cc := cX10_readNumber_) (maxL := 8) (ret := (some .boolean)) (by decide) rfl ?_
  intro p e s m args below meth c s₁ B hml hv
  obtain ⟨rfl, hsz, hP, hK, hD0, hE⟩ := hv
  have hx := B.exec
  have hb := B.bytes
  have hr := B.returns
  have hts := atoms_spec (ws := (wG yX10_readNumber_ cX10_readNumber_ 8 (some .boolean))) B.pre
  have hown : s.vm.findClass RX10 = some m.cls := findClass_of_methodNamed B.named
  have hlocks := B.notSynchronized
  subst hsz
  have hD := hD0.self (sz := s.heap.size)
  obtain ⟨A, hAe⟩ : ∃ A : Nat → Prop, A = va_A (mw cs q v_thrown a_tape v_taped v_size v_to v_kind v_from v_letters v_letterMany v_digits v_isBeyond v_suffix v_steps v_fault v_hasProgram a_text a_act a_guess a_take a_begin a_finish a_to1 a_one a_two a_what a_ats a_atVar a_atNumber a_atomSort a_atomKind a_atomValue v_wrong v_wrongAt v_variable v_number v_numberKind v_takes a_out v_outed a_varSort a_varKind a_varValue a_creature v_creatures a_arrayClass a_arrayFrom a_arrayLong v_arrays v_cells a_cellSort a_cellKind a_cellValue a_asideSort a_asideKind a_asideValue a_outcome v_marks v_came v_guessed v_right v_taken a_markSort a_markKind a_markClass a_markValue v_sort v_kindAt v_value a_index v_reached v_looked) s.heap.size := ⟨_, rfl⟩
  rw [← hAe] at hD hE
  have hA : ∀ q : Nat, s.heap.size ≤ q → A q := fun q h => by rw [hAe]; exact Or.inr h
  have hS : va_S A s.heap s.heap [] := va_S.rf
  have hl := lv_entry ([.ref (q 0), .int z9]) (n := 8) (Nat.le_of_ble_eq_true rfl)
  rw [lg_entry_eq]
  generalize (lg_sl ([.ref (q 0), .int z9]) ++ List.replicate (8 - (lg_sl ([.ref (q 0), .int z9])).length) Slot.unset).toArray = ls at hl ⊢
  have hl : lv_has ls 8 [(0, .ref (q 0)), (1, .int z9)] := hl
  refine wq (fun Q hQ => ?_)
  have hin : ∀ w ∈ wsX100, w ∈ (wG yX10_readNumber_ cX10_readNumber_ 8 (some .boolean)) := fun w h => List.mem_cons_of_mem _ (inlX10 w h)
  have kc0 : (0 : Int32).toInt = 0 := by decide
  have kc1 : (1 : Int32).toInt = 1 := by decide
  have kc2 : (2 : Int32).toInt = 2 := by decide
  have kc3 : (3 : Int32).toInt = 3 := by decide
  have kc4 : (4 : Int32).toInt = 4 := by decide
  have kc5 : (5 : Int32).toInt = 5 := by decide
  have kc6 : (6 : Int32).toInt = 6 := by decide
  have kc7 : (7 : Int32).toInt = 7 := by decide
  have kc8 : (45 : Int32).toInt = 45 := by decide
  have kc9 : (98 : Int32).toInt = 98 := by decide
  have kc10 : (99 : Int32).toInt = 99 := by decide
  have kc11 : (102 : Int32).toInt = 102 := by decide
  have kc12 : (108 : Int32).toInt = 108 := by decide
  have kc13 : (115 : Int32).toInt = 115 := by decide
  have kc14 : (-2147483648 : Int64).toInt = -2147483648 := by decide
  have kc15 : (-32768 : Int64).toInt = -32768 := by decide
  have kc16 : (-128 : Int64).toInt = -128 := by decide
  have kc17 : (0 : Int64).toInt = 0 := by decide
  have kc18 : (127 : Int64).toInt = 127 := by decide
  have kc19 : (32767 : Int64).toInt = 32767 := by decide
  have kc20 : (65535 : Int64).toInt = 65535 := by decide
  have kc21 : (2147483647 : Int64).toInt = 2147483647 := by decide
  have k_22_15 := hts (.fieldLink RX10 273 "ArrayTrainerModel" "kind" "I") (List.mem_cons_of_mem _ (wr22 _ (List.mem_of_getElem? (i := 15) rfl)))
  have k_23_23 := hts (.fieldLink RX10 296 "ArrayTrainerModel" "suffix" "I") (List.mem_cons_of_mem _ (wr23 _ (List.mem_of_getElem? (i := 23) rfl)))
  have k_24_0 := hts (.fieldLink RX10 299 "ArrayTrainerModel" "digits" "J") (List.mem_cons_of_mem _ (wr24 _ (List.mem_of_getElem? (i := 0) rfl)))
  have k_24_1 := hts (.fieldLink RX10 302 "ArrayTrainerModel" "isBeyond" "Z") (List.mem_cons_of_mem _ (wr24 _ (List.mem_of_getElem? (i := 1) rfl)))
  have k_26_23 := hts (.fieldLink RX10 353 "ArrayTrainerModel" "number" "J") (List.mem_cons_of_mem _ (wr26 _ (List.mem_of_getElem? (i := 23) rfl)))
  have k_27_11 := hts (.fieldLink RX10 356 "ArrayTrainerModel" "numberKind" "I") (List.mem_cons_of_mem _ (wr27 _ (List.mem_of_getElem? (i := 11) rfl)))
  have k_27_9 := hts (.constantLong RX10 345 (-2147483648)) (List.mem_cons_of_mem _ (wr27 _ (List.mem_of_getElem? (i := 9) rfl)))
  have k_27_10 := hts (.constantLong RX10 347 (2147483647)) (List.mem_cons_of_mem _ (wr27 _ (List.mem_of_getElem? (i := 10) rfl)))
  have k_27_8 := hts (.constantLong RX10 343 (65535)) (List.mem_cons_of_mem _ (wr27 _ (List.mem_of_getElem? (i := 8) rfl)))
  have k_27_6 := hts (.constantLong RX10 339 (-32768)) (List.mem_cons_of_mem _ (wr27 _ (List.mem_of_getElem? (i := 6) rfl)))
  have k_27_7 := hts (.constantLong RX10 341 (32767)) (List.mem_cons_of_mem _ (wr27 _ (List.mem_of_getElem? (i := 7) rfl)))
  have k_27_4 := hts (.constantLong RX10 335 (-128)) (List.mem_cons_of_mem _ (wr27 _ (List.mem_of_getElem? (i := 4) rfl)))
  have k_27_5 := hts (.constantLong RX10 337 (127)) (List.mem_cons_of_mem _ (wr27 _ (List.mem_of_getElem? (i := 5) rfl)))
  obtain ⟨H, hH⟩ : ∃ H : Heap, H = s.heap := ⟨_, rfl⟩
  obtain ⟨locs, hlc⟩ : ∃ L : List Loc, L = [] := ⟨_, rfl⟩
  have hP : va_P D vwCl (mw cs q v_thrown a_tape v_taped v_size v_to v_kind v_from v_letters v_letterMany v_digits v_isBeyond v_suffix v_steps v_fault v_hasProgram a_text a_act a_guess a_take a_begin a_finish a_to1 a_one a_two a_what a_ats a_atVar a_atNumber a_atomSort a_atomKind a_atomValue v_wrong v_wrongAt v_variable v_number v_numberKind v_takes a_out v_outed a_varSort a_varKind a_varValue a_creature v_creatures a_arrayClass a_arrayFrom a_arrayLong v_arrays v_cells a_cellSort a_cellKind a_cellValue a_asideSort a_asideKind a_asideValue a_outcome v_marks v_came v_guessed v_right v_taken a_markSort a_markKind a_markClass a_markValue v_sort v_kindAt v_value a_index v_reached v_looked) H := by rw [hH]; exact hP
  have hS : va_S A s.heap H locs := by rw [hH, hlc]; exact hS
  refine wHL hH hlc ?_
  have b_z9 := iB z9
  refine lv_aload_n hx hb dX10_readNumber__0 rfl (lv_at hl 0 rfl) ?_
  refine lv_bipush (v := 45) hx hb dX10_readNumber__1 (by decide) ?_
  refine call_i (As := [.int 45]) (rest := []) ⟨hx, hb, hml, hown, hts⟩ (tX10_isSign (l := l) (45 : Int32)) (cwV 1 hts (gV (wr26 _ (List.mem_of_getElem? (i := 3) rfl)) (wr26 _ (List.mem_of_getElem? (i := 4) rfl)) (wr26 _ (List.mem_of_getElem? (i := 5) rfl)) (wr1 _ (List.mem_of_getElem? (i := 5) rfl)) (wr26 _ (List.mem_of_getElem? (i := 6) rfl))) rfl rfl rfl (by decide +kernel) ⟨Nat.le_of_ble_eq_true rfl, Nat.le_of_ble_eq_true rfl⟩) (va_recv hK hP (ci := 9) (q0 := 0) rfl rfl) hK hP hD hE hS hA rfl hl.1 rfl (Nat.le_of_ble_eq_true rfl) dX10_readNumber__3 ⟨Nat.le_of_ble_eq_true rfl, Nat.le_of_ble_eq_true rfl⟩ (fun r3 w9 H locs hw3 hP hD hS => ?_)
  obtain ⟨rfl, hw3_0⟩ := hw3
  have b_r3 := iB r3
  refine lv_istore_n (lv' := [(2, .int r3), (0, .ref (q 0)), (1, .int z9)]) hx hb dX10_readNumber__6 rfl hl (by decide) rfl (fun ls hl => ?_)
  refine lv_iload_n hx hb dX10_readNumber__7 rfl (lv_at hl 0 rfl) ?_
  have J15 : ∀ (v_to_15 : Int32) (v_digits_15 : Int64) (v_from_15 : Int32) (v_isBeyond_15 : Int32) (v_kind_15 : Int32) (v_letterMany_15 : Int32) (v_letters_15 : Int64) (v_suffix_15 : Int32) (H : Heap) (locs : List Loc) (ls : Array Slot), (LX a_tape v_size v_to_15 v_from_15 v_kind_15 v_letters_15 v_letterMany_15 v_isBeyond_15) → (v_to.toInt ≤ v_to_15.toInt) → (ph a_tape v_to_15 ≤ ph a_tape v_to + 1) → va_P D vwCl (mw cs q v_thrown a_tape v_taped v_size v_to_15 v_kind_15 v_from_15 v_letters_15 v_letterMany_15 v_digits_15 v_isBeyond_15 v_suffix_15 v_steps v_fault v_hasProgram a_text a_act a_guess a_take a_begin a_finish a_to1 a_one a_two a_what a_ats a_atVar a_atNumber a_atomSort a_atomKind a_atomValue v_wrong v_wrongAt v_variable v_number v_numberKind v_takes a_out v_outed a_varSort a_varKind a_varValue a_creature v_creatures a_arrayClass a_arrayFrom a_arrayLong v_arrays v_cells a_cellSort a_cellKind a_cellValue a_asideSort a_asideKind a_asideValue a_outcome v_marks v_came v_guessed v_right v_taken a_markSort a_markKind a_markClass a_markValue v_sort v_kindAt v_value a_index v_reached v_looked) H → va_D A (mw cs q v_thrown a_tape v_taped v_size v_to_15 v_kind_15 v_from_15 v_letters_15 v_letterMany_15 v_digits_15 v_isBeyond_15 v_suffix_15 v_steps v_fault v_hasProgram a_text a_act a_guess a_take a_begin a_finish a_to1 a_one a_two a_what a_ats a_atVar a_atNumber a_atomSort a_atomKind a_atomValue v_wrong v_wrongAt v_variable v_number v_numberKind v_takes a_out v_outed a_varSort a_varKind a_varValue a_creature v_creatures a_arrayClass a_arrayFrom a_arrayLong v_arrays v_cells a_cellSort a_cellKind a_cellValue a_asideSort a_asideKind a_asideValue a_outcome v_marks v_came v_guessed v_right v_taken a_markSort a_markKind a_markClass a_markValue v_sort v_kindAt v_value a_index v_reached v_looked) → va_S A s.heap H locs → lv_has ls 8 [(0, .ref (q 0)), (1, .int z9), (2, .int r3)] → W p l e (headSpec (wG yX10_readNumber_ cX10_readNumber_ 8 (some .boolean)) rmX10_readNumber_).room s m ([.ref (q 0), .int z9] : List Value).toArray below meth c H locs 0 0 Q (F0 m 15 ls []) := by
    intro v_to_15 v_digits_15 v_from_15 v_isBeyond_15 v_kind_15 v_letterMany_15 v_letters_15 v_suffix_15 H locs ls f15_0 f15_1 f15_2 hP hD hS hl
    refine lv_aload_n hx hb dX10_readNumber__15 rfl (lv_at hl 0 rfl) ?_
    refine va_get (D := D) (ci := 9) (v := .int v_kind_15) (C := RX10) (T := TX10) (N := 71) hx hb hts hin hown hK hP 0 rfl rfl 5 (by decide) k_22_15 (fun _ h9 => h9) rfl dX10_readNumber__16 ?_
    refine lv_iconst (v := 3) hx hb dX10_readNumber__19 (by decide) ?_
    refine m_icmp_eq (X := v_kind_15.toInt) (Y := 3) (tgt := 29) hx hb dX10_readNumber__20 (by decide) rfl (by decide) (fun c20 => ?_) (fun c20 => ?_)
    · skip
      refine lv_iload_n hx hb dX10_readNumber__29 rfl (lv_at hl 1 rfl) ?_
      have J46 : ∀ (H : Heap) (locs : List Loc) (ls : Array Slot), va_P D vwCl (mw cs q v_thrown a_tape v_taped v_size v_to_15 v_kind_15 v_from_15 v_letters_15 v_letterMany_15 v_digits_15 v_isBeyond_15 v_suffix_15 v_steps v_fault v_hasProgram a_text a_act a_guess a_take a_begin a_finish a_to1 a_one a_two a_what a_ats a_atVar a_atNumber a_atomSort a_atomKind a_atomValue v_wrong v_wrongAt v_variable v_number v_numberKind v_takes a_out v_outed a_varSort a_varKind a_varValue a_creature v_creatures a_arrayClass a_arrayFrom a_arrayLong v_arrays v_cells a_cellSort a_cellKind a_cellValue a_asideSort a_asideKind a_asideValue a_outcome v_marks v_came v_guessed v_right v_taken a_markSort a_markKind a_markClass a_markValue v_sort v_kindAt v_value a_index v_reached v_looked) H → va_D A (mw cs q v_thrown a_tape v_taped v_size v_to_15 v_kind_15 v_from_15 v_letters_15 v_letterMany_15 v_digits_15 v_isBeyond_15 v_suffix_15 v_steps v_fault v_hasProgram a_text a_act a_guess a_take a_begin a_finish a_to1 a_one a_two a_what a_ats a_atVar a_atNumber a_atomSort a_atomKind a_atomValue v_wrong v_wrongAt v_variable v_number v_numberKind v_takes a_out v_outed a_varSort a_varKind a_varValue a_creature v_creatures a_arrayClass a_arrayFrom a_arrayLong v_arrays v_cells a_cellSort a_cellKind a_cellValue a_asideSort a_asideKind a_asideValue a_outcome v_marks v_came v_guessed v_right v_taken a_markSort a_markKind a_markClass a_markValue v_sort v_kindAt v_value a_index v_reached v_looked) → va_S A s.heap H locs → lv_has ls 8 [(0, .ref (q 0)), (2, .int r3)] → W p l e (headSpec (wG yX10_readNumber_ cX10_readNumber_ 8 (some .boolean)) rmX10_readNumber_).room s m ([.ref (q 0), .int z9] : List Value).toArray below meth c H locs 0 0 Q (F0 m 46 ls []) := by
        intro H locs ls hP hD hS hl
        refine lv_aload_n hx hb dX10_readNumber__46 rfl (lv_at hl 0 rfl) ?_
        refine va_get (D := D) (ci := 9) (v := .int v_suffix_15) (C := RX10) (T := TX10) (N := 71) hx hb hts hin hown hK hP 0 rfl rfl 11 (by decide) k_23_23 (fun _ h9 => h9) rfl dX10_readNumber__47 ?_
        have J125 : ∀ (s0_125 : Int32) (H : Heap) (locs : List Loc) (ls : Array Slot), (s0_125.toInt = 1 ∨ s0_125.toInt = 2 ∨ s0_125.toInt = 3 ∨ s0_125.toInt = 4 ∨ s0_125.toInt = 5 ∨ s0_125.toInt = 6 ∨ s0_125.toInt = 7) → va_P D vwCl (mw cs q v_thrown a_tape v_taped v_size v_to_15 v_kind_15 v_from_15 v_letters_15 v_letterMany_15 v_digits_15 v_isBeyond_15 v_suffix_15 v_steps v_fault v_hasProgram a_text a_act a_guess a_take a_begin a_finish a_to1 a_one a_two a_what a_ats a_atVar a_atNumber a_atomSort a_atomKind a_atomValue v_wrong v_wrongAt v_variable v_number v_numberKind v_takes a_out v_outed a_varSort a_varKind a_varValue a_creature v_creatures a_arrayClass a_arrayFrom a_arrayLong v_arrays v_cells a_cellSort a_cellKind a_cellValue a_asideSort a_asideKind a_asideValue a_outcome v_marks v_came v_guessed v_right v_taken a_markSort a_markKind a_markClass a_markValue v_sort v_kindAt v_value a_index v_reached v_looked) H → va_D A (mw cs q v_thrown a_tape v_taped v_size v_to_15 v_kind_15 v_from_15 v_letters_15 v_letterMany_15 v_digits_15 v_isBeyond_15 v_suffix_15 v_steps v_fault v_hasProgram a_text a_act a_guess a_take a_begin a_finish a_to1 a_one a_two a_what a_ats a_atVar a_atNumber a_atomSort a_atomKind a_atomValue v_wrong v_wrongAt v_variable v_number v_numberKind v_takes a_out v_outed a_varSort a_varKind a_varValue a_creature v_creatures a_arrayClass a_arrayFrom a_arrayLong v_arrays v_cells a_cellSort a_cellKind a_cellValue a_asideSort a_asideKind a_asideValue a_outcome v_marks v_came v_guessed v_right v_taken a_markSort a_markKind a_markClass a_markValue v_sort v_kindAt v_value a_index v_reached v_looked) → va_S A s.heap H locs → lv_has ls 8 [(0, .ref (q 0)), (2, .int r3)] → W p l e (headSpec (wG yX10_readNumber_ cX10_readNumber_ 8 (some .boolean)) rmX10_readNumber_).room s m ([.ref (q 0), .int z9] : List Value).toArray below meth c H locs 0 0 Q (F0 m 125 ls [.int s0_125]) := by
          intro s0_125 H locs ls f125_0 hP hD hS hl
          refine lv_istore_n (lv' := [(3, .int s0_125), (0, .ref (q 0)), (2, .int r3)]) hx hb dX10_readNumber__125 rfl hl (by decide) rfl (fun ls hl => ?_)
          refine lv_aload_n hx hb dX10_readNumber__126 rfl (lv_at hl 1 rfl) ?_
          refine va_get (D := D) (ci := 9) (v := .long v_digits_15) (C := RX10) (T := TX10) (N := 71) hx hb hts hin hown hK hP 0 rfl rfl 9 (by decide) k_24_0 (fun _ h9 => h9) rfl dX10_readNumber__127 ?_
          refine lv_lconst (v := 0) hx hb dX10_readNumber__130 (by decide) ?_
          refine m_lcmp (X := v_digits_15.toInt) (Y := 0) hx hb dX10_readNumber__131 rfl (by decide) (fun x131 g_x131 => ?_)
          have J140 : ∀ (s0_140 : Int32) (H : Heap) (locs : List Loc) (ls : Array Slot), (s0_140.toInt = 0 ∨ s0_140.toInt = 1) → va_P D vwCl (mw cs q v_thrown a_tape v_taped v_size v_to_15 v_kind_15 v_from_15 v_letters_15 v_letterMany_15 v_digits_15 v_isBeyond_15 v_suffix_15 v_steps v_fault v_hasProgram a_text a_act a_guess a_take a_begin a_finish a_to1 a_one a_two a_what a_ats a_atVar a_atNumber a_atomSort a_atomKind a_atomValue v_wrong v_wrongAt v_variable v_number v_numberKind v_takes a_out v_outed a_varSort a_varKind a_varValue a_creature v_creatures a_arrayClass a_arrayFrom a_arrayLong v_arrays v_cells a_cellSort a_cellKind a_cellValue a_asideSort a_asideKind a_asideValue a_outcome v_marks v_came v_guessed v_right v_taken a_markSort a_markKind a_markClass a_markValue v_sort v_kindAt v_value a_index v_reached v_looked) H → va_D A (mw cs q v_thrown a_tape v_taped v_size v_to_15 v_kind_15 v_from_15 v_letters_15 v_letterMany_15 v_digits_15 v_isBeyond_15 v_suffix_15 v_steps v_fault v_hasProgram a_text a_act a_guess a_take a_begin a_finish a_to1 a_one a_two a_what a_ats a_atVar a_atNumber a_atomSort a_atomKind a_atomValue v_wrong v_wrongAt v_variable v_number v_numberKind v_takes a_out v_outed a_varSort a_varKind a_varValue a_creature v_creatures a_arrayClass a_arrayFrom a_arrayLong v_arrays v_cells a_cellSort a_cellKind a_cellValue a_asideSort a_asideKind a_asideValue a_outcome v_marks v_came v_guessed v_right v_taken a_markSort a_markKind a_markClass a_markValue v_sort v_kindAt v_value a_index v_reached v_looked) → va_S A s.heap H locs → lv_has ls 8 [(0, .ref (q 0)), (2, .int r3), (3, .int s0_125)] → W p l e (headSpec (wG yX10_readNumber_ cX10_readNumber_ 8 (some .boolean)) rmX10_readNumber_).room s m ([.ref (q 0), .int z9] : List Value).toArray below meth c H locs 0 0 Q (F0 m 140 ls [.int s0_140]) := by
            intro s0_140 H locs ls f140_0 hP hD hS hl
            refine lv_istore (lv' := [(4, .int s0_140), (0, .ref (q 0)), (2, .int r3), (3, .int s0_125)]) hx hb dX10_readNumber__140 hl (by decide) rfl (fun ls hl => ?_)
            refine lv_aload_n hx hb dX10_readNumber__142 rfl (lv_at hl 1 rfl) ?_
            refine va_get (D := D) (ci := 9) (v := .int v_isBeyond_15) (C := RX10) (T := TX10) (N := 71) hx hb hts hin hown hK hP 0 rfl rfl 10 (by decide) k_24_1 (fun _ h9 => h9) rfl dX10_readNumber__143 ?_
            have J163 : ∀ (s0_163 : Int32) (H : Heap) (locs : List Loc) (ls : Array Slot), (s0_163.toInt = 0 ∨ s0_163.toInt = 1) → va_P D vwCl (mw cs q v_thrown a_tape v_taped v_size v_to_15 v_kind_15 v_from_15 v_letters_15 v_letterMany_15 v_digits_15 v_isBeyond_15 v_suffix_15 v_steps v_fault v_hasProgram a_text a_act a_guess a_take a_begin a_finish a_to1 a_one a_two a_what a_ats a_atVar a_atNumber a_atomSort a_atomKind a_atomValue v_wrong v_wrongAt v_variable v_number v_numberKind v_takes a_out v_outed a_varSort a_varKind a_varValue a_creature v_creatures a_arrayClass a_arrayFrom a_arrayLong v_arrays v_cells a_cellSort a_cellKind a_cellValue a_asideSort a_asideKind a_asideValue a_outcome v_marks v_came v_guessed v_right v_taken a_markSort a_markKind a_markClass a_markValue v_sort v_kindAt v_value a_index v_reached v_looked) H → va_D A (mw cs q v_thrown a_tape v_taped v_size v_to_15 v_kind_15 v_from_15 v_letters_15 v_letterMany_15 v_digits_15 v_isBeyond_15 v_suffix_15 v_steps v_fault v_hasProgram a_text a_act a_guess a_take a_begin a_finish a_to1 a_one a_two a_what a_ats a_atVar a_atNumber a_atomSort a_atomKind a_atomValue v_wrong v_wrongAt v_variable v_number v_numberKind v_takes a_out v_outed a_varSort a_varKind a_varValue a_creature v_creatures a_arrayClass a_arrayFrom a_arrayLong v_arrays v_cells a_cellSort a_cellKind a_cellValue a_asideSort a_asideKind a_asideValue a_outcome v_marks v_came v_guessed v_right v_taken a_markSort a_markKind a_markClass a_markValue v_sort v_kindAt v_value a_index v_reached v_looked) → va_S A s.heap H locs → lv_has ls 8 [(0, .ref (q 0)), (2, .int r3), (3, .int s0_125)] → W p l e (headSpec (wG yX10_readNumber_ cX10_readNumber_ 8 (some .boolean)) rmX10_readNumber_).room s m ([.ref (q 0), .int z9] : List Value).toArray below meth c H locs 0 0 Q (F0 m 163 ls [.int s0_163]) := by
              intro s0_163 H locs ls f163_0 hP hD hS hl
              refine lv_istore (lv' := [(5, .int s0_163), (0, .ref (q 0)), (2, .int r3), (3, .int s0_125)]) hx hb dX10_readNumber__163 hl (by decide) rfl (fun ls hl => ?_)
              refine lv_iload_n hx hb dX10_readNumber__165 rfl (lv_at hl 2 rfl) ?_
              have J181 : ∀ (s0_181 : Int64) (H : Heap) (locs : List Loc) (ls : Array Slot), va_P D vwCl (mw cs q v_thrown a_tape v_taped v_size v_to_15 v_kind_15 v_from_15 v_letters_15 v_letterMany_15 v_digits_15 v_isBeyond_15 v_suffix_15 v_steps v_fault v_hasProgram a_text a_act a_guess a_take a_begin a_finish a_to1 a_one a_two a_what a_ats a_atVar a_atNumber a_atomSort a_atomKind a_atomValue v_wrong v_wrongAt v_variable v_number v_numberKind v_takes a_out v_outed a_varSort a_varKind a_varValue a_creature v_creatures a_arrayClass a_arrayFrom a_arrayLong v_arrays v_cells a_cellSort a_cellKind a_cellValue a_asideSort a_asideKind a_asideValue a_outcome v_marks v_came v_guessed v_right v_taken a_markSort a_markKind a_markClass a_markValue v_sort v_kindAt v_value a_index v_reached v_looked) H → va_D A (mw cs q v_thrown a_tape v_taped v_size v_to_15 v_kind_15 v_from_15 v_letters_15 v_letterMany_15 v_digits_15 v_isBeyond_15 v_suffix_15 v_steps v_fault v_hasProgram a_text a_act a_guess a_take a_begin a_finish a_to1 a_one a_two a_what a_ats a_atVar a_atNumber a_atomSort a_atomKind a_atomValue v_wrong v_wrongAt v_variable v_number v_numberKind v_takes a_out v_outed a_varSort a_varKind a_varValue a_creature v_creatures a_arrayClass a_arrayFrom a_arrayLong v_arrays v_cells a_cellSort a_cellKind a_cellValue a_asideSort a_asideKind a_asideValue a_outcome v_marks v_came v_guessed v_right v_taken a_markSort a_markKind a_markClass a_markValue v_sort v_kindAt v_value a_index v_reached v_looked) → va_S A s.heap H locs → lv_has ls 8 [(0, .ref (q 0)), (3, .int s0_125), (5, .int s0_163)] → W p l e (headSpec (wG yX10_readNumber_ cX10_readNumber_ 8 (some .boolean)) rmX10_readNumber_).room s m ([.ref (q 0), .int z9] : List Value).toArray below meth c H locs 0 0 Q (F0 m 181 ls [.long s0_181]) := by
                intro s0_181 H locs ls hP hD hS hl
                refine lv_lstore (lv' := [(6, .long s0_181), (0, .ref (q 0)), (3, .int s0_125), (5, .int s0_163)]) hx hb dX10_readNumber__181 hl (by decide) rfl (fun ls hl => ?_)
                refine lv_iload_n hx hb dX10_readNumber__183 rfl (lv_at hl 2 rfl) ?_
                refine lv_iconst (v := 1) hx hb dX10_readNumber__184 (by decide) ?_
                have J218 : ∀ (l5_218 : Int32) (H : Heap) (locs : List Loc) (ls : Array Slot), va_P D vwCl (mw cs q v_thrown a_tape v_taped v_size v_to_15 v_kind_15 v_from_15 v_letters_15 v_letterMany_15 v_digits_15 v_isBeyond_15 v_suffix_15 v_steps v_fault v_hasProgram a_text a_act a_guess a_take a_begin a_finish a_to1 a_one a_two a_what a_ats a_atVar a_atNumber a_atomSort a_atomKind a_atomValue v_wrong v_wrongAt v_variable v_number v_numberKind v_takes a_out v_outed a_varSort a_varKind a_varValue a_creature v_creatures a_arrayClass a_arrayFrom a_arrayLong v_arrays v_cells a_cellSort a_cellKind a_cellValue a_asideSort a_asideKind a_asideValue a_outcome v_marks v_came v_guessed v_right v_taken a_markSort a_markKind a_markClass a_markValue v_sort v_kindAt v_value a_index v_reached v_looked) H → va_D A (mw cs q v_thrown a_tape v_taped v_size v_to_15 v_kind_15 v_from_15 v_letters_15 v_letterMany_15 v_digits_15 v_isBeyond_15 v_suffix_15 v_steps v_fault v_hasProgram a_text a_act a_guess a_take a_begin a_finish a_to1 a_one a_two a_what a_ats a_atVar a_atNumber a_atomSort a_atomKind a_atomValue v_wrong v_wrongAt v_variable v_number v_numberKind v_takes a_out v_outed a_varSort a_varKind a_varValue a_creature v_creatures a_arrayClass a_arrayFrom a_arrayLong v_arrays v_cells a_cellSort a_cellKind a_cellValue a_asideSort a_asideKind a_asideValue a_outcome v_marks v_came v_guessed v_right v_taken a_markSort a_markKind a_markClass a_markValue v_sort v_kindAt v_value a_index v_reached v_looked) → va_S A s.heap H locs → lv_has ls 8 [(0, .ref (q 0)), (3, .int s0_125), (5, .int l5_218), (6, .long s0_181)] → W p l e (headSpec (wG yX10_readNumber_ cX10_readNumber_ 8 (some .boolean)) rmX10_readNumber_).room s m ([.ref (q 0), .int z9] : List Value).toArray below meth c H locs 0 0 Q (F0 m 218 ls []) := by
                  intro l5_218 H locs ls hP hD hS hl
                  refine lv_iload_n hx hb dX10_readNumber__218 rfl (lv_at hl 1 rfl) ?_
                  refine lv_iconst (v := 2) hx hb dX10_readNumber__219 (by decide) ?_
                  have J253 : ∀ (l5_253 : Int32) (H : Heap) (locs : List Loc) (ls : Array Slot), va_P D vwCl (mw cs q v_thrown a_tape v_taped v_size v_to_15 v_kind_15 v_from_15 v_letters_15 v_letterMany_15 v_digits_15 v_isBeyond_15 v_suffix_15 v_steps v_fault v_hasProgram a_text a_act a_guess a_take a_begin a_finish a_to1 a_one a_two a_what a_ats a_atVar a_atNumber a_atomSort a_atomKind a_atomValue v_wrong v_wrongAt v_variable v_number v_numberKind v_takes a_out v_outed a_varSort a_varKind a_varValue a_creature v_creatures a_arrayClass a_arrayFrom a_arrayLong v_arrays v_cells a_cellSort a_cellKind a_cellValue a_asideSort a_asideKind a_asideValue a_outcome v_marks v_came v_guessed v_right v_taken a_markSort a_markKind a_markClass a_markValue v_sort v_kindAt v_value a_index v_reached v_looked) H → va_D A (mw cs q v_thrown a_tape v_taped v_size v_to_15 v_kind_15 v_from_15 v_letters_15 v_letterMany_15 v_digits_15 v_isBeyond_15 v_suffix_15 v_steps v_fault v_hasProgram a_text a_act a_guess a_take a_begin a_finish a_to1 a_one a_two a_what a_ats a_atVar a_atNumber a_atomSort a_atomKind a_atomValue v_wrong v_wrongAt v_variable v_number v_numberKind v_takes a_out v_outed a_varSort a_varKind a_varValue a_creature v_creatures a_arrayClass a_arrayFrom a_arrayLong v_arrays v_cells a_cellSort a_cellKind a_cellValue a_asideSort a_asideKind a_asideValue a_outcome v_marks v_came v_guessed v_right v_taken a_markSort a_markKind a_markClass a_markValue v_sort v_kindAt v_value a_index v_reached v_looked) → va_S A s.heap H locs → lv_has ls 8 [(0, .ref (q 0)), (3, .int s0_125), (5, .int l5_253), (6, .long s0_181)] → W p l e (headSpec (wG yX10_readNumber_ cX10_readNumber_ 8 (some .boolean)) rmX10_readNumber_).room s m ([.ref (q 0), .int z9] : List Value).toArray below meth c H locs 0 0 Q (F0 m 253 ls []) := by
                    intro l5_253 H locs ls hP hD hS hl
                    refine lv_iload_n hx hb dX10_readNumber__253 rfl (lv_at hl 1 rfl) ?_
                    refine lv_iconst (v := 3) hx hb dX10_readNumber__254 (by decide) ?_
                    have J286 : ∀ (l5_286 : Int32) (H : Heap) (locs : List Loc) (ls : Array Slot), va_P D vwCl (mw cs q v_thrown a_tape v_taped v_size v_to_15 v_kind_15 v_from_15 v_letters_15 v_letterMany_15 v_digits_15 v_isBeyond_15 v_suffix_15 v_steps v_fault v_hasProgram a_text a_act a_guess a_take a_begin a_finish a_to1 a_one a_two a_what a_ats a_atVar a_atNumber a_atomSort a_atomKind a_atomValue v_wrong v_wrongAt v_variable v_number v_numberKind v_takes a_out v_outed a_varSort a_varKind a_varValue a_creature v_creatures a_arrayClass a_arrayFrom a_arrayLong v_arrays v_cells a_cellSort a_cellKind a_cellValue a_asideSort a_asideKind a_asideValue a_outcome v_marks v_came v_guessed v_right v_taken a_markSort a_markKind a_markClass a_markValue v_sort v_kindAt v_value a_index v_reached v_looked) H → va_D A (mw cs q v_thrown a_tape v_taped v_size v_to_15 v_kind_15 v_from_15 v_letters_15 v_letterMany_15 v_digits_15 v_isBeyond_15 v_suffix_15 v_steps v_fault v_hasProgram a_text a_act a_guess a_take a_begin a_finish a_to1 a_one a_two a_what a_ats a_atVar a_atNumber a_atomSort a_atomKind a_atomValue v_wrong v_wrongAt v_variable v_number v_numberKind v_takes a_out v_outed a_varSort a_varKind a_varValue a_creature v_creatures a_arrayClass a_arrayFrom a_arrayLong v_arrays v_cells a_cellSort a_cellKind a_cellValue a_asideSort a_asideKind a_asideValue a_outcome v_marks v_came v_guessed v_right v_taken a_markSort a_markKind a_markClass a_markValue v_sort v_kindAt v_value a_index v_reached v_looked) → va_S A s.heap H locs → lv_has ls 8 [(0, .ref (q 0)), (3, .int s0_125), (5, .int l5_286), (6, .long s0_181)] → W p l e (headSpec (wG yX10_readNumber_ cX10_readNumber_ 8 (some .boolean)) rmX10_readNumber_).room s m ([.ref (q 0), .int z9] : List Value).toArray below meth c H locs 0 0 Q (F0 m 286 ls []) := by
                      intro l5_286 H locs ls hP hD hS hl
                      refine lv_iload_n hx hb dX10_readNumber__286 rfl (lv_at hl 1 rfl) ?_
                      refine lv_iconst (v := 4) hx hb dX10_readNumber__287 (by decide) ?_
                      have J321 : ∀ (l5_321 : Int32) (H : Heap) (locs : List Loc) (ls : Array Slot), va_P D vwCl (mw cs q v_thrown a_tape v_taped v_size v_to_15 v_kind_15 v_from_15 v_letters_15 v_letterMany_15 v_digits_15 v_isBeyond_15 v_suffix_15 v_steps v_fault v_hasProgram a_text a_act a_guess a_take a_begin a_finish a_to1 a_one a_two a_what a_ats a_atVar a_atNumber a_atomSort a_atomKind a_atomValue v_wrong v_wrongAt v_variable v_number v_numberKind v_takes a_out v_outed a_varSort a_varKind a_varValue a_creature v_creatures a_arrayClass a_arrayFrom a_arrayLong v_arrays v_cells a_cellSort a_cellKind a_cellValue a_asideSort a_asideKind a_asideValue a_outcome v_marks v_came v_guessed v_right v_taken a_markSort a_markKind a_markClass a_markValue v_sort v_kindAt v_value a_index v_reached v_looked) H → va_D A (mw cs q v_thrown a_tape v_taped v_size v_to_15 v_kind_15 v_from_15 v_letters_15 v_letterMany_15 v_digits_15 v_isBeyond_15 v_suffix_15 v_steps v_fault v_hasProgram a_text a_act a_guess a_take a_begin a_finish a_to1 a_one a_two a_what a_ats a_atVar a_atNumber a_atomSort a_atomKind a_atomValue v_wrong v_wrongAt v_variable v_number v_numberKind v_takes a_out v_outed a_varSort a_varKind a_varValue a_creature v_creatures a_arrayClass a_arrayFrom a_arrayLong v_arrays v_cells a_cellSort a_cellKind a_cellValue a_asideSort a_asideKind a_asideValue a_outcome v_marks v_came v_guessed v_right v_taken a_markSort a_markKind a_markClass a_markValue v_sort v_kindAt v_value a_index v_reached v_looked) → va_S A s.heap H locs → lv_has ls 8 [(0, .ref (q 0)), (3, .int s0_125), (5, .int l5_321), (6, .long s0_181)] → W p l e (headSpec (wG yX10_readNumber_ cX10_readNumber_ 8 (some .boolean)) rmX10_readNumber_).room s m ([.ref (q 0), .int z9] : List Value).toArray below meth c H locs 0 0 Q (F0 m 321 ls []) := by
                        intro l5_321 H locs ls hP hD hS hl
                        refine lv_iload hx hb dX10_readNumber__321 (lv_at hl 2 rfl) ?_
                        refine m_if_ne (X := l5_321.toInt) (tgt := 332) hx hb dX10_readNumber__323 (by decide) rfl (fun c323 => ?_) (fun c323 => ?_)
                        · skip
                          refine lv_aload_n hx hb dX10_readNumber__332 rfl (lv_at hl 0 rfl) ?_
                          refine lv_iload_n hx hb dX10_readNumber__333 rfl (lv_at hl 1 rfl) ?_
                          refine lv_bipush (v := 6) hx hb dX10_readNumber__334 (by decide) ?_
                          have J351 : ∀ (s1_351 : Int64) (H : Heap) (locs : List Loc) (ls : Array Slot), (NumOK s0_125 s1_351) → va_P D vwCl (mw cs q v_thrown a_tape v_taped v_size v_to_15 v_kind_15 v_from_15 v_letters_15 v_letterMany_15 v_digits_15 v_isBeyond_15 v_suffix_15 v_steps v_fault v_hasProgram a_text a_act a_guess a_take a_begin a_finish a_to1 a_one a_two a_what a_ats a_atVar a_atNumber a_atomSort a_atomKind a_atomValue v_wrong v_wrongAt v_variable v_number v_numberKind v_takes a_out v_outed a_varSort a_varKind a_varValue a_creature v_creatures a_arrayClass a_arrayFrom a_arrayLong v_arrays v_cells a_cellSort a_cellKind a_cellValue a_asideSort a_asideKind a_asideValue a_outcome v_marks v_came v_guessed v_right v_taken a_markSort a_markKind a_markClass a_markValue v_sort v_kindAt v_value a_index v_reached v_looked) H → va_D A (mw cs q v_thrown a_tape v_taped v_size v_to_15 v_kind_15 v_from_15 v_letters_15 v_letterMany_15 v_digits_15 v_isBeyond_15 v_suffix_15 v_steps v_fault v_hasProgram a_text a_act a_guess a_take a_begin a_finish a_to1 a_one a_two a_what a_ats a_atVar a_atNumber a_atomSort a_atomKind a_atomValue v_wrong v_wrongAt v_variable v_number v_numberKind v_takes a_out v_outed a_varSort a_varKind a_varValue a_creature v_creatures a_arrayClass a_arrayFrom a_arrayLong v_arrays v_cells a_cellSort a_cellKind a_cellValue a_asideSort a_asideKind a_asideValue a_outcome v_marks v_came v_guessed v_right v_taken a_markSort a_markKind a_markClass a_markValue v_sort v_kindAt v_value a_index v_reached v_looked) → va_S A s.heap H locs → lv_has ls 8 [(0, .ref (q 0)), (3, .int s0_125)] → W p l e (headSpec (wG yX10_readNumber_ cX10_readNumber_ 8 (some .boolean)) rmX10_readNumber_).room s m ([.ref (q 0), .int z9] : List Value).toArray below meth c H locs 0 0 Q (F0 m 351 ls [.long s1_351, .ref (q 0)]) := by
                            intro s1_351 H locs ls f351_0 hP hD hS hl
                            refine va_put (D := D) (ci := 9) (v := .long s1_351) (ty := .long) (C := RX10) (T := TX10) (N := 71) hx hb hts hin tyX10 tyX10_ok nmX10 hown hK hP hD hS 0 rfl rfl 34 (by decide) k_26_23 (fun _ h9 => h9) rfl (by decide +kernel) rfl rfl (Nat.le_of_ble_eq_true rfl) dX10_readNumber__351 (fun H locs hP hD hS => ?_)
                            have hP : va_P D vwCl (mw cs q v_thrown a_tape v_taped v_size v_to_15 v_kind_15 v_from_15 v_letters_15 v_letterMany_15 v_digits_15 v_isBeyond_15 v_suffix_15 v_steps v_fault v_hasProgram a_text a_act a_guess a_take a_begin a_finish a_to1 a_one a_two a_what a_ats a_atVar a_atNumber a_atomSort a_atomKind a_atomValue v_wrong v_wrongAt v_variable s1_351 v_numberKind v_takes a_out v_outed a_varSort a_varKind a_varValue a_creature v_creatures a_arrayClass a_arrayFrom a_arrayLong v_arrays v_cells a_cellSort a_cellKind a_cellValue a_asideSort a_asideKind a_asideValue a_outcome v_marks v_came v_guessed v_right v_taken a_markSort a_markKind a_markClass a_markValue v_sort v_kindAt v_value a_index v_reached v_looked) H := hP
                            have hD : va_D A (mw cs q v_thrown a_tape v_taped v_size v_to_15 v_kind_15 v_from_15 v_letters_15 v_letterMany_15 v_digits_15 v_isBeyond_15 v_suffix_15 v_steps v_fault v_hasProgram a_text a_act a_guess a_take a_begin a_finish a_to1 a_one a_two a_what a_ats a_atVar a_atNumber a_atomSort a_atomKind a_atomValue v_wrong v_wrongAt v_variable s1_351 v_numberKind v_takes a_out v_outed a_varSort a_varKind a_varValue a_creature v_creatures a_arrayClass a_arrayFrom a_arrayLong v_arrays v_cells a_cellSort a_cellKind a_cellValue a_asideSort a_asideKind a_asideValue a_outcome v_marks v_came v_guessed v_right v_taken a_markSort a_markKind a_markClass a_markValue v_sort v_kindAt v_value a_index v_reached v_looked) := hD
                            refine lv_aload_n hx hb dX10_readNumber__354 rfl (lv_at hl 0 rfl) ?_
                            refine lv_iload_n hx hb dX10_readNumber__355 rfl (lv_at hl 1 rfl) ?_
                            refine va_put (D := D) (ci := 9) (v := .int s0_125) (ty := .int) (C := RX10) (T := TX10) (N := 71) hx hb hts hin tyX10 tyX10_ok nmX10 hown hK hP hD hS 0 rfl rfl 35 (by decide) k_27_11 (fun _ h9 => h9) rfl (by decide +kernel) rfl rfl (Nat.le_of_ble_eq_true rfl) dX10_readNumber__356 (fun H locs hP hD hS => ?_)
                            have hP : va_P D vwCl (mw cs q v_thrown a_tape v_taped v_size v_to_15 v_kind_15 v_from_15 v_letters_15 v_letterMany_15 v_digits_15 v_isBeyond_15 v_suffix_15 v_steps v_fault v_hasProgram a_text a_act a_guess a_take a_begin a_finish a_to1 a_one a_two a_what a_ats a_atVar a_atNumber a_atomSort a_atomKind a_atomValue v_wrong v_wrongAt v_variable s1_351 s0_125 v_takes a_out v_outed a_varSort a_varKind a_varValue a_creature v_creatures a_arrayClass a_arrayFrom a_arrayLong v_arrays v_cells a_cellSort a_cellKind a_cellValue a_asideSort a_asideKind a_asideValue a_outcome v_marks v_came v_guessed v_right v_taken a_markSort a_markKind a_markClass a_markValue v_sort v_kindAt v_value a_index v_reached v_looked) H := hP
                            have hD : va_D A (mw cs q v_thrown a_tape v_taped v_size v_to_15 v_kind_15 v_from_15 v_letters_15 v_letterMany_15 v_digits_15 v_isBeyond_15 v_suffix_15 v_steps v_fault v_hasProgram a_text a_act a_guess a_take a_begin a_finish a_to1 a_one a_two a_what a_ats a_atVar a_atNumber a_atomSort a_atomKind a_atomValue v_wrong v_wrongAt v_variable s1_351 s0_125 v_takes a_out v_outed a_varSort a_varKind a_varValue a_creature v_creatures a_arrayClass a_arrayFrom a_arrayLong v_arrays v_cells a_cellSort a_cellKind a_cellValue a_asideSort a_asideKind a_asideValue a_outcome v_marks v_came v_guessed v_right v_taken a_markSort a_markKind a_markClass a_markValue v_sort v_kindAt v_value a_index v_reached v_looked) := hD
                            refine lv_aload_n hx hb dX10_readNumber__359 rfl (lv_at hl 0 rfl) ?_
                            refine call_v (As := []) (rest := []) ⟨hx, hb, hml, hown, hts⟩ (tX10_goB (l := l)  (by first | assumption | exact LX.z (by assumption))) (cwV 0 hts (gV (wr22 _ (List.mem_of_getElem? (i := 20) rfl)) (wr22 _ (List.mem_of_getElem? (i := 21) rfl)) (wr22 _ (List.mem_of_getElem? (i := 22) rfl)) (wr1 _ (List.mem_of_getElem? (i := 5) rfl)) (wr22 _ (List.mem_of_getElem? (i := 23) rfl))) rfl rfl rfl (by decide +kernel) ⟨Nat.le_of_ble_eq_true rfl, Nat.le_of_ble_eq_true rfl⟩) (va_recv hK hP (ci := 9) (q0 := 0) rfl rfl) hK hP hD hE hS hA rfl hl.1 rfl (Nat.le_of_ble_eq_true rfl) dX10_readNumber__360 ⟨Nat.le_of_ble_eq_true rfl, Nat.le_of_ble_eq_true rfl⟩ (fun w9 H locs hw360 hP hD hS => ?_)
                            obtain ⟨v_to_360, v_kind_360, v_from_360, v_letters_360, v_letterMany_360, v_digits_360, v_isBeyond_360, v_suffix_360, rfl, hw360_0, hw360_1, hw360_2⟩ := hw360
                            have b_v_to_360 := iB v_to_360
                            have b_v_kind_360 := iB v_kind_360
                            have b_v_from_360 := iB v_from_360
                            have b_v_letters_360 := jB v_letters_360
                            have b_v_letterMany_360 := iB v_letterMany_360
                            have b_v_digits_360 := jB v_digits_360
                            have b_v_isBeyond_360 := iB v_isBeyond_360
                            have b_v_suffix_360 := iB v_suffix_360
                            refine lv_iconst (v := 1) hx hb dX10_readNumber__363 (by decide) ?_
                            subst hAe
                            rw [hQ]
                            exact W.zret (v := 1) hx hb hr (by decide) (fun t ht hW => ⟨⟨1, _, rfl, ⟨v_to_360, v_kind_360, v_from_360, v_letters_360, v_letterMany_360, v_digits_360, v_isBeyond_360, v_suffix_360, v_wrong, v_wrongAt, s1_351, s0_125, rfl, by first | assumption | omega | (intros; omega) | decide, by first | assumption | omega | (intros; omega) | decide, by first | assumption | omega | (intros; omega) | decide, by first | assumption | omega | (intros; omega) | decide, by first | assumption | omega | (intros; omega) | decide⟩, by rw [ht]; exact hP, va_K.moved hW.alike hK, hD⟩, hS.F ht⟩) hS.2.2 dX10_readNumber__364
                          refine m_icmp_ge (X := s0_125.toInt) (Y := 6) (tgt := 344) hx hb dX10_readNumber__336 (by decide) rfl (by decide) (fun c336 => ?_) (fun c336 => ?_)
                          · skip
                            refine lv_iconst (v := 5) hx hb dX10_readNumber__344 (by decide) ?_
                            refine lv_lload hx hb dX10_readNumber__345 (lv_at hl 3 rfl) ?_
                            refine lv_iload_n hx hb dX10_readNumber__347 rfl (lv_at hl 1 rfl) ?_
                            refine call_jSP (As := [.int 5, .long s0_181, .int s0_125]) (rest := [.ref (q 0)]) ⟨hx, hb, hml, hown, hts⟩ (tX10_widened (l := l) (5 : Int32) s0_181 s0_125 (by exact NumOK.low (by decide) (by decide))) (va_cwS 3 hts (gS (wr27 _ (List.mem_of_getElem? (i := 12) rfl)) (wr27 _ (List.mem_of_getElem? (i := 13) rfl)) (wr1 _ (List.mem_of_getElem? (i := 5) rfl)) (wr27 _ (List.mem_of_getElem? (i := 14) rfl))) rfl rfl rfl (by decide +kernel) ⟨Nat.le_of_ble_eq_true rfl, Nat.le_of_ble_eq_true rfl⟩) (hK.sub [] rfl) hP hD hE hS hA rfl hl.1 rfl (Nat.le_of_ble_eq_true rfl) dX10_readNumber__348 ⟨Nat.le_of_ble_eq_true rfl, Nat.le_of_ble_eq_true rfl⟩ (fun r348 w9 H locs hw348 hP hD hS => ?_)
                            obtain ⟨rfl, hw348_0⟩ := hw348
                            have b_r348 := jB r348
                            exact J351 r348 H locs ls (by first | assumption | exact NumOK.low (by omega) (by omega)) hP hD hS (lv_sub hl [0, 1] rfl)
                          · skip
                            refine lv_lload hx hb dX10_readNumber__339 (lv_at hl 3 rfl) ?_
                            refine lv_goto (tgt := 351) hx hb dX10_readNumber__341 (by decide) ?_
                            exact J351 s0_181 H locs ls (by first | assumption | exact NumOK.low (by omega) (by omega)) hP hD hS (lv_sub hl [0, 1] rfl)
                        · skip
                          refine lv_aload_n hx hb dX10_readNumber__326 rfl (lv_at hl 0 rfl) ?_
                          refine lv_iconst (v := 3) hx hb dX10_readNumber__327 (by decide) ?_
                          refine call_i (As := [.int 3]) (rest := []) ⟨hx, hb, hml, hown, hts⟩ (tX10_bad (l := l) (3 : Int32)) (cwV 1 hts (gV (wr25 _ (List.mem_of_getElem? (i := 0) rfl)) (wr25 _ (List.mem_of_getElem? (i := 1) rfl)) (wr25 _ (List.mem_of_getElem? (i := 2) rfl)) (wr1 _ (List.mem_of_getElem? (i := 5) rfl)) (wr25 _ (List.mem_of_getElem? (i := 3) rfl))) rfl rfl rfl (by decide +kernel) ⟨Nat.le_of_ble_eq_true rfl, Nat.le_of_ble_eq_true rfl⟩) (va_recv hK hP (ci := 9) (q0 := 0) rfl rfl) hK hP hD hE hS hA rfl hl.1 rfl (Nat.le_of_ble_eq_true rfl) dX10_readNumber__328 ⟨Nat.le_of_ble_eq_true rfl, Nat.le_of_ble_eq_true rfl⟩ (fun r328 w9 H locs hw328 hP hD hS => ?_)
                          obtain ⟨v_wrong_328, v_wrongAt_328, rfl, hw328_0⟩ := hw328
                          have b_v_wrong_328 := iB v_wrong_328
                          have b_v_wrongAt_328 := iB v_wrongAt_328
                          have b_r328 := iB r328
                          subst hAe
                          rw [hQ]
                          exact W.zret (v := r328) hx hb hr (nbool (by first | omega | decide)) (fun t ht hW => ⟨⟨r328, _, rfl, ⟨v_to_15, v_kind_15, v_from_15, v_letters_15, v_letterMany_15, v_digits_15, v_isBeyond_15, v_suffix_15, v_wrong_328, v_wrongAt_328, v_number, v_numberKind, rfl, by first | assumption | omega | (intros; omega) | decide, by first | assumption | omega | (intros; omega) | decide, by first | assumption | omega | (intros; omega) | decide, by first | assumption | omega | (intros; omega) | decide, by first | assumption | omega | (intros; omega) | decide⟩, by rw [ht]; exact hP, va_K.moved hW.alike hK, hD⟩, hS.F ht⟩) hS.2.2 dX10_readNumber__331
                      refine m_icmp_ne (X := s0_125.toInt) (Y := 4) (tgt := 321) hx hb dX10_readNumber__288 (by decide) rfl (by decide) (fun c288 => ?_) (fun c288 => ?_)
                      · skip
                        exact J321 l5_286 H locs ls hP hD hS (lv_sub hl [0, 1, 2, 3] rfl)
                      · skip
                        refine lv_iload hx hb dX10_readNumber__291 (lv_at hl 2 rfl) ?_
                        have J319 : ∀ (s0_319 : Int32) (H : Heap) (locs : List Loc) (ls : Array Slot), (s0_319.toInt = 0 ∨ s0_319.toInt = 1) → va_P D vwCl (mw cs q v_thrown a_tape v_taped v_size v_to_15 v_kind_15 v_from_15 v_letters_15 v_letterMany_15 v_digits_15 v_isBeyond_15 v_suffix_15 v_steps v_fault v_hasProgram a_text a_act a_guess a_take a_begin a_finish a_to1 a_one a_two a_what a_ats a_atVar a_atNumber a_atomSort a_atomKind a_atomValue v_wrong v_wrongAt v_variable v_number v_numberKind v_takes a_out v_outed a_varSort a_varKind a_varValue a_creature v_creatures a_arrayClass a_arrayFrom a_arrayLong v_arrays v_cells a_cellSort a_cellKind a_cellValue a_asideSort a_asideKind a_asideValue a_outcome v_marks v_came v_guessed v_right v_taken a_markSort a_markKind a_markClass a_markValue v_sort v_kindAt v_value a_index v_reached v_looked) H → va_D A (mw cs q v_thrown a_tape v_taped v_size v_to_15 v_kind_15 v_from_15 v_letters_15 v_letterMany_15 v_digits_15 v_isBeyond_15 v_suffix_15 v_steps v_fault v_hasProgram a_text a_act a_guess a_take a_begin a_finish a_to1 a_one a_two a_what a_ats a_atVar a_atNumber a_atomSort a_atomKind a_atomValue v_wrong v_wrongAt v_variable v_number v_numberKind v_takes a_out v_outed a_varSort a_varKind a_varValue a_creature v_creatures a_arrayClass a_arrayFrom a_arrayLong v_arrays v_cells a_cellSort a_cellKind a_cellValue a_asideSort a_asideKind a_asideValue a_outcome v_marks v_came v_guessed v_right v_taken a_markSort a_markKind a_markClass a_markValue v_sort v_kindAt v_value a_index v_reached v_looked) → va_S A s.heap H locs → lv_has ls 8 [(0, .ref (q 0)), (3, .int s0_125), (6, .long s0_181)] → W p l e (headSpec (wG yX10_readNumber_ cX10_readNumber_ 8 (some .boolean)) rmX10_readNumber_).room s m ([.ref (q 0), .int z9] : List Value).toArray below meth c H locs 0 0 Q (F0 m 319 ls [.int s0_319]) := by
                          intro s0_319 H locs ls f319_0 hP hD hS hl
                          refine lv_istore (lv' := [(5, .int s0_319), (0, .ref (q 0)), (3, .int s0_125), (6, .long s0_181)]) hx hb dX10_readNumber__319 hl (by decide) rfl (fun ls hl => ?_)
                          exact J321 s0_319 H locs ls hP hD hS (lv_sub hl [1, 2, 0, 3] rfl)
                        have J318 : ∀ (H : Heap) (locs : List Loc) (ls : Array Slot), va_P D vwCl (mw cs q v_thrown a_tape v_taped v_size v_to_15 v_kind_15 v_from_15 v_letters_15 v_letterMany_15 v_digits_15 v_isBeyond_15 v_suffix_15 v_steps v_fault v_hasProgram a_text a_act a_guess a_take a_begin a_finish a_to1 a_one a_two a_what a_ats a_atVar a_atNumber a_atomSort a_atomKind a_atomValue v_wrong v_wrongAt v_variable v_number v_numberKind v_takes a_out v_outed a_varSort a_varKind a_varValue a_creature v_creatures a_arrayClass a_arrayFrom a_arrayLong v_arrays v_cells a_cellSort a_cellKind a_cellValue a_asideSort a_asideKind a_asideValue a_outcome v_marks v_came v_guessed v_right v_taken a_markSort a_markKind a_markClass a_markValue v_sort v_kindAt v_value a_index v_reached v_looked) H → va_D A (mw cs q v_thrown a_tape v_taped v_size v_to_15 v_kind_15 v_from_15 v_letters_15 v_letterMany_15 v_digits_15 v_isBeyond_15 v_suffix_15 v_steps v_fault v_hasProgram a_text a_act a_guess a_take a_begin a_finish a_to1 a_one a_two a_what a_ats a_atVar a_atNumber a_atomSort a_atomKind a_atomValue v_wrong v_wrongAt v_variable v_number v_numberKind v_takes a_out v_outed a_varSort a_varKind a_varValue a_creature v_creatures a_arrayClass a_arrayFrom a_arrayLong v_arrays v_cells a_cellSort a_cellKind a_cellValue a_asideSort a_asideKind a_asideValue a_outcome v_marks v_came v_guessed v_right v_taken a_markSort a_markKind a_markClass a_markValue v_sort v_kindAt v_value a_index v_reached v_looked) → va_S A s.heap H locs → lv_has ls 8 [(0, .ref (q 0)), (3, .int s0_125), (6, .long s0_181)] → W p l e (headSpec (wG yX10_readNumber_ cX10_readNumber_ 8 (some .boolean)) rmX10_readNumber_).room s m ([.ref (q 0), .int z9] : List Value).toArray below meth c H locs 0 0 Q (F0 m 318 ls []) := by
                          intro H locs ls hP hD hS hl
                          refine lv_iconst (v := 0) hx hb dX10_readNumber__318 (by decide) ?_
                          exact J319 (0 : Int32) H locs ls (by first | decide | omega) hP hD hS (lv_sub hl [0, 1, 2] rfl)
                        refine m_if_eq (X := l5_286.toInt) (tgt := 318) hx hb dX10_readNumber__293 (by decide) rfl (fun c293 => ?_) (fun c293 => ?_)
                        · skip
                          exact J318 H locs ls hP hD hS (lv_sub hl [0, 1, 3] rfl)
                        · skip
                          refine lv_lload hx hb dX10_readNumber__296 (lv_at hl 3 rfl) ?_
                          refine lv_ldc2 (v := (-2147483648)) hx hb hown k_27_9 dX10_readNumber__298 ?_
                          refine m_lcmp (X := s0_181.toInt) (Y := (-2147483648)) hx hb dX10_readNumber__301 rfl (by decide) (fun x301 g_x301 => ?_)
                          refine m_if_lt (X := x301.toInt) (tgt := 318) hx hb dX10_readNumber__302 (by decide) rfl (fun c302 => ?_) (fun c302 => ?_)
                          · skip
                            exact J318 H locs ls hP hD hS (lv_sub hl [0, 1, 3] rfl)
                          · skip
                            refine lv_lload hx hb dX10_readNumber__305 (lv_at hl 3 rfl) ?_
                            refine lv_ldc2 (v := 2147483647) hx hb hown k_27_10 dX10_readNumber__307 ?_
                            refine m_lcmp (X := s0_181.toInt) (Y := 2147483647) hx hb dX10_readNumber__310 rfl (by decide) (fun x310 g_x310 => ?_)
                            refine m_if_gt (X := x310.toInt) (tgt := 318) hx hb dX10_readNumber__311 (by decide) rfl (fun c311 => ?_) (fun c311 => ?_)
                            · skip
                              exact J318 H locs ls hP hD hS (lv_sub hl [0, 1, 3] rfl)
                            · skip
                              refine lv_iconst (v := 1) hx hb dX10_readNumber__314 (by decide) ?_
                              refine lv_goto (tgt := 319) hx hb dX10_readNumber__315 (by decide) ?_
                              exact J319 (1 : Int32) H locs ls (by first | decide | omega) hP hD hS (lv_sub hl [0, 1, 3] rfl)
                    refine m_icmp_ne (X := s0_125.toInt) (Y := 3) (tgt := 286) hx hb dX10_readNumber__255 (by decide) rfl (by decide) (fun c255 => ?_) (fun c255 => ?_)
                    · skip
                      exact J286 l5_253 H locs ls hP hD hS (lv_sub hl [0, 1, 2, 3] rfl)
                    · skip
                      refine lv_iload hx hb dX10_readNumber__258 (lv_at hl 2 rfl) ?_
                      have J284 : ∀ (s0_284 : Int32) (H : Heap) (locs : List Loc) (ls : Array Slot), (s0_284.toInt = 0 ∨ s0_284.toInt = 1) → va_P D vwCl (mw cs q v_thrown a_tape v_taped v_size v_to_15 v_kind_15 v_from_15 v_letters_15 v_letterMany_15 v_digits_15 v_isBeyond_15 v_suffix_15 v_steps v_fault v_hasProgram a_text a_act a_guess a_take a_begin a_finish a_to1 a_one a_two a_what a_ats a_atVar a_atNumber a_atomSort a_atomKind a_atomValue v_wrong v_wrongAt v_variable v_number v_numberKind v_takes a_out v_outed a_varSort a_varKind a_varValue a_creature v_creatures a_arrayClass a_arrayFrom a_arrayLong v_arrays v_cells a_cellSort a_cellKind a_cellValue a_asideSort a_asideKind a_asideValue a_outcome v_marks v_came v_guessed v_right v_taken a_markSort a_markKind a_markClass a_markValue v_sort v_kindAt v_value a_index v_reached v_looked) H → va_D A (mw cs q v_thrown a_tape v_taped v_size v_to_15 v_kind_15 v_from_15 v_letters_15 v_letterMany_15 v_digits_15 v_isBeyond_15 v_suffix_15 v_steps v_fault v_hasProgram a_text a_act a_guess a_take a_begin a_finish a_to1 a_one a_two a_what a_ats a_atVar a_atNumber a_atomSort a_atomKind a_atomValue v_wrong v_wrongAt v_variable v_number v_numberKind v_takes a_out v_outed a_varSort a_varKind a_varValue a_creature v_creatures a_arrayClass a_arrayFrom a_arrayLong v_arrays v_cells a_cellSort a_cellKind a_cellValue a_asideSort a_asideKind a_asideValue a_outcome v_marks v_came v_guessed v_right v_taken a_markSort a_markKind a_markClass a_markValue v_sort v_kindAt v_value a_index v_reached v_looked) → va_S A s.heap H locs → lv_has ls 8 [(0, .ref (q 0)), (3, .int s0_125), (6, .long s0_181)] → W p l e (headSpec (wG yX10_readNumber_ cX10_readNumber_ 8 (some .boolean)) rmX10_readNumber_).room s m ([.ref (q 0), .int z9] : List Value).toArray below meth c H locs 0 0 Q (F0 m 284 ls [.int s0_284]) := by
                        intro s0_284 H locs ls f284_0 hP hD hS hl
                        refine lv_istore (lv' := [(5, .int s0_284), (0, .ref (q 0)), (3, .int s0_125), (6, .long s0_181)]) hx hb dX10_readNumber__284 hl (by decide) rfl (fun ls hl => ?_)
                        exact J286 s0_284 H locs ls hP hD hS (lv_sub hl [1, 2, 0, 3] rfl)
                      have J283 : ∀ (H : Heap) (locs : List Loc) (ls : Array Slot), va_P D vwCl (mw cs q v_thrown a_tape v_taped v_size v_to_15 v_kind_15 v_from_15 v_letters_15 v_letterMany_15 v_digits_15 v_isBeyond_15 v_suffix_15 v_steps v_fault v_hasProgram a_text a_act a_guess a_take a_begin a_finish a_to1 a_one a_two a_what a_ats a_atVar a_atNumber a_atomSort a_atomKind a_atomValue v_wrong v_wrongAt v_variable v_number v_numberKind v_takes a_out v_outed a_varSort a_varKind a_varValue a_creature v_creatures a_arrayClass a_arrayFrom a_arrayLong v_arrays v_cells a_cellSort a_cellKind a_cellValue a_asideSort a_asideKind a_asideValue a_outcome v_marks v_came v_guessed v_right v_taken a_markSort a_markKind a_markClass a_markValue v_sort v_kindAt v_value a_index v_reached v_looked) H → va_D A (mw cs q v_thrown a_tape v_taped v_size v_to_15 v_kind_15 v_from_15 v_letters_15 v_letterMany_15 v_digits_15 v_isBeyond_15 v_suffix_15 v_steps v_fault v_hasProgram a_text a_act a_guess a_take a_begin a_finish a_to1 a_one a_two a_what a_ats a_atVar a_atNumber a_atomSort a_atomKind a_atomValue v_wrong v_wrongAt v_variable v_number v_numberKind v_takes a_out v_outed a_varSort a_varKind a_varValue a_creature v_creatures a_arrayClass a_arrayFrom a_arrayLong v_arrays v_cells a_cellSort a_cellKind a_cellValue a_asideSort a_asideKind a_asideValue a_outcome v_marks v_came v_guessed v_right v_taken a_markSort a_markKind a_markClass a_markValue v_sort v_kindAt v_value a_index v_reached v_looked) → va_S A s.heap H locs → lv_has ls 8 [(0, .ref (q 0)), (3, .int s0_125), (6, .long s0_181)] → W p l e (headSpec (wG yX10_readNumber_ cX10_readNumber_ 8 (some .boolean)) rmX10_readNumber_).room s m ([.ref (q 0), .int z9] : List Value).toArray below meth c H locs 0 0 Q (F0 m 283 ls []) := by
                        intro H locs ls hP hD hS hl
                        refine lv_iconst (v := 0) hx hb dX10_readNumber__283 (by decide) ?_
                        exact J284 (0 : Int32) H locs ls (by first | decide | omega) hP hD hS (lv_sub hl [0, 1, 2] rfl)
                      refine m_if_eq (X := l5_253.toInt) (tgt := 283) hx hb dX10_readNumber__260 (by decide) rfl (fun c260 => ?_) (fun c260 => ?_)
                      · skip
                        exact J283 H locs ls hP hD hS (lv_sub hl [0, 1, 3] rfl)
                      · skip
                        refine lv_lload hx hb dX10_readNumber__263 (lv_at hl 3 rfl) ?_
                        refine lv_lconst (v := 0) hx hb dX10_readNumber__265 (by decide) ?_
                        refine m_lcmp (X := s0_181.toInt) (Y := 0) hx hb dX10_readNumber__266 rfl (by decide) (fun x266 g_x266 => ?_)
                        refine m_if_lt (X := x266.toInt) (tgt := 283) hx hb dX10_readNumber__267 (by decide) rfl (fun c267 => ?_) (fun c267 => ?_)
                        · skip
                          exact J283 H locs ls hP hD hS (lv_sub hl [0, 1, 3] rfl)
                        · skip
                          refine lv_lload hx hb dX10_readNumber__270 (lv_at hl 3 rfl) ?_
                          refine lv_ldc2 (v := 65535) hx hb hown k_27_8 dX10_readNumber__272 ?_
                          refine m_lcmp (X := s0_181.toInt) (Y := 65535) hx hb dX10_readNumber__275 rfl (by decide) (fun x275 g_x275 => ?_)
                          refine m_if_gt (X := x275.toInt) (tgt := 283) hx hb dX10_readNumber__276 (by decide) rfl (fun c276 => ?_) (fun c276 => ?_)
                          · skip
                            exact J283 H locs ls hP hD hS (lv_sub hl [0, 1, 3] rfl)
                          · skip
                            refine lv_iconst (v := 1) hx hb dX10_readNumber__279 (by decide) ?_
                            refine lv_goto (tgt := 284) hx hb dX10_readNumber__280 (by decide) ?_
                            exact J284 (1 : Int32) H locs ls (by first | decide | omega) hP hD hS (lv_sub hl [0, 1, 3] rfl)
                  refine m_icmp_ne (X := s0_125.toInt) (Y := 2) (tgt := 253) hx hb dX10_readNumber__220 (by decide) rfl (by decide) (fun c220 => ?_) (fun c220 => ?_)
                  · skip
                    exact J253 l5_218 H locs ls hP hD hS (lv_sub hl [0, 1, 2, 3] rfl)
                  · skip
                    refine lv_iload hx hb dX10_readNumber__223 (lv_at hl 2 rfl) ?_
                    have J251 : ∀ (s0_251 : Int32) (H : Heap) (locs : List Loc) (ls : Array Slot), (s0_251.toInt = 0 ∨ s0_251.toInt = 1) → va_P D vwCl (mw cs q v_thrown a_tape v_taped v_size v_to_15 v_kind_15 v_from_15 v_letters_15 v_letterMany_15 v_digits_15 v_isBeyond_15 v_suffix_15 v_steps v_fault v_hasProgram a_text a_act a_guess a_take a_begin a_finish a_to1 a_one a_two a_what a_ats a_atVar a_atNumber a_atomSort a_atomKind a_atomValue v_wrong v_wrongAt v_variable v_number v_numberKind v_takes a_out v_outed a_varSort a_varKind a_varValue a_creature v_creatures a_arrayClass a_arrayFrom a_arrayLong v_arrays v_cells a_cellSort a_cellKind a_cellValue a_asideSort a_asideKind a_asideValue a_outcome v_marks v_came v_guessed v_right v_taken a_markSort a_markKind a_markClass a_markValue v_sort v_kindAt v_value a_index v_reached v_looked) H → va_D A (mw cs q v_thrown a_tape v_taped v_size v_to_15 v_kind_15 v_from_15 v_letters_15 v_letterMany_15 v_digits_15 v_isBeyond_15 v_suffix_15 v_steps v_fault v_hasProgram a_text a_act a_guess a_take a_begin a_finish a_to1 a_one a_two a_what a_ats a_atVar a_atNumber a_atomSort a_atomKind a_atomValue v_wrong v_wrongAt v_variable v_number v_numberKind v_takes a_out v_outed a_varSort a_varKind a_varValue a_creature v_creatures a_arrayClass a_arrayFrom a_arrayLong v_arrays v_cells a_cellSort a_cellKind a_cellValue a_asideSort a_asideKind a_asideValue a_outcome v_marks v_came v_guessed v_right v_taken a_markSort a_markKind a_markClass a_markValue v_sort v_kindAt v_value a_index v_reached v_looked) → va_S A s.heap H locs → lv_has ls 8 [(0, .ref (q 0)), (3, .int s0_125), (6, .long s0_181)] → W p l e (headSpec (wG yX10_readNumber_ cX10_readNumber_ 8 (some .boolean)) rmX10_readNumber_).room s m ([.ref (q 0), .int z9] : List Value).toArray below meth c H locs 0 0 Q (F0 m 251 ls [.int s0_251]) := by
                      intro s0_251 H locs ls f251_0 hP hD hS hl
                      refine lv_istore (lv' := [(5, .int s0_251), (0, .ref (q 0)), (3, .int s0_125), (6, .long s0_181)]) hx hb dX10_readNumber__251 hl (by decide) rfl (fun ls hl => ?_)
                      exact J253 s0_251 H locs ls hP hD hS (lv_sub hl [1, 2, 0, 3] rfl)
                    have J250 : ∀ (H : Heap) (locs : List Loc) (ls : Array Slot), va_P D vwCl (mw cs q v_thrown a_tape v_taped v_size v_to_15 v_kind_15 v_from_15 v_letters_15 v_letterMany_15 v_digits_15 v_isBeyond_15 v_suffix_15 v_steps v_fault v_hasProgram a_text a_act a_guess a_take a_begin a_finish a_to1 a_one a_two a_what a_ats a_atVar a_atNumber a_atomSort a_atomKind a_atomValue v_wrong v_wrongAt v_variable v_number v_numberKind v_takes a_out v_outed a_varSort a_varKind a_varValue a_creature v_creatures a_arrayClass a_arrayFrom a_arrayLong v_arrays v_cells a_cellSort a_cellKind a_cellValue a_asideSort a_asideKind a_asideValue a_outcome v_marks v_came v_guessed v_right v_taken a_markSort a_markKind a_markClass a_markValue v_sort v_kindAt v_value a_index v_reached v_looked) H → va_D A (mw cs q v_thrown a_tape v_taped v_size v_to_15 v_kind_15 v_from_15 v_letters_15 v_letterMany_15 v_digits_15 v_isBeyond_15 v_suffix_15 v_steps v_fault v_hasProgram a_text a_act a_guess a_take a_begin a_finish a_to1 a_one a_two a_what a_ats a_atVar a_atNumber a_atomSort a_atomKind a_atomValue v_wrong v_wrongAt v_variable v_number v_numberKind v_takes a_out v_outed a_varSort a_varKind a_varValue a_creature v_creatures a_arrayClass a_arrayFrom a_arrayLong v_arrays v_cells a_cellSort a_cellKind a_cellValue a_asideSort a_asideKind a_asideValue a_outcome v_marks v_came v_guessed v_right v_taken a_markSort a_markKind a_markClass a_markValue v_sort v_kindAt v_value a_index v_reached v_looked) → va_S A s.heap H locs → lv_has ls 8 [(0, .ref (q 0)), (3, .int s0_125), (6, .long s0_181)] → W p l e (headSpec (wG yX10_readNumber_ cX10_readNumber_ 8 (some .boolean)) rmX10_readNumber_).room s m ([.ref (q 0), .int z9] : List Value).toArray below meth c H locs 0 0 Q (F0 m 250 ls []) := by
                      intro H locs ls hP hD hS hl
                      refine lv_iconst (v := 0) hx hb dX10_readNumber__250 (by decide) ?_
                      exact J251 (0 : Int32) H locs ls (by first | decide | omega) hP hD hS (lv_sub hl [0, 1, 2] rfl)
                    refine m_if_eq (X := l5_218.toInt) (tgt := 250) hx hb dX10_readNumber__225 (by decide) rfl (fun c225 => ?_) (fun c225 => ?_)
                    · skip
                      exact J250 H locs ls hP hD hS (lv_sub hl [0, 1, 3] rfl)
                    · skip
                      refine lv_lload hx hb dX10_readNumber__228 (lv_at hl 3 rfl) ?_
                      refine lv_ldc2 (v := (-32768)) hx hb hown k_27_6 dX10_readNumber__230 ?_
                      refine m_lcmp (X := s0_181.toInt) (Y := (-32768)) hx hb dX10_readNumber__233 rfl (by decide) (fun x233 g_x233 => ?_)
                      refine m_if_lt (X := x233.toInt) (tgt := 250) hx hb dX10_readNumber__234 (by decide) rfl (fun c234 => ?_) (fun c234 => ?_)
                      · skip
                        exact J250 H locs ls hP hD hS (lv_sub hl [0, 1, 3] rfl)
                      · skip
                        refine lv_lload hx hb dX10_readNumber__237 (lv_at hl 3 rfl) ?_
                        refine lv_ldc2 (v := 32767) hx hb hown k_27_7 dX10_readNumber__239 ?_
                        refine m_lcmp (X := s0_181.toInt) (Y := 32767) hx hb dX10_readNumber__242 rfl (by decide) (fun x242 g_x242 => ?_)
                        refine m_if_gt (X := x242.toInt) (tgt := 250) hx hb dX10_readNumber__243 (by decide) rfl (fun c243 => ?_) (fun c243 => ?_)
                        · skip
                          exact J250 H locs ls hP hD hS (lv_sub hl [0, 1, 3] rfl)
                        · skip
                          refine lv_iconst (v := 1) hx hb dX10_readNumber__246 (by decide) ?_
                          refine lv_goto (tgt := 251) hx hb dX10_readNumber__247 (by decide) ?_
                          exact J251 (1 : Int32) H locs ls (by first | decide | omega) hP hD hS (lv_sub hl [0, 1, 3] rfl)
                refine m_icmp_ne (X := s0_125.toInt) (Y := 1) (tgt := 218) hx hb dX10_readNumber__185 (by decide) rfl (by decide) (fun c185 => ?_) (fun c185 => ?_)
                · skip
                  exact J218 s0_163 H locs ls hP hD hS (lv_sub hl [1, 2, 3, 0] rfl)
                · skip
                  refine lv_iload hx hb dX10_readNumber__188 (lv_at hl 3 rfl) ?_
                  have J216 : ∀ (s0_216 : Int32) (H : Heap) (locs : List Loc) (ls : Array Slot), (s0_216.toInt = 0 ∨ s0_216.toInt = 1) → va_P D vwCl (mw cs q v_thrown a_tape v_taped v_size v_to_15 v_kind_15 v_from_15 v_letters_15 v_letterMany_15 v_digits_15 v_isBeyond_15 v_suffix_15 v_steps v_fault v_hasProgram a_text a_act a_guess a_take a_begin a_finish a_to1 a_one a_two a_what a_ats a_atVar a_atNumber a_atomSort a_atomKind a_atomValue v_wrong v_wrongAt v_variable v_number v_numberKind v_takes a_out v_outed a_varSort a_varKind a_varValue a_creature v_creatures a_arrayClass a_arrayFrom a_arrayLong v_arrays v_cells a_cellSort a_cellKind a_cellValue a_asideSort a_asideKind a_asideValue a_outcome v_marks v_came v_guessed v_right v_taken a_markSort a_markKind a_markClass a_markValue v_sort v_kindAt v_value a_index v_reached v_looked) H → va_D A (mw cs q v_thrown a_tape v_taped v_size v_to_15 v_kind_15 v_from_15 v_letters_15 v_letterMany_15 v_digits_15 v_isBeyond_15 v_suffix_15 v_steps v_fault v_hasProgram a_text a_act a_guess a_take a_begin a_finish a_to1 a_one a_two a_what a_ats a_atVar a_atNumber a_atomSort a_atomKind a_atomValue v_wrong v_wrongAt v_variable v_number v_numberKind v_takes a_out v_outed a_varSort a_varKind a_varValue a_creature v_creatures a_arrayClass a_arrayFrom a_arrayLong v_arrays v_cells a_cellSort a_cellKind a_cellValue a_asideSort a_asideKind a_asideValue a_outcome v_marks v_came v_guessed v_right v_taken a_markSort a_markKind a_markClass a_markValue v_sort v_kindAt v_value a_index v_reached v_looked) → va_S A s.heap H locs → lv_has ls 8 [(0, .ref (q 0)), (3, .int s0_125), (6, .long s0_181)] → W p l e (headSpec (wG yX10_readNumber_ cX10_readNumber_ 8 (some .boolean)) rmX10_readNumber_).room s m ([.ref (q 0), .int z9] : List Value).toArray below meth c H locs 0 0 Q (F0 m 216 ls [.int s0_216]) := by
                    intro s0_216 H locs ls f216_0 hP hD hS hl
                    refine lv_istore (lv' := [(5, .int s0_216), (0, .ref (q 0)), (3, .int s0_125), (6, .long s0_181)]) hx hb dX10_readNumber__216 hl (by decide) rfl (fun ls hl => ?_)
                    exact J218 s0_216 H locs ls hP hD hS (lv_sub hl [1, 2, 0, 3] rfl)
                  have J215 : ∀ (H : Heap) (locs : List Loc) (ls : Array Slot), va_P D vwCl (mw cs q v_thrown a_tape v_taped v_size v_to_15 v_kind_15 v_from_15 v_letters_15 v_letterMany_15 v_digits_15 v_isBeyond_15 v_suffix_15 v_steps v_fault v_hasProgram a_text a_act a_guess a_take a_begin a_finish a_to1 a_one a_two a_what a_ats a_atVar a_atNumber a_atomSort a_atomKind a_atomValue v_wrong v_wrongAt v_variable v_number v_numberKind v_takes a_out v_outed a_varSort a_varKind a_varValue a_creature v_creatures a_arrayClass a_arrayFrom a_arrayLong v_arrays v_cells a_cellSort a_cellKind a_cellValue a_asideSort a_asideKind a_asideValue a_outcome v_marks v_came v_guessed v_right v_taken a_markSort a_markKind a_markClass a_markValue v_sort v_kindAt v_value a_index v_reached v_looked) H → va_D A (mw cs q v_thrown a_tape v_taped v_size v_to_15 v_kind_15 v_from_15 v_letters_15 v_letterMany_15 v_digits_15 v_isBeyond_15 v_suffix_15 v_steps v_fault v_hasProgram a_text a_act a_guess a_take a_begin a_finish a_to1 a_one a_two a_what a_ats a_atVar a_atNumber a_atomSort a_atomKind a_atomValue v_wrong v_wrongAt v_variable v_number v_numberKind v_takes a_out v_outed a_varSort a_varKind a_varValue a_creature v_creatures a_arrayClass a_arrayFrom a_arrayLong v_arrays v_cells a_cellSort a_cellKind a_cellValue a_asideSort a_asideKind a_asideValue a_outcome v_marks v_came v_guessed v_right v_taken a_markSort a_markKind a_markClass a_markValue v_sort v_kindAt v_value a_index v_reached v_looked) → va_S A s.heap H locs → lv_has ls 8 [(0, .ref (q 0)), (3, .int s0_125), (6, .long s0_181)] → W p l e (headSpec (wG yX10_readNumber_ cX10_readNumber_ 8 (some .boolean)) rmX10_readNumber_).room s m ([.ref (q 0), .int z9] : List Value).toArray below meth c H locs 0 0 Q (F0 m 215 ls []) := by
                    intro H locs ls hP hD hS hl
                    refine lv_iconst (v := 0) hx hb dX10_readNumber__215 (by decide) ?_
                    exact J216 (0 : Int32) H locs ls (by first | decide | omega) hP hD hS (lv_sub hl [0, 1, 2] rfl)
                  refine m_if_eq (X := s0_163.toInt) (tgt := 215) hx hb dX10_readNumber__190 (by decide) rfl (fun c190 => ?_) (fun c190 => ?_)
                  · skip
                    exact J215 H locs ls hP hD hS (lv_sub hl [1, 2, 0] rfl)
                  · skip
                    refine lv_lload hx hb dX10_readNumber__193 (lv_at hl 0 rfl) ?_
                    refine lv_ldc2 (v := (-128)) hx hb hown k_27_4 dX10_readNumber__195 ?_
                    refine m_lcmp (X := s0_181.toInt) (Y := (-128)) hx hb dX10_readNumber__198 rfl (by decide) (fun x198 g_x198 => ?_)
                    refine m_if_lt (X := x198.toInt) (tgt := 215) hx hb dX10_readNumber__199 (by decide) rfl (fun c199 => ?_) (fun c199 => ?_)
                    · skip
                      exact J215 H locs ls hP hD hS (lv_sub hl [1, 2, 0] rfl)
                    · skip
                      refine lv_lload hx hb dX10_readNumber__202 (lv_at hl 0 rfl) ?_
                      refine lv_ldc2 (v := 127) hx hb hown k_27_5 dX10_readNumber__204 ?_
                      refine m_lcmp (X := s0_181.toInt) (Y := 127) hx hb dX10_readNumber__207 rfl (by decide) (fun x207 g_x207 => ?_)
                      refine m_if_gt (X := x207.toInt) (tgt := 215) hx hb dX10_readNumber__208 (by decide) rfl (fun c208 => ?_) (fun c208 => ?_)
                      · skip
                        exact J215 H locs ls hP hD hS (lv_sub hl [1, 2, 0] rfl)
                      · skip
                        refine lv_iconst (v := 1) hx hb dX10_readNumber__211 (by decide) ?_
                        refine lv_goto (tgt := 216) hx hb dX10_readNumber__212 (by decide) ?_
                        exact J216 (1 : Int32) H locs ls (by first | decide | omega) hP hD hS (lv_sub hl [1, 2, 0] rfl)
              refine m_if_eq (X := r3.toInt) (tgt := 177) hx hb dX10_readNumber__166 (by decide) rfl (fun c166 => ?_) (fun c166 => ?_)
              · skip
                refine lv_aload_n hx hb dX10_readNumber__177 rfl (lv_at hl 1 rfl) ?_
                refine va_get (D := D) (ci := 9) (v := .long v_digits_15) (C := RX10) (T := TX10) (N := 71) hx hb hts hin hown hK hP 0 rfl rfl 9 (by decide) k_24_0 (fun _ h9 => h9) rfl dX10_readNumber__178 ?_
                exact J181 v_digits_15 H locs ls hP hD hS (lv_sub hl [1, 3, 0] rfl)
              · skip
                refine lv_aload_n hx hb dX10_readNumber__169 rfl (lv_at hl 1 rfl) ?_
                refine va_get (D := D) (ci := 9) (v := .long v_digits_15) (C := RX10) (T := TX10) (N := 71) hx hb hts hin hown hK hP 0 rfl rfl 9 (by decide) k_24_0 (fun _ h9 => h9) rfl dX10_readNumber__170 ?_
                refine m_lneg (X := v_digits_15.toInt) hx hb dX10_readNumber__173 rfl (fun x173 e_x173 g9 => ?_)
                obtain ⟨k_x173, g_x173⟩ := g9
                have b_x173 := jB x173
                try (have q_x173 : x173.toInt = -v_digits_15.toInt := (by omega); clear g_x173 k_x173)
                refine lv_goto (tgt := 181) hx hb dX10_readNumber__174 (by decide) ?_
                exact J181 x173 H locs ls hP hD hS (lv_sub hl [1, 3, 0] rfl)
            have J162 : ∀ (H : Heap) (locs : List Loc) (ls : Array Slot), va_P D vwCl (mw cs q v_thrown a_tape v_taped v_size v_to_15 v_kind_15 v_from_15 v_letters_15 v_letterMany_15 v_digits_15 v_isBeyond_15 v_suffix_15 v_steps v_fault v_hasProgram a_text a_act a_guess a_take a_begin a_finish a_to1 a_one a_two a_what a_ats a_atVar a_atNumber a_atomSort a_atomKind a_atomValue v_wrong v_wrongAt v_variable v_number v_numberKind v_takes a_out v_outed a_varSort a_varKind a_varValue a_creature v_creatures a_arrayClass a_arrayFrom a_arrayLong v_arrays v_cells a_cellSort a_cellKind a_cellValue a_asideSort a_asideKind a_asideValue a_outcome v_marks v_came v_guessed v_right v_taken a_markSort a_markKind a_markClass a_markValue v_sort v_kindAt v_value a_index v_reached v_looked) H → va_D A (mw cs q v_thrown a_tape v_taped v_size v_to_15 v_kind_15 v_from_15 v_letters_15 v_letterMany_15 v_digits_15 v_isBeyond_15 v_suffix_15 v_steps v_fault v_hasProgram a_text a_act a_guess a_take a_begin a_finish a_to1 a_one a_two a_what a_ats a_atVar a_atNumber a_atomSort a_atomKind a_atomValue v_wrong v_wrongAt v_variable v_number v_numberKind v_takes a_out v_outed a_varSort a_varKind a_varValue a_creature v_creatures a_arrayClass a_arrayFrom a_arrayLong v_arrays v_cells a_cellSort a_cellKind a_cellValue a_asideSort a_asideKind a_asideValue a_outcome v_marks v_came v_guessed v_right v_taken a_markSort a_markKind a_markClass a_markValue v_sort v_kindAt v_value a_index v_reached v_looked) → va_S A s.heap H locs → lv_has ls 8 [(0, .ref (q 0)), (2, .int r3), (3, .int s0_125)] → W p l e (headSpec (wG yX10_readNumber_ cX10_readNumber_ 8 (some .boolean)) rmX10_readNumber_).room s m ([.ref (q 0), .int z9] : List Value).toArray below meth c H locs 0 0 Q (F0 m 162 ls []) := by
              intro H locs ls hP hD hS hl
              refine lv_iconst (v := 0) hx hb dX10_readNumber__162 (by decide) ?_
              exact J163 (0 : Int32) H locs ls (by first | decide | omega) hP hD hS (lv_sub hl [0, 1, 2] rfl)
            refine m_if_ne (X := v_isBeyond_15.toInt) (tgt := 162) hx hb dX10_readNumber__146 (by decide) rfl (fun c146 => ?_) (fun c146 => ?_)
            · skip
              exact J162 H locs ls hP hD hS (lv_sub hl [1, 2, 3] rfl)
            · skip
              refine lv_iload hx hb dX10_readNumber__149 (lv_at hl 0 rfl) ?_
              have J158 : ∀ (H : Heap) (locs : List Loc) (ls : Array Slot), va_P D vwCl (mw cs q v_thrown a_tape v_taped v_size v_to_15 v_kind_15 v_from_15 v_letters_15 v_letterMany_15 v_digits_15 v_isBeyond_15 v_suffix_15 v_steps v_fault v_hasProgram a_text a_act a_guess a_take a_begin a_finish a_to1 a_one a_two a_what a_ats a_atVar a_atNumber a_atomSort a_atomKind a_atomValue v_wrong v_wrongAt v_variable v_number v_numberKind v_takes a_out v_outed a_varSort a_varKind a_varValue a_creature v_creatures a_arrayClass a_arrayFrom a_arrayLong v_arrays v_cells a_cellSort a_cellKind a_cellValue a_asideSort a_asideKind a_asideValue a_outcome v_marks v_came v_guessed v_right v_taken a_markSort a_markKind a_markClass a_markValue v_sort v_kindAt v_value a_index v_reached v_looked) H → va_D A (mw cs q v_thrown a_tape v_taped v_size v_to_15 v_kind_15 v_from_15 v_letters_15 v_letterMany_15 v_digits_15 v_isBeyond_15 v_suffix_15 v_steps v_fault v_hasProgram a_text a_act a_guess a_take a_begin a_finish a_to1 a_one a_two a_what a_ats a_atVar a_atNumber a_atomSort a_atomKind a_atomValue v_wrong v_wrongAt v_variable v_number v_numberKind v_takes a_out v_outed a_varSort a_varKind a_varValue a_creature v_creatures a_arrayClass a_arrayFrom a_arrayLong v_arrays v_cells a_cellSort a_cellKind a_cellValue a_asideSort a_asideKind a_asideValue a_outcome v_marks v_came v_guessed v_right v_taken a_markSort a_markKind a_markClass a_markValue v_sort v_kindAt v_value a_index v_reached v_looked) → va_S A s.heap H locs → lv_has ls 8 [(0, .ref (q 0)), (2, .int r3), (3, .int s0_125)] → W p l e (headSpec (wG yX10_readNumber_ cX10_readNumber_ 8 (some .boolean)) rmX10_readNumber_).room s m ([.ref (q 0), .int z9] : List Value).toArray below meth c H locs 0 0 Q (F0 m 158 ls []) := by
                intro H locs ls hP hD hS hl
                refine lv_iconst (v := 1) hx hb dX10_readNumber__158 (by decide) ?_
                refine lv_goto (tgt := 163) hx hb dX10_readNumber__159 (by decide) ?_
                exact J163 (1 : Int32) H locs ls (by first | decide | omega) hP hD hS (lv_sub hl [0, 1, 2] rfl)
              refine m_if_eq (X := s0_140.toInt) (tgt := 158) hx hb dX10_readNumber__151 (by decide) rfl (fun c151 => ?_) (fun c151 => ?_)
              · skip
                exact J158 H locs ls hP hD hS (lv_sub hl [1, 2, 3] rfl)
              · skip
                refine lv_iload_n hx hb dX10_readNumber__154 rfl (lv_at hl 2 rfl) ?_
                refine m_if_eq (X := r3.toInt) (tgt := 162) hx hb dX10_readNumber__155 (by decide) rfl (fun c155 => ?_) (fun c155 => ?_)
                · skip
                  exact J162 H locs ls hP hD hS (lv_sub hl [1, 2, 3] rfl)
                · skip
                  exact J158 H locs ls hP hD hS (lv_sub hl [1, 2, 3] rfl)
          refine m_if_ge (X := x131.toInt) (tgt := 139) hx hb dX10_readNumber__132 (by decide) rfl (fun c132 => ?_) (fun c132 => ?_)
          · skip
            refine lv_iconst (v := 0) hx hb dX10_readNumber__139 (by decide) ?_
            exact J140 (0 : Int32) H locs ls (by first | decide | omega) hP hD hS (lv_sub hl [1, 2, 0] rfl)
          · skip
            refine lv_iconst (v := 1) hx hb dX10_readNumber__135 (by decide) ?_
            refine lv_goto (tgt := 140) hx hb dX10_readNumber__136 (by decide) ?_
            exact J140 (1 : Int32) H locs ls (by first | decide | omega) hP hD hS (lv_sub hl [1, 2, 0] rfl)
        refine m_if_ne (X := v_suffix_15.toInt) (tgt := 57) hx hb dX10_readNumber__50 (by decide) rfl (fun c50 => ?_) (fun c50 => ?_)
        · skip
          refine lv_aload_n hx hb dX10_readNumber__57 rfl (lv_at hl 0 rfl) ?_
          refine va_get (D := D) (ci := 9) (v := .int v_suffix_15) (C := RX10) (T := TX10) (N := 71) hx hb hts hin hown hK hP 0 rfl rfl 11 (by decide) k_23_23 (fun _ h9 => h9) rfl dX10_readNumber__58 ?_
          refine lv_bipush (v := 98) hx hb dX10_readNumber__61 (by decide) ?_
          refine m_icmp_ne (X := v_suffix_15.toInt) (Y := 98) (tgt := 70) hx hb dX10_readNumber__63 (by decide) rfl (by decide) (fun c63 => ?_) (fun c63 => ?_)
          · skip
            refine lv_aload_n hx hb dX10_readNumber__70 rfl (lv_at hl 0 rfl) ?_
            refine va_get (D := D) (ci := 9) (v := .int v_suffix_15) (C := RX10) (T := TX10) (N := 71) hx hb hts hin hown hK hP 0 rfl rfl 11 (by decide) k_23_23 (fun _ h9 => h9) rfl dX10_readNumber__71 ?_
            refine lv_bipush (v := 115) hx hb dX10_readNumber__74 (by decide) ?_
            refine m_icmp_ne (X := v_suffix_15.toInt) (Y := 115) (tgt := 83) hx hb dX10_readNumber__76 (by decide) rfl (by decide) (fun c76 => ?_) (fun c76 => ?_)
            · skip
              refine lv_aload_n hx hb dX10_readNumber__83 rfl (lv_at hl 0 rfl) ?_
              refine va_get (D := D) (ci := 9) (v := .int v_suffix_15) (C := RX10) (T := TX10) (N := 71) hx hb hts hin hown hK hP 0 rfl rfl 11 (by decide) k_23_23 (fun _ h9 => h9) rfl dX10_readNumber__84 ?_
              refine lv_bipush (v := 99) hx hb dX10_readNumber__87 (by decide) ?_
              refine m_icmp_ne (X := v_suffix_15.toInt) (Y := 99) (tgt := 96) hx hb dX10_readNumber__89 (by decide) rfl (by decide) (fun c89 => ?_) (fun c89 => ?_)
              · skip
                refine lv_aload_n hx hb dX10_readNumber__96 rfl (lv_at hl 0 rfl) ?_
                refine va_get (D := D) (ci := 9) (v := .int v_suffix_15) (C := RX10) (T := TX10) (N := 71) hx hb hts hin hown hK hP 0 rfl rfl 11 (by decide) k_23_23 (fun _ h9 => h9) rfl dX10_readNumber__97 ?_
                refine lv_bipush (v := 108) hx hb dX10_readNumber__100 (by decide) ?_
                refine m_icmp_ne (X := v_suffix_15.toInt) (Y := 108) (tgt := 109) hx hb dX10_readNumber__102 (by decide) rfl (by decide) (fun c102 => ?_) (fun c102 => ?_)
                · skip
                  refine lv_aload_n hx hb dX10_readNumber__109 rfl (lv_at hl 0 rfl) ?_
                  refine va_get (D := D) (ci := 9) (v := .int v_suffix_15) (C := RX10) (T := TX10) (N := 71) hx hb hts hin hown hK hP 0 rfl rfl 11 (by decide) k_23_23 (fun _ h9 => h9) rfl dX10_readNumber__110 ?_
                  refine lv_bipush (v := 102) hx hb dX10_readNumber__113 (by decide) ?_
                  refine m_icmp_ne (X := v_suffix_15.toInt) (Y := 102) (tgt := 123) hx hb dX10_readNumber__115 (by decide) rfl (by decide) (fun c115 => ?_) (fun c115 => ?_)
                  · skip
                    refine lv_bipush (v := 7) hx hb dX10_readNumber__123 (by decide) ?_
                    exact J125 (7 : Int32) H locs ls (by first | decide | omega) hP hD hS (lv_sub hl [0, 1] rfl)
                  · skip
                    refine lv_bipush (v := 6) hx hb dX10_readNumber__118 (by decide) ?_
                    refine lv_goto (tgt := 125) hx hb dX10_readNumber__120 (by decide) ?_
                    exact J125 (6 : Int32) H locs ls (by first | decide | omega) hP hD hS (lv_sub hl [0, 1] rfl)
                · skip
                  refine lv_iconst (v := 5) hx hb dX10_readNumber__105 (by decide) ?_
                  refine lv_goto (tgt := 125) hx hb dX10_readNumber__106 (by decide) ?_
                  exact J125 (5 : Int32) H locs ls (by first | decide | omega) hP hD hS (lv_sub hl [0, 1] rfl)
              · skip
                refine lv_iconst (v := 3) hx hb dX10_readNumber__92 (by decide) ?_
                refine lv_goto (tgt := 125) hx hb dX10_readNumber__93 (by decide) ?_
                exact J125 (3 : Int32) H locs ls (by first | decide | omega) hP hD hS (lv_sub hl [0, 1] rfl)
            · skip
              refine lv_iconst (v := 2) hx hb dX10_readNumber__79 (by decide) ?_
              refine lv_goto (tgt := 125) hx hb dX10_readNumber__80 (by decide) ?_
              exact J125 (2 : Int32) H locs ls (by first | decide | omega) hP hD hS (lv_sub hl [0, 1] rfl)
          · skip
            refine lv_iconst (v := 1) hx hb dX10_readNumber__66 (by decide) ?_
            refine lv_goto (tgt := 125) hx hb dX10_readNumber__67 (by decide) ?_
            exact J125 (1 : Int32) H locs ls (by first | decide | omega) hP hD hS (lv_sub hl [0, 1] rfl)
        · skip
          refine lv_iconst (v := 4) hx hb dX10_readNumber__53 (by decide) ?_
          refine lv_goto (tgt := 125) hx hb dX10_readNumber__54 (by decide) ?_
          exact J125 (4 : Int32) H locs ls (by first | decide | omega) hP hD hS (lv_sub hl [0, 1] rfl)
      refine m_if_eq (X := z9.toInt) (tgt := 46) hx hb dX10_readNumber__30 (by decide) rfl (fun c30 => ?_) (fun c30 => ?_)
      · skip
        exact J46 H locs ls hP hD hS (lv_sub hl [0, 2] rfl)
      · skip
        refine lv_aload_n hx hb dX10_readNumber__33 rfl (lv_at hl 0 rfl) ?_
        refine va_get (D := D) (ci := 9) (v := .int v_suffix_15) (C := RX10) (T := TX10) (N := 71) hx hb hts hin hown hK hP 0 rfl rfl 11 (by decide) k_23_23 (fun _ h9 => h9) rfl dX10_readNumber__34 ?_
        refine m_if_eq (X := v_suffix_15.toInt) (tgt := 46) hx hb dX10_readNumber__37 (by decide) rfl (fun c37 => ?_) (fun c37 => ?_)
        · skip
          exact J46 H locs ls hP hD hS (lv_sub hl [0, 2] rfl)
        · skip
          refine lv_aload_n hx hb dX10_readNumber__40 rfl (lv_at hl 0 rfl) ?_
          refine lv_iconst (v := 3) hx hb dX10_readNumber__41 (by decide) ?_
          refine call_i (As := [.int 3]) (rest := []) ⟨hx, hb, hml, hown, hts⟩ (tX10_bad (l := l) (3 : Int32)) (cwV 1 hts (gV (wr25 _ (List.mem_of_getElem? (i := 0) rfl)) (wr25 _ (List.mem_of_getElem? (i := 1) rfl)) (wr25 _ (List.mem_of_getElem? (i := 2) rfl)) (wr1 _ (List.mem_of_getElem? (i := 5) rfl)) (wr25 _ (List.mem_of_getElem? (i := 3) rfl))) rfl rfl rfl (by decide +kernel) ⟨Nat.le_of_ble_eq_true rfl, Nat.le_of_ble_eq_true rfl⟩) (va_recv hK hP (ci := 9) (q0 := 0) rfl rfl) hK hP hD hE hS hA rfl hl.1 rfl (Nat.le_of_ble_eq_true rfl) dX10_readNumber__42 ⟨Nat.le_of_ble_eq_true rfl, Nat.le_of_ble_eq_true rfl⟩ (fun r42 w9 H locs hw42 hP hD hS => ?_)
          obtain ⟨v_wrong_42, v_wrongAt_42, rfl, hw42_0⟩ := hw42
          have b_v_wrong_42 := iB v_wrong_42
          have b_v_wrongAt_42 := iB v_wrongAt_42
          have b_r42 := iB r42
          subst hAe
          rw [hQ]
          exact W.zret (v := r42) hx hb hr (nbool (by first | omega | decide)) (fun t ht hW => ⟨⟨r42, _, rfl, ⟨v_to_15, v_kind_15, v_from_15, v_letters_15, v_letterMany_15, v_digits_15, v_isBeyond_15, v_suffix_15, v_wrong_42, v_wrongAt_42, v_number, v_numberKind, rfl, by first | assumption | omega | (intros; omega) | decide, by first | assumption | omega | (intros; omega) | decide, by first | assumption | omega | (intros; omega) | decide, by first | assumption | omega | (intros; omega) | decide, by first | assumption | omega | (intros; omega) | decide⟩, by rw [ht]; exact hP, va_K.moved hW.alike hK, hD⟩, hS.F ht⟩) hS.2.2 dX10_readNumber__45
    · skip
      refine lv_aload_n hx hb dX10_readNumber__23 rfl (lv_at hl 0 rfl) ?_
      refine lv_iconst (v := 2) hx hb dX10_readNumber__24 (by decide) ?_
      refine call_i (As := [.int 2]) (rest := []) ⟨hx, hb, hml, hown, hts⟩ (tX10_bad (l := l) (2 : Int32)) (cwV 1 hts (gV (wr25 _ (List.mem_of_getElem? (i := 0) rfl)) (wr25 _ (List.mem_of_getElem? (i := 1) rfl)) (wr25 _ (List.mem_of_getElem? (i := 2) rfl)) (wr1 _ (List.mem_of_getElem? (i := 5) rfl)) (wr25 _ (List.mem_of_getElem? (i := 3) rfl))) rfl rfl rfl (by decide +kernel) ⟨Nat.le_of_ble_eq_true rfl, Nat.le_of_ble_eq_true rfl⟩) (va_recv hK hP (ci := 9) (q0 := 0) rfl rfl) hK hP hD hE hS hA rfl hl.1 rfl (Nat.le_of_ble_eq_true rfl) dX10_readNumber__25 ⟨Nat.le_of_ble_eq_true rfl, Nat.le_of_ble_eq_true rfl⟩ (fun r25 w9 H locs hw25 hP hD hS => ?_)
      obtain ⟨v_wrong_25, v_wrongAt_25, rfl, hw25_0⟩ := hw25
      have b_v_wrong_25 := iB v_wrong_25
      have b_v_wrongAt_25 := iB v_wrongAt_25
      have b_r25 := iB r25
      subst hAe
      rw [hQ]
      exact W.zret (v := r25) hx hb hr (nbool (by first | omega | decide)) (fun t ht hW => ⟨⟨r25, _, rfl, ⟨v_to_15, v_kind_15, v_from_15, v_letters_15, v_letterMany_15, v_digits_15, v_isBeyond_15, v_suffix_15, v_wrong_25, v_wrongAt_25, v_number, v_numberKind, rfl, by first | assumption | omega | (intros; omega) | decide, by first | assumption | omega | (intros; omega) | decide, by first | assumption | omega | (intros; omega) | decide, by first | assumption | omega | (intros; omega) | decide, by first | assumption | omega | (intros; omega) | decide⟩, by rw [ht]; exact hP, va_K.moved hW.alike hK, hD⟩, hS.F ht⟩) hS.2.2 dX10_readNumber__28
  refine m_if_eq (X := r3.toInt) (tgt := 15) hx hb dX10_readNumber__8 (by decide) rfl (fun c8 => ?_) (fun c8 => ?_)
  · skip
    exact J15 v_to v_digits v_from v_isBeyond v_kind v_letterMany v_letters v_suffix H locs ls (by first | assumption | omega | (intros; omega) | decide) (by first | assumption | omega | (intros; omega) | decide) (by first | assumption | omega | (intros; omega) | decide) hP hD hS (lv_sub hl [1, 2, 0] rfl)
  · skip
    refine lv_aload_n hx hb dX10_readNumber__11 rfl (lv_at hl 1 rfl) ?_
    refine call_v (As := []) (rest := []) ⟨hx, hb, hml, hown, hts⟩ (tX10_goB (l := l)  (by first | assumption | exact LX.z (by assumption))) (cwV 0 hts (gV (wr22 _ (List.mem_of_getElem? (i := 20) rfl)) (wr22 _ (List.mem_of_getElem? (i := 21) rfl)) (wr22 _ (List.mem_of_getElem? (i := 22) rfl)) (wr1 _ (List.mem_of_getElem? (i := 5) rfl)) (wr22 _ (List.mem_of_getElem? (i := 23) rfl))) rfl rfl rfl (by decide +kernel) ⟨Nat.le_of_ble_eq_true rfl, Nat.le_of_ble_eq_true rfl⟩) (va_recv hK hP (ci := 9) (q0 := 0) rfl rfl) hK hP hD hE hS hA rfl hl.1 rfl (Nat.le_of_ble_eq_true rfl) dX10_readNumber__12 ⟨Nat.le_of_ble_eq_true rfl, Nat.le_of_ble_eq_true rfl⟩ (fun w9 H locs hw12 hP hD hS => ?_)
    obtain ⟨v_to_12, v_kind_12, v_from_12, v_letters_12, v_letterMany_12, v_digits_12, v_isBeyond_12, v_suffix_12, rfl, hw12_0, hw12_1, hw12_2⟩ := hw12
    have b_v_to_12 := iB v_to_12
    have b_v_kind_12 := iB v_kind_12
    have b_v_from_12 := iB v_from_12
    have b_v_letters_12 := jB v_letters_12
    have b_v_letterMany_12 := iB v_letterMany_12
    have b_v_digits_12 := jB v_digits_12
    have b_v_isBeyond_12 := iB v_isBeyond_12
    have b_v_suffix_12 := iB v_suffix_12
    exact J15 v_to_12 v_digits_12 v_from_12 v_isBeyond_12 v_kind_12 v_letterMany_12 v_letters_12 v_suffix_12 H locs ls (by first | assumption | omega | (intros; omega) | decide) (by first | assumption | omega | (intros; omega) | decide) (by first | assumption | omega | (intros; omega) | decide) hP hD hS (lv_sub hl [1, 2, 0] rfl)

def rmX10_readIndex : Room := { frames := 100, cells := 0, slots := 0, locals := 2000 }
set_option maxHeartbeats 4000000 in
set_option maxRecDepth 100000 in
theorem tX10_readIndex {l : Launch} {D : va_G} {K : Nat → Nat → Nat} {cs : Nat → ClassId} {q : Nat → Nat} {v_thrown v_taped v_size v_to v_kind v_from v_letterMany v_isBeyond v_suffix v_steps v_fault v_hasProgram v_wrong v_wrongAt v_variable v_numberKind v_takes v_outed v_creatures v_arrays v_cells v_marks v_came v_guessed v_right v_taken v_sort v_kindAt v_reached v_looked : Int32} {a_tape a_text a_act a_guess a_take a_begin a_finish a_to1 a_one a_two a_what a_ats a_atVar a_atNumber a_atomSort a_atomKind a_out a_varSort a_varKind a_creature a_arrayClass a_arrayFrom a_arrayLong a_cellSort a_cellKind a_asideSort a_asideKind a_outcome a_markSort a_markKind a_markClass a_index : Nat → Int32} {v_letters v_digits v_number v_value : Int64} {a_atomValue a_varValue a_cellValue a_asideValue a_markValue : Nat → Int64} (s9 : Int32) (q9 : Int32) (p_0 : LX a_tape v_size v_to v_from v_kind v_letters v_letterMany v_isBeyond) (p_1 : 0 ≤ v_variable.toInt ∧ v_variable.toInt ≤ 25) (p_2 : NumOK v_numberKind v_number) (p_3 : Rm25 a_atVar) (p_4 : 0 ≤ s9.toInt) (p_5 : s9.toInt ≤ 201) (p_6 : 0 ≤ q9.toInt) (p_7 : q9.toInt ≤ 3) : CtI l yX10_readIndex (wG yX10_readIndex cX10_readIndex 3 (some .boolean)) rmX10_readIndex D (mwT cs) K [.ref (q 0), .int s9, .int q9] (mw cs q v_thrown a_tape v_taped v_size v_to v_kind v_from v_letters v_letterMany v_digits v_isBeyond v_suffix v_steps v_fault v_hasProgram a_text a_act a_guess a_take a_begin a_finish a_to1 a_one a_two a_what a_ats a_atVar a_atNumber a_atomSort a_atomKind a_atomValue v_wrong v_wrongAt v_variable v_number v_numberKind v_takes a_out v_outed a_varSort a_varKind a_varValue a_creature v_creatures a_arrayClass a_arrayFrom a_arrayLong v_arrays v_cells a_cellSort a_cellKind a_cellValue a_asideSort a_asideKind a_asideValue a_outcome v_marks v_came v_guessed v_right v_taken a_markSort a_markKind a_markClass a_markValue v_sort v_kindAt v_value a_index v_reached v_looked) (fun r w1 => ∃ (v_to' : Int32) (v_kind' : Int32) (v_from' : Int32) (v_letters' : Int64) (v_letterMany' : Int32) (v_digits' : Int64) (v_isBeyond' : Int32) (v_suffix' : Int32) (a_atVar' : Nat → Int32) (a_atNumber' : Nat → Int32) (v_wrong' : Int32) (v_wrongAt' : Int32) (v_variable' : Int32) (v_number' : Int64) (v_numberKind' : Int32), w1 = (mw cs q v_thrown a_tape v_taped v_size v_to' v_kind' v_from' v_letters' v_letterMany' v_digits' v_isBeyond' v_suffix' v_steps v_fault v_hasProgram a_text a_act a_guess a_take a_begin a_finish a_to1 a_one a_two a_what a_ats a_atVar' a_atNumber' a_atomSort a_atomKind a_atomValue v_wrong' v_wrongAt' v_variable' v_number' v_numberKind' v_takes a_out v_outed a_varSort a_varKind a_varValue a_creature v_creatures a_arrayClass a_arrayFrom a_arrayLong v_arrays v_cells a_cellSort a_cellKind a_cellValue a_asideSort a_asideKind a_asideValue a_outcome v_marks v_came v_guessed v_right v_taken a_markSort a_markKind a_markClass a_markValue v_sort v_kindAt v_value a_index v_reached v_looked) ∧ (LX a_tape v_size v_to' v_from' v_kind' v_letters' v_letterMany' v_isBeyond') ∧ (v_to.toInt ≤ v_to'.toInt) ∧ (ph a_tape v_to' ≤ ph a_tape v_to + 2) ∧ (0 ≤ v_variable'.toInt ∧ v_variable'.toInt ≤ 25) ∧ (NumOK v_numberKind' v_number') ∧ (Rm25 a_atVar') ∧ (r.toInt = 0 ∨ r.toInt = 1)) 0 0 := by
  intro sz
  refine Met.ofW (cc := cX10_readIndex) (maxL := 3) (ret := (some .boolean)) (by decide) rfl ?_
  intro p e s m args below meth c s₁ B hml hv
  obtain ⟨rfl, hsz, hP, hK, hD0, hE⟩ := hv
  have hx := B.exec
  have hb := B.bytes
  have hr := B.returns
  have hts := atoms_spec (ws := (wG yX10_readIndex cX10_readIndex 3 (some .boolean))) B.pre
  have hown : s.vm.findClass RX10 = some m.cls := findClass_of_methodNamed B.named
  have hlocks := B.notSynchronized
  subst hsz
  have hD := hD0.self (sz := s.heap.size)
  obtain ⟨A, hAe⟩ : ∃ A : Nat → Prop, A = va_A (mw cs q v_thrown a_tape v_taped v_size v_to v_kind v_from v_letters v_letterMany v_digits v_isBeyond v_suffix v_steps v_fault v_hasProgram a_text a_act a_guess a_take a_begin a_finish a_to1 a_one a_two a_what a_ats a_atVar a_atNumber a_atomSort a_atomKind a_atomValue v_wrong v_wrongAt v_variable v_number v_numberKind v_takes a_out v_outed a_varSort a_varKind a_varValue a_creature v_creatures a_arrayClass a_arrayFrom a_arrayLong v_arrays v_cells a_cellSort a_cellKind a_cellValue a_asideSort a_asideKind a_asideValue a_outcome v_marks v_came v_guessed v_right v_taken a_markSort a_markKind a_markClass a_markValue v_sort v_kindAt v_value a_index v_reached v_looked) s.heap.size := ⟨_, rfl⟩
  rw [← hAe] at hD hE
  have hA : ∀ q : Nat, s.heap.size ≤ q → A q := fun q h => by rw [hAe]; exact Or.inr h
  have hS : va_S A s.heap s.heap [] := va_S.rf
  have hl := lv_entry ([.ref (q 0), .int s9, .int q9]) (n := 3) (Nat.le_of_ble_eq_true rfl)
  rw [lg_entry_eq]
  generalize (lg_sl ([.ref (q 0), .int s9, .int q9]) ++ List.replicate (3 - (lg_sl ([.ref (q 0), .int s9, .int q9])).length) Slot.unset).toArray = ls at hl ⊢
  have hl : lv_has ls 3 [(0, .ref (q 0)), (1, .int s9), (2, .int q9)] := hl
  refine wq (fun Q hQ => ?_)
  have hin : ∀ w ∈ wsX100, w ∈ (wG yX10_readIndex cX10_readIndex 3 (some .boolean)) := fun w h => List.mem_cons_of_mem _ (inlX10 w h)
  have kc0 : (-1 : Int32).toInt = -1 := by decide
  have kc1 : (0 : Int32).toInt = 0 := by decide
  have kc2 : (1 : Int32).toInt = 1 := by decide
  have kc3 : (2 : Int32).toInt = 2 := by decide
  have kc4 : (3 : Int32).toInt = 3 := by decide
  have kc5 : (4 : Int32).toInt = 4 := by decide
  have kc6 : (45 : Int32).toInt = 45 := by decide
  have k_5_19 := hts (.fieldLink RX10 46 "ArrayTrainerModel" "atVar" "[I") (List.mem_cons_of_mem _ (wr5 _ (List.mem_of_getElem? (i := 19) rfl)))
  have k_22_15 := hts (.fieldLink RX10 273 "ArrayTrainerModel" "kind" "I") (List.mem_cons_of_mem _ (wr22 _ (List.mem_of_getElem? (i := 15) rfl)))
  have k_5_20 := hts (.fieldLink RX10 49 "ArrayTrainerModel" "atNumber" "[I") (List.mem_cons_of_mem _ (wr5 _ (List.mem_of_getElem? (i := 20) rfl)))
  have k_26_23 := hts (.fieldLink RX10 353 "ArrayTrainerModel" "number" "J") (List.mem_cons_of_mem _ (wr26 _ (List.mem_of_getElem? (i := 23) rfl)))
  have k_25_22 := hts (.fieldLink RX10 332 "ArrayTrainerModel" "variable" "I") (List.mem_cons_of_mem _ (wr25 _ (List.mem_of_getElem? (i := 22) rfl)))
  obtain ⟨H, hH⟩ : ∃ H : Heap, H = s.heap := ⟨_, rfl⟩
  obtain ⟨locs, hlc⟩ : ∃ L : List Loc, L = [] := ⟨_, rfl⟩
  have hP : va_P D vwCl (mw cs q v_thrown a_tape v_taped v_size v_to v_kind v_from v_letters v_letterMany v_digits v_isBeyond v_suffix v_steps v_fault v_hasProgram a_text a_act a_guess a_take a_begin a_finish a_to1 a_one a_two a_what a_ats a_atVar a_atNumber a_atomSort a_atomKind a_atomValue v_wrong v_wrongAt v_variable v_number v_numberKind v_takes a_out v_outed a_varSort a_varKind a_varValue a_creature v_creatures a_arrayClass a_arrayFrom a_arrayLong v_arrays v_cells a_cellSort a_cellKind a_cellValue a_asideSort a_asideKind a_asideValue a_outcome v_marks v_came v_guessed v_right v_taken a_markSort a_markKind a_markClass a_markValue v_sort v_kindAt v_value a_index v_reached v_looked) H := by rw [hH]; exact hP
  have hS : va_S A s.heap H locs := by rw [hH, hlc]; exact hS
  refine wHL hH hlc ?_
  have b_s9 := iB s9
  have b_q9 := iB q9
  refine lv_aload_n hx hb dX10_readIndex_0 rfl (lv_at hl 0 rfl) ?_
  refine va_get (D := D) (ci := 9) (v := .ref (q 13)) (C := RX10) (T := TX10) (N := 71) hx hb hts hin hown hK hP 0 rfl rfl 26 (by decide) k_5_19 (fun _ h9 => h9) rfl dX10_readIndex_1 ?_
  refine lv_iconst (v := 4) hx hb dX10_readIndex_4 (by decide) ?_
  refine lv_iload_n hx hb dX10_readIndex_5 rfl (lv_at hl 1 rfl) ?_
  refine m_imul (X := 4) (Y := s9.toInt) hx hb dX10_readIndex_6 (by decide) rfl (fun x6 e_x6 g9 => ?_)
  obtain ⟨k_x6, g_x6⟩ := g9
  have b_x6 := iB x6
  try (have q_x6 : x6.toInt = 4 * s9.toInt := (by omega); clear g_x6 k_x6)
  refine lv_iload_n hx hb dX10_readIndex_7 rfl (lv_at hl 2 rfl) ?_
  refine m_iadd (X := x6.toInt) (Y := q9.toInt) hx hb dX10_readIndex_8 rfl rfl (fun x8 e_x8 g9 => ?_)
  obtain ⟨k_x8, g_x8⟩ := g9
  have b_x8 := iB x8
  try (have q_x8 : x8.toInt = x6.toInt + q9.toInt := (by omega); clear g_x8 k_x8)
  refine lv_iconst (v := (-1)) hx hb dX10_readIndex_9 (by decide) ?_
  refine va_iast hx hb hK hP hD hS 13 0 rfl rfl (ix (by omega) (by omega)) dX10_readIndex_10 (fun H locs hP hD hS => ?_)
  obtain ⟨a_atVar_10, e_a_atVar_10⟩ : ∃ g, g = upd a_atVar x8.toNatClampNeg (-1 : Int32) := ⟨_, rfl⟩
  have hP : va_P D vwCl (mw cs q v_thrown a_tape v_taped v_size v_to v_kind v_from v_letters v_letterMany v_digits v_isBeyond v_suffix v_steps v_fault v_hasProgram a_text a_act a_guess a_take a_begin a_finish a_to1 a_one a_two a_what a_ats a_atVar_10 a_atNumber a_atomSort a_atomKind a_atomValue v_wrong v_wrongAt v_variable v_number v_numberKind v_takes a_out v_outed a_varSort a_varKind a_varValue a_creature v_creatures a_arrayClass a_arrayFrom a_arrayLong v_arrays v_cells a_cellSort a_cellKind a_cellValue a_asideSort a_asideKind a_asideValue a_outcome v_marks v_came v_guessed v_right v_taken a_markSort a_markKind a_markClass a_markValue v_sort v_kindAt v_value a_index v_reached v_looked) H := by rw [e_a_atVar_10]; exact hP
  have hD : va_D A (mw cs q v_thrown a_tape v_taped v_size v_to v_kind v_from v_letters v_letterMany v_digits v_isBeyond v_suffix v_steps v_fault v_hasProgram a_text a_act a_guess a_take a_begin a_finish a_to1 a_one a_two a_what a_ats a_atVar_10 a_atNumber a_atomSort a_atomKind a_atomValue v_wrong v_wrongAt v_variable v_number v_numberKind v_takes a_out v_outed a_varSort a_varKind a_varValue a_creature v_creatures a_arrayClass a_arrayFrom a_arrayLong v_arrays v_cells a_cellSort a_cellKind a_cellValue a_asideSort a_asideKind a_asideValue a_outcome v_marks v_came v_guessed v_right v_taken a_markSort a_markKind a_markClass a_markValue v_sort v_kindAt v_value a_index v_reached v_looked) := by rw [e_a_atVar_10]; exact hD
  have ha10 : Rm25 a_atVar_10 := Rm25.upd p_3 (by decide) (by decide) e_a_atVar_10
  refine lv_aload_n hx hb dX10_readIndex_11 rfl (lv_at hl 0 rfl) ?_
  refine call_i (As := []) (rest := []) ⟨hx, hb, hml, hown, hts⟩ (tX10_isVar (l := l) ) (cwV 0 hts (gV (wr24 _ (List.mem_of_getElem? (i := 17) rfl)) (wr24 _ (List.mem_of_getElem? (i := 18) rfl)) (wr24 _ (List.mem_of_getElem? (i := 19) rfl)) (wr1 _ (List.mem_of_getElem? (i := 5) rfl)) (wr24 _ (List.mem_of_getElem? (i := 20) rfl))) rfl rfl rfl (by decide +kernel) ⟨Nat.le_of_ble_eq_true rfl, Nat.le_of_ble_eq_true rfl⟩) (va_recv hK hP (ci := 9) (q0 := 0) rfl rfl) hK hP hD hE hS hA rfl hl.1 rfl (Nat.le_of_ble_eq_true rfl) dX10_readIndex_12 ⟨Nat.le_of_ble_eq_true rfl, Nat.le_of_ble_eq_true rfl⟩ (fun r12 w9 H locs hw12 hP hD hS => ?_)
  obtain ⟨rfl, hw12_0⟩ := hw12
  have b_r12 := iB r12
  refine m_if_eq (X := r12.toInt) (tgt := 39) hx hb dX10_readIndex_15 (by decide) rfl (fun c15 => ?_) (fun c15 => ?_)
  · skip
    refine lv_aload_n hx hb dX10_readIndex_39 rfl (lv_at hl 0 rfl) ?_
    refine va_get (D := D) (ci := 9) (v := .int v_kind) (C := RX10) (T := TX10) (N := 71) hx hb hts hin hown hK hP 0 rfl rfl 5 (by decide) k_22_15 (fun _ h9 => h9) rfl dX10_readIndex_40 ?_
    refine lv_iconst (v := 3) hx hb dX10_readIndex_43 (by decide) ?_
    have J62 : ∀ (H : Heap) (locs : List Loc) (ls : Array Slot), va_P D vwCl (mw cs q v_thrown a_tape v_taped v_size v_to v_kind v_from v_letters v_letterMany v_digits v_isBeyond v_suffix v_steps v_fault v_hasProgram a_text a_act a_guess a_take a_begin a_finish a_to1 a_one a_two a_what a_ats a_atVar_10 a_atNumber a_atomSort a_atomKind a_atomValue v_wrong v_wrongAt v_variable v_number v_numberKind v_takes a_out v_outed a_varSort a_varKind a_varValue a_creature v_creatures a_arrayClass a_arrayFrom a_arrayLong v_arrays v_cells a_cellSort a_cellKind a_cellValue a_asideSort a_asideKind a_asideValue a_outcome v_marks v_came v_guessed v_right v_taken a_markSort a_markKind a_markClass a_markValue v_sort v_kindAt v_value a_index v_reached v_looked) H → va_D A (mw cs q v_thrown a_tape v_taped v_size v_to v_kind v_from v_letters v_letterMany v_digits v_isBeyond v_suffix v_steps v_fault v_hasProgram a_text a_act a_guess a_take a_begin a_finish a_to1 a_one a_two a_what a_ats a_atVar_10 a_atNumber a_atomSort a_atomKind a_atomValue v_wrong v_wrongAt v_variable v_number v_numberKind v_takes a_out v_outed a_varSort a_varKind a_varValue a_creature v_creatures a_arrayClass a_arrayFrom a_arrayLong v_arrays v_cells a_cellSort a_cellKind a_cellValue a_asideSort a_asideKind a_asideValue a_outcome v_marks v_came v_guessed v_right v_taken a_markSort a_markKind a_markClass a_markValue v_sort v_kindAt v_value a_index v_reached v_looked) → va_S A s.heap H locs → lv_has ls 3 [(0, .ref (q 0)), (1, .int s9), (2, .int q9)] → W p l e (headSpec (wG yX10_readIndex cX10_readIndex 3 (some .boolean)) rmX10_readIndex).room s m ([.ref (q 0), .int s9, .int q9] : List Value).toArray below meth c H locs 0 0 Q (F0 m 62 ls []) := by
      intro H locs ls hP hD hS hl
      refine lv_aload_n hx hb dX10_readIndex_62 rfl (lv_at hl 0 rfl) ?_
      refine lv_iconst (v := 1) hx hb dX10_readIndex_63 (by decide) ?_
      refine call_i (As := [.int 1]) (rest := []) ⟨hx, hb, hml, hown, hts⟩ (tX10_readNumber_ (l := l) (1 : Int32) (by first | assumption | omega | (intros; omega) | decide) (by first | assumption | omega | (intros; omega) | decide)) (cwV 1 hts (gV (wr27 _ (List.mem_of_getElem? (i := 0) rfl)) (wr27 _ (List.mem_of_getElem? (i := 1) rfl)) (wr27 _ (List.mem_of_getElem? (i := 2) rfl)) (wr1 _ (List.mem_of_getElem? (i := 5) rfl)) (wr27 _ (List.mem_of_getElem? (i := 3) rfl))) rfl rfl rfl (by decide +kernel) ⟨Nat.le_of_ble_eq_true rfl, Nat.le_of_ble_eq_true rfl⟩) (va_recv hK hP (ci := 9) (q0 := 0) rfl rfl) hK hP hD hE hS hA rfl hl.1 rfl (Nat.le_of_ble_eq_true rfl) dX10_readIndex_64 ⟨Nat.le_of_ble_eq_true rfl, Nat.le_of_ble_eq_true rfl⟩ (fun r64 w9 H locs hw64 hP hD hS => ?_)
      obtain ⟨v_to_64, v_kind_64, v_from_64, v_letters_64, v_letterMany_64, v_digits_64, v_isBeyond_64, v_suffix_64, v_wrong_64, v_wrongAt_64, v_number_64, v_numberKind_64, rfl, hw64_0, hw64_1, hw64_2, hw64_3, hw64_4⟩ := hw64
      have b_v_to_64 := iB v_to_64
      have b_v_kind_64 := iB v_kind_64
      have b_v_from_64 := iB v_from_64
      have b_v_letters_64 := jB v_letters_64
      have b_v_letterMany_64 := iB v_letterMany_64
      have b_v_digits_64 := jB v_digits_64
      have b_v_isBeyond_64 := iB v_isBeyond_64
      have b_v_suffix_64 := iB v_suffix_64
      have b_v_wrong_64 := iB v_wrong_64
      have b_v_wrongAt_64 := iB v_wrongAt_64
      have b_v_number_64 := jB v_number_64
      have b_v_numberKind_64 := iB v_numberKind_64
      have b_r64 := iB r64
      refine m_if_ne (X := r64.toInt) (tgt := 72) hx hb dX10_readIndex_67 (by decide) rfl (fun c67 => ?_) (fun c67 => ?_)
      · skip
        refine lv_aload_n hx hb dX10_readIndex_72 rfl (lv_at hl 0 rfl) ?_
        refine va_get (D := D) (ci := 9) (v := .ref (q 14)) (C := RX10) (T := TX10) (N := 71) hx hb hts hin hown hK hP 0 rfl rfl 27 (by decide) k_5_20 (fun _ h9 => h9) rfl dX10_readIndex_73 ?_
        refine lv_iconst (v := 4) hx hb dX10_readIndex_76 (by decide) ?_
        refine lv_iload_n hx hb dX10_readIndex_77 rfl (lv_at hl 1 rfl) ?_
        refine m_imul (X := 4) (Y := s9.toInt) hx hb dX10_readIndex_78 (by decide) rfl (fun x78 e_x78 g9 => ?_)
        obtain ⟨k_x78, g_x78⟩ := g9
        have b_x78 := iB x78
        try (have q_x78 : x78.toInt = 4 * s9.toInt := (by omega); clear g_x78 k_x78)
        refine lv_iload_n hx hb dX10_readIndex_79 rfl (lv_at hl 2 rfl) ?_
        refine m_iadd (X := x78.toInt) (Y := q9.toInt) hx hb dX10_readIndex_80 rfl rfl (fun x80 e_x80 g9 => ?_)
        obtain ⟨k_x80, g_x80⟩ := g9
        have b_x80 := iB x80
        try (have q_x80 : x80.toInt = x78.toInt + q9.toInt := (by omega); clear g_x80 k_x80)
        refine lv_aload_n hx hb dX10_readIndex_81 rfl (lv_at hl 0 rfl) ?_
        refine va_get (D := D) (ci := 9) (v := .long v_number_64) (C := RX10) (T := TX10) (N := 71) hx hb hts hin hown hK hP 0 rfl rfl 34 (by decide) k_26_23 (fun _ h9 => h9) rfl dX10_readIndex_82 ?_
        refine m_l2i hx hb dX10_readIndex_85 (fun x85 e_x85 => ?_)
        have b_x85 := iB x85
        refine va_iast hx hb hK hP hD hS 14 0 rfl rfl (ix (by omega) (by omega)) dX10_readIndex_86 (fun H locs hP hD hS => ?_)
        obtain ⟨a_atNumber_86, e_a_atNumber_86⟩ : ∃ g, g = upd a_atNumber x80.toNatClampNeg x85 := ⟨_, rfl⟩
        have hP : va_P D vwCl (mw cs q v_thrown a_tape v_taped v_size v_to_64 v_kind_64 v_from_64 v_letters_64 v_letterMany_64 v_digits_64 v_isBeyond_64 v_suffix_64 v_steps v_fault v_hasProgram a_text a_act a_guess a_take a_begin a_finish a_to1 a_one a_two a_what a_ats a_atVar_10 a_atNumber_86 a_atomSort a_atomKind a_atomValue v_wrong_64 v_wrongAt_64 v_variable v_number_64 v_numberKind_64 v_takes a_out v_outed a_varSort a_varKind a_varValue a_creature v_creatures a_arrayClass a_arrayFrom a_arrayLong v_arrays v_cells a_cellSort a_cellKind a_cellValue a_asideSort a_asideKind a_asideValue a_outcome v_marks v_came v_guessed v_right v_taken a_markSort a_markKind a_markClass a_markValue v_sort v_kindAt v_value a_index v_reached v_looked) H := by rw [e_a_atNumber_86]; exact hP
        have hD : va_D A (mw cs q v_thrown a_tape v_taped v_size v_to_64 v_kind_64 v_from_64 v_letters_64 v_letterMany_64 v_digits_64 v_isBeyond_64 v_suffix_64 v_steps v_fault v_hasProgram a_text a_act a_guess a_take a_begin a_finish a_to1 a_one a_two a_what a_ats a_atVar_10 a_atNumber_86 a_atomSort a_atomKind a_atomValue v_wrong_64 v_wrongAt_64 v_variable v_number_64 v_numberKind_64 v_takes a_out v_outed a_varSort a_varKind a_varValue a_creature v_creatures a_arrayClass a_arrayFrom a_arrayLong v_arrays v_cells a_cellSort a_cellKind a_cellValue a_asideSort a_asideKind a_asideValue a_outcome v_marks v_came v_guessed v_right v_taken a_markSort a_markKind a_markClass a_markValue v_sort v_kindAt v_value a_index v_reached v_looked) := by rw [e_a_atNumber_86]; exact hD
        refine lv_iconst (v := 1) hx hb dX10_readIndex_87 (by decide) ?_
        subst hAe
        rw [hQ]
        exact W.zret (v := 1) hx hb hr (by decide) (fun t ht hW => ⟨⟨1, _, rfl, ⟨v_to_64, v_kind_64, v_from_64, v_letters_64, v_letterMany_64, v_digits_64, v_isBeyond_64, v_suffix_64, a_atVar_10, a_atNumber_86, v_wrong_64, v_wrongAt_64, v_variable, v_number_64, v_numberKind_64, rfl, by first | assumption | omega | (intros; omega) | decide, by first | assumption | omega | (intros; omega) | decide, by first | assumption | omega | (intros; omega) | decide, by first | assumption | omega | (intros; omega) | decide, by first | assumption | omega | (intros; omega) | decide, by first | assumption | omega | (intros; omega) | decide, by first | assumption | omega | (intros; omega) | decide⟩, by rw [ht]; exact hP, va_K.moved hW.alike hK, hD⟩, hS.F ht⟩) hS.2.2 dX10_readIndex_88
      · skip
        refine lv_iconst (v := 0) hx hb dX10_readIndex_70 (by decide) ?_
        subst hAe
        rw [hQ]
        exact W.zret (v := 0) hx hb hr (by decide) (fun t ht hW => ⟨⟨0, _, rfl, ⟨v_to_64, v_kind_64, v_from_64, v_letters_64, v_letterMany_64, v_digits_64, v_isBeyond_64, v_suffix_64, a_atVar_10, a_atNumber, v_wrong_64, v_wrongAt_64, v_variable, v_number_64, v_numberKind_64, rfl, by first | assumption | omega | (intros; omega) | decide, by first | assumption | omega | (intros; omega) | decide, by first | assumption | omega | (intros; omega) | decide, by first | assumption | omega | (intros; omega) | decide, by first | assumption | omega | (intros; omega) | decide, by first | assumption | omega | (intros; omega) | decide, by first | assumption | omega | (intros; omega) | decide⟩, by rw [ht]; exact hP, va_K.moved hW.alike hK, hD⟩, hS.F ht⟩) hS.2.2 dX10_readIndex_71
    refine m_icmp_eq (X := v_kind.toInt) (Y := 3) (tgt := 62) hx hb dX10_readIndex_44 (by decide) rfl (by decide) (fun c44 => ?_) (fun c44 => ?_)
    · skip
      exact J62 H locs ls hP hD hS (lv_sub hl [0, 1, 2] rfl)
    · skip
      refine lv_aload_n hx hb dX10_readIndex_47 rfl (lv_at hl 0 rfl) ?_
      refine lv_bipush (v := 45) hx hb dX10_readIndex_48 (by decide) ?_
      refine call_i (As := [.int 45]) (rest := []) ⟨hx, hb, hml, hown, hts⟩ (tX10_isSign (l := l) (45 : Int32)) (cwV 1 hts (gV (wr26 _ (List.mem_of_getElem? (i := 3) rfl)) (wr26 _ (List.mem_of_getElem? (i := 4) rfl)) (wr26 _ (List.mem_of_getElem? (i := 5) rfl)) (wr1 _ (List.mem_of_getElem? (i := 5) rfl)) (wr26 _ (List.mem_of_getElem? (i := 6) rfl))) rfl rfl rfl (by decide +kernel) ⟨Nat.le_of_ble_eq_true rfl, Nat.le_of_ble_eq_true rfl⟩) (va_recv hK hP (ci := 9) (q0 := 0) rfl rfl) hK hP hD hE hS hA rfl hl.1 rfl (Nat.le_of_ble_eq_true rfl) dX10_readIndex_50 ⟨Nat.le_of_ble_eq_true rfl, Nat.le_of_ble_eq_true rfl⟩ (fun r50 w9 H locs hw50 hP hD hS => ?_)
      obtain ⟨rfl, hw50_0⟩ := hw50
      have b_r50 := iB r50
      refine m_if_ne (X := r50.toInt) (tgt := 62) hx hb dX10_readIndex_53 (by decide) rfl (fun c53 => ?_) (fun c53 => ?_)
      · skip
        exact J62 H locs ls hP hD hS (lv_sub hl [0, 1, 2] rfl)
      · skip
        refine lv_aload_n hx hb dX10_readIndex_56 rfl (lv_at hl 0 rfl) ?_
        refine lv_iconst (v := 2) hx hb dX10_readIndex_57 (by decide) ?_
        refine call_i (As := [.int 2]) (rest := []) ⟨hx, hb, hml, hown, hts⟩ (tX10_bad (l := l) (2 : Int32)) (cwV 1 hts (gV (wr25 _ (List.mem_of_getElem? (i := 0) rfl)) (wr25 _ (List.mem_of_getElem? (i := 1) rfl)) (wr25 _ (List.mem_of_getElem? (i := 2) rfl)) (wr1 _ (List.mem_of_getElem? (i := 5) rfl)) (wr25 _ (List.mem_of_getElem? (i := 3) rfl))) rfl rfl rfl (by decide +kernel) ⟨Nat.le_of_ble_eq_true rfl, Nat.le_of_ble_eq_true rfl⟩) (va_recv hK hP (ci := 9) (q0 := 0) rfl rfl) hK hP hD hE hS hA rfl hl.1 rfl (Nat.le_of_ble_eq_true rfl) dX10_readIndex_58 ⟨Nat.le_of_ble_eq_true rfl, Nat.le_of_ble_eq_true rfl⟩ (fun r58 w9 H locs hw58 hP hD hS => ?_)
        obtain ⟨v_wrong_58, v_wrongAt_58, rfl, hw58_0⟩ := hw58
        have b_v_wrong_58 := iB v_wrong_58
        have b_v_wrongAt_58 := iB v_wrongAt_58
        have b_r58 := iB r58
        subst hAe
        rw [hQ]
        exact W.zret (v := r58) hx hb hr (nbool (by first | omega | decide)) (fun t ht hW => ⟨⟨r58, _, rfl, ⟨v_to, v_kind, v_from, v_letters, v_letterMany, v_digits, v_isBeyond, v_suffix, a_atVar_10, a_atNumber, v_wrong_58, v_wrongAt_58, v_variable, v_number, v_numberKind, rfl, by first | assumption | omega | (intros; omega) | decide, by first | assumption | omega | (intros; omega) | decide, by first | assumption | omega | (intros; omega) | decide, by first | assumption | omega | (intros; omega) | decide, by first | assumption | omega | (intros; omega) | decide, by first | assumption | omega | (intros; omega) | decide, by first | assumption | omega | (intros; omega) | decide⟩, by rw [ht]; exact hP, va_K.moved hW.alike hK, hD⟩, hS.F ht⟩) hS.2.2 dX10_readIndex_61
  · skip
    refine lv_aload_n hx hb dX10_readIndex_18 rfl (lv_at hl 0 rfl) ?_
    refine call_i (As := []) (rest := []) ⟨hx, hb, hml, hown, hts⟩ (tX10_readVar (l := l)  (by first | assumption | omega | (intros; omega) | decide) (by first | assumption | omega | (intros; omega) | decide)) (cwV 0 hts (gV (wr25 _ (List.mem_of_getElem? (i := 23) rfl)) (wr26 _ (List.mem_of_getElem? (i := 0) rfl)) (wr26 _ (List.mem_of_getElem? (i := 1) rfl)) (wr1 _ (List.mem_of_getElem? (i := 5) rfl)) (wr26 _ (List.mem_of_getElem? (i := 2) rfl))) rfl rfl rfl (by decide +kernel) ⟨Nat.le_of_ble_eq_true rfl, Nat.le_of_ble_eq_true rfl⟩) (va_recv hK hP (ci := 9) (q0 := 0) rfl rfl) hK hP hD hE hS hA rfl hl.1 rfl (Nat.le_of_ble_eq_true rfl) dX10_readIndex_19 ⟨Nat.le_of_ble_eq_true rfl, Nat.le_of_ble_eq_true rfl⟩ (fun r19 w9 H locs hw19 hP hD hS => ?_)
    obtain ⟨v_to_19, v_kind_19, v_from_19, v_letters_19, v_letterMany_19, v_digits_19, v_isBeyond_19, v_suffix_19, v_wrong_19, v_wrongAt_19, v_variable_19, rfl, hw19_0, hw19_1, hw19_2, hw19_3, hw19_4⟩ := hw19
    have b_v_to_19 := iB v_to_19
    have b_v_kind_19 := iB v_kind_19
    have b_v_from_19 := iB v_from_19
    have b_v_letters_19 := jB v_letters_19
    have b_v_letterMany_19 := iB v_letterMany_19
    have b_v_digits_19 := jB v_digits_19
    have b_v_isBeyond_19 := iB v_isBeyond_19
    have b_v_suffix_19 := iB v_suffix_19
    have b_v_wrong_19 := iB v_wrong_19
    have b_v_wrongAt_19 := iB v_wrongAt_19
    have b_v_variable_19 := iB v_variable_19
    have b_r19 := iB r19
    refine lv_pop hx hb dX10_readIndex_22 rfl ?_
    refine lv_aload_n hx hb dX10_readIndex_23 rfl (lv_at hl 0 rfl) ?_
    refine va_get (D := D) (ci := 9) (v := .ref (q 13)) (C := RX10) (T := TX10) (N := 71) hx hb hts hin hown hK hP 0 rfl rfl 26 (by decide) k_5_19 (fun _ h9 => h9) rfl dX10_readIndex_24 ?_
    refine lv_iconst (v := 4) hx hb dX10_readIndex_27 (by decide) ?_
    refine lv_iload_n hx hb dX10_readIndex_28 rfl (lv_at hl 1 rfl) ?_
    refine m_imul (X := 4) (Y := s9.toInt) hx hb dX10_readIndex_29 (by decide) rfl (fun x29 e_x29 g9 => ?_)
    obtain ⟨k_x29, g_x29⟩ := g9
    have b_x29 := iB x29
    try (have q_x29 : x29.toInt = 4 * s9.toInt := (by omega); clear g_x29 k_x29)
    refine lv_iload_n hx hb dX10_readIndex_30 rfl (lv_at hl 2 rfl) ?_
    refine m_iadd (X := x29.toInt) (Y := q9.toInt) hx hb dX10_readIndex_31 rfl rfl (fun x31 e_x31 g9 => ?_)
    obtain ⟨k_x31, g_x31⟩ := g9
    have b_x31 := iB x31
    try (have q_x31 : x31.toInt = x29.toInt + q9.toInt := (by omega); clear g_x31 k_x31)
    refine lv_aload_n hx hb dX10_readIndex_32 rfl (lv_at hl 0 rfl) ?_
    refine va_get (D := D) (ci := 9) (v := .int v_variable_19) (C := RX10) (T := TX10) (N := 71) hx hb hts hin hown hK hP 0 rfl rfl 33 (by decide) k_25_22 (fun _ h9 => h9) rfl dX10_readIndex_33 ?_
    refine va_iast hx hb hK hP hD hS 13 0 rfl rfl (ix (by omega) (by omega)) dX10_readIndex_36 (fun H locs hP hD hS => ?_)
    obtain ⟨a_atVar_36, e_a_atVar_36⟩ : ∃ g, g = upd a_atVar_10 x31.toNatClampNeg v_variable_19 := ⟨_, rfl⟩
    have hP : va_P D vwCl (mw cs q v_thrown a_tape v_taped v_size v_to_19 v_kind_19 v_from_19 v_letters_19 v_letterMany_19 v_digits_19 v_isBeyond_19 v_suffix_19 v_steps v_fault v_hasProgram a_text a_act a_guess a_take a_begin a_finish a_to1 a_one a_two a_what a_ats a_atVar_36 a_atNumber a_atomSort a_atomKind a_atomValue v_wrong_19 v_wrongAt_19 v_variable_19 v_number v_numberKind v_takes a_out v_outed a_varSort a_varKind a_varValue a_creature v_creatures a_arrayClass a_arrayFrom a_arrayLong v_arrays v_cells a_cellSort a_cellKind a_cellValue a_asideSort a_asideKind a_asideValue a_outcome v_marks v_came v_guessed v_right v_taken a_markSort a_markKind a_markClass a_markValue v_sort v_kindAt v_value a_index v_reached v_looked) H := by rw [e_a_atVar_36]; exact hP
    have hD : va_D A (mw cs q v_thrown a_tape v_taped v_size v_to_19 v_kind_19 v_from_19 v_letters_19 v_letterMany_19 v_digits_19 v_isBeyond_19 v_suffix_19 v_steps v_fault v_hasProgram a_text a_act a_guess a_take a_begin a_finish a_to1 a_one a_two a_what a_ats a_atVar_36 a_atNumber a_atomSort a_atomKind a_atomValue v_wrong_19 v_wrongAt_19 v_variable_19 v_number v_numberKind v_takes a_out v_outed a_varSort a_varKind a_varValue a_creature v_creatures a_arrayClass a_arrayFrom a_arrayLong v_arrays v_cells a_cellSort a_cellKind a_cellValue a_asideSort a_asideKind a_asideValue a_outcome v_marks v_came v_guessed v_right v_taken a_markSort a_markKind a_markClass a_markValue v_sort v_kindAt v_value a_index v_reached v_looked) := by rw [e_a_atVar_36]; exact hD
    have ha36 : Rm25 a_atVar_36 := Rm25.upd ha10 (by omega) (by omega) e_a_atVar_36
    refine lv_iconst (v := 1) hx hb dX10_readIndex_37 (by decide) ?_
    subst hAe
    rw [hQ]
    exact W.zret (v := 1) hx hb hr (by decide) (fun t ht hW => ⟨⟨1, _, rfl, ⟨v_to_19, v_kind_19, v_from_19, v_letters_19, v_letterMany_19, v_digits_19, v_isBeyond_19, v_suffix_19, a_atVar_36, a_atNumber, v_wrong_19, v_wrongAt_19, v_variable_19, v_number, v_numberKind, rfl, by first | assumption | omega | (intros; omega) | decide, by first | assumption | omega | (intros; omega) | decide, by first | assumption | omega | (intros; omega) | decide, by first | assumption | omega | (intros; omega) | decide, by first | assumption | omega | (intros; omega) | decide, by first | assumption | omega | (intros; omega) | decide, by first | assumption | omega | (intros; omega) | decide⟩, by rw [ht]; exact hP, va_K.moved hW.alike hK, hD⟩, hS.F ht⟩) hS.2.2 dX10_readIndex_38

def rmX10_readAt : Room := { frames := 120, cells := 0, slots := 0, locals := 2400 }
set_option maxHeartbeats 4000000 in
set_option maxRecDepth 100000 in
theorem tX10_readAt {l : Launch} {D : va_G} {K : Nat → Nat → Nat} {cs : Nat → ClassId} {q : Nat → Nat} {v_thrown v_taped v_size v_to v_kind v_from v_letterMany v_isBeyond v_suffix v_steps v_fault v_hasProgram v_wrong v_wrongAt v_variable v_numberKind v_takes v_outed v_creatures v_arrays v_cells v_marks v_came v_guessed v_right v_taken v_sort v_kindAt v_reached v_looked : Int32} {a_tape a_text a_act a_guess a_take a_begin a_finish a_to1 a_one a_two a_what a_ats a_atVar a_atNumber a_atomSort a_atomKind a_out a_varSort a_varKind a_creature a_arrayClass a_arrayFrom a_arrayLong a_cellSort a_cellKind a_asideSort a_asideKind a_outcome a_markSort a_markKind a_markClass a_index : Nat → Int32} {v_letters v_digits v_number v_value : Int64} {a_atomValue a_varValue a_cellValue a_asideValue a_markValue : Nat → Int64} (s9 : Int32) (q9 : Int32) (p_0 : LX a_tape v_size v_to v_from v_kind v_letters v_letterMany v_isBeyond) (p_1 : 0 ≤ v_variable.toInt ∧ v_variable.toInt ≤ 25) (p_2 : NumOK v_numberKind v_number) (p_3 : Rm25 a_atVar) (p_4 : 0 ≤ s9.toInt) (p_5 : s9.toInt ≤ 201) (p_6 : 0 ≤ q9.toInt) (p_7 : q9.toInt ≤ 3) : CtI l yX10_readAt (wG yX10_readAt cX10_readAt 3 (some .boolean)) rmX10_readAt D (mwT cs) K [.ref (q 0), .int s9, .int q9] (mw cs q v_thrown a_tape v_taped v_size v_to v_kind v_from v_letters v_letterMany v_digits v_isBeyond v_suffix v_steps v_fault v_hasProgram a_text a_act a_guess a_take a_begin a_finish a_to1 a_one a_two a_what a_ats a_atVar a_atNumber a_atomSort a_atomKind a_atomValue v_wrong v_wrongAt v_variable v_number v_numberKind v_takes a_out v_outed a_varSort a_varKind a_varValue a_creature v_creatures a_arrayClass a_arrayFrom a_arrayLong v_arrays v_cells a_cellSort a_cellKind a_cellValue a_asideSort a_asideKind a_asideValue a_outcome v_marks v_came v_guessed v_right v_taken a_markSort a_markKind a_markClass a_markValue v_sort v_kindAt v_value a_index v_reached v_looked) (fun r w1 => ∃ (v_to' : Int32) (v_kind' : Int32) (v_from' : Int32) (v_letters' : Int64) (v_letterMany' : Int32) (v_digits' : Int64) (v_isBeyond' : Int32) (v_suffix' : Int32) (a_atVar' : Nat → Int32) (a_atNumber' : Nat → Int32) (v_wrong' : Int32) (v_wrongAt' : Int32) (v_variable' : Int32) (v_number' : Int64) (v_numberKind' : Int32), w1 = (mw cs q v_thrown a_tape v_taped v_size v_to' v_kind' v_from' v_letters' v_letterMany' v_digits' v_isBeyond' v_suffix' v_steps v_fault v_hasProgram a_text a_act a_guess a_take a_begin a_finish a_to1 a_one a_two a_what a_ats a_atVar' a_atNumber' a_atomSort a_atomKind a_atomValue v_wrong' v_wrongAt' v_variable' v_number' v_numberKind' v_takes a_out v_outed a_varSort a_varKind a_varValue a_creature v_creatures a_arrayClass a_arrayFrom a_arrayLong v_arrays v_cells a_cellSort a_cellKind a_cellValue a_asideSort a_asideKind a_asideValue a_outcome v_marks v_came v_guessed v_right v_taken a_markSort a_markKind a_markClass a_markValue v_sort v_kindAt v_value a_index v_reached v_looked) ∧ (LX a_tape v_size v_to' v_from' v_kind' v_letters' v_letterMany' v_isBeyond') ∧ (v_to.toInt ≤ v_to'.toInt) ∧ (ph a_tape v_to' ≤ ph a_tape v_to + 4) ∧ (0 ≤ v_variable'.toInt ∧ v_variable'.toInt ≤ 25) ∧ (NumOK v_numberKind' v_number') ∧ (Rm25 a_atVar') ∧ (r.toInt = 0 ∨ r.toInt = 1)) 0 0 := by
  intro sz
  refine Met.ofW (cc := cX10_readAt) (maxL := 3) (ret := (some .boolean)) (by decide) rfl ?_
  intro p e s m args below meth c s₁ B hml hv
  obtain ⟨rfl, hsz, hP, hK, hD0, hE⟩ := hv
  have hx := B.exec
  have hb := B.bytes
  have hr := B.returns
  have hts := atoms_spec (ws := (wG yX10_readAt cX10_readAt 3 (some .boolean))) B.pre
  have hown : s.vm.findClass RX10 = some m.cls := findClass_of_methodNamed B.named
  have hlocks := B.notSynchronized
  subst hsz
  have hD := hD0.self (sz := s.heap.size)
  obtain ⟨A, hAe⟩ : ∃ A : Nat → Prop, A = va_A (mw cs q v_thrown a_tape v_taped v_size v_to v_kind v_from v_letters v_letterMany v_digits v_isBeyond v_suffix v_steps v_fault v_hasProgram a_text a_act a_guess a_take a_begin a_finish a_to1 a_one a_two a_what a_ats a_atVar a_atNumber a_atomSort a_atomKind a_atomValue v_wrong v_wrongAt v_variable v_number v_numberKind v_takes a_out v_outed a_varSort a_varKind a_varValue a_creature v_creatures a_arrayClass a_arrayFrom a_arrayLong v_arrays v_cells a_cellSort a_cellKind a_cellValue a_asideSort a_asideKind a_asideValue a_outcome v_marks v_came v_guessed v_right v_taken a_markSort a_markKind a_markClass a_markValue v_sort v_kindAt v_value a_index v_reached v_looked) s.heap.size := ⟨_, rfl⟩
  rw [← hAe] at hD hE
  have hA : ∀ q : Nat, s.heap.size ≤ q → A q := fun q h => by rw [hAe]; exact Or.inr h
  have hS : va_S A s.heap s.heap [] := va_S.rf
  have hl := lv_entry ([.ref (q 0), .int s9, .int q9]) (n := 3) (Nat.le_of_ble_eq_true rfl)
  rw [lg_entry_eq]
  generalize (lg_sl ([.ref (q 0), .int s9, .int q9]) ++ List.replicate (3 - (lg_sl ([.ref (q 0), .int s9, .int q9])).length) Slot.unset).toArray = ls at hl ⊢
  have hl : lv_has ls 3 [(0, .ref (q 0)), (1, .int s9), (2, .int q9)] := hl
  refine wq (fun Q hQ => ?_)
  have hin : ∀ w ∈ wsX100, w ∈ (wG yX10_readAt cX10_readAt 3 (some .boolean)) := fun w h => List.mem_cons_of_mem _ (inlX10 w h)
  have kc0 : (0 : Int32).toInt = 0 := by decide
  have kc1 : (1 : Int32).toInt = 1 := by decide
  have kc2 : (91 : Int32).toInt = 91 := by decide
  have kc3 : (93 : Int32).toInt = 93 := by decide
  obtain ⟨H, hH⟩ : ∃ H : Heap, H = s.heap := ⟨_, rfl⟩
  obtain ⟨locs, hlc⟩ : ∃ L : List Loc, L = [] := ⟨_, rfl⟩
  have hP : va_P D vwCl (mw cs q v_thrown a_tape v_taped v_size v_to v_kind v_from v_letters v_letterMany v_digits v_isBeyond v_suffix v_steps v_fault v_hasProgram a_text a_act a_guess a_take a_begin a_finish a_to1 a_one a_two a_what a_ats a_atVar a_atNumber a_atomSort a_atomKind a_atomValue v_wrong v_wrongAt v_variable v_number v_numberKind v_takes a_out v_outed a_varSort a_varKind a_varValue a_creature v_creatures a_arrayClass a_arrayFrom a_arrayLong v_arrays v_cells a_cellSort a_cellKind a_cellValue a_asideSort a_asideKind a_asideValue a_outcome v_marks v_came v_guessed v_right v_taken a_markSort a_markKind a_markClass a_markValue v_sort v_kindAt v_value a_index v_reached v_looked) H := by rw [hH]; exact hP
  have hS : va_S A s.heap H locs := by rw [hH, hlc]; exact hS
  refine wHL hH hlc ?_
  have b_s9 := iB s9
  have b_q9 := iB q9
  refine lv_aload_n hx hb dX10_readAt_0 rfl (lv_at hl 0 rfl) ?_
  refine lv_bipush (v := 91) hx hb dX10_readAt_1 (by decide) ?_
  refine call_i (As := [.int 91]) (rest := []) ⟨hx, hb, hml, hown, hts⟩ (tX10_sign (l := l) (91 : Int32) (by first | assumption | omega | (intros; omega) | decide)) (cwV 1 hts (gV (wr26 _ (List.mem_of_getElem? (i := 15) rfl)) (wr26 _ (List.mem_of_getElem? (i := 16) rfl)) (wr26 _ (List.mem_of_getElem? (i := 17) rfl)) (wr1 _ (List.mem_of_getElem? (i := 5) rfl)) (wr26 _ (List.mem_of_getElem? (i := 18) rfl))) rfl rfl rfl (by decide +kernel) ⟨Nat.le_of_ble_eq_true rfl, Nat.le_of_ble_eq_true rfl⟩) (va_recv hK hP (ci := 9) (q0 := 0) rfl rfl) hK hP hD hE hS hA rfl hl.1 rfl (Nat.le_of_ble_eq_true rfl) dX10_readAt_3 ⟨Nat.le_of_ble_eq_true rfl, Nat.le_of_ble_eq_true rfl⟩ (fun r3 w9 H locs hw3 hP hD hS => ?_)
  obtain ⟨v_to_3, v_kind_3, v_from_3, v_letters_3, v_letterMany_3, v_digits_3, v_isBeyond_3, v_suffix_3, v_wrong_3, v_wrongAt_3, rfl, hw3_0, hw3_1, hw3_2, hw3_3⟩ := hw3
  have b_v_to_3 := iB v_to_3
  have b_v_kind_3 := iB v_kind_3
  have b_v_from_3 := iB v_from_3
  have b_v_letters_3 := jB v_letters_3
  have b_v_letterMany_3 := iB v_letterMany_3
  have b_v_digits_3 := jB v_digits_3
  have b_v_isBeyond_3 := iB v_isBeyond_3
  have b_v_suffix_3 := iB v_suffix_3
  have b_v_wrong_3 := iB v_wrong_3
  have b_v_wrongAt_3 := iB v_wrongAt_3
  have b_r3 := iB r3
  refine m_if_eq (X := r3.toInt) (tgt := 31) hx hb dX10_readAt_6 (by decide) rfl (fun c6 => ?_) (fun c6 => ?_)
  · skip
    refine lv_iconst (v := 0) hx hb dX10_readAt_31 (by decide) ?_
    subst hAe
    rw [hQ]
    exact W.zret (v := 0) hx hb hr (by decide) (fun t ht hW => ⟨⟨0, _, rfl, ⟨v_to_3, v_kind_3, v_from_3, v_letters_3, v_letterMany_3, v_digits_3, v_isBeyond_3, v_suffix_3, a_atVar, a_atNumber, v_wrong_3, v_wrongAt_3, v_variable, v_number, v_numberKind, rfl, by first | assumption | omega | (intros; omega) | decide, by first | assumption | omega | (intros; omega) | decide, by first | assumption | omega | (intros; omega) | decide, by first | assumption | omega | (intros; omega) | decide, by first | assumption | omega | (intros; omega) | decide, by first | assumption | omega | (intros; omega) | decide, by first | assumption | omega | (intros; omega) | decide⟩, by rw [ht]; exact hP, va_K.moved hW.alike hK, hD⟩, hS.F ht⟩) hS.2.2 dX10_readAt_32
  · skip
    refine lv_aload_n hx hb dX10_readAt_9 rfl (lv_at hl 0 rfl) ?_
    refine lv_iload_n hx hb dX10_readAt_10 rfl (lv_at hl 1 rfl) ?_
    refine lv_iload_n hx hb dX10_readAt_11 rfl (lv_at hl 2 rfl) ?_
    refine call_i (As := [.int s9, .int q9]) (rest := []) ⟨hx, hb, hml, hown, hts⟩ (tX10_readIndex (l := l) s9 q9 (by first | assumption | omega | (intros; omega) | decide) (by first | assumption | omega | (intros; omega) | decide) (by first | assumption | omega | (intros; omega) | decide) (by first | assumption | omega | (intros; omega) | decide) (by first | assumption | omega | (intros; omega) | decide) (by first | assumption | omega | (intros; omega) | decide) (by first | assumption | omega | (intros; omega) | decide) (by first | assumption | omega | (intros; omega) | decide)) (cwV 2 hts (gV (wr26 _ (List.mem_of_getElem? (i := 19) rfl)) (wr26 _ (List.mem_of_getElem? (i := 20) rfl)) (wr26 _ (List.mem_of_getElem? (i := 21) rfl)) (wr1 _ (List.mem_of_getElem? (i := 5) rfl)) (wr26 _ (List.mem_of_getElem? (i := 22) rfl))) rfl rfl rfl (by decide +kernel) ⟨Nat.le_of_ble_eq_true rfl, Nat.le_of_ble_eq_true rfl⟩) (va_recv hK hP (ci := 9) (q0 := 0) rfl rfl) hK hP hD hE hS hA rfl hl.1 rfl (Nat.le_of_ble_eq_true rfl) dX10_readAt_12 ⟨Nat.le_of_ble_eq_true rfl, Nat.le_of_ble_eq_true rfl⟩ (fun r12 w9 H locs hw12 hP hD hS => ?_)
    obtain ⟨v_to_12, v_kind_12, v_from_12, v_letters_12, v_letterMany_12, v_digits_12, v_isBeyond_12, v_suffix_12, a_atVar_12, a_atNumber_12, v_wrong_12, v_wrongAt_12, v_variable_12, v_number_12, v_numberKind_12, rfl, hw12_0, hw12_1, hw12_2, hw12_3, hw12_4, hw12_5, hw12_6⟩ := hw12
    have b_v_to_12 := iB v_to_12
    have b_v_kind_12 := iB v_kind_12
    have b_v_from_12 := iB v_from_12
    have b_v_letters_12 := jB v_letters_12
    have b_v_letterMany_12 := iB v_letterMany_12
    have b_v_digits_12 := jB v_digits_12
    have b_v_isBeyond_12 := iB v_isBeyond_12
    have b_v_suffix_12 := iB v_suffix_12
    have b_v_wrong_12 := iB v_wrong_12
    have b_v_wrongAt_12 := iB v_wrongAt_12
    have b_v_variable_12 := iB v_variable_12
    have b_v_number_12 := jB v_number_12
    have b_v_numberKind_12 := iB v_numberKind_12
    have b_r12 := iB r12
    refine m_if_eq (X := r12.toInt) (tgt := 31) hx hb dX10_readAt_15 (by decide) rfl (fun c15 => ?_) (fun c15 => ?_)
    · skip
      refine lv_iconst (v := 0) hx hb dX10_readAt_31 (by decide) ?_
      subst hAe
      rw [hQ]
      exact W.zret (v := 0) hx hb hr (by decide) (fun t ht hW => ⟨⟨0, _, rfl, ⟨v_to_12, v_kind_12, v_from_12, v_letters_12, v_letterMany_12, v_digits_12, v_isBeyond_12, v_suffix_12, a_atVar_12, a_atNumber_12, v_wrong_12, v_wrongAt_12, v_variable_12, v_number_12, v_numberKind_12, rfl, by first | assumption | omega | (intros; omega) | decide, by first | assumption | omega | (intros; omega) | decide, by first | assumption | omega | (intros; omega) | decide, by first | assumption | omega | (intros; omega) | decide, by first | assumption | omega | (intros; omega) | decide, by first | assumption | omega | (intros; omega) | decide, by first | assumption | omega | (intros; omega) | decide⟩, by rw [ht]; exact hP, va_K.moved hW.alike hK, hD⟩, hS.F ht⟩) hS.2.2 dX10_readAt_32
    · skip
      refine lv_aload_n hx hb dX10_readAt_18 rfl (lv_at hl 0 rfl) ?_
      refine lv_bipush (v := 93) hx hb dX10_readAt_19 (by decide) ?_
      refine call_i (As := [.int 93]) (rest := []) ⟨hx, hb, hml, hown, hts⟩ (tX10_sign (l := l) (93 : Int32) (by first | assumption | omega | (intros; omega) | decide)) (cwV 1 hts (gV (wr26 _ (List.mem_of_getElem? (i := 15) rfl)) (wr26 _ (List.mem_of_getElem? (i := 16) rfl)) (wr26 _ (List.mem_of_getElem? (i := 17) rfl)) (wr1 _ (List.mem_of_getElem? (i := 5) rfl)) (wr26 _ (List.mem_of_getElem? (i := 18) rfl))) rfl rfl rfl (by decide +kernel) ⟨Nat.le_of_ble_eq_true rfl, Nat.le_of_ble_eq_true rfl⟩) (va_recv hK hP (ci := 9) (q0 := 0) rfl rfl) hK hP hD hE hS hA rfl hl.1 rfl (Nat.le_of_ble_eq_true rfl) dX10_readAt_21 ⟨Nat.le_of_ble_eq_true rfl, Nat.le_of_ble_eq_true rfl⟩ (fun r21 w9 H locs hw21 hP hD hS => ?_)
      obtain ⟨v_to_21, v_kind_21, v_from_21, v_letters_21, v_letterMany_21, v_digits_21, v_isBeyond_21, v_suffix_21, v_wrong_21, v_wrongAt_21, rfl, hw21_0, hw21_1, hw21_2, hw21_3⟩ := hw21
      have b_v_to_21 := iB v_to_21
      have b_v_kind_21 := iB v_kind_21
      have b_v_from_21 := iB v_from_21
      have b_v_letters_21 := jB v_letters_21
      have b_v_letterMany_21 := iB v_letterMany_21
      have b_v_digits_21 := jB v_digits_21
      have b_v_isBeyond_21 := iB v_isBeyond_21
      have b_v_suffix_21 := iB v_suffix_21
      have b_v_wrong_21 := iB v_wrong_21
      have b_v_wrongAt_21 := iB v_wrongAt_21
      have b_r21 := iB r21
      refine m_if_eq (X := r21.toInt) (tgt := 31) hx hb dX10_readAt_24 (by decide) rfl (fun c24 => ?_) (fun c24 => ?_)
      · skip
        refine lv_iconst (v := 0) hx hb dX10_readAt_31 (by decide) ?_
        subst hAe
        rw [hQ]
        exact W.zret (v := 0) hx hb hr (by decide) (fun t ht hW => ⟨⟨0, _, rfl, ⟨v_to_21, v_kind_21, v_from_21, v_letters_21, v_letterMany_21, v_digits_21, v_isBeyond_21, v_suffix_21, a_atVar_12, a_atNumber_12, v_wrong_21, v_wrongAt_21, v_variable_12, v_number_12, v_numberKind_12, rfl, by first | assumption | omega | (intros; omega) | decide, by first | assumption | omega | (intros; omega) | decide, by first | assumption | omega | (intros; omega) | decide, by first | assumption | omega | (intros; omega) | decide, by first | assumption | omega | (intros; omega) | decide, by first | assumption | omega | (intros; omega) | decide, by first | assumption | omega | (intros; omega) | decide⟩, by rw [ht]; exact hP, va_K.moved hW.alike hK, hD⟩, hS.F ht⟩) hS.2.2 dX10_readAt_32
      · skip
        refine lv_iconst (v := 1) hx hb dX10_readAt_27 (by decide) ?_
        refine lv_goto (tgt := 32) hx hb dX10_readAt_28 (by decide) ?_
        subst hAe
        rw [hQ]
        exact W.zret (v := 1) hx hb hr (by decide) (fun t ht hW => ⟨⟨1, _, rfl, ⟨v_to_21, v_kind_21, v_from_21, v_letters_21, v_letterMany_21, v_digits_21, v_isBeyond_21, v_suffix_21, a_atVar_12, a_atNumber_12, v_wrong_21, v_wrongAt_21, v_variable_12, v_number_12, v_numberKind_12, rfl, by first | assumption | omega | (intros; omega) | decide, by first | assumption | omega | (intros; omega) | decide, by first | assumption | omega | (intros; omega) | decide, by first | assumption | omega | (intros; omega) | decide, by first | assumption | omega | (intros; omega) | decide, by first | assumption | omega | (intros; omega) | decide, by first | assumption | omega | (intros; omega) | decide⟩, by rw [ht]; exact hP, va_K.moved hW.alike hK, hD⟩, hS.F ht⟩) hS.2.2 dX10_readAt_32

def rmX10_readAts : Room := { frames := 140, cells := 0, slots := 0, locals := 2800 }
set_option maxHeartbeats 4000000 in
set_option maxRecDepth 100000 in
theorem tX10_readAts {l : Launch} {D : va_G} {K : Nat → Nat → Nat} {cs : Nat → ClassId} {q : Nat → Nat} {v_thrown v_taped v_size v_to v_kind v_from v_letterMany v_isBeyond v_suffix v_steps v_fault v_hasProgram v_wrong v_wrongAt v_variable v_numberKind v_takes v_outed v_creatures v_arrays v_cells v_marks v_came v_guessed v_right v_taken v_sort v_kindAt v_reached v_looked : Int32} {a_tape a_text a_act a_guess a_take a_begin a_finish a_to1 a_one a_two a_what a_ats a_atVar a_atNumber a_atomSort a_atomKind a_out a_varSort a_varKind a_creature a_arrayClass a_arrayFrom a_arrayLong a_cellSort a_cellKind a_asideSort a_asideKind a_outcome a_markSort a_markKind a_markClass a_index : Nat → Int32} {v_letters v_digits v_number v_value : Int64} {a_atomValue a_varValue a_cellValue a_asideValue a_markValue : Nat → Int64} (s9 : Int32) (p_0 : LX a_tape v_size v_to v_from v_kind v_letters v_letterMany v_isBeyond) (p_1 : 0 ≤ v_variable.toInt ∧ v_variable.toInt ≤ 25) (p_2 : NumOK v_numberKind v_number) (p_3 : Rm25 a_atVar) (p_4 : 0 ≤ s9.toInt) (p_5 : s9.toInt ≤ 201) (p_6 : R03 a_ats) : CtI l yX10_readAts (wG yX10_readAts cX10_readAts 3 (some .boolean)) rmX10_readAts D (mwT cs) K [.ref (q 0), .int s9] (mw cs q v_thrown a_tape v_taped v_size v_to v_kind v_from v_letters v_letterMany v_digits v_isBeyond v_suffix v_steps v_fault v_hasProgram a_text a_act a_guess a_take a_begin a_finish a_to1 a_one a_two a_what a_ats a_atVar a_atNumber a_atomSort a_atomKind a_atomValue v_wrong v_wrongAt v_variable v_number v_numberKind v_takes a_out v_outed a_varSort a_varKind a_varValue a_creature v_creatures a_arrayClass a_arrayFrom a_arrayLong v_arrays v_cells a_cellSort a_cellKind a_cellValue a_asideSort a_asideKind a_asideValue a_outcome v_marks v_came v_guessed v_right v_taken a_markSort a_markKind a_markClass a_markValue v_sort v_kindAt v_value a_index v_reached v_looked) (fun r w1 => ∃ (v_to' : Int32) (v_kind' : Int32) (v_from' : Int32) (v_letters' : Int64) (v_letterMany' : Int32) (v_digits' : Int64) (v_isBeyond' : Int32) (v_suffix' : Int32) (a_ats' : Nat → Int32) (a_atVar' : Nat → Int32) (a_atNumber' : Nat → Int32) (v_wrong' : Int32) (v_wrongAt' : Int32) (v_variable' : Int32) (v_number' : Int64) (v_numberKind' : Int32), w1 = (mw cs q v_thrown a_tape v_taped v_size v_to' v_kind' v_from' v_letters' v_letterMany' v_digits' v_isBeyond' v_suffix' v_steps v_fault v_hasProgram a_text a_act a_guess a_take a_begin a_finish a_to1 a_one a_two a_what a_ats' a_atVar' a_atNumber' a_atomSort a_atomKind a_atomValue v_wrong' v_wrongAt' v_variable' v_number' v_numberKind' v_takes a_out v_outed a_varSort a_varKind a_varValue a_creature v_creatures a_arrayClass a_arrayFrom a_arrayLong v_arrays v_cells a_cellSort a_cellKind a_cellValue a_asideSort a_asideKind a_asideValue a_outcome v_marks v_came v_guessed v_right v_taken a_markSort a_markKind a_markClass a_markValue v_sort v_kindAt v_value a_index v_reached v_looked) ∧ (LX a_tape v_size v_to' v_from' v_kind' v_letters' v_letterMany' v_isBeyond') ∧ (v_to.toInt ≤ v_to'.toInt) ∧ (ph a_tape v_to' ≤ ph a_tape v_to + 12) ∧ (0 ≤ v_variable'.toInt ∧ v_variable'.toInt ≤ 25) ∧ (NumOK v_numberKind' v_number') ∧ (Rm25 a_atVar') ∧ (R03 a_ats') ∧ (SAME a_ats' a_ats s9.toNatClampNeg) ∧ ((r.toInt = 1 ∧ 1 ≤ (a_ats' s9.toNatClampNeg).toInt) ∨ r.toInt = 0)) 0 0 := by
  intro sz
  refine Met.ofW (cc := cX10_readAts) (maxL := 3) (ret := (some .boolean)) (by decide) rfl ?_
  intro p e s m args below meth c s₁ B hml hv
  obtain ⟨rfl, hsz, hP, hK, hD0, hE⟩ := hv
  have hx := B.exec
  have hb := B.bytes
  have hr := B.returns
  have hts := atoms_spec (ws := (wG yX10_readAts cX10_readAts 3 (some .boolean))) B.pre
  have hown : s.vm.findClass RX10 = some m.cls := findClass_of_methodNamed B.named
  have hlocks := B.notSynchronized
  subst hsz
  have hD := hD0.self (sz := s.heap.size)
  obtain ⟨A, hAe⟩ : ∃ A : Nat → Prop, A = va_A (mw cs q v_thrown a_tape v_taped v_size v_to v_kind v_from v_letters v_letterMany v_digits v_isBeyond v_suffix v_steps v_fault v_hasProgram a_text a_act a_guess a_take a_begin a_finish a_to1 a_one a_two a_what a_ats a_atVar a_atNumber a_atomSort a_atomKind a_atomValue v_wrong v_wrongAt v_variable v_number v_numberKind v_takes a_out v_outed a_varSort a_varKind a_varValue a_creature v_creatures a_arrayClass a_arrayFrom a_arrayLong v_arrays v_cells a_cellSort a_cellKind a_cellValue a_asideSort a_asideKind a_asideValue a_outcome v_marks v_came v_guessed v_right v_taken a_markSort a_markKind a_markClass a_markValue v_sort v_kindAt v_value a_index v_reached v_looked) s.heap.size := ⟨_, rfl⟩
  rw [← hAe] at hD hE
  have hA : ∀ q : Nat, s.heap.size ≤ q → A q := fun q h => by rw [hAe]; exact Or.inr h
  have hS : va_S A s.heap s.heap [] := va_S.rf
  have hl := lv_entry ([.ref (q 0), .int s9]) (n := 3) (Nat.le_of_ble_eq_true rfl)
  rw [lg_entry_eq]
  generalize (lg_sl ([.ref (q 0), .int s9]) ++ List.replicate (3 - (lg_sl ([.ref (q 0), .int s9])).length) Slot.unset).toArray = ls at hl ⊢
  have hl : lv_has ls 3 [(0, .ref (q 0)), (1, .int s9)] := hl
  refine wq (fun Q hQ => ?_)
  have hin : ∀ w ∈ wsX100, w ∈ (wG yX10_readAts cX10_readAts 3 (some .boolean)) := fun w h => List.mem_cons_of_mem _ (inlX10 w h)
  have kc0 : (0 : Int32).toInt = 0 := by decide
  have kc1 : (1 : Int32).toInt = 1 := by decide
  have kc2 : (3 : Int32).toInt = 3 := by decide
  have kc3 : (4 : Int32).toInt = 4 := by decide
  have kc4 : (91 : Int32).toInt = 91 := by decide
  have k_5_18 := hts (.fieldLink RX10 43 "ArrayTrainerModel" "ats" "[I") (List.mem_cons_of_mem _ (wr5 _ (List.mem_of_getElem? (i := 18) rfl)))
  obtain ⟨H, hH⟩ : ∃ H : Heap, H = s.heap := ⟨_, rfl⟩
  obtain ⟨locs, hlc⟩ : ∃ L : List Loc, L = [] := ⟨_, rfl⟩
  have hP : va_P D vwCl (mw cs q v_thrown a_tape v_taped v_size v_to v_kind v_from v_letters v_letterMany v_digits v_isBeyond v_suffix v_steps v_fault v_hasProgram a_text a_act a_guess a_take a_begin a_finish a_to1 a_one a_two a_what a_ats a_atVar a_atNumber a_atomSort a_atomKind a_atomValue v_wrong v_wrongAt v_variable v_number v_numberKind v_takes a_out v_outed a_varSort a_varKind a_varValue a_creature v_creatures a_arrayClass a_arrayFrom a_arrayLong v_arrays v_cells a_cellSort a_cellKind a_cellValue a_asideSort a_asideKind a_asideValue a_outcome v_marks v_came v_guessed v_right v_taken a_markSort a_markKind a_markClass a_markValue v_sort v_kindAt v_value a_index v_reached v_looked) H := by rw [hH]; exact hP
  have hS : va_S A s.heap H locs := by rw [hH, hlc]; exact hS
  refine wHL hH hlc ?_
  have b_s9 := iB s9
  refine lv_iconst (v := 0) hx hb dX10_readAts_0 (by decide) ?_
  refine lv_istore_n (lv' := [(2, .int 0), (0, .ref (q 0)), (1, .int s9)]) hx hb dX10_readAts_1 rfl hl (by decide) rfl (fun ls hl => ?_)
  have J2 : ∀ (n2 : Nat) (l2_2 : Int32) (v_to_2 : Int32) (a_atNumber_2 : Nat → Int32) (a_atVar_2 : Nat → Int32) (v_digits_2 : Int64) (v_from_2 : Int32) (v_isBeyond_2 : Int32) (v_kind_2 : Int32) (v_letterMany_2 : Int32) (v_letters_2 : Int64) (v_number_2 : Int64) (v_numberKind_2 : Int32) (v_suffix_2 : Int32) (v_variable_2 : Int32) (v_wrong_2 : Int32) (v_wrongAt_2 : Int32) (H : Heap) (locs : List Loc) (ls : Array Slot), (0 ≤ l2_2.toInt) → (l2_2.toInt ≤ 3) → (LX a_tape v_size v_to_2 v_from_2 v_kind_2 v_letters_2 v_letterMany_2 v_isBeyond_2) → (v_to.toInt ≤ v_to_2.toInt) → ((ph a_tape v_to_2 : Int) ≤ ph a_tape v_to + 4 * l2_2.toInt) → (0 ≤ v_variable_2.toInt ∧ v_variable_2.toInt ≤ 25) → (NumOK v_numberKind_2 v_number_2) → (Rm25 a_atVar_2) → (3 - l2_2.toInt < (n2 : Int)) → va_P D vwCl (mw cs q v_thrown a_tape v_taped v_size v_to_2 v_kind_2 v_from_2 v_letters_2 v_letterMany_2 v_digits_2 v_isBeyond_2 v_suffix_2 v_steps v_fault v_hasProgram a_text a_act a_guess a_take a_begin a_finish a_to1 a_one a_two a_what a_ats a_atVar_2 a_atNumber_2 a_atomSort a_atomKind a_atomValue v_wrong_2 v_wrongAt_2 v_variable_2 v_number_2 v_numberKind_2 v_takes a_out v_outed a_varSort a_varKind a_varValue a_creature v_creatures a_arrayClass a_arrayFrom a_arrayLong v_arrays v_cells a_cellSort a_cellKind a_cellValue a_asideSort a_asideKind a_asideValue a_outcome v_marks v_came v_guessed v_right v_taken a_markSort a_markKind a_markClass a_markValue v_sort v_kindAt v_value a_index v_reached v_looked) H → va_D A (mw cs q v_thrown a_tape v_taped v_size v_to_2 v_kind_2 v_from_2 v_letters_2 v_letterMany_2 v_digits_2 v_isBeyond_2 v_suffix_2 v_steps v_fault v_hasProgram a_text a_act a_guess a_take a_begin a_finish a_to1 a_one a_two a_what a_ats a_atVar_2 a_atNumber_2 a_atomSort a_atomKind a_atomValue v_wrong_2 v_wrongAt_2 v_variable_2 v_number_2 v_numberKind_2 v_takes a_out v_outed a_varSort a_varKind a_varValue a_creature v_creatures a_arrayClass a_arrayFrom a_arrayLong v_arrays v_cells a_cellSort a_cellKind a_cellValue a_asideSort a_asideKind a_asideValue a_outcome v_marks v_came v_guessed v_right v_taken a_markSort a_markKind a_markClass a_markValue v_sort v_kindAt v_value a_index v_reached v_looked) → va_S A s.heap H locs → lv_has ls 3 [(0, .ref (q 0)), (1, .int s9), (2, .int l2_2)] → W p l e (headSpec (wG yX10_readAts cX10_readAts 3 (some .boolean)) rmX10_readAts).room s m ([.ref (q 0), .int s9] : List Value).toArray below meth c H locs 0 0 Q (F0 m 2 ls []) := by
    intro n2
    induction n2 with
    | zero =>
      intro l2_2 v_to_2 a_atNumber_2 a_atVar_2 v_digits_2 v_from_2 v_isBeyond_2 v_kind_2 v_letterMany_2 v_letters_2 v_number_2 v_numberKind_2 v_suffix_2 v_variable_2 v_wrong_2 v_wrongAt_2 H locs ls f2_0 f2_1 f2_2 f2_3 f2_4 f2_5 f2_6 f2_7 hm2
      exfalso
      omega
    | succ n2 ih2 =>
      intro l2_2 v_to_2 a_atNumber_2 a_atVar_2 v_digits_2 v_from_2 v_isBeyond_2 v_kind_2 v_letterMany_2 v_letters_2 v_number_2 v_numberKind_2 v_suffix_2 v_variable_2 v_wrong_2 v_wrongAt_2 H locs ls f2_0 f2_1 f2_2 f2_3 f2_4 f2_5 f2_6 f2_7 hm2 hP hD hS hl
      refine lv_iload_n hx hb dX10_readAts_2 rfl (lv_at hl 2 rfl) ?_
      refine lv_iconst (v := 3) hx hb dX10_readAts_3 (by decide) ?_
      refine m_icmp_ne (X := l2_2.toInt) (Y := 3) (tgt := 13) hx hb dX10_readAts_4 (by decide) rfl (by decide) (fun c4 => ?_) (fun c4 => ?_)
      · skip
        refine lv_aload_n hx hb dX10_readAts_13 rfl (lv_at hl 0 rfl) ?_
        refine lv_iload_n hx hb dX10_readAts_14 rfl (lv_at hl 1 rfl) ?_
        refine lv_iload_n hx hb dX10_readAts_15 rfl (lv_at hl 2 rfl) ?_
        refine call_i (As := [.int s9, .int l2_2]) (rest := []) ⟨hx, hb, hml, hown, hts⟩ (tX10_readAt (l := l) s9 l2_2 (by first | assumption | omega | (intros; omega) | decide) (by first | assumption | omega | (intros; omega) | decide) (by first | assumption | omega | (intros; omega) | decide) (by first | assumption | omega | (intros; omega) | decide) (by first | assumption | omega | (intros; omega) | decide) (by first | assumption | omega | (intros; omega) | decide) (by first | assumption | omega | (intros; omega) | decide) (by first | assumption | omega | (intros; omega) | decide)) (cwV 2 hts (gV (wr26 _ (List.mem_of_getElem? (i := 11) rfl)) (wr26 _ (List.mem_of_getElem? (i := 12) rfl)) (wr26 _ (List.mem_of_getElem? (i := 13) rfl)) (wr1 _ (List.mem_of_getElem? (i := 5) rfl)) (wr26 _ (List.mem_of_getElem? (i := 14) rfl))) rfl rfl rfl (by decide +kernel) ⟨Nat.le_of_ble_eq_true rfl, Nat.le_of_ble_eq_true rfl⟩) (va_recv hK hP (ci := 9) (q0 := 0) rfl rfl) hK hP hD hE hS hA rfl hl.1 rfl (Nat.le_of_ble_eq_true rfl) dX10_readAts_16 ⟨Nat.le_of_ble_eq_true rfl, Nat.le_of_ble_eq_true rfl⟩ (fun r16 w9 H locs hw16 hP hD hS => ?_)
        obtain ⟨v_to_16, v_kind_16, v_from_16, v_letters_16, v_letterMany_16, v_digits_16, v_isBeyond_16, v_suffix_16, a_atVar_16, a_atNumber_16, v_wrong_16, v_wrongAt_16, v_variable_16, v_number_16, v_numberKind_16, rfl, hw16_0, hw16_1, hw16_2, hw16_3, hw16_4, hw16_5, hw16_6⟩ := hw16
        have b_v_to_16 := iB v_to_16
        have b_v_kind_16 := iB v_kind_16
        have b_v_from_16 := iB v_from_16
        have b_v_letters_16 := jB v_letters_16
        have b_v_letterMany_16 := iB v_letterMany_16
        have b_v_digits_16 := jB v_digits_16
        have b_v_isBeyond_16 := iB v_isBeyond_16
        have b_v_suffix_16 := iB v_suffix_16
        have b_v_wrong_16 := iB v_wrong_16
        have b_v_wrongAt_16 := iB v_wrongAt_16
        have b_v_variable_16 := iB v_variable_16
        have b_v_number_16 := jB v_number_16
        have b_v_numberKind_16 := iB v_numberKind_16
        have b_r16 := iB r16
        refine m_if_ne (X := r16.toInt) (tgt := 24) hx hb dX10_readAts_19 (by decide) rfl (fun c19 => ?_) (fun c19 => ?_)
        · skip
          obtain ⟨x24, e_x24⟩ : ∃ z : Int32, z = l2_2 + (1 : Int32) := ⟨_, rfl⟩
          obtain ⟨k_x24, g_x24⟩ : ∃ k : Int, x24.toInt = l2_2.toInt + (1) + k * 4294967296 := by rw [e_x24]; exact iAdd l2_2 (1)
          have b_x24 := iB x24
          try (have q_x24 : x24.toInt = l2_2.toInt + (1) := (by omega); clear g_x24 k_x24)
          refine lv_iinc (v := x24) (lv' := [(2, .int x24), (0, .ref (q 0)), (1, .int s9)]) hx hb dX10_readAts_24 hl (k := 2) rfl (by rw [e_x24]; rfl) (by decide) rfl (fun ls hl => ?_)
          refine lv_aload_n hx hb dX10_readAts_27 rfl (lv_at hl 1 rfl) ?_
          refine lv_bipush (v := 91) hx hb dX10_readAts_28 (by decide) ?_
          refine call_i (As := [.int 91]) (rest := []) ⟨hx, hb, hml, hown, hts⟩ (tX10_isSign (l := l) (91 : Int32)) (cwV 1 hts (gV (wr26 _ (List.mem_of_getElem? (i := 3) rfl)) (wr26 _ (List.mem_of_getElem? (i := 4) rfl)) (wr26 _ (List.mem_of_getElem? (i := 5) rfl)) (wr1 _ (List.mem_of_getElem? (i := 5) rfl)) (wr26 _ (List.mem_of_getElem? (i := 6) rfl))) rfl rfl rfl (by decide +kernel) ⟨Nat.le_of_ble_eq_true rfl, Nat.le_of_ble_eq_true rfl⟩) (va_recv hK hP (ci := 9) (q0 := 0) rfl rfl) hK hP hD hE hS hA rfl hl.1 rfl (Nat.le_of_ble_eq_true rfl) dX10_readAts_30 ⟨Nat.le_of_ble_eq_true rfl, Nat.le_of_ble_eq_true rfl⟩ (fun r30 w9 H locs hw30 hP hD hS => ?_)
          obtain ⟨rfl, hw30_0⟩ := hw30
          have b_r30 := iB r30
          refine m_if_ne (X := r30.toInt) (tgt := 2) hx hb dX10_readAts_33 (by decide) rfl (fun c33 => ?_) (fun c33 => ?_)
          · skip
            exact ih2 x24 v_to_16 a_atNumber_16 a_atVar_16 v_digits_16 v_from_16 v_isBeyond_16 v_kind_16 v_letterMany_16 v_letters_16 v_number_16 v_numberKind_16 v_suffix_16 v_variable_16 v_wrong_16 v_wrongAt_16 H locs ls (by first | assumption | omega | (intros; omega) | decide) (by first | assumption | omega | (intros; omega) | decide) (by first | assumption | omega | (intros; omega) | decide) (by first | assumption | omega | (intros; omega) | decide) (by first | assumption | omega | (intros; omega) | decide) (by first | assumption | omega | (intros; omega) | decide) (by first | assumption | omega | (intros; omega) | decide) (by first | assumption | omega | (intros; omega) | decide) (by omega) hP hD hS (lv_sub hl [1, 2, 0] rfl)
          · skip
            refine lv_aload_n hx hb dX10_readAts_36 rfl (lv_at hl 1 rfl) ?_
            refine va_get (D := D) (ci := 9) (v := .ref (q 12)) (C := RX10) (T := TX10) (N := 71) hx hb hts hin hown hK hP 0 rfl rfl 25 (by decide) k_5_18 (fun _ h9 => h9) rfl dX10_readAts_37 ?_
            refine lv_iload_n hx hb dX10_readAts_40 rfl (lv_at hl 2 rfl) ?_
            refine lv_iload_n hx hb dX10_readAts_41 rfl (lv_at hl 0 rfl) ?_
            refine va_iast hx hb hK hP hD hS 12 0 rfl rfl (ix (by omega) (by omega)) dX10_readAts_42 (fun H locs hP hD hS => ?_)
            obtain ⟨a_ats_42, e_a_ats_42⟩ : ∃ g, g = upd a_ats s9.toNatClampNeg x24 := ⟨_, rfl⟩
            have hP : va_P D vwCl (mw cs q v_thrown a_tape v_taped v_size v_to_16 v_kind_16 v_from_16 v_letters_16 v_letterMany_16 v_digits_16 v_isBeyond_16 v_suffix_16 v_steps v_fault v_hasProgram a_text a_act a_guess a_take a_begin a_finish a_to1 a_one a_two a_what a_ats_42 a_atVar_16 a_atNumber_16 a_atomSort a_atomKind a_atomValue v_wrong_16 v_wrongAt_16 v_variable_16 v_number_16 v_numberKind_16 v_takes a_out v_outed a_varSort a_varKind a_varValue a_creature v_creatures a_arrayClass a_arrayFrom a_arrayLong v_arrays v_cells a_cellSort a_cellKind a_cellValue a_asideSort a_asideKind a_asideValue a_outcome v_marks v_came v_guessed v_right v_taken a_markSort a_markKind a_markClass a_markValue v_sort v_kindAt v_value a_index v_reached v_looked) H := by rw [e_a_ats_42]; exact hP
            have hD : va_D A (mw cs q v_thrown a_tape v_taped v_size v_to_16 v_kind_16 v_from_16 v_letters_16 v_letterMany_16 v_digits_16 v_isBeyond_16 v_suffix_16 v_steps v_fault v_hasProgram a_text a_act a_guess a_take a_begin a_finish a_to1 a_one a_two a_what a_ats_42 a_atVar_16 a_atNumber_16 a_atomSort a_atomKind a_atomValue v_wrong_16 v_wrongAt_16 v_variable_16 v_number_16 v_numberKind_16 v_takes a_out v_outed a_varSort a_varKind a_varValue a_creature v_creatures a_arrayClass a_arrayFrom a_arrayLong v_arrays v_cells a_cellSort a_cellKind a_cellValue a_asideSort a_asideKind a_asideValue a_outcome v_marks v_came v_guessed v_right v_taken a_markSort a_markKind a_markClass a_markValue v_sort v_kindAt v_value a_index v_reached v_looked) := by rw [e_a_ats_42]; exact hD
            have hr42 : R03 a_ats_42 := R03.upd p_6 (by omega) (by omega) e_a_ats_42
            have hs42 : SAME a_ats_42 a_ats s9.toNatClampNeg := SAME.upd e_a_ats_42 (SAME.rf _ _)
            have hn42 := congrArg Int32.toInt (at_upd e_a_ats_42)
            refine lv_iconst (v := 1) hx hb dX10_readAts_43 (by decide) ?_
            subst hAe
            rw [hQ]
            exact W.zret (v := 1) hx hb hr (by decide) (fun t ht hW => ⟨⟨1, _, rfl, ⟨v_to_16, v_kind_16, v_from_16, v_letters_16, v_letterMany_16, v_digits_16, v_isBeyond_16, v_suffix_16, a_ats_42, a_atVar_16, a_atNumber_16, v_wrong_16, v_wrongAt_16, v_variable_16, v_number_16, v_numberKind_16, rfl, by first | assumption | omega | (intros; omega) | decide, by first | assumption | omega | (intros; omega) | decide, by first | assumption | omega | (intros; omega) | decide, by first | assumption | omega | (intros; omega) | decide, by first | assumption | omega | (intros; omega) | decide, by first | assumption | omega | (intros; omega) | decide, by first | assumption | omega | (intros; omega) | decide, by first | assumption | exact SAME.rf _ _, by first | assumption | omega | (intros; omega) | decide⟩, by rw [ht]; exact hP, va_K.moved hW.alike hK, hD⟩, hS.F ht⟩) hS.2.2 dX10_readAts_44
        · skip
          refine lv_iconst (v := 0) hx hb dX10_readAts_22 (by decide) ?_
          subst hAe
          rw [hQ]
          exact W.zret (v := 0) hx hb hr (by decide) (fun t ht hW => ⟨⟨0, _, rfl, ⟨v_to_16, v_kind_16, v_from_16, v_letters_16, v_letterMany_16, v_digits_16, v_isBeyond_16, v_suffix_16, a_ats, a_atVar_16, a_atNumber_16, v_wrong_16, v_wrongAt_16, v_variable_16, v_number_16, v_numberKind_16, rfl, by first | assumption | omega | (intros; omega) | decide, by first | assumption | omega | (intros; omega) | decide, by first | assumption | omega | (intros; omega) | decide, by first | assumption | omega | (intros; omega) | decide, by first | assumption | omega | (intros; omega) | decide, by first | assumption | omega | (intros; omega) | decide, by first | assumption | omega | (intros; omega) | decide, by first | assumption | exact SAME.rf _ _, by first | assumption | omega | (intros; omega) | decide⟩, by rw [ht]; exact hP, va_K.moved hW.alike hK, hD⟩, hS.F ht⟩) hS.2.2 dX10_readAts_23
      · skip
        refine lv_aload_n hx hb dX10_readAts_7 rfl (lv_at hl 0 rfl) ?_
        refine lv_iconst (v := 4) hx hb dX10_readAts_8 (by decide) ?_
        refine call_i (As := [.int 4]) (rest := []) ⟨hx, hb, hml, hown, hts⟩ (tX10_bad (l := l) (4 : Int32)) (cwV 1 hts (gV (wr25 _ (List.mem_of_getElem? (i := 0) rfl)) (wr25 _ (List.mem_of_getElem? (i := 1) rfl)) (wr25 _ (List.mem_of_getElem? (i := 2) rfl)) (wr1 _ (List.mem_of_getElem? (i := 5) rfl)) (wr25 _ (List.mem_of_getElem? (i := 3) rfl))) rfl rfl rfl (by decide +kernel) ⟨Nat.le_of_ble_eq_true rfl, Nat.le_of_ble_eq_true rfl⟩) (va_recv hK hP (ci := 9) (q0 := 0) rfl rfl) hK hP hD hE hS hA rfl hl.1 rfl (Nat.le_of_ble_eq_true rfl) dX10_readAts_9 ⟨Nat.le_of_ble_eq_true rfl, Nat.le_of_ble_eq_true rfl⟩ (fun r9 w9 H locs hw9 hP hD hS => ?_)
        obtain ⟨v_wrong_9, v_wrongAt_9, rfl, hw9_0⟩ := hw9
        have b_v_wrong_9 := iB v_wrong_9
        have b_v_wrongAt_9 := iB v_wrongAt_9
        have b_r9 := iB r9
        subst hAe
        rw [hQ]
        exact W.zret (v := r9) hx hb hr (nbool (by first | omega | decide)) (fun t ht hW => ⟨⟨r9, _, rfl, ⟨v_to_2, v_kind_2, v_from_2, v_letters_2, v_letterMany_2, v_digits_2, v_isBeyond_2, v_suffix_2, a_ats, a_atVar_2, a_atNumber_2, v_wrong_9, v_wrongAt_9, v_variable_2, v_number_2, v_numberKind_2, rfl, by first | assumption | omega | (intros; omega) | decide, by first | assumption | omega | (intros; omega) | decide, by first | assumption | omega | (intros; omega) | decide, by first | assumption | omega | (intros; omega) | decide, by first | assumption | omega | (intros; omega) | decide, by first | assumption | omega | (intros; omega) | decide, by first | assumption | omega | (intros; omega) | decide, by first | assumption | exact SAME.rf _ _, by first | assumption | omega | (intros; omega) | decide⟩, by rw [ht]; exact hP, va_K.moved hW.alike hK, hD⟩, hS.F ht⟩) hS.2.2 dX10_readAts_12
  exact J2 ((3 - (0 : Int32).toInt).toNat + 1) (0 : Int32) v_to a_atNumber a_atVar v_digits v_from v_isBeyond v_kind v_letterMany v_letters v_number v_numberKind v_suffix v_variable v_wrong v_wrongAt H locs ls (by first | assumption | omega | (intros; omega) | decide) (by first | assumption | omega | (intros; omega) | decide) (by first | assumption | omega | (intros; omega) | decide) (by first | assumption | omega | (intros; omega) | decide) (by first | assumption | omega | (intros; omega) | decide) (by first | assumption | omega | (intros; omega) | decide) (by first | assumption | omega | (intros; omega) | decide) (by first | assumption | omega | (intros; omega) | decide) (by omega) hP hD hS (lv_sub hl [1, 2, 0] rfl)

def rmX10_readPlace : Room := { frames := 160, cells := 0, slots := 0, locals := 3200 }
set_option maxHeartbeats 4000000 in
set_option maxRecDepth 100000 in
theorem tX10_readPlace {l : Launch} {D : va_G} {K : Nat → Nat → Nat} {cs : Nat → ClassId} {q : Nat → Nat} {v_thrown v_taped v_size v_to v_kind v_from v_letterMany v_isBeyond v_suffix v_steps v_fault v_hasProgram v_wrong v_wrongAt v_variable v_numberKind v_takes v_outed v_creatures v_arrays v_cells v_marks v_came v_guessed v_right v_taken v_sort v_kindAt v_reached v_looked : Int32} {a_tape a_text a_act a_guess a_take a_begin a_finish a_to1 a_one a_two a_what a_ats a_atVar a_atNumber a_atomSort a_atomKind a_out a_varSort a_varKind a_creature a_arrayClass a_arrayFrom a_arrayLong a_cellSort a_cellKind a_asideSort a_asideKind a_outcome a_markSort a_markKind a_markClass a_index : Nat → Int32} {v_letters v_digits v_number v_value : Int64} {a_atomValue a_varValue a_cellValue a_asideValue a_markValue : Nat → Int64} (s9 : Int32) (p_0 : LX a_tape v_size v_to v_from v_kind v_letters v_letterMany v_isBeyond) (p_1 : 0 ≤ v_variable.toInt ∧ v_variable.toInt ≤ 25) (p_2 : NumOK v_numberKind v_number) (p_3 : Rm25 a_atVar) (p_4 : 0 ≤ s9.toInt) (p_5 : s9.toInt ≤ 201) (p_6 : R03 a_ats) (p_7 : R25 a_one) : CtI l yX10_readPlace (wG yX10_readPlace cX10_readPlace 2 (some .boolean)) rmX10_readPlace D (mwT cs) K [.ref (q 0), .int s9] (mw cs q v_thrown a_tape v_taped v_size v_to v_kind v_from v_letters v_letterMany v_digits v_isBeyond v_suffix v_steps v_fault v_hasProgram a_text a_act a_guess a_take a_begin a_finish a_to1 a_one a_two a_what a_ats a_atVar a_atNumber a_atomSort a_atomKind a_atomValue v_wrong v_wrongAt v_variable v_number v_numberKind v_takes a_out v_outed a_varSort a_varKind a_varValue a_creature v_creatures a_arrayClass a_arrayFrom a_arrayLong v_arrays v_cells a_cellSort a_cellKind a_cellValue a_asideSort a_asideKind a_asideValue a_outcome v_marks v_came v_guessed v_right v_taken a_markSort a_markKind a_markClass a_markValue v_sort v_kindAt v_value a_index v_reached v_looked) (fun r w1 => ∃ (v_to' : Int32) (v_kind' : Int32) (v_from' : Int32) (v_letters' : Int64) (v_letterMany' : Int32) (v_digits' : Int64) (v_isBeyond' : Int32) (v_suffix' : Int32) (a_one' : Nat → Int32) (a_ats' : Nat → Int32) (a_atVar' : Nat → Int32) (a_atNumber' : Nat → Int32) (v_wrong' : Int32) (v_wrongAt' : Int32) (v_variable' : Int32) (v_number' : Int64) (v_numberKind' : Int32), w1 = (mw cs q v_thrown a_tape v_taped v_size v_to' v_kind' v_from' v_letters' v_letterMany' v_digits' v_isBeyond' v_suffix' v_steps v_fault v_hasProgram a_text a_act a_guess a_take a_begin a_finish a_to1 a_one' a_two a_what a_ats' a_atVar' a_atNumber' a_atomSort a_atomKind a_atomValue v_wrong' v_wrongAt' v_variable' v_number' v_numberKind' v_takes a_out v_outed a_varSort a_varKind a_varValue a_creature v_creatures a_arrayClass a_arrayFrom a_arrayLong v_arrays v_cells a_cellSort a_cellKind a_cellValue a_asideSort a_asideKind a_asideValue a_outcome v_marks v_came v_guessed v_right v_taken a_markSort a_markKind a_markClass a_markValue v_sort v_kindAt v_value a_index v_reached v_looked) ∧ (LX a_tape v_size v_to' v_from' v_kind' v_letters' v_letterMany' v_isBeyond') ∧ (v_to.toInt ≤ v_to'.toInt) ∧ (ph a_tape v_to' ≤ ph a_tape v_to + 13) ∧ (0 ≤ v_variable'.toInt ∧ v_variable'.toInt ≤ 25) ∧ (NumOK v_numberKind' v_number') ∧ (Rm25 a_atVar') ∧ (R03 a_ats') ∧ (SAME a_ats' a_ats s9.toNatClampNeg) ∧ ((r.toInt = 1 ∧ 1 ≤ (a_ats' s9.toNatClampNeg).toInt) ∨ r.toInt = 0) ∧ (R25 a_one')) 0 0 := by
  intro sz
  refine Met.ofW (cc := cX10_readPlace) (maxL := 2) (ret := (some .boolean)) (by decide) rfl ?_
  intro p e s m args below meth c s₁ B hml hv
  obtain ⟨rfl, hsz, hP, hK, hD0, hE⟩ := hv
  have hx := B.exec
  have hb := B.bytes
  have hr := B.returns
  have hts := atoms_spec (ws := (wG yX10_readPlace cX10_readPlace 2 (some .boolean))) B.pre
  have hown : s.vm.findClass RX10 = some m.cls := findClass_of_methodNamed B.named
  have hlocks := B.notSynchronized
  subst hsz
  have hD := hD0.self (sz := s.heap.size)
  obtain ⟨A, hAe⟩ : ∃ A : Nat → Prop, A = va_A (mw cs q v_thrown a_tape v_taped v_size v_to v_kind v_from v_letters v_letterMany v_digits v_isBeyond v_suffix v_steps v_fault v_hasProgram a_text a_act a_guess a_take a_begin a_finish a_to1 a_one a_two a_what a_ats a_atVar a_atNumber a_atomSort a_atomKind a_atomValue v_wrong v_wrongAt v_variable v_number v_numberKind v_takes a_out v_outed a_varSort a_varKind a_varValue a_creature v_creatures a_arrayClass a_arrayFrom a_arrayLong v_arrays v_cells a_cellSort a_cellKind a_cellValue a_asideSort a_asideKind a_asideValue a_outcome v_marks v_came v_guessed v_right v_taken a_markSort a_markKind a_markClass a_markValue v_sort v_kindAt v_value a_index v_reached v_looked) s.heap.size := ⟨_, rfl⟩
  rw [← hAe] at hD hE
  have hA : ∀ q : Nat, s.heap.size ≤ q → A q := fun q h => by rw [hAe]; exact Or.inr h
  have hS : va_S A s.heap s.heap [] := va_S.rf
  have hl := lv_entry ([.ref (q 0), .int s9]) (n := 2) (Nat.le_of_ble_eq_true rfl)
  rw [lg_entry_eq]
  generalize (lg_sl ([.ref (q 0), .int s9]) ++ List.replicate (2 - (lg_sl ([.ref (q 0), .int s9])).length) Slot.unset).toArray = ls at hl ⊢
  have hl : lv_has ls 2 [(0, .ref (q 0)), (1, .int s9)] := hl
  refine wq (fun Q hQ => ?_)
  have hin : ∀ w ∈ wsX100, w ∈ (wG yX10_readPlace cX10_readPlace 2 (some .boolean)) := fun w h => List.mem_cons_of_mem _ (inlX10 w h)
  have kc0 : (0 : Int32).toInt = 0 := by decide
  have k_5_15 := hts (.fieldLink RX10 34 "ArrayTrainerModel" "one" "[I") (List.mem_cons_of_mem _ (wr5 _ (List.mem_of_getElem? (i := 15) rfl)))
  have k_25_22 := hts (.fieldLink RX10 332 "ArrayTrainerModel" "variable" "I") (List.mem_cons_of_mem _ (wr25 _ (List.mem_of_getElem? (i := 22) rfl)))
  obtain ⟨H, hH⟩ : ∃ H : Heap, H = s.heap := ⟨_, rfl⟩
  obtain ⟨locs, hlc⟩ : ∃ L : List Loc, L = [] := ⟨_, rfl⟩
  have hP : va_P D vwCl (mw cs q v_thrown a_tape v_taped v_size v_to v_kind v_from v_letters v_letterMany v_digits v_isBeyond v_suffix v_steps v_fault v_hasProgram a_text a_act a_guess a_take a_begin a_finish a_to1 a_one a_two a_what a_ats a_atVar a_atNumber a_atomSort a_atomKind a_atomValue v_wrong v_wrongAt v_variable v_number v_numberKind v_takes a_out v_outed a_varSort a_varKind a_varValue a_creature v_creatures a_arrayClass a_arrayFrom a_arrayLong v_arrays v_cells a_cellSort a_cellKind a_cellValue a_asideSort a_asideKind a_asideValue a_outcome v_marks v_came v_guessed v_right v_taken a_markSort a_markKind a_markClass a_markValue v_sort v_kindAt v_value a_index v_reached v_looked) H := by rw [hH]; exact hP
  have hS : va_S A s.heap H locs := by rw [hH, hlc]; exact hS
  refine wHL hH hlc ?_
  have b_s9 := iB s9
  refine lv_aload_n hx hb dX10_readPlace_0 rfl (lv_at hl 0 rfl) ?_
  refine call_i (As := []) (rest := []) ⟨hx, hb, hml, hown, hts⟩ (tX10_readVar (l := l)  (by first | assumption | omega | (intros; omega) | decide) (by first | assumption | omega | (intros; omega) | decide)) (cwV 0 hts (gV (wr25 _ (List.mem_of_getElem? (i := 23) rfl)) (wr26 _ (List.mem_of_getElem? (i := 0) rfl)) (wr26 _ (List.mem_of_getElem? (i := 1) rfl)) (wr1 _ (List.mem_of_getElem? (i := 5) rfl)) (wr26 _ (List.mem_of_getElem? (i := 2) rfl))) rfl rfl rfl (by decide +kernel) ⟨Nat.le_of_ble_eq_true rfl, Nat.le_of_ble_eq_true rfl⟩) (va_recv hK hP (ci := 9) (q0 := 0) rfl rfl) hK hP hD hE hS hA rfl hl.1 rfl (Nat.le_of_ble_eq_true rfl) dX10_readPlace_1 ⟨Nat.le_of_ble_eq_true rfl, Nat.le_of_ble_eq_true rfl⟩ (fun r1 w9 H locs hw1 hP hD hS => ?_)
  obtain ⟨v_to_1, v_kind_1, v_from_1, v_letters_1, v_letterMany_1, v_digits_1, v_isBeyond_1, v_suffix_1, v_wrong_1, v_wrongAt_1, v_variable_1, rfl, hw1_0, hw1_1, hw1_2, hw1_3, hw1_4⟩ := hw1
  have b_v_to_1 := iB v_to_1
  have b_v_kind_1 := iB v_kind_1
  have b_v_from_1 := iB v_from_1
  have b_v_letters_1 := jB v_letters_1
  have b_v_letterMany_1 := iB v_letterMany_1
  have b_v_digits_1 := jB v_digits_1
  have b_v_isBeyond_1 := iB v_isBeyond_1
  have b_v_suffix_1 := iB v_suffix_1
  have b_v_wrong_1 := iB v_wrong_1
  have b_v_wrongAt_1 := iB v_wrongAt_1
  have b_v_variable_1 := iB v_variable_1
  have b_r1 := iB r1
  refine m_if_ne (X := r1.toInt) (tgt := 9) hx hb dX10_readPlace_4 (by decide) rfl (fun c4 => ?_) (fun c4 => ?_)
  · skip
    refine lv_aload_n hx hb dX10_readPlace_9 rfl (lv_at hl 0 rfl) ?_
    refine va_get (D := D) (ci := 9) (v := .ref (q 9)) (C := RX10) (T := TX10) (N := 71) hx hb hts hin hown hK hP 0 rfl rfl 22 (by decide) k_5_15 (fun _ h9 => h9) rfl dX10_readPlace_10 ?_
    refine lv_iload_n hx hb dX10_readPlace_13 rfl (lv_at hl 1 rfl) ?_
    refine lv_aload_n hx hb dX10_readPlace_14 rfl (lv_at hl 0 rfl) ?_
    refine va_get (D := D) (ci := 9) (v := .int v_variable_1) (C := RX10) (T := TX10) (N := 71) hx hb hts hin hown hK hP 0 rfl rfl 33 (by decide) k_25_22 (fun _ h9 => h9) rfl dX10_readPlace_15 ?_
    refine va_iast hx hb hK hP hD hS 9 0 rfl rfl (ix (by omega) (by omega)) dX10_readPlace_18 (fun H locs hP hD hS => ?_)
    obtain ⟨a_one_18, e_a_one_18⟩ : ∃ g, g = upd a_one s9.toNatClampNeg v_variable_1 := ⟨_, rfl⟩
    have hP : va_P D vwCl (mw cs q v_thrown a_tape v_taped v_size v_to_1 v_kind_1 v_from_1 v_letters_1 v_letterMany_1 v_digits_1 v_isBeyond_1 v_suffix_1 v_steps v_fault v_hasProgram a_text a_act a_guess a_take a_begin a_finish a_to1 a_one_18 a_two a_what a_ats a_atVar a_atNumber a_atomSort a_atomKind a_atomValue v_wrong_1 v_wrongAt_1 v_variable_1 v_number v_numberKind v_takes a_out v_outed a_varSort a_varKind a_varValue a_creature v_creatures a_arrayClass a_arrayFrom a_arrayLong v_arrays v_cells a_cellSort a_cellKind a_cellValue a_asideSort a_asideKind a_asideValue a_outcome v_marks v_came v_guessed v_right v_taken a_markSort a_markKind a_markClass a_markValue v_sort v_kindAt v_value a_index v_reached v_looked) H := by rw [e_a_one_18]; exact hP
    have hD : va_D A (mw cs q v_thrown a_tape v_taped v_size v_to_1 v_kind_1 v_from_1 v_letters_1 v_letterMany_1 v_digits_1 v_isBeyond_1 v_suffix_1 v_steps v_fault v_hasProgram a_text a_act a_guess a_take a_begin a_finish a_to1 a_one_18 a_two a_what a_ats a_atVar a_atNumber a_atomSort a_atomKind a_atomValue v_wrong_1 v_wrongAt_1 v_variable_1 v_number v_numberKind v_takes a_out v_outed a_varSort a_varKind a_varValue a_creature v_creatures a_arrayClass a_arrayFrom a_arrayLong v_arrays v_cells a_cellSort a_cellKind a_cellValue a_asideSort a_asideKind a_asideValue a_outcome v_marks v_came v_guessed v_right v_taken a_markSort a_markKind a_markClass a_markValue v_sort v_kindAt v_value a_index v_reached v_looked) := by rw [e_a_one_18]; exact hD
    have ho18 : R25 a_one_18 := R25.upd p_7 (by omega) (by omega) e_a_one_18
    refine lv_aload_n hx hb dX10_readPlace_19 rfl (lv_at hl 0 rfl) ?_
    refine lv_iload_n hx hb dX10_readPlace_20 rfl (lv_at hl 1 rfl) ?_
    refine call_i (As := [.int s9]) (rest := []) ⟨hx, hb, hml, hown, hts⟩ (tX10_readAts (l := l) s9 (by first | assumption | omega | (intros; omega) | decide) (by first | assumption | omega | (intros; omega) | decide) (by first | assumption | omega | (intros; omega) | decide) (by first | assumption | omega | (intros; omega) | decide) (by first | assumption | omega | (intros; omega) | decide) (by first | assumption | omega | (intros; omega) | decide) (by first | assumption | omega | (intros; omega) | decide)) (cwV 1 hts (gV (wr26 _ (List.mem_of_getElem? (i := 7) rfl)) (wr26 _ (List.mem_of_getElem? (i := 8) rfl)) (wr26 _ (List.mem_of_getElem? (i := 9) rfl)) (wr1 _ (List.mem_of_getElem? (i := 5) rfl)) (wr26 _ (List.mem_of_getElem? (i := 10) rfl))) rfl rfl rfl (by decide +kernel) ⟨Nat.le_of_ble_eq_true rfl, Nat.le_of_ble_eq_true rfl⟩) (va_recv hK hP (ci := 9) (q0 := 0) rfl rfl) hK hP hD hE hS hA rfl hl.1 rfl (Nat.le_of_ble_eq_true rfl) dX10_readPlace_21 ⟨Nat.le_of_ble_eq_true rfl, Nat.le_of_ble_eq_true rfl⟩ (fun r21 w9 H locs hw21 hP hD hS => ?_)
    obtain ⟨v_to_21, v_kind_21, v_from_21, v_letters_21, v_letterMany_21, v_digits_21, v_isBeyond_21, v_suffix_21, a_ats_21, a_atVar_21, a_atNumber_21, v_wrong_21, v_wrongAt_21, v_variable_21, v_number_21, v_numberKind_21, rfl, hw21_0, hw21_1, hw21_2, hw21_3, hw21_4, hw21_5, hw21_6, hw21_7, hw21_8⟩ := hw21
    have b_v_to_21 := iB v_to_21
    have b_v_kind_21 := iB v_kind_21
    have b_v_from_21 := iB v_from_21
    have b_v_letters_21 := jB v_letters_21
    have b_v_letterMany_21 := iB v_letterMany_21
    have b_v_digits_21 := jB v_digits_21
    have b_v_isBeyond_21 := iB v_isBeyond_21
    have b_v_suffix_21 := iB v_suffix_21
    have b_v_wrong_21 := iB v_wrong_21
    have b_v_wrongAt_21 := iB v_wrongAt_21
    have b_v_variable_21 := iB v_variable_21
    have b_v_number_21 := jB v_number_21
    have b_v_numberKind_21 := iB v_numberKind_21
    have b_r21 := iB r21
    subst hAe
    rw [hQ]
    exact W.zret (v := r21) hx hb hr (nbool (by first | omega | decide)) (fun t ht hW => ⟨⟨r21, _, rfl, ⟨v_to_21, v_kind_21, v_from_21, v_letters_21, v_letterMany_21, v_digits_21, v_isBeyond_21, v_suffix_21, a_one_18, a_ats_21, a_atVar_21, a_atNumber_21, v_wrong_21, v_wrongAt_21, v_variable_21, v_number_21, v_numberKind_21, rfl, by first | assumption | omega | (intros; omega) | decide, by first | assumption | omega | (intros; omega) | decide, by first | assumption | omega | (intros; omega) | decide, by first | assumption | omega | (intros; omega) | decide, by first | assumption | omega | (intros; omega) | decide, by first | assumption | omega | (intros; omega) | decide, by first | assumption | omega | (intros; omega) | decide, by first | assumption | exact SAME.rf _ _, by first | assumption | omega | (intros; omega) | decide, by first | assumption | omega | (intros; omega) | decide⟩, by rw [ht]; exact hP, va_K.moved hW.alike hK, hD⟩, hS.F ht⟩) hS.2.2 dX10_readPlace_24
  · skip
    refine lv_iconst (v := 0) hx hb dX10_readPlace_7 (by decide) ?_
    subst hAe
    rw [hQ]
    exact W.zret (v := 0) hx hb hr (by decide) (fun t ht hW => ⟨⟨0, _, rfl, ⟨v_to_1, v_kind_1, v_from_1, v_letters_1, v_letterMany_1, v_digits_1, v_isBeyond_1, v_suffix_1, a_one, a_ats, a_atVar, a_atNumber, v_wrong_1, v_wrongAt_1, v_variable_1, v_number, v_numberKind, rfl, by first | assumption | omega | (intros; omega) | decide, by first | assumption | omega | (intros; omega) | decide, by first | assumption | omega | (intros; omega) | decide, by first | assumption | omega | (intros; omega) | decide, by first | assumption | omega | (intros; omega) | decide, by first | assumption | omega | (intros; omega) | decide, by first | assumption | omega | (intros; omega) | decide, by first | assumption | exact SAME.rf _ _, by first | assumption | omega | (intros; omega) | decide, by first | assumption | omega | (intros; omega) | decide⟩, by rw [ht]; exact hP, va_K.moved hW.alike hK, hD⟩, hS.F ht⟩) hS.2.2 dX10_readPlace_8
