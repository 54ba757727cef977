def rmX10_none : Room := { frames := 20, cells := 0, slots := 0, locals := 400 }
set_option maxHeartbeats 4000000 in
set_option maxRecDepth 100000 in
theorem tX10_none {l : Launch} {D : va_G} {K : Nat → Nat → Nat} {cs : Nat → ClassId} {q : Nat → Nat} {v_thrown v_taped v_size v_to v_kind v_from v_letterMany v_isBeyond v_suffix v_steps v_fault v_hasProgram v_wrong v_wrongAt v_variable v_numberKind v_takes v_outed v_creatures v_arrays v_cells v_marks v_came v_guessed v_right v_taken v_sort v_kindAt v_reached v_looked : Int32} {a_tape a_text a_act a_guess a_take a_begin a_finish a_to1 a_one a_two a_what a_ats a_atVar a_atNumber a_atomSort a_atomKind a_out a_varSort a_varKind a_creature a_arrayClass a_arrayFrom a_arrayLong a_cellSort a_cellKind a_asideSort a_asideKind a_outcome a_markSort a_markKind a_markClass a_index : Nat → Int32} {v_letters v_digits v_number v_value : Int64} {a_atomValue a_varValue a_cellValue a_asideValue a_markValue : Nat → Int64} : CtV l yX10_none (wG yX10_none cX10_none 1 none) rmX10_none D (mwT cs) K [.ref (q 0)] (mw cs q v_thrown a_tape v_taped v_size v_to v_kind v_from v_letters v_letterMany v_digits v_isBeyond v_suffix v_steps v_fault v_hasProgram a_text a_act a_guess a_take a_begin a_finish a_to1 a_one a_two a_what a_ats a_atVar a_atNumber a_atomSort a_atomKind a_atomValue v_wrong v_wrongAt v_variable v_number v_numberKind v_takes a_out v_outed a_varSort a_varKind a_varValue a_creature v_creatures a_arrayClass a_arrayFrom a_arrayLong v_arrays v_cells a_cellSort a_cellKind a_cellValue a_asideSort a_asideKind a_asideValue a_outcome v_marks v_came v_guessed v_right v_taken a_markSort a_markKind a_markClass a_markValue v_sort v_kindAt v_value a_index v_reached v_looked) (fun w1 => ∃ (v_sort' : Int32) (v_kindAt' : Int32) (v_value' : Int64), w1 = (mw cs q v_thrown a_tape v_taped v_size v_to v_kind v_from v_letters v_letterMany v_digits v_isBeyond v_suffix v_steps v_fault v_hasProgram a_text a_act a_guess a_take a_begin a_finish a_to1 a_one a_two a_what a_ats a_atVar a_atNumber a_atomSort a_atomKind a_atomValue v_wrong v_wrongAt v_variable v_number v_numberKind v_takes a_out v_outed a_varSort a_varKind a_varValue a_creature v_creatures a_arrayClass a_arrayFrom a_arrayLong v_arrays v_cells a_cellSort a_cellKind a_cellValue a_asideSort a_asideKind a_asideValue a_outcome v_marks v_came v_guessed v_right v_taken a_markSort a_markKind a_markClass a_markValue v_sort' v_kindAt' v_value' a_index v_reached v_looked) ∧ (v_sort'.toInt = 0) ∧ (v_kindAt'.toInt = 0) ∧ (v_value'.toInt = 0)) 0 0 := by
  intro sz
  refine Met.ofW (cc := cX10_none) (maxL := 1) (ret := none) (by decide) rfl ?_
  intro p e s m args below meth c s₁ B hml hv
  obtain ⟨rfl, hsz, hP, hK, hD0, hE⟩ := hv
  have hx := B.exec
  have hb := B.bytes
  have hr := B.returns
  have hts := atoms_spec (ws := (wG yX10_none cX10_none 1 none)) B.pre
  have hown : s.vm.findClass RX10 = some m.cls := findClass_of_methodNamed B.named
  have hlocks := B.notSynchronized
  subst hsz
  have hD := hD0.self (sz := s.heap.size)
  obtain ⟨A, hAe⟩ : ∃ A : Nat → Prop, A = va_A (mw cs q v_thrown a_tape v_taped v_size v_to v_kind v_from v_letters v_letterMany v_digits v_isBeyond v_suffix v_steps v_fault v_hasProgram a_text a_act a_guess a_take a_begin a_finish a_to1 a_one a_two a_what a_ats a_atVar a_atNumber a_atomSort a_atomKind a_atomValue v_wrong v_wrongAt v_variable v_number v_numberKind v_takes a_out v_outed a_varSort a_varKind a_varValue a_creature v_creatures a_arrayClass a_arrayFrom a_arrayLong v_arrays v_cells a_cellSort a_cellKind a_cellValue a_asideSort a_asideKind a_asideValue a_outcome v_marks v_came v_guessed v_right v_taken a_markSort a_markKind a_markClass a_markValue v_sort v_kindAt v_value a_index v_reached v_looked) s.heap.size := ⟨_, rfl⟩
  rw [← hAe] at hD hE
  have hA : ∀ q : Nat, s.heap.size ≤ q → A q := fun q h => by rw [hAe]; exact Or.inr h
  have hS : va_S A s.heap s.heap [] := va_S.rf
  have hl := lv_entry ([.ref (q 0)]) (n := 1) (Nat.le_of_ble_eq_true rfl)
  rw [lg_entry_eq]
  generalize (lg_sl ([.ref (q 0)]) ++ List.replicate (1 - (lg_sl ([.ref (q 0)])).length) Slot.unset).toArray = ls at hl ⊢
  have hl : lv_has ls 1 [(0, .ref (q 0))] := hl
  refine wq (fun Q hQ => ?_)
  have hin : ∀ w ∈ wsX100, w ∈ (wG yX10_none cX10_none 1 none) := fun w h => List.mem_cons_of_mem _ (inlX10 w h)
  have kc0 : (0 : Int32).toInt = 0 := by decide
  have kc1 : (0 : Int64).toInt = 0 := by decide
  have k_47_12 := hts (.fieldLink RX10 493 "ArrayTrainerModel" "sort" "I") (List.mem_cons_of_mem _ (wr47 _ (List.mem_of_getElem? (i := 12) rfl)))
  have k_47_13 := hts (.fieldLink RX10 496 "ArrayTrainerModel" "kindAt" "I") (List.mem_cons_of_mem _ (wr47 _ (List.mem_of_getElem? (i := 13) rfl)))
  have k_47_14 := hts (.fieldLink RX10 499 "ArrayTrainerModel" "value" "J") (List.mem_cons_of_mem _ (wr47 _ (List.mem_of_getElem? (i := 14) rfl)))
  obtain ⟨H, hH⟩ : ∃ H : Heap, H = s.heap := ⟨_, rfl⟩
  obtain ⟨locs, hlc⟩ : ∃ L : List Loc, L = [] := ⟨_, rfl⟩
  have hP : va_P D vwCl (mw cs q v_thrown a_tape v_taped v_size v_to v_kind v_from v_letters v_letterMany v_digits v_isBeyond v_suffix v_steps v_fault v_hasProgram a_text a_act a_guess a_take a_begin a_finish a_to1 a_one a_two a_what a_ats a_atVar a_atNumber a_atomSort a_atomKind a_atomValue v_wrong v_wrongAt v_variable v_number v_numberKind v_takes a_out v_outed a_varSort a_varKind a_varValue a_creature v_creatures a_arrayClass a_arrayFrom a_arrayLong v_arrays v_cells a_cellSort a_cellKind a_cellValue a_asideSort a_asideKind a_asideValue a_outcome v_marks v_came v_guessed v_right v_taken a_markSort a_markKind a_markClass a_markValue v_sort v_kindAt v_value a_index v_reached v_looked) H := by rw [hH]; exact hP
  have hS : va_S A s.heap H locs := by rw [hH, hlc]; exact hS
  refine wHL hH hlc ?_
  refine lv_aload_n hx hb dX10_none_0 rfl (lv_at hl 0 rfl) ?_
  refine lv_iconst (v := 0) hx hb dX10_none_1 (by decide) ?_
  refine va_put (D := D) (ci := 9) (v := .int 0) (ty := .int) (C := RX10) (T := TX10) (N := 71) hx hb hts hin tyX10 tyX10_ok nmX10 hown hK hP hD hS 0 rfl rfl 65 (by decide) k_47_12 (fun _ h9 => h9) rfl (by decide +kernel) rfl rfl (Nat.le_of_ble_eq_true rfl) dX10_none_2 (fun H locs hP hD hS => ?_)
  have hP : va_P D vwCl (mw cs q v_thrown a_tape v_taped v_size v_to v_kind v_from v_letters v_letterMany v_digits v_isBeyond v_suffix v_steps v_fault v_hasProgram a_text a_act a_guess a_take a_begin a_finish a_to1 a_one a_two a_what a_ats a_atVar a_atNumber a_atomSort a_atomKind a_atomValue v_wrong v_wrongAt v_variable v_number v_numberKind v_takes a_out v_outed a_varSort a_varKind a_varValue a_creature v_creatures a_arrayClass a_arrayFrom a_arrayLong v_arrays v_cells a_cellSort a_cellKind a_cellValue a_asideSort a_asideKind a_asideValue a_outcome v_marks v_came v_guessed v_right v_taken a_markSort a_markKind a_markClass a_markValue (0 : Int32) v_kindAt v_value a_index v_reached v_looked) H := hP
  have hD : va_D A (mw cs q v_thrown a_tape v_taped v_size v_to v_kind v_from v_letters v_letterMany v_digits v_isBeyond v_suffix v_steps v_fault v_hasProgram a_text a_act a_guess a_take a_begin a_finish a_to1 a_one a_two a_what a_ats a_atVar a_atNumber a_atomSort a_atomKind a_atomValue v_wrong v_wrongAt v_variable v_number v_numberKind v_takes a_out v_outed a_varSort a_varKind a_varValue a_creature v_creatures a_arrayClass a_arrayFrom a_arrayLong v_arrays v_cells a_cellSort a_cellKind a_cellValue a_asideSort a_asideKind a_asideValue a_outcome v_marks v_came v_guessed v_right v_taken a_markSort a_markKind a_markClass a_markValue (0 : Int32) v_kindAt v_value a_index v_reached v_looked) := hD
  refine lv_aload_n hx hb dX10_none_5 rfl (lv_at hl 0 rfl) ?_
  refine lv_iconst (v := 0) hx hb dX10_none_6 (by decide) ?_
  refine va_put (D := D) (ci := 9) (v := .int 0) (ty := .int) (C := RX10) (T := TX10) (N := 71) hx hb hts hin tyX10 tyX10_ok nmX10 hown hK hP hD hS 0 rfl rfl 66 (by decide) k_47_13 (fun _ h9 => h9) rfl (by decide +kernel) rfl rfl (Nat.le_of_ble_eq_true rfl) dX10_none_7 (fun H locs hP hD hS => ?_)
  have hP : va_P D vwCl (mw cs q v_thrown a_tape v_taped v_size v_to v_kind v_from v_letters v_letterMany v_digits v_isBeyond v_suffix v_steps v_fault v_hasProgram a_text a_act a_guess a_take a_begin a_finish a_to1 a_one a_two a_what a_ats a_atVar a_atNumber a_atomSort a_atomKind a_atomValue v_wrong v_wrongAt v_variable v_number v_numberKind v_takes a_out v_outed a_varSort a_varKind a_varValue a_creature v_creatures a_arrayClass a_arrayFrom a_arrayLong v_arrays v_cells a_cellSort a_cellKind a_cellValue a_asideSort a_asideKind a_asideValue a_outcome v_marks v_came v_guessed v_right v_taken a_markSort a_markKind a_markClass a_markValue (0 : Int32) (0 : Int32) v_value a_index v_reached v_looked) H := hP
  have hD : va_D A (mw cs q v_thrown a_tape v_taped v_size v_to v_kind v_from v_letters v_letterMany v_digits v_isBeyond v_suffix v_steps v_fault v_hasProgram a_text a_act a_guess a_take a_begin a_finish a_to1 a_one a_two a_what a_ats a_atVar a_atNumber a_atomSort a_atomKind a_atomValue v_wrong v_wrongAt v_variable v_number v_numberKind v_takes a_out v_outed a_varSort a_varKind a_varValue a_creature v_creatures a_arrayClass a_arrayFrom a_arrayLong v_arrays v_cells a_cellSort a_cellKind a_cellValue a_asideSort a_asideKind a_asideValue a_outcome v_marks v_came v_guessed v_right v_taken a_markSort a_markKind a_markClass a_markValue (0 : Int32) (0 : Int32) v_value a_index v_reached v_looked) := hD
  refine lv_aload_n hx hb dX10_none_10 rfl (lv_at hl 0 rfl) ?_
  refine lv_lconst (v := 0) hx hb dX10_none_11 (by decide) ?_
  refine va_put (D := D) (ci := 9) (v := .long 0) (ty := .long) (C := RX10) (T := TX10) (N := 71) hx hb hts hin tyX10 tyX10_ok nmX10 hown hK hP hD hS 0 rfl rfl 67 (by decide) k_47_14 (fun _ h9 => h9) rfl (by decide +kernel) rfl rfl (Nat.le_of_ble_eq_true rfl) dX10_none_12 (fun H locs hP hD hS => ?_)
  have hP : va_P D vwCl (mw cs q v_thrown a_tape v_taped v_size v_to v_kind v_from v_letters v_letterMany v_digits v_isBeyond v_suffix v_steps v_fault v_hasProgram a_text a_act a_guess a_take a_begin a_finish a_to1 a_one a_two a_what a_ats a_atVar a_atNumber a_atomSort a_atomKind a_atomValue v_wrong v_wrongAt v_variable v_number v_numberKind v_takes a_out v_outed a_varSort a_varKind a_varValue a_creature v_creatures a_arrayClass a_arrayFrom a_arrayLong v_arrays v_cells a_cellSort a_cellKind a_cellValue a_asideSort a_asideKind a_asideValue a_outcome v_marks v_came v_guessed v_right v_taken a_markSort a_markKind a_markClass a_markValue (0 : Int32) (0 : Int32) (0 : Int64) a_index v_reached v_looked) H := hP
  have hD : va_D A (mw cs q v_thrown a_tape v_taped v_size v_to v_kind v_from v_letters v_letterMany v_digits v_isBeyond v_suffix v_steps v_fault v_hasProgram a_text a_act a_guess a_take a_begin a_finish a_to1 a_one a_two a_what a_ats a_atVar a_atNumber a_atomSort a_atomKind a_atomValue v_wrong v_wrongAt v_variable v_number v_numberKind v_takes a_out v_outed a_varSort a_varKind a_varValue a_creature v_creatures a_arrayClass a_arrayFrom a_arrayLong v_arrays v_cells a_cellSort a_cellKind a_cellValue a_asideSort a_asideKind a_asideValue a_outcome v_marks v_came v_guessed v_right v_taken a_markSort a_markKind a_markClass a_markValue (0 : Int32) (0 : Int32) (0 : Int64) a_index v_reached v_looked) := hD
  subst hAe
  rw [hQ]
  exact W.vret hx hb hr (fun t ht hW => ⟨⟨_, rfl, ⟨(0 : Int32), (0 : Int32), (0 : Int64), rfl, by first | assumption | omega | (intros; omega) | decide, by first | assumption | omega | (intros; omega) | decide, by first | assumption | omega | (intros; omega) | decide⟩, by rw [ht]; exact hP, va_K.moved hW.alike hK, hD⟩, hS.F ht⟩) hS.2.2 dX10_none_15

def rmX10_number : Room := { frames := 20, cells := 0, slots := 0, locals := 400 }
set_option maxHeartbeats 4000000 in
set_option maxRecDepth 100000 in
theorem tX10_number {l : Launch} {D : va_G} {K : Nat → Nat → Nat} {cs : Nat → ClassId} {q : Nat → Nat} {v_thrown v_taped v_size v_to v_kind v_from v_letterMany v_isBeyond v_suffix v_steps v_fault v_hasProgram v_wrong v_wrongAt v_variable v_numberKind v_takes v_outed v_creatures v_arrays v_cells v_marks v_came v_guessed v_right v_taken v_sort v_kindAt v_reached v_looked : Int32} {a_tape a_text a_act a_guess a_take a_begin a_finish a_to1 a_one a_two a_what a_ats a_atVar a_atNumber a_atomSort a_atomKind a_out a_varSort a_varKind a_creature a_arrayClass a_arrayFrom a_arrayLong a_cellSort a_cellKind a_asideSort a_asideKind a_outcome a_markSort a_markKind a_markClass a_index : Nat → Int32} {v_letters v_digits v_number v_value : Int64} {a_atomValue a_varValue a_cellValue a_asideValue a_markValue : Nat → Int64} (k9 : Int32) (v9 : Int64) : CtV l yX10_number (wG yX10_number cX10_number 4 none) rmX10_number D (mwT cs) K [.ref (q 0), .int k9, .long v9] (mw cs q v_thrown a_tape v_taped v_size v_to v_kind v_from v_letters v_letterMany v_digits v_isBeyond v_suffix v_steps v_fault v_hasProgram a_text a_act a_guess a_take a_begin a_finish a_to1 a_one a_two a_what a_ats a_atVar a_atNumber a_atomSort a_atomKind a_atomValue v_wrong v_wrongAt v_variable v_number v_numberKind v_takes a_out v_outed a_varSort a_varKind a_varValue a_creature v_creatures a_arrayClass a_arrayFrom a_arrayLong v_arrays v_cells a_cellSort a_cellKind a_cellValue a_asideSort a_asideKind a_asideValue a_outcome v_marks v_came v_guessed v_right v_taken a_markSort a_markKind a_markClass a_markValue v_sort v_kindAt v_value a_index v_reached v_looked) (fun w1 => ∃ (v_sort' : Int32) (v_kindAt' : Int32) (v_value' : Int64), w1 = (mw cs q v_thrown a_tape v_taped v_size v_to v_kind v_from v_letters v_letterMany v_digits v_isBeyond v_suffix v_steps v_fault v_hasProgram a_text a_act a_guess a_take a_begin a_finish a_to1 a_one a_two a_what a_ats a_atVar a_atNumber a_atomSort a_atomKind a_atomValue v_wrong v_wrongAt v_variable v_number v_numberKind v_takes a_out v_outed a_varSort a_varKind a_varValue a_creature v_creatures a_arrayClass a_arrayFrom a_arrayLong v_arrays v_cells a_cellSort a_cellKind a_cellValue a_asideSort a_asideKind a_asideValue a_outcome v_marks v_came v_guessed v_right v_taken a_markSort a_markKind a_markClass a_markValue v_sort' v_kindAt' v_value' a_index v_reached v_looked) ∧ (v_sort'.toInt = 1) ∧ (v_kindAt' = k9) ∧ (v_value' = v9)) 0 0 := by
  intro sz
  refine Met.ofW (cc := cX10_number) (maxL := 4) (ret := none) (by decide) rfl ?_
  intro p e s m args below meth c s₁ B hml hv
  obtain ⟨rfl, hsz, hP, hK, hD0, hE⟩ := hv
  have hx := B.exec
  have hb := B.bytes
  have hr := B.returns
  have hts := atoms_spec (ws := (wG yX10_number cX10_number 4 none)) B.pre
  have hown : s.vm.findClass RX10 = some m.cls := findClass_of_methodNamed B.named
  have hlocks := B.notSynchronized
  subst hsz
  have hD := hD0.self (sz := s.heap.size)
  obtain ⟨A, hAe⟩ : ∃ A : Nat → Prop, A = va_A (mw cs q v_thrown a_tape v_taped v_size v_to v_kind v_from v_letters v_letterMany v_digits v_isBeyond v_suffix v_steps v_fault v_hasProgram a_text a_act a_guess a_take a_begin a_finish a_to1 a_one a_two a_what a_ats a_atVar a_atNumber a_atomSort a_atomKind a_atomValue v_wrong v_wrongAt v_variable v_number v_numberKind v_takes a_out v_outed a_varSort a_varKind a_varValue a_creature v_creatures a_arrayClass a_arrayFrom a_arrayLong v_arrays v_cells a_cellSort a_cellKind a_cellValue a_asideSort a_asideKind a_asideValue a_outcome v_marks v_came v_guessed v_right v_taken a_markSort a_markKind a_markClass a_markValue v_sort v_kindAt v_value a_index v_reached v_looked) s.heap.size := ⟨_, rfl⟩
  rw [← hAe] at hD hE
  have hA : ∀ q : Nat, s.heap.size ≤ q → A q := fun q h => by rw [hAe]; exact Or.inr h
  have hS : va_S A s.heap s.heap [] := va_S.rf
  have hl := lv_entry ([.ref (q 0), .int k9, .long v9]) (n := 4) (Nat.le_of_ble_eq_true rfl)
  rw [lg_entry_eq]
  generalize (lg_sl ([.ref (q 0), .int k9, .long v9]) ++ List.replicate (4 - (lg_sl ([.ref (q 0), .int k9, .long v9])).length) Slot.unset).toArray = ls at hl ⊢
  have hl : lv_has ls 4 [(0, .ref (q 0)), (1, .int k9), (2, .long v9)] := hl
  refine wq (fun Q hQ => ?_)
  have hin : ∀ w ∈ wsX100, w ∈ (wG yX10_number cX10_number 4 none) := fun w h => List.mem_cons_of_mem _ (inlX10 w h)
  have kc0 : (1 : Int32).toInt = 1 := by decide
  have k_47_12 := hts (.fieldLink RX10 493 "ArrayTrainerModel" "sort" "I") (List.mem_cons_of_mem _ (wr47 _ (List.mem_of_getElem? (i := 12) rfl)))
  have k_47_13 := hts (.fieldLink RX10 496 "ArrayTrainerModel" "kindAt" "I") (List.mem_cons_of_mem _ (wr47 _ (List.mem_of_getElem? (i := 13) rfl)))
  have k_47_14 := hts (.fieldLink RX10 499 "ArrayTrainerModel" "value" "J") (List.mem_cons_of_mem _ (wr47 _ (List.mem_of_getElem? (i := 14) rfl)))
  obtain ⟨H, hH⟩ : ∃ H : Heap, H = s.heap := ⟨_, rfl⟩
  obtain ⟨locs, hlc⟩ : ∃ L : List Loc, L = [] := ⟨_, rfl⟩
  have hP : va_P D vwCl (mw cs q v_thrown a_tape v_taped v_size v_to v_kind v_from v_letters v_letterMany v_digits v_isBeyond v_suffix v_steps v_fault v_hasProgram a_text a_act a_guess a_take a_begin a_finish a_to1 a_one a_two a_what a_ats a_atVar a_atNumber a_atomSort a_atomKind a_atomValue v_wrong v_wrongAt v_variable v_number v_numberKind v_takes a_out v_outed a_varSort a_varKind a_varValue a_creature v_creatures a_arrayClass a_arrayFrom a_arrayLong v_arrays v_cells a_cellSort a_cellKind a_cellValue a_asideSort a_asideKind a_asideValue a_outcome v_marks v_came v_guessed v_right v_taken a_markSort a_markKind a_markClass a_markValue v_sort v_kindAt v_value a_index v_reached v_looked) H := by rw [hH]; exact hP
  have hS : va_S A s.heap H locs := by rw [hH, hlc]; exact hS
  refine wHL hH hlc ?_
  have b_k9 := iB k9
  have b_v9 := jB v9
  refine lv_aload_n hx hb dX10_number_0 rfl (lv_at hl 0 rfl) ?_
  refine lv_iconst (v := 1) hx hb dX10_number_1 (by decide) ?_
  refine va_put (D := D) (ci := 9) (v := .int 1) (ty := .int) (C := RX10) (T := TX10) (N := 71) hx hb hts hin tyX10 tyX10_ok nmX10 hown hK hP hD hS 0 rfl rfl 65 (by decide) k_47_12 (fun _ h9 => h9) rfl (by decide +kernel) rfl rfl (Nat.le_of_ble_eq_true rfl) dX10_number_2 (fun H locs hP hD hS => ?_)
  have hP : va_P D vwCl (mw cs q v_thrown a_tape v_taped v_size v_to v_kind v_from v_letters v_letterMany v_digits v_isBeyond v_suffix v_steps v_fault v_hasProgram a_text a_act a_guess a_take a_begin a_finish a_to1 a_one a_two a_what a_ats a_atVar a_atNumber a_atomSort a_atomKind a_atomValue v_wrong v_wrongAt v_variable v_number v_numberKind v_takes a_out v_outed a_varSort a_varKind a_varValue a_creature v_creatures a_arrayClass a_arrayFrom a_arrayLong v_arrays v_cells a_cellSort a_cellKind a_cellValue a_asideSort a_asideKind a_asideValue a_outcome v_marks v_came v_guessed v_right v_taken a_markSort a_markKind a_markClass a_markValue (1 : Int32) v_kindAt v_value a_index v_reached v_looked) H := hP
  have hD : va_D A (mw cs q v_thrown a_tape v_taped v_size v_to v_kind v_from v_letters v_letterMany v_digits v_isBeyond v_suffix v_steps v_fault v_hasProgram a_text a_act a_guess a_take a_begin a_finish a_to1 a_one a_two a_what a_ats a_atVar a_atNumber a_atomSort a_atomKind a_atomValue v_wrong v_wrongAt v_variable v_number v_numberKind v_takes a_out v_outed a_varSort a_varKind a_varValue a_creature v_creatures a_arrayClass a_arrayFrom a_arrayLong v_arrays v_cells a_cellSort a_cellKind a_cellValue a_asideSort a_asideKind a_asideValue a_outcome v_marks v_came v_guessed v_right v_taken a_markSort a_markKind a_markClass a_markValue (1 : Int32) v_kindAt v_value a_index v_reached v_looked) := hD
  refine lv_aload_n hx hb dX10_number_5 rfl (lv_at hl 0 rfl) ?_
  refine lv_iload_n hx hb dX10_number_6 rfl (lv_at hl 1 rfl) ?_
  refine va_put (D := D) (ci := 9) (v := .int k9) (ty := .int) (C := RX10) (T := TX10) (N := 71) hx hb hts hin tyX10 tyX10_ok nmX10 hown hK hP hD hS 0 rfl rfl 66 (by decide) k_47_13 (fun _ h9 => h9) rfl (by decide +kernel) rfl rfl (Nat.le_of_ble_eq_true rfl) dX10_number_7 (fun H locs hP hD hS => ?_)
  have hP : va_P D vwCl (mw cs q v_thrown a_tape v_taped v_size v_to v_kind v_from v_letters v_letterMany v_digits v_isBeyond v_suffix v_steps v_fault v_hasProgram a_text a_act a_guess a_take a_begin a_finish a_to1 a_one a_two a_what a_ats a_atVar a_atNumber a_atomSort a_atomKind a_atomValue v_wrong v_wrongAt v_variable v_number v_numberKind v_takes a_out v_outed a_varSort a_varKind a_varValue a_creature v_creatures a_arrayClass a_arrayFrom a_arrayLong v_arrays v_cells a_cellSort a_cellKind a_cellValue a_asideSort a_asideKind a_asideValue a_outcome v_marks v_came v_guessed v_right v_taken a_markSort a_markKind a_markClass a_markValue (1 : Int32) k9 v_value a_index v_reached v_looked) H := hP
  have hD : va_D A (mw cs q v_thrown a_tape v_taped v_size v_to v_kind v_from v_letters v_letterMany v_digits v_isBeyond v_suffix v_steps v_fault v_hasProgram a_text a_act a_guess a_take a_begin a_finish a_to1 a_one a_two a_what a_ats a_atVar a_atNumber a_atomSort a_atomKind a_atomValue v_wrong v_wrongAt v_variable v_number v_numberKind v_takes a_out v_outed a_varSort a_varKind a_varValue a_creature v_creatures a_arrayClass a_arrayFrom a_arrayLong v_arrays v_cells a_cellSort a_cellKind a_cellValue a_asideSort a_asideKind a_asideValue a_outcome v_marks v_came v_guessed v_right v_taken a_markSort a_markKind a_markClass a_markValue (1 : Int32) k9 v_value a_index v_reached v_looked) := hD
  refine lv_aload_n hx hb dX10_number_10 rfl (lv_at hl 0 rfl) ?_
  refine lv_lload_n hx hb dX10_number_11 rfl (lv_at hl 2 rfl) ?_
  refine va_put (D := D) (ci := 9) (v := .long v9) (ty := .long) (C := RX10) (T := TX10) (N := 71) hx hb hts hin tyX10 tyX10_ok nmX10 hown hK hP hD hS 0 rfl rfl 67 (by decide) k_47_14 (fun _ h9 => h9) rfl (by decide +kernel) rfl rfl (Nat.le_of_ble_eq_true rfl) dX10_number_12 (fun H locs hP hD hS => ?_)
  have hP : va_P D vwCl (mw cs q v_thrown a_tape v_taped v_size v_to v_kind v_from v_letters v_letterMany v_digits v_isBeyond v_suffix v_steps v_fault v_hasProgram a_text a_act a_guess a_take a_begin a_finish a_to1 a_one a_two a_what a_ats a_atVar a_atNumber a_atomSort a_atomKind a_atomValue v_wrong v_wrongAt v_variable v_number v_numberKind v_takes a_out v_outed a_varSort a_varKind a_varValue a_creature v_creatures a_arrayClass a_arrayFrom a_arrayLong v_arrays v_cells a_cellSort a_cellKind a_cellValue a_asideSort a_asideKind a_asideValue a_outcome v_marks v_came v_guessed v_right v_taken a_markSort a_markKind a_markClass a_markValue (1 : Int32) k9 v9 a_index v_reached v_looked) H := hP
  have hD : va_D A (mw cs q v_thrown a_tape v_taped v_size v_to v_kind v_from v_letters v_letterMany v_digits v_isBeyond v_suffix v_steps v_fault v_hasProgram a_text a_act a_guess a_take a_begin a_finish a_to1 a_one a_two a_what a_ats a_atVar a_atNumber a_atomSort a_atomKind a_atomValue v_wrong v_wrongAt v_variable v_number v_numberKind v_takes a_out v_outed a_varSort a_varKind a_varValue a_creature v_creatures a_arrayClass a_arrayFrom a_arrayLong v_arrays v_cells a_cellSort a_cellKind a_cellValue a_asideSort a_asideKind a_asideValue a_outcome v_marks v_came v_guessed v_right v_taken a_markSort a_markKind a_markClass a_markValue (1 : Int32) k9 v9 a_index v_reached v_looked) := hD
  subst hAe
  rw [hQ]
  exact W.vret hx hb hr (fun t ht hW => ⟨⟨_, rfl, ⟨(1 : Int32), k9, v9, rfl, by first | assumption | omega | (intros; omega) | decide, by rfl, by rfl⟩, by rw [ht]; exact hP, va_K.moved hW.alike hK, hD⟩, hS.F ht⟩) hS.2.2 dX10_number_15

def rmX10_ofVar : Room := { frames := 20, cells := 0, slots := 0, locals := 400 }
set_option maxHeartbeats 4000000 in
set_option maxRecDepth 100000 in
theorem tX10_ofVar {l : Launch} {D : va_G} {K : Nat → Nat → Nat} {cs : Nat → ClassId} {q : Nat → Nat} {v_thrown v_taped v_size v_to v_kind v_from v_letterMany v_isBeyond v_suffix v_steps v_fault v_hasProgram v_wrong v_wrongAt v_variable v_numberKind v_takes v_outed v_creatures v_arrays v_cells v_marks v_came v_guessed v_right v_taken v_sort v_kindAt v_reached v_looked : Int32} {a_tape a_text a_act a_guess a_take a_begin a_finish a_to1 a_one a_two a_what a_ats a_atVar a_atNumber a_atomSort a_atomKind a_out a_varSort a_varKind a_creature a_arrayClass a_arrayFrom a_arrayLong a_cellSort a_cellKind a_asideSort a_asideKind a_outcome a_markSort a_markKind a_markClass a_index : Nat → Int32} {v_letters v_digits v_number v_value : Int64} {a_atomValue a_varValue a_cellValue a_asideValue a_markValue : Nat → Int64} (v9 : Int32) (p_0 : 0 ≤ v9.toInt) (p_1 : v9.toInt ≤ 25) (p_2 : RUN a_varSort a_varKind a_varValue v_arrays v_cells v_creatures a_arrayClass a_arrayFrom a_arrayLong a_cellSort a_cellKind a_cellValue) : CtV l yX10_ofVar (wG yX10_ofVar cX10_ofVar 2 none) rmX10_ofVar D (mwT cs) K [.ref (q 0), .int v9] (mw cs q v_thrown a_tape v_taped v_size v_to v_kind v_from v_letters v_letterMany v_digits v_isBeyond v_suffix v_steps v_fault v_hasProgram a_text a_act a_guess a_take a_begin a_finish a_to1 a_one a_two a_what a_ats a_atVar a_atNumber a_atomSort a_atomKind a_atomValue v_wrong v_wrongAt v_variable v_number v_numberKind v_takes a_out v_outed a_varSort a_varKind a_varValue a_creature v_creatures a_arrayClass a_arrayFrom a_arrayLong v_arrays v_cells a_cellSort a_cellKind a_cellValue a_asideSort a_asideKind a_asideValue a_outcome v_marks v_came v_guessed v_right v_taken a_markSort a_markKind a_markClass a_markValue v_sort v_kindAt v_value a_index v_reached v_looked) (fun w1 => ∃ (v_sort' : Int32) (v_kindAt' : Int32) (v_value' : Int64), w1 = (mw cs q v_thrown a_tape v_taped v_size v_to v_kind v_from v_letters v_letterMany v_digits v_isBeyond v_suffix v_steps v_fault v_hasProgram a_text a_act a_guess a_take a_begin a_finish a_to1 a_one a_two a_what a_ats a_atVar a_atNumber a_atomSort a_atomKind a_atomValue v_wrong v_wrongAt v_variable v_number v_numberKind v_takes a_out v_outed a_varSort a_varKind a_varValue a_creature v_creatures a_arrayClass a_arrayFrom a_arrayLong v_arrays v_cells a_cellSort a_cellKind a_cellValue a_asideSort a_asideKind a_asideValue a_outcome v_marks v_came v_guessed v_right v_taken a_markSort a_markKind a_markClass a_markValue v_sort' v_kindAt' v_value' a_index v_reached v_looked) ∧ (VOK v_arrays.toInt v_creatures.toInt v_sort' v_kindAt' v_value') ∧ (v_sort' = a_varSort v9.toNatClampNeg) ∧ (v_kindAt' = a_varKind v9.toNatClampNeg) ∧ (v_value' = a_varValue v9.toNatClampNeg)) 0 0 := by
  intro sz
  refine Met.ofW (cc := cX10_ofVar) (maxL := 2) (ret := none) (by decide) rfl ?_
  intro p e s m args below meth c s₁ B hml hv
  obtain ⟨rfl, hsz, hP, hK, hD0, hE⟩ := hv
  have hx := B.exec
  have hb := B.bytes
  have hr := B.returns
  have hts := atoms_spec (ws := (wG yX10_ofVar cX10_ofVar 2 none)) B.pre
  have hown : s.vm.findClass RX10 = some m.cls := findClass_of_methodNamed B.named
  have hlocks := B.notSynchronized
  subst hsz
  have hD := hD0.self (sz := s.heap.size)
  obtain ⟨A, hAe⟩ : ∃ A : Nat → Prop, A = va_A (mw cs q v_thrown a_tape v_taped v_size v_to v_kind v_from v_letters v_letterMany v_digits v_isBeyond v_suffix v_steps v_fault v_hasProgram a_text a_act a_guess a_take a_begin a_finish a_to1 a_one a_two a_what a_ats a_atVar a_atNumber a_atomSort a_atomKind a_atomValue v_wrong v_wrongAt v_variable v_number v_numberKind v_takes a_out v_outed a_varSort a_varKind a_varValue a_creature v_creatures a_arrayClass a_arrayFrom a_arrayLong v_arrays v_cells a_cellSort a_cellKind a_cellValue a_asideSort a_asideKind a_asideValue a_outcome v_marks v_came v_guessed v_right v_taken a_markSort a_markKind a_markClass a_markValue v_sort v_kindAt v_value a_index v_reached v_looked) s.heap.size := ⟨_, rfl⟩
  rw [← hAe] at hD hE
  have hA : ∀ q : Nat, s.heap.size ≤ q → A q := fun q h => by rw [hAe]; exact Or.inr h
  have hS : va_S A s.heap s.heap [] := va_S.rf
  have hl := lv_entry ([.ref (q 0), .int v9]) (n := 2) (Nat.le_of_ble_eq_true rfl)
  rw [lg_entry_eq]
  generalize (lg_sl ([.ref (q 0), .int v9]) ++ List.replicate (2 - (lg_sl ([.ref (q 0), .int v9])).length) Slot.unset).toArray = ls at hl ⊢
  have hl : lv_has ls 2 [(0, .ref (q 0)), (1, .int v9)] := hl
  refine wq (fun Q hQ => ?_)
  have hin : ∀ w ∈ wsX100, w ∈ (wG yX10_ofVar cX10_ofVar 2 none) := fun w h => List.mem_cons_of_mem _ (inlX10 w h)
  have k_6_1 := hts (.fieldLink RX10 65 "ArrayTrainerModel" "varSort" "[I") (List.mem_cons_of_mem _ (wr6 _ (List.mem_of_getElem? (i := 1) rfl)))
  have k_47_12 := hts (.fieldLink RX10 493 "ArrayTrainerModel" "sort" "I") (List.mem_cons_of_mem _ (wr47 _ (List.mem_of_getElem? (i := 12) rfl)))
  have k_6_2 := hts (.fieldLink RX10 68 "ArrayTrainerModel" "varKind" "[I") (List.mem_cons_of_mem _ (wr6 _ (List.mem_of_getElem? (i := 2) rfl)))
  have k_47_13 := hts (.fieldLink RX10 496 "ArrayTrainerModel" "kindAt" "I") (List.mem_cons_of_mem _ (wr47 _ (List.mem_of_getElem? (i := 13) rfl)))
  have k_6_3 := hts (.fieldLink RX10 71 "ArrayTrainerModel" "varValue" "[J") (List.mem_cons_of_mem _ (wr6 _ (List.mem_of_getElem? (i := 3) rfl)))
  have k_47_14 := hts (.fieldLink RX10 499 "ArrayTrainerModel" "value" "J") (List.mem_cons_of_mem _ (wr47 _ (List.mem_of_getElem? (i := 14) rfl)))
  obtain ⟨H, hH⟩ : ∃ H : Heap, H = s.heap := ⟨_, rfl⟩
  obtain ⟨locs, hlc⟩ : ∃ L : List Loc, L = [] := ⟨_, rfl⟩
  have hP : va_P D vwCl (mw cs q v_thrown a_tape v_taped v_size v_to v_kind v_from v_letters v_letterMany v_digits v_isBeyond v_suffix v_steps v_fault v_hasProgram a_text a_act a_guess a_take a_begin a_finish a_to1 a_one a_two a_what a_ats a_atVar a_atNumber a_atomSort a_atomKind a_atomValue v_wrong v_wrongAt v_variable v_number v_numberKind v_takes a_out v_outed a_varSort a_varKind a_varValue a_creature v_creatures a_arrayClass a_arrayFrom a_arrayLong v_arrays v_cells a_cellSort a_cellKind a_cellValue a_asideSort a_asideKind a_asideValue a_outcome v_marks v_came v_guessed v_right v_taken a_markSort a_markKind a_markClass a_markValue v_sort v_kindAt v_value a_index v_reached v_looked) H := by rw [hH]; exact hP
  have hS : va_S A s.heap H locs := by rw [hH, hlc]; exact hS
  refine wHL hH hlc ?_
  have b_v9 := iB v9
  refine lv_aload_n hx hb dX10_ofVar_0 rfl (lv_at hl 0 rfl) ?_
  refine lv_aload_n hx hb dX10_ofVar_1 rfl (lv_at hl 0 rfl) ?_
  refine va_get (D := D) (ci := 9) (v := .ref (q 19)) (C := RX10) (T := TX10) (N := 71) hx hb hts hin hown hK hP 0 rfl rfl 39 (by decide) k_6_1 (fun _ h9 => h9) rfl dX10_ofVar_2 ?_
  refine lv_iload_n hx hb dX10_ofVar_5 rfl (lv_at hl 1 rfl) ?_
  refine m_iald hx hb hK hP 19 0 rfl rfl (ix (by omega) (by omega)) dX10_ofVar_6 (fun x6 e_x6 => ?_)
  have b_x6 := iB x6
  refine va_put (D := D) (ci := 9) (v := .int x6) (ty := .int) (C := RX10) (T := TX10) (N := 71) hx hb hts hin tyX10 tyX10_ok nmX10 hown hK hP hD hS 0 rfl rfl 65 (by decide) k_47_12 (fun _ h9 => h9) rfl (by decide +kernel) rfl rfl (Nat.le_of_ble_eq_true rfl) dX10_ofVar_7 (fun H locs hP hD hS => ?_)
  have hP : va_P D vwCl (mw cs q v_thrown a_tape v_taped v_size v_to v_kind v_from v_letters v_letterMany v_digits v_isBeyond v_suffix v_steps v_fault v_hasProgram a_text a_act a_guess a_take a_begin a_finish a_to1 a_one a_two a_what a_ats a_atVar a_atNumber a_atomSort a_atomKind a_atomValue v_wrong v_wrongAt v_variable v_number v_numberKind v_takes a_out v_outed a_varSort a_varKind a_varValue a_creature v_creatures a_arrayClass a_arrayFrom a_arrayLong v_arrays v_cells a_cellSort a_cellKind a_cellValue a_asideSort a_asideKind a_asideValue a_outcome v_marks v_came v_guessed v_right v_taken a_markSort a_markKind a_markClass a_markValue x6 v_kindAt v_value a_index v_reached v_looked) H := hP
  have hD : va_D A (mw cs q v_thrown a_tape v_taped v_size v_to v_kind v_from v_letters v_letterMany v_digits v_isBeyond v_suffix v_steps v_fault v_hasProgram a_text a_act a_guess a_take a_begin a_finish a_to1 a_one a_two a_what a_ats a_atVar a_atNumber a_atomSort a_atomKind a_atomValue v_wrong v_wrongAt v_variable v_number v_numberKind v_takes a_out v_outed a_varSort a_varKind a_varValue a_creature v_creatures a_arrayClass a_arrayFrom a_arrayLong v_arrays v_cells a_cellSort a_cellKind a_cellValue a_asideSort a_asideKind a_asideValue a_outcome v_marks v_came v_guessed v_right v_taken a_markSort a_markKind a_markClass a_markValue x6 v_kindAt v_value a_index v_reached v_looked) := hD
  refine lv_aload_n hx hb dX10_ofVar_10 rfl (lv_at hl 0 rfl) ?_
  refine lv_aload_n hx hb dX10_ofVar_11 rfl (lv_at hl 0 rfl) ?_
  refine va_get (D := D) (ci := 9) (v := .ref (q 20)) (C := RX10) (T := TX10) (N := 71) hx hb hts hin hown hK hP 0 rfl rfl 40 (by decide) k_6_2 (fun _ h9 => h9) rfl dX10_ofVar_12 ?_
  refine lv_iload_n hx hb dX10_ofVar_15 rfl (lv_at hl 1 rfl) ?_
  refine m_iald hx hb hK hP 20 0 rfl rfl (ix (by omega) (by omega)) dX10_ofVar_16 (fun x16 e_x16 => ?_)
  have b_x16 := iB x16
  refine va_put (D := D) (ci := 9) (v := .int x16) (ty := .int) (C := RX10) (T := TX10) (N := 71) hx hb hts hin tyX10 tyX10_ok nmX10 hown hK hP hD hS 0 rfl rfl 66 (by decide) k_47_13 (fun _ h9 => h9) rfl (by decide +kernel) rfl rfl (Nat.le_of_ble_eq_true rfl) dX10_ofVar_17 (fun H locs hP hD hS => ?_)
  have hP : va_P D vwCl (mw cs q v_thrown a_tape v_taped v_size v_to v_kind v_from v_letters v_letterMany v_digits v_isBeyond v_suffix v_steps v_fault v_hasProgram a_text a_act a_guess a_take a_begin a_finish a_to1 a_one a_two a_what a_ats a_atVar a_atNumber a_atomSort a_atomKind a_atomValue v_wrong v_wrongAt v_variable v_number v_numberKind v_takes a_out v_outed a_varSort a_varKind a_varValue a_creature v_creatures a_arrayClass a_arrayFrom a_arrayLong v_arrays v_cells a_cellSort a_cellKind a_cellValue a_asideSort a_asideKind a_asideValue a_outcome v_marks v_came v_guessed v_right v_taken a_markSort a_markKind a_markClass a_markValue x6 x16 v_value a_index v_reached v_looked) H := hP
  have hD : va_D A (mw cs q v_thrown a_tape v_taped v_size v_to v_kind v_from v_letters v_letterMany v_digits v_isBeyond v_suffix v_steps v_fault v_hasProgram a_text a_act a_guess a_take a_begin a_finish a_to1 a_one a_two a_what a_ats a_atVar a_atNumber a_atomSort a_atomKind a_atomValue v_wrong v_wrongAt v_variable v_number v_numberKind v_takes a_out v_outed a_varSort a_varKind a_varValue a_creature v_creatures a_arrayClass a_arrayFrom a_arrayLong v_arrays v_cells a_cellSort a_cellKind a_cellValue a_asideSort a_asideKind a_asideValue a_outcome v_marks v_came v_guessed v_right v_taken a_markSort a_markKind a_markClass a_markValue x6 x16 v_value a_index v_reached v_looked) := hD
  refine lv_aload_n hx hb dX10_ofVar_20 rfl (lv_at hl 0 rfl) ?_
  refine lv_aload_n hx hb dX10_ofVar_21 rfl (lv_at hl 0 rfl) ?_
  refine va_get (D := D) (ci := 9) (v := .ref (q 21)) (C := RX10) (T := TX10) (N := 71) hx hb hts hin hown hK hP 0 rfl rfl 41 (by decide) k_6_3 (fun _ h9 => h9) rfl dX10_ofVar_22 ?_
  refine lv_iload_n hx hb dX10_ofVar_25 rfl (lv_at hl 1 rfl) ?_
  refine m_lald hx hb hK hP 21 1 rfl rfl (ix (by omega) (by omega)) dX10_ofVar_26 (fun x26 e_x26 => ?_)
  have b_x26 := jB x26
  refine va_put (D := D) (ci := 9) (v := .long x26) (ty := .long) (C := RX10) (T := TX10) (N := 71) hx hb hts hin tyX10 tyX10_ok nmX10 hown hK hP hD hS 0 rfl rfl 67 (by decide) k_47_14 (fun _ h9 => h9) rfl (by decide +kernel) rfl rfl (Nat.le_of_ble_eq_true rfl) dX10_ofVar_27 (fun H locs hP hD hS => ?_)
  have hP : va_P D vwCl (mw cs q v_thrown a_tape v_taped v_size v_to v_kind v_from v_letters v_letterMany v_digits v_isBeyond v_suffix v_steps v_fault v_hasProgram a_text a_act a_guess a_take a_begin a_finish a_to1 a_one a_two a_what a_ats a_atVar a_atNumber a_atomSort a_atomKind a_atomValue v_wrong v_wrongAt v_variable v_number v_numberKind v_takes a_out v_outed a_varSort a_varKind a_varValue a_creature v_creatures a_arrayClass a_arrayFrom a_arrayLong v_arrays v_cells a_cellSort a_cellKind a_cellValue a_asideSort a_asideKind a_asideValue a_outcome v_marks v_came v_guessed v_right v_taken a_markSort a_markKind a_markClass a_markValue x6 x16 x26 a_index v_reached v_looked) H := hP
  have hD : va_D A (mw cs q v_thrown a_tape v_taped v_size v_to v_kind v_from v_letters v_letterMany v_digits v_isBeyond v_suffix v_steps v_fault v_hasProgram a_text a_act a_guess a_take a_begin a_finish a_to1 a_one a_two a_what a_ats a_atVar a_atNumber a_atomSort a_atomKind a_atomValue v_wrong v_wrongAt v_variable v_number v_numberKind v_takes a_out v_outed a_varSort a_varKind a_varValue a_creature v_creatures a_arrayClass a_arrayFrom a_arrayLong v_arrays v_cells a_cellSort a_cellKind a_cellValue a_asideSort a_asideKind a_asideValue a_outcome v_marks v_came v_guessed v_right v_taken a_markSort a_markKind a_markClass a_markValue x6 x16 x26 a_index v_reached v_looked) := hD
  subst hAe
  rw [hQ]
  exact W.vret hx hb hr (fun t ht hW => ⟨⟨_, rfl, ⟨x6, x16, x26, rfl, by (have t9 := tn (i := v9) (by omega); have h9 := p_2.2.2.1 v9.toNatClampNeg (by omega); rw [← e_x6, ← e_x16, ← e_x26] at h9; exact h9), by first | assumption | omega | (intros; omega) | decide, by first | assumption | omega | (intros; omega) | decide, by first | assumption | omega | (intros; omega) | decide⟩, by rw [ht]; exact hP, va_K.moved hW.alike hK, hD⟩, hS.F ht⟩) hS.2.2 dX10_ofVar_30

def rmX10_toVar : Room := { frames := 20, cells := 0, slots := 0, locals := 400 }
set_option maxHeartbeats 4000000 in
set_option maxRecDepth 100000 in
theorem tX10_toVar {l : Launch} {D : va_G} {K : Nat → Nat → Nat} {cs : Nat → ClassId} {q : Nat → Nat} {v_thrown v_taped v_size v_to v_kind v_from v_letterMany v_isBeyond v_suffix v_steps v_fault v_hasProgram v_wrong v_wrongAt v_variable v_numberKind v_takes v_outed v_creatures v_arrays v_cells v_marks v_came v_guessed v_right v_taken v_sort v_kindAt v_reached v_looked : Int32} {a_tape a_text a_act a_guess a_take a_begin a_finish a_to1 a_one a_two a_what a_ats a_atVar a_atNumber a_atomSort a_atomKind a_out a_varSort a_varKind a_creature a_arrayClass a_arrayFrom a_arrayLong a_cellSort a_cellKind a_asideSort a_asideKind a_outcome a_markSort a_markKind a_markClass a_index : Nat → Int32} {v_letters v_digits v_number v_value : Int64} {a_atomValue a_varValue a_cellValue a_asideValue a_markValue : Nat → Int64} (v9 : Int32) (p_0 : 0 ≤ v9.toInt) (p_1 : v9.toInt ≤ 25) (p_2 : RUN a_varSort a_varKind a_varValue v_arrays v_cells v_creatures a_arrayClass a_arrayFrom a_arrayLong a_cellSort a_cellKind a_cellValue) (p_3 : VOK v_arrays.toInt v_creatures.toInt v_sort v_kindAt v_value) : CtV l yX10_toVar (wG yX10_toVar cX10_toVar 2 none) rmX10_toVar D (mwT cs) K [.ref (q 0), .int v9] (mw cs q v_thrown a_tape v_taped v_size v_to v_kind v_from v_letters v_letterMany v_digits v_isBeyond v_suffix v_steps v_fault v_hasProgram a_text a_act a_guess a_take a_begin a_finish a_to1 a_one a_two a_what a_ats a_atVar a_atNumber a_atomSort a_atomKind a_atomValue v_wrong v_wrongAt v_variable v_number v_numberKind v_takes a_out v_outed a_varSort a_varKind a_varValue a_creature v_creatures a_arrayClass a_arrayFrom a_arrayLong v_arrays v_cells a_cellSort a_cellKind a_cellValue a_asideSort a_asideKind a_asideValue a_outcome v_marks v_came v_guessed v_right v_taken a_markSort a_markKind a_markClass a_markValue v_sort v_kindAt v_value a_index v_reached v_looked) (fun w1 => ∃ (a_varSort' : Nat → Int32) (a_varKind' : Nat → Int32) (a_varValue' : Nat → Int64), w1 = (mw cs q v_thrown a_tape v_taped v_size v_to v_kind v_from v_letters v_letterMany v_digits v_isBeyond v_suffix v_steps v_fault v_hasProgram a_text a_act a_guess a_take a_begin a_finish a_to1 a_one a_two a_what a_ats a_atVar a_atNumber a_atomSort a_atomKind a_atomValue v_wrong v_wrongAt v_variable v_number v_numberKind v_takes a_out v_outed a_varSort' a_varKind' a_varValue' a_creature v_creatures a_arrayClass a_arrayFrom a_arrayLong v_arrays v_cells a_cellSort a_cellKind a_cellValue a_asideSort a_asideKind a_asideValue a_outcome v_marks v_came v_guessed v_right v_taken a_markSort a_markKind a_markClass a_markValue v_sort v_kindAt v_value a_index v_reached v_looked) ∧ (RUN a_varSort' a_varKind' a_varValue' v_arrays v_cells v_creatures a_arrayClass a_arrayFrom a_arrayLong a_cellSort a_cellKind a_cellValue)) 0 0 := by
  intro sz
  refine Met.ofW (cc := cX10_toVar) (maxL := 2) (ret := none) (by decide) rfl ?_
  intro p e s m args below meth c s₁ B hml hv
  obtain ⟨rfl, hsz, hP, hK, hD0, hE⟩ := hv
  have hx := B.exec
  have hb := B.bytes
  have hr := B.returns
  have hts := atoms_spec (ws := (wG yX10_toVar cX10_toVar 2 none)) B.pre
  have hown : s.vm.findClass RX10 = some m.cls := findClass_of_methodNamed B.named
  have hlocks := B.notSynchronized
  subst hsz
  have hD := hD0.self (sz := s.heap.size)
  obtain ⟨A, hAe⟩ : ∃ A : Nat → Prop, A = va_A (mw cs q v_thrown a_tape v_taped v_size v_to v_kind v_from v_letters v_letterMany v_digits v_isBeyond v_suffix v_steps v_fault v_hasProgram a_text a_act a_guess a_take a_begin a_finish a_to1 a_one a_two a_what a_ats a_atVar a_atNumber a_atomSort a_atomKind a_atomValue v_wrong v_wrongAt v_variable v_number v_numberKind v_takes a_out v_outed a_varSort a_varKind a_varValue a_creature v_creatures a_arrayClass a_arrayFrom a_arrayLong v_arrays v_cells a_cellSort a_cellKind a_cellValue a_asideSort a_asideKind a_asideValue a_outcome v_marks v_came v_guessed v_right v_taken a_markSort a_markKind a_markClass a_markValue v_sort v_kindAt v_value a_index v_reached v_looked) s.heap.size := ⟨_, rfl⟩
  rw [← hAe] at hD hE
  have hA : ∀ q : Nat, s.heap.size ≤ q → A q := fun q h => by rw [hAe]; exact Or.inr h
  have hS : va_S A s.heap s.heap [] := va_S.rf
  have hl := lv_entry ([.ref (q 0), .int v9]) (n := 2) (Nat.le_of_ble_eq_true rfl)
  rw [lg_entry_eq]
  generalize (lg_sl ([.ref (q 0), .int v9]) ++ List.replicate (2 - (lg_sl ([.ref (q 0), .int v9])).length) Slot.unset).toArray = ls at hl ⊢
  have hl : lv_has ls 2 [(0, .ref (q 0)), (1, .int v9)] := hl
  refine wq (fun Q hQ => ?_)
  have hin : ∀ w ∈ wsX100, w ∈ (wG yX10_toVar cX10_toVar 2 none) := fun w h => List.mem_cons_of_mem _ (inlX10 w h)
  have k_6_1 := hts (.fieldLink RX10 65 "ArrayTrainerModel" "varSort" "[I") (List.mem_cons_of_mem _ (wr6 _ (List.mem_of_getElem? (i := 1) rfl)))
  have k_47_12 := hts (.fieldLink RX10 493 "ArrayTrainerModel" "sort" "I") (List.mem_cons_of_mem _ (wr47 _ (List.mem_of_getElem? (i := 12) rfl)))
  have k_6_2 := hts (.fieldLink RX10 68 "ArrayTrainerModel" "varKind" "[I") (List.mem_cons_of_mem _ (wr6 _ (List.mem_of_getElem? (i := 2) rfl)))
  have k_47_13 := hts (.fieldLink RX10 496 "ArrayTrainerModel" "kindAt" "I") (List.mem_cons_of_mem _ (wr47 _ (List.mem_of_getElem? (i := 13) rfl)))
  have k_6_3 := hts (.fieldLink RX10 71 "ArrayTrainerModel" "varValue" "[J") (List.mem_cons_of_mem _ (wr6 _ (List.mem_of_getElem? (i := 3) rfl)))
  have k_47_14 := hts (.fieldLink RX10 499 "ArrayTrainerModel" "value" "J") (List.mem_cons_of_mem _ (wr47 _ (List.mem_of_getElem? (i := 14) rfl)))
  obtain ⟨H, hH⟩ : ∃ H : Heap, H = s.heap := ⟨_, rfl⟩
  obtain ⟨locs, hlc⟩ : ∃ L : List Loc, L = [] := ⟨_, rfl⟩
  have hP : va_P D vwCl (mw cs q v_thrown a_tape v_taped v_size v_to v_kind v_from v_letters v_letterMany v_digits v_isBeyond v_suffix v_steps v_fault v_hasProgram a_text a_act a_guess a_take a_begin a_finish a_to1 a_one a_two a_what a_ats a_atVar a_atNumber a_atomSort a_atomKind a_atomValue v_wrong v_wrongAt v_variable v_number v_numberKind v_takes a_out v_outed a_varSort a_varKind a_varValue a_creature v_creatures a_arrayClass a_arrayFrom a_arrayLong v_arrays v_cells a_cellSort a_cellKind a_cellValue a_asideSort a_asideKind a_asideValue a_outcome v_marks v_came v_guessed v_right v_taken a_markSort a_markKind a_markClass a_markValue v_sort v_kindAt v_value a_index v_reached v_looked) H := by rw [hH]; exact hP
  have hS : va_S A s.heap H locs := by rw [hH, hlc]; exact hS
  refine wHL hH hlc ?_
  have b_v9 := iB v9
  refine lv_aload_n hx hb dX10_toVar_0 rfl (lv_at hl 0 rfl) ?_
  refine va_get (D := D) (ci := 9) (v := .ref (q 19)) (C := RX10) (T := TX10) (N := 71) hx hb hts hin hown hK hP 0 rfl rfl 39 (by decide) k_6_1 (fun _ h9 => h9) rfl dX10_toVar_1 ?_
  refine lv_iload_n hx hb dX10_toVar_4 rfl (lv_at hl 1 rfl) ?_
  refine lv_aload_n hx hb dX10_toVar_5 rfl (lv_at hl 0 rfl) ?_
  refine va_get (D := D) (ci := 9) (v := .int v_sort) (C := RX10) (T := TX10) (N := 71) hx hb hts hin hown hK hP 0 rfl rfl 65 (by decide) k_47_12 (fun _ h9 => h9) rfl dX10_toVar_6 ?_
  refine va_iast hx hb hK hP hD hS 19 0 rfl rfl (ix (by omega) (by omega)) dX10_toVar_9 (fun H locs hP hD hS => ?_)
  obtain ⟨a_varSort_9, e_a_varSort_9⟩ : ∃ g, g = upd a_varSort v9.toNatClampNeg v_sort := ⟨_, rfl⟩
  have hP : va_P D vwCl (mw cs q v_thrown a_tape v_taped v_size v_to v_kind v_from v_letters v_letterMany v_digits v_isBeyond v_suffix v_steps v_fault v_hasProgram a_text a_act a_guess a_take a_begin a_finish a_to1 a_one a_two a_what a_ats a_atVar a_atNumber a_atomSort a_atomKind a_atomValue v_wrong v_wrongAt v_variable v_number v_numberKind v_takes a_out v_outed a_varSort_9 a_varKind a_varValue a_creature v_creatures a_arrayClass a_arrayFrom a_arrayLong v_arrays v_cells a_cellSort a_cellKind a_cellValue a_asideSort a_asideKind a_asideValue a_outcome v_marks v_came v_guessed v_right v_taken a_markSort a_markKind a_markClass a_markValue v_sort v_kindAt v_value a_index v_reached v_looked) H := by rw [e_a_varSort_9]; exact hP
  have hD : va_D A (mw cs q v_thrown a_tape v_taped v_size v_to v_kind v_from v_letters v_letterMany v_digits v_isBeyond v_suffix v_steps v_fault v_hasProgram a_text a_act a_guess a_take a_begin a_finish a_to1 a_one a_two a_what a_ats a_atVar a_atNumber a_atomSort a_atomKind a_atomValue v_wrong v_wrongAt v_variable v_number v_numberKind v_takes a_out v_outed a_varSort_9 a_varKind a_varValue a_creature v_creatures a_arrayClass a_arrayFrom a_arrayLong v_arrays v_cells a_cellSort a_cellKind a_cellValue a_asideSort a_asideKind a_asideValue a_outcome v_marks v_came v_guessed v_right v_taken a_markSort a_markKind a_markClass a_markValue v_sort v_kindAt v_value a_index v_reached v_looked) := by rw [e_a_varSort_9]; exact hD
  refine lv_aload_n hx hb dX10_toVar_10 rfl (lv_at hl 0 rfl) ?_
  refine va_get (D := D) (ci := 9) (v := .ref (q 20)) (C := RX10) (T := TX10) (N := 71) hx hb hts hin hown hK hP 0 rfl rfl 40 (by decide) k_6_2 (fun _ h9 => h9) rfl dX10_toVar_11 ?_
  refine lv_iload_n hx hb dX10_toVar_14 rfl (lv_at hl 1 rfl) ?_
  refine lv_aload_n hx hb dX10_toVar_15 rfl (lv_at hl 0 rfl) ?_
  refine va_get (D := D) (ci := 9) (v := .int v_kindAt) (C := RX10) (T := TX10) (N := 71) hx hb hts hin hown hK hP 0 rfl rfl 66 (by decide) k_47_13 (fun _ h9 => h9) rfl dX10_toVar_16 ?_
  refine va_iast hx hb hK hP hD hS 20 0 rfl rfl (ix (by omega) (by omega)) dX10_toVar_19 (fun H locs hP hD hS => ?_)
  obtain ⟨a_varKind_19, e_a_varKind_19⟩ : ∃ g, g = upd a_varKind v9.toNatClampNeg v_kindAt := ⟨_, rfl⟩
  have hP : va_P D vwCl (mw cs q v_thrown a_tape v_taped v_size v_to v_kind v_from v_letters v_letterMany v_digits v_isBeyond v_suffix v_steps v_fault v_hasProgram a_text a_act a_guess a_take a_begin a_finish a_to1 a_one a_two a_what a_ats a_atVar a_atNumber a_atomSort a_atomKind a_atomValue v_wrong v_wrongAt v_variable v_number v_numberKind v_takes a_out v_outed a_varSort_9 a_varKind_19 a_varValue a_creature v_creatures a_arrayClass a_arrayFrom a_arrayLong v_arrays v_cells a_cellSort a_cellKind a_cellValue a_asideSort a_asideKind a_asideValue a_outcome v_marks v_came v_guessed v_right v_taken a_markSort a_markKind a_markClass a_markValue v_sort v_kindAt v_value a_index v_reached v_looked) H := by rw [e_a_varKind_19]; exact hP
  have hD : va_D A (mw cs q v_thrown a_tape v_taped v_size v_to v_kind v_from v_letters v_letterMany v_digits v_isBeyond v_suffix v_steps v_fault v_hasProgram a_text a_act a_guess a_take a_begin a_finish a_to1 a_one a_two a_what a_ats a_atVar a_atNumber a_atomSort a_atomKind a_atomValue v_wrong v_wrongAt v_variable v_number v_numberKind v_takes a_out v_outed a_varSort_9 a_varKind_19 a_varValue a_creature v_creatures a_arrayClass a_arrayFrom a_arrayLong v_arrays v_cells a_cellSort a_cellKind a_cellValue a_asideSort a_asideKind a_asideValue a_outcome v_marks v_came v_guessed v_right v_taken a_markSort a_markKind a_markClass a_markValue v_sort v_kindAt v_value a_index v_reached v_looked) := by rw [e_a_varKind_19]; exact hD
  refine lv_aload_n hx hb dX10_toVar_20 rfl (lv_at hl 0 rfl) ?_
  refine va_get (D := D) (ci := 9) (v := .ref (q 21)) (C := RX10) (T := TX10) (N := 71) hx hb hts hin hown hK hP 0 rfl rfl 41 (by decide) k_6_3 (fun _ h9 => h9) rfl dX10_toVar_21 ?_
  refine lv_iload_n hx hb dX10_toVar_24 rfl (lv_at hl 1 rfl) ?_
  refine lv_aload_n hx hb dX10_toVar_25 rfl (lv_at hl 0 rfl) ?_
  refine va_get (D := D) (ci := 9) (v := .long v_value) (C := RX10) (T := TX10) (N := 71) hx hb hts hin hown hK hP 0 rfl rfl 67 (by decide) k_47_14 (fun _ h9 => h9) rfl dX10_toVar_26 ?_
  refine va_last hx hb hK hP hD hS 21 1 rfl rfl (ix (by omega) (by omega)) dX10_toVar_29 (fun H locs hP hD hS => ?_)
  obtain ⟨a_varValue_29, e_a_varValue_29⟩ : ∃ g, g = vp_updL a_varValue v9.toNatClampNeg v_value := ⟨_, rfl⟩
  have hP : va_P D vwCl (mw cs q v_thrown a_tape v_taped v_size v_to v_kind v_from v_letters v_letterMany v_digits v_isBeyond v_suffix v_steps v_fault v_hasProgram a_text a_act a_guess a_take a_begin a_finish a_to1 a_one a_two a_what a_ats a_atVar a_atNumber a_atomSort a_atomKind a_atomValue v_wrong v_wrongAt v_variable v_number v_numberKind v_takes a_out v_outed a_varSort_9 a_varKind_19 a_varValue_29 a_creature v_creatures a_arrayClass a_arrayFrom a_arrayLong v_arrays v_cells a_cellSort a_cellKind a_cellValue a_asideSort a_asideKind a_asideValue a_outcome v_marks v_came v_guessed v_right v_taken a_markSort a_markKind a_markClass a_markValue v_sort v_kindAt v_value a_index v_reached v_looked) H := by rw [e_a_varValue_29]; exact hP
  have hD : va_D A (mw cs q v_thrown a_tape v_taped v_size v_to v_kind v_from v_letters v_letterMany v_digits v_isBeyond v_suffix v_steps v_fault v_hasProgram a_text a_act a_guess a_take a_begin a_finish a_to1 a_one a_two a_what a_ats a_atVar a_atNumber a_atomSort a_atomKind a_atomValue v_wrong v_wrongAt v_variable v_number v_numberKind v_takes a_out v_outed a_varSort_9 a_varKind_19 a_varValue_29 a_creature v_creatures a_arrayClass a_arrayFrom a_arrayLong v_arrays v_cells a_cellSort a_cellKind a_cellValue a_asideSort a_asideKind a_asideValue a_outcome v_marks v_came v_guessed v_right v_taken a_markSort a_markKind a_markClass a_markValue v_sort v_kindAt v_value a_index v_reached v_looked) := by rw [e_a_varValue_29]; exact hD
  subst hAe
  rw [hQ]
  exact W.vret hx hb hr (fun t ht hW => ⟨⟨_, rfl, ⟨a_varSort_9, a_varKind_19, a_varValue_29, rfl, by exact p_2.setVar p_3 e_a_varSort_9 e_a_varKind_19 e_a_varValue_29⟩, by rw [ht]; exact hP, va_K.moved hW.alike hK, hD⟩, hS.F ht⟩) hS.2.2 dX10_toVar_30

def rmX10_ofCell : Room := { frames := 20, cells := 0, slots := 0, locals := 400 }
set_option maxHeartbeats 4000000 in
set_option maxRecDepth 100000 in
theorem tX10_ofCell {l : Launch} {D : va_G} {K : Nat → Nat → Nat} {cs : Nat → ClassId} {q : Nat → Nat} {v_thrown v_taped v_size v_to v_kind v_from v_letterMany v_isBeyond v_suffix v_steps v_fault v_hasProgram v_wrong v_wrongAt v_variable v_numberKind v_takes v_outed v_creatures v_arrays v_cells v_marks v_came v_guessed v_right v_taken v_sort v_kindAt v_reached v_looked : Int32} {a_tape a_text a_act a_guess a_take a_begin a_finish a_to1 a_one a_two a_what a_ats a_atVar a_atNumber a_atomSort a_atomKind a_out a_varSort a_varKind a_creature a_arrayClass a_arrayFrom a_arrayLong a_cellSort a_cellKind a_asideSort a_asideKind a_outcome a_markSort a_markKind a_markClass a_index : Nat → Int32} {v_letters v_digits v_number v_value : Int64} {a_atomValue a_varValue a_cellValue a_asideValue a_markValue : Nat → Int64} (a9 : Int32) (i9 : Int32) (p_0 : RUN a_varSort a_varKind a_varValue v_arrays v_cells v_creatures a_arrayClass a_arrayFrom a_arrayLong a_cellSort a_cellKind a_cellValue) (p_1 : 0 ≤ a9.toInt) (p_2 : a9.toInt < v_arrays.toInt) (p_3 : 0 ≤ i9.toInt) (p_4 : i9.toInt < (a_arrayLong a9.toNatClampNeg).toInt) : CtV l yX10_ofCell (wG yX10_ofCell cX10_ofCell 4 none) rmX10_ofCell D (mwT cs) K [.ref (q 0), .int a9, .int i9] (mw cs q v_thrown a_tape v_taped v_size v_to v_kind v_from v_letters v_letterMany v_digits v_isBeyond v_suffix v_steps v_fault v_hasProgram a_text a_act a_guess a_take a_begin a_finish a_to1 a_one a_two a_what a_ats a_atVar a_atNumber a_atomSort a_atomKind a_atomValue v_wrong v_wrongAt v_variable v_number v_numberKind v_takes a_out v_outed a_varSort a_varKind a_varValue a_creature v_creatures a_arrayClass a_arrayFrom a_arrayLong v_arrays v_cells a_cellSort a_cellKind a_cellValue a_asideSort a_asideKind a_asideValue a_outcome v_marks v_came v_guessed v_right v_taken a_markSort a_markKind a_markClass a_markValue v_sort v_kindAt v_value a_index v_reached v_looked) (fun w1 => ∃ (v_sort' : Int32) (v_kindAt' : Int32) (v_value' : Int64), w1 = (mw cs q v_thrown a_tape v_taped v_size v_to v_kind v_from v_letters v_letterMany v_digits v_isBeyond v_suffix v_steps v_fault v_hasProgram a_text a_act a_guess a_take a_begin a_finish a_to1 a_one a_two a_what a_ats a_atVar a_atNumber a_atomSort a_atomKind a_atomValue v_wrong v_wrongAt v_variable v_number v_numberKind v_takes a_out v_outed a_varSort a_varKind a_varValue a_creature v_creatures a_arrayClass a_arrayFrom a_arrayLong v_arrays v_cells a_cellSort a_cellKind a_cellValue a_asideSort a_asideKind a_asideValue a_outcome v_marks v_came v_guessed v_right v_taken a_markSort a_markKind a_markClass a_markValue v_sort' v_kindAt' v_value' a_index v_reached v_looked) ∧ (VOK v_arrays.toInt v_creatures.toInt v_sort' v_kindAt' v_value') ∧ (v_sort'.toInt = 3 → (a_arrayClass v_value'.toInt.toNat).toInt / 20 + 1 = (a_arrayClass a9.toNatClampNeg).toInt / 20) ∧ ((a_arrayClass a9.toNatClampNeg).toInt < 28 → v_sort'.toInt = 1)) 0 0 := by
  intro sz
  refine Met.ofW (cc := cX10_ofCell) (maxL := 4) (ret := none) (by decide) rfl ?_
  intro p e s m args below meth c s₁ B hml hv
  obtain ⟨rfl, hsz, hP, hK, hD0, hE⟩ := hv
  have hx := B.exec
  have hb := B.bytes
  have hr := B.returns
  have hts := atoms_spec (ws := (wG yX10_ofCell cX10_ofCell 4 none)) B.pre
  have hown : s.vm.findClass RX10 = some m.cls := findClass_of_methodNamed B.named
  have hlocks := B.notSynchronized
  subst hsz
  have hD := hD0.self (sz := s.heap.size)
  obtain ⟨A, hAe⟩ : ∃ A : Nat → Prop, A = va_A (mw cs q v_thrown a_tape v_taped v_size v_to v_kind v_from v_letters v_letterMany v_digits v_isBeyond v_suffix v_steps v_fault v_hasProgram a_text a_act a_guess a_take a_begin a_finish a_to1 a_one a_two a_what a_ats a_atVar a_atNumber a_atomSort a_atomKind a_atomValue v_wrong v_wrongAt v_variable v_number v_numberKind v_takes a_out v_outed a_varSort a_varKind a_varValue a_creature v_creatures a_arrayClass a_arrayFrom a_arrayLong v_arrays v_cells a_cellSort a_cellKind a_cellValue a_asideSort a_asideKind a_asideValue a_outcome v_marks v_came v_guessed v_right v_taken a_markSort a_markKind a_markClass a_markValue v_sort v_kindAt v_value a_index v_reached v_looked) s.heap.size := ⟨_, rfl⟩
  rw [← hAe] at hD hE
  have hA : ∀ q : Nat, s.heap.size ≤ q → A q := fun q h => by rw [hAe]; exact Or.inr h
  have hS : va_S A s.heap s.heap [] := va_S.rf
  have hl := lv_entry ([.ref (q 0), .int a9, .int i9]) (n := 4) (Nat.le_of_ble_eq_true rfl)
  rw [lg_entry_eq]
  generalize (lg_sl ([.ref (q 0), .int a9, .int i9]) ++ List.replicate (4 - (lg_sl ([.ref (q 0), .int a9, .int i9])).length) Slot.unset).toArray = ls at hl ⊢
  have hl : lv_has ls 4 [(0, .ref (q 0)), (1, .int a9), (2, .int i9)] := hl
  refine wq (fun Q hQ => ?_)
  have hin : ∀ w ∈ wsX100, w ∈ (wG yX10_ofCell cX10_ofCell 4 none) := fun w h => List.mem_cons_of_mem _ (inlX10 w h)
  have k_6_6 := hts (.fieldLink RX10 80 "ArrayTrainerModel" "arrayFrom" "[I") (List.mem_cons_of_mem _ (wr6 _ (List.mem_of_getElem? (i := 6) rfl)))
  have k_6_8 := hts (.fieldLink RX10 86 "ArrayTrainerModel" "cellSort" "[I") (List.mem_cons_of_mem _ (wr6 _ (List.mem_of_getElem? (i := 8) rfl)))
  have k_47_12 := hts (.fieldLink RX10 493 "ArrayTrainerModel" "sort" "I") (List.mem_cons_of_mem _ (wr47 _ (List.mem_of_getElem? (i := 12) rfl)))
  have k_6_9 := hts (.fieldLink RX10 89 "ArrayTrainerModel" "cellKind" "[I") (List.mem_cons_of_mem _ (wr6 _ (List.mem_of_getElem? (i := 9) rfl)))
  have k_47_13 := hts (.fieldLink RX10 496 "ArrayTrainerModel" "kindAt" "I") (List.mem_cons_of_mem _ (wr47 _ (List.mem_of_getElem? (i := 13) rfl)))
  have k_6_10 := hts (.fieldLink RX10 92 "ArrayTrainerModel" "cellValue" "[J") (List.mem_cons_of_mem _ (wr6 _ (List.mem_of_getElem? (i := 10) rfl)))
  have k_47_14 := hts (.fieldLink RX10 499 "ArrayTrainerModel" "value" "J") (List.mem_cons_of_mem _ (wr47 _ (List.mem_of_getElem? (i := 14) rfl)))
  obtain ⟨H, hH⟩ : ∃ H : Heap, H = s.heap := ⟨_, rfl⟩
  obtain ⟨locs, hlc⟩ : ∃ L : List Loc, L = [] := ⟨_, rfl⟩
  have hP : va_P D vwCl (mw cs q v_thrown a_tape v_taped v_size v_to v_kind v_from v_letters v_letterMany v_digits v_isBeyond v_suffix v_steps v_fault v_hasProgram a_text a_act a_guess a_take a_begin a_finish a_to1 a_one a_two a_what a_ats a_atVar a_atNumber a_atomSort a_atomKind a_atomValue v_wrong v_wrongAt v_variable v_number v_numberKind v_takes a_out v_outed a_varSort a_varKind a_varValue a_creature v_creatures a_arrayClass a_arrayFrom a_arrayLong v_arrays v_cells a_cellSort a_cellKind a_cellValue a_asideSort a_asideKind a_asideValue a_outcome v_marks v_came v_guessed v_right v_taken a_markSort a_markKind a_markClass a_markValue v_sort v_kindAt v_value a_index v_reached v_looked) H := by rw [hH]; exact hP
  have hS : va_S A s.heap H locs := by rw [hH, hlc]; exact hS
  refine wHL hH hlc ?_
  have b_a9 := iB a9
  have b_i9 := iB i9
  have ta := tn (i := a9) (by omega)
  have ti9 := tn (i := i9) (by omega)
  have ha9 := p_0.2.1 a9.toNatClampNeg (by omega)
  obtain ⟨hc9, hf9, hl9, hs9⟩ := ha9
  have hr9 := p_0.1
  refine lv_aload_n hx hb dX10_ofCell_0 rfl (lv_at hl 0 rfl) ?_
  refine va_get (D := D) (ci := 9) (v := .ref (q 24)) (C := RX10) (T := TX10) (N := 71) hx hb hts hin hown hK hP 0 rfl rfl 45 (by decide) k_6_6 (fun _ h9 => h9) rfl dX10_ofCell_1 ?_
  refine lv_iload_n hx hb dX10_ofCell_4 rfl (lv_at hl 1 rfl) ?_
  refine m_iald hx hb hK hP 24 0 rfl rfl (ix (by omega) (by omega)) dX10_ofCell_5 (fun x5 e_x5 => ?_)
  have b_x5 := iB x5
  have hx5 := congrArg Int32.toInt e_x5
  refine lv_iload_n hx hb dX10_ofCell_6 rfl (lv_at hl 2 rfl) ?_
  refine m_iadd (X := x5.toInt) (Y := i9.toInt) hx hb dX10_ofCell_7 rfl rfl (fun x7 e_x7 g9 => ?_)
  obtain ⟨k_x7, g_x7⟩ := g9
  have b_x7 := iB x7
  try (have q_x7 : x7.toInt = x5.toInt + i9.toInt := (by omega); clear g_x7 k_x7)
  refine lv_istore_n (lv' := [(3, .int x7), (0, .ref (q 0)), (1, .int a9), (2, .int i9)]) hx hb dX10_ofCell_8 rfl hl (by decide) rfl (fun ls hl => ?_)
  refine lv_aload_n hx hb dX10_ofCell_9 rfl (lv_at hl 1 rfl) ?_
  refine lv_aload_n hx hb dX10_ofCell_10 rfl (lv_at hl 1 rfl) ?_
  refine va_get (D := D) (ci := 9) (v := .ref (q 26)) (C := RX10) (T := TX10) (N := 71) hx hb hts hin hown hK hP 0 rfl rfl 49 (by decide) k_6_8 (fun _ h9 => h9) rfl dX10_ofCell_11 ?_
  refine lv_iload_n hx hb dX10_ofCell_14 rfl (lv_at hl 0 rfl) ?_
  refine m_iald hx hb hK hP 26 0 rfl rfl (ix (by omega) (by omega)) dX10_ofCell_15 (fun x15 e_x15 => ?_)
  have b_x15 := iB x15
  refine va_put (D := D) (ci := 9) (v := .int x15) (ty := .int) (C := RX10) (T := TX10) (N := 71) hx hb hts hin tyX10 tyX10_ok nmX10 hown hK hP hD hS 0 rfl rfl 65 (by decide) k_47_12 (fun _ h9 => h9) rfl (by decide +kernel) rfl rfl (Nat.le_of_ble_eq_true rfl) dX10_ofCell_16 (fun H locs hP hD hS => ?_)
  have hP : va_P D vwCl (mw cs q v_thrown a_tape v_taped v_size v_to v_kind v_from v_letters v_letterMany v_digits v_isBeyond v_suffix v_steps v_fault v_hasProgram a_text a_act a_guess a_take a_begin a_finish a_to1 a_one a_two a_what a_ats a_atVar a_atNumber a_atomSort a_atomKind a_atomValue v_wrong v_wrongAt v_variable v_number v_numberKind v_takes a_out v_outed a_varSort a_varKind a_varValue a_creature v_creatures a_arrayClass a_arrayFrom a_arrayLong v_arrays v_cells a_cellSort a_cellKind a_cellValue a_asideSort a_asideKind a_asideValue a_outcome v_marks v_came v_guessed v_right v_taken a_markSort a_markKind a_markClass a_markValue x15 v_kindAt v_value a_index v_reached v_looked) H := hP
  have hD : va_D A (mw cs q v_thrown a_tape v_taped v_size v_to v_kind v_from v_letters v_letterMany v_digits v_isBeyond v_suffix v_steps v_fault v_hasProgram a_text a_act a_guess a_take a_begin a_finish a_to1 a_one a_two a_what a_ats a_atVar a_atNumber a_atomSort a_atomKind a_atomValue v_wrong v_wrongAt v_variable v_number v_numberKind v_takes a_out v_outed a_varSort a_varKind a_varValue a_creature v_creatures a_arrayClass a_arrayFrom a_arrayLong v_arrays v_cells a_cellSort a_cellKind a_cellValue a_asideSort a_asideKind a_asideValue a_outcome v_marks v_came v_guessed v_right v_taken a_markSort a_markKind a_markClass a_markValue x15 v_kindAt v_value a_index v_reached v_looked) := hD
  refine lv_aload_n hx hb dX10_ofCell_19 rfl (lv_at hl 1 rfl) ?_
  refine lv_aload_n hx hb dX10_ofCell_20 rfl (lv_at hl 1 rfl) ?_
  refine va_get (D := D) (ci := 9) (v := .ref (q 27)) (C := RX10) (T := TX10) (N := 71) hx hb hts hin hown hK hP 0 rfl rfl 50 (by decide) k_6_9 (fun _ h9 => h9) rfl dX10_ofCell_21 ?_
  refine lv_iload_n hx hb dX10_ofCell_24 rfl (lv_at hl 0 rfl) ?_
  refine m_iald hx hb hK hP 27 0 rfl rfl (ix (by omega) (by omega)) dX10_ofCell_25 (fun x25 e_x25 => ?_)
  have b_x25 := iB x25
  refine va_put (D := D) (ci := 9) (v := .int x25) (ty := .int) (C := RX10) (T := TX10) (N := 71) hx hb hts hin tyX10 tyX10_ok nmX10 hown hK hP hD hS 0 rfl rfl 66 (by decide) k_47_13 (fun _ h9 => h9) rfl (by decide +kernel) rfl rfl (Nat.le_of_ble_eq_true rfl) dX10_ofCell_26 (fun H locs hP hD hS => ?_)
  have hP : va_P D vwCl (mw cs q v_thrown a_tape v_taped v_size v_to v_kind v_from v_letters v_letterMany v_digits v_isBeyond v_suffix v_steps v_fault v_hasProgram a_text a_act a_guess a_take a_begin a_finish a_to1 a_one a_two a_what a_ats a_atVar a_atNumber a_atomSort a_atomKind a_atomValue v_wrong v_wrongAt v_variable v_number v_numberKind v_takes a_out v_outed a_varSort a_varKind a_varValue a_creature v_creatures a_arrayClass a_arrayFrom a_arrayLong v_arrays v_cells a_cellSort a_cellKind a_cellValue a_asideSort a_asideKind a_asideValue a_outcome v_marks v_came v_guessed v_right v_taken a_markSort a_markKind a_markClass a_markValue x15 x25 v_value a_index v_reached v_looked) H := hP
  have hD : va_D A (mw cs q v_thrown a_tape v_taped v_size v_to v_kind v_from v_letters v_letterMany v_digits v_isBeyond v_suffix v_steps v_fault v_hasProgram a_text a_act a_guess a_take a_begin a_finish a_to1 a_one a_two a_what a_ats a_atVar a_atNumber a_atomSort a_atomKind a_atomValue v_wrong v_wrongAt v_variable v_number v_numberKind v_takes a_out v_outed a_varSort a_varKind a_varValue a_creature v_creatures a_arrayClass a_arrayFrom a_arrayLong v_arrays v_cells a_cellSort a_cellKind a_cellValue a_asideSort a_asideKind a_asideValue a_outcome v_marks v_came v_guessed v_right v_taken a_markSort a_markKind a_markClass a_markValue x15 x25 v_value a_index v_reached v_looked) := hD
  refine lv_aload_n hx hb dX10_ofCell_29 rfl (lv_at hl 1 rfl) ?_
  refine lv_aload_n hx hb dX10_ofCell_30 rfl (lv_at hl 1 rfl) ?_
  refine va_get (D := D) (ci := 9) (v := .ref (q 28)) (C := RX10) (T := TX10) (N := 71) hx hb hts hin hown hK hP 0 rfl rfl 51 (by decide) k_6_10 (fun _ h9 => h9) rfl dX10_ofCell_31 ?_
  refine lv_iload_n hx hb dX10_ofCell_34 rfl (lv_at hl 0 rfl) ?_
  refine m_lald hx hb hK hP 28 1 rfl rfl (ix (by omega) (by omega)) dX10_ofCell_35 (fun x35 e_x35 => ?_)
  have b_x35 := jB x35
  refine va_put (D := D) (ci := 9) (v := .long x35) (ty := .long) (C := RX10) (T := TX10) (N := 71) hx hb hts hin tyX10 tyX10_ok nmX10 hown hK hP hD hS 0 rfl rfl 67 (by decide) k_47_14 (fun _ h9 => h9) rfl (by decide +kernel) rfl rfl (Nat.le_of_ble_eq_true rfl) dX10_ofCell_36 (fun H locs hP hD hS => ?_)
  have hP : va_P D vwCl (mw cs q v_thrown a_tape v_taped v_size v_to v_kind v_from v_letters v_letterMany v_digits v_isBeyond v_suffix v_steps v_fault v_hasProgram a_text a_act a_guess a_take a_begin a_finish a_to1 a_one a_two a_what a_ats a_atVar a_atNumber a_atomSort a_atomKind a_atomValue v_wrong v_wrongAt v_variable v_number v_numberKind v_takes a_out v_outed a_varSort a_varKind a_varValue a_creature v_creatures a_arrayClass a_arrayFrom a_arrayLong v_arrays v_cells a_cellSort a_cellKind a_cellValue a_asideSort a_asideKind a_asideValue a_outcome v_marks v_came v_guessed v_right v_taken a_markSort a_markKind a_markClass a_markValue x15 x25 x35 a_index v_reached v_looked) H := hP
  have hD : va_D A (mw cs q v_thrown a_tape v_taped v_size v_to v_kind v_from v_letters v_letterMany v_digits v_isBeyond v_suffix v_steps v_fault v_hasProgram a_text a_act a_guess a_take a_begin a_finish a_to1 a_one a_two a_what a_ats a_atVar a_atNumber a_atomSort a_atomKind a_atomValue v_wrong v_wrongAt v_variable v_number v_numberKind v_takes a_out v_outed a_varSort a_varKind a_varValue a_creature v_creatures a_arrayClass a_arrayFrom a_arrayLong v_arrays v_cells a_cellSort a_cellKind a_cellValue a_asideSort a_asideKind a_asideValue a_outcome v_marks v_came v_guessed v_right v_taken a_markSort a_markKind a_markClass a_markValue x15 x25 x35 a_index v_reached v_looked) := hD
  have tf := tn (i := a_arrayFrom a9.toNatClampNeg) (by omega)
  have tx := tn (i := x7) (by omega)
  have hh := p_0.2.2.2.1 a9.toNatClampNeg i9.toNatClampNeg (by omega) (by omega)
  rw [show (a_arrayFrom a9.toNatClampNeg).toNatClampNeg + i9.toNatClampNeg = x7.toNatClampNeg by omega] at hh
  obtain ⟨hh1, hh2, hh3⟩ := hh
  rw [← e_x15, ← e_x25, ← e_x35] at hh1
  rw [← e_x15, ← e_x35] at hh2
  rw [← e_x15] at hh3
  subst hAe
  rw [hQ]
  exact W.vret hx hb hr (fun t ht hW => ⟨⟨_, rfl, ⟨x15, x25, x35, rfl, by first | assumption | omega | (intros; omega) | decide, by first | assumption | omega | (intros; omega) | decide, by first | assumption | omega | (intros; omega) | decide⟩, by rw [ht]; exact hP, va_K.moved hW.alike hK, hD⟩, hS.F ht⟩) hS.2.2 dX10_ofCell_39

def rmX10_toCell : Room := { frames := 20, cells := 0, slots := 0, locals := 400 }
set_option maxHeartbeats 4000000 in
set_option maxRecDepth 100000 in
theorem tX10_toCell {l : Launch} {D : va_G} {K : Nat → Nat → Nat} {cs : Nat → ClassId} {q : Nat → Nat} {v_thrown v_taped v_size v_to v_kind v_from v_letterMany v_isBeyond v_suffix v_steps v_fault v_hasProgram v_wrong v_wrongAt v_variable v_numberKind v_takes v_outed v_creatures v_arrays v_cells v_marks v_came v_guessed v_right v_taken v_sort v_kindAt v_reached v_looked : Int32} {a_tape a_text a_act a_guess a_take a_begin a_finish a_to1 a_one a_two a_what a_ats a_atVar a_atNumber a_atomSort a_atomKind a_out a_varSort a_varKind a_creature a_arrayClass a_arrayFrom a_arrayLong a_cellSort a_cellKind a_asideSort a_asideKind a_outcome a_markSort a_markKind a_markClass a_index : Nat → Int32} {v_letters v_digits v_number v_value : Int64} {a_atomValue a_varValue a_cellValue a_asideValue a_markValue : Nat → Int64} (a9 : Int32) (i9 : Int32) (p_0 : 0 ≤ a9.toInt) (p_1 : a9.toInt < 210) (p_2 : 0 ≤ i9.toInt) (p_3 : 0 ≤ (a_arrayFrom a9.toNatClampNeg).toInt) (p_4 : (a_arrayFrom a9.toNatClampNeg).toInt + i9.toInt < 4100) : CtV l yX10_toCell (wG yX10_toCell cX10_toCell 4 none) rmX10_toCell D (mwT cs) K [.ref (q 0), .int a9, .int i9] (mw cs q v_thrown a_tape v_taped v_size v_to v_kind v_from v_letters v_letterMany v_digits v_isBeyond v_suffix v_steps v_fault v_hasProgram a_text a_act a_guess a_take a_begin a_finish a_to1 a_one a_two a_what a_ats a_atVar a_atNumber a_atomSort a_atomKind a_atomValue v_wrong v_wrongAt v_variable v_number v_numberKind v_takes a_out v_outed a_varSort a_varKind a_varValue a_creature v_creatures a_arrayClass a_arrayFrom a_arrayLong v_arrays v_cells a_cellSort a_cellKind a_cellValue a_asideSort a_asideKind a_asideValue a_outcome v_marks v_came v_guessed v_right v_taken a_markSort a_markKind a_markClass a_markValue v_sort v_kindAt v_value a_index v_reached v_looked) (fun w1 => ∃ (a_cellSort' : Nat → Int32) (a_cellKind' : Nat → Int32) (a_cellValue' : Nat → Int64), w1 = (mw cs q v_thrown a_tape v_taped v_size v_to v_kind v_from v_letters v_letterMany v_digits v_isBeyond v_suffix v_steps v_fault v_hasProgram a_text a_act a_guess a_take a_begin a_finish a_to1 a_one a_two a_what a_ats a_atVar a_atNumber a_atomSort a_atomKind a_atomValue v_wrong v_wrongAt v_variable v_number v_numberKind v_takes a_out v_outed a_varSort a_varKind a_varValue a_creature v_creatures a_arrayClass a_arrayFrom a_arrayLong v_arrays v_cells a_cellSort' a_cellKind' a_cellValue' a_asideSort a_asideKind a_asideValue a_outcome v_marks v_came v_guessed v_right v_taken a_markSort a_markKind a_markClass a_markValue v_sort v_kindAt v_value a_index v_reached v_looked) ∧ (a_cellSort' = upd a_cellSort ((a_arrayFrom a9.toNatClampNeg).toNatClampNeg + i9.toNatClampNeg) v_sort) ∧ (a_cellKind' = upd a_cellKind ((a_arrayFrom a9.toNatClampNeg).toNatClampNeg + i9.toNatClampNeg) v_kindAt) ∧ (a_cellValue' = vp_updL a_cellValue ((a_arrayFrom a9.toNatClampNeg).toNatClampNeg + i9.toNatClampNeg) v_value)) 0 0 := by
  intro sz
  refine Met.ofW (cc := cX10_toCell) (maxL := 4) (ret := none) (by decide) rfl ?_
  intro p e s m args below meth c s₁ B hml hv
  obtain ⟨rfl, hsz, hP, hK, hD0, hE⟩ := hv
  have hx := B.exec
  have hb := B.bytes
  have hr := B.returns
  have hts := atoms_spec (ws := (wG yX10_toCell cX10_toCell 4 none)) B.pre
  have hown : s.vm.findClass RX10 = some m.cls := findClass_of_methodNamed B.named
  have hlocks := B.notSynchronized
  subst hsz
  have hD := hD0.self (sz := s.heap.size)
  obtain ⟨A, hAe⟩ : ∃ A : Nat → Prop, A = va_A (mw cs q v_thrown a_tape v_taped v_size v_to v_kind v_from v_letters v_letterMany v_digits v_isBeyond v_suffix v_steps v_fault v_hasProgram a_text a_act a_guess a_take a_begin a_finish a_to1 a_one a_two a_what a_ats a_atVar a_atNumber a_atomSort a_atomKind a_atomValue v_wrong v_wrongAt v_variable v_number v_numberKind v_takes a_out v_outed a_varSort a_varKind a_varValue a_creature v_creatures a_arrayClass a_arrayFrom a_arrayLong v_arrays v_cells a_cellSort a_cellKind a_cellValue a_asideSort a_asideKind a_asideValue a_outcome v_marks v_came v_guessed v_right v_taken a_markSort a_markKind a_markClass a_markValue v_sort v_kindAt v_value a_index v_reached v_looked) s.heap.size := ⟨_, rfl⟩
  rw [← hAe] at hD hE
  have hA : ∀ q : Nat, s.heap.size ≤ q → A q := fun q h => by rw [hAe]; exact Or.inr h
  have hS : va_S A s.heap s.heap [] := va_S.rf
  have hl := lv_entry ([.ref (q 0), .int a9, .int i9]) (n := 4) (Nat.le_of_ble_eq_true rfl)
  rw [lg_entry_eq]
  generalize (lg_sl ([.ref (q 0), .int a9, .int i9]) ++ List.replicate (4 - (lg_sl ([.ref (q 0), .int a9, .int i9])).length) Slot.unset).toArray = ls at hl ⊢
  have hl : lv_has ls 4 [(0, .ref (q 0)), (1, .int a9), (2, .int i9)] := hl
  refine wq (fun Q hQ => ?_)
  have hin : ∀ w ∈ wsX100, w ∈ (wG yX10_toCell cX10_toCell 4 none) := fun w h => List.mem_cons_of_mem _ (inlX10 w h)
  have k_6_6 := hts (.fieldLink RX10 80 "ArrayTrainerModel" "arrayFrom" "[I") (List.mem_cons_of_mem _ (wr6 _ (List.mem_of_getElem? (i := 6) rfl)))
  have k_6_8 := hts (.fieldLink RX10 86 "ArrayTrainerModel" "cellSort" "[I") (List.mem_cons_of_mem _ (wr6 _ (List.mem_of_getElem? (i := 8) rfl)))
  have k_47_12 := hts (.fieldLink RX10 493 "ArrayTrainerModel" "sort" "I") (List.mem_cons_of_mem _ (wr47 _ (List.mem_of_getElem? (i := 12) rfl)))
  have k_6_9 := hts (.fieldLink RX10 89 "ArrayTrainerModel" "cellKind" "[I") (List.mem_cons_of_mem _ (wr6 _ (List.mem_of_getElem? (i := 9) rfl)))
  have k_47_13 := hts (.fieldLink RX10 496 "ArrayTrainerModel" "kindAt" "I") (List.mem_cons_of_mem _ (wr47 _ (List.mem_of_getElem? (i := 13) rfl)))
  have k_6_10 := hts (.fieldLink RX10 92 "ArrayTrainerModel" "cellValue" "[J") (List.mem_cons_of_mem _ (wr6 _ (List.mem_of_getElem? (i := 10) rfl)))
  have k_47_14 := hts (.fieldLink RX10 499 "ArrayTrainerModel" "value" "J") (List.mem_cons_of_mem _ (wr47 _ (List.mem_of_getElem? (i := 14) rfl)))
  obtain ⟨H, hH⟩ : ∃ H : Heap, H = s.heap := ⟨_, rfl⟩
  obtain ⟨locs, hlc⟩ : ∃ L : List Loc, L = [] := ⟨_, rfl⟩
  have hP : va_P D vwCl (mw cs q v_thrown a_tape v_taped v_size v_to v_kind v_from v_letters v_letterMany v_digits v_isBeyond v_suffix v_steps v_fault v_hasProgram a_text a_act a_guess a_take a_begin a_finish a_to1 a_one a_two a_what a_ats a_atVar a_atNumber a_atomSort a_atomKind a_atomValue v_wrong v_wrongAt v_variable v_number v_numberKind v_takes a_out v_outed a_varSort a_varKind a_varValue a_creature v_creatures a_arrayClass a_arrayFrom a_arrayLong v_arrays v_cells a_cellSort a_cellKind a_cellValue a_asideSort a_asideKind a_asideValue a_outcome v_marks v_came v_guessed v_right v_taken a_markSort a_markKind a_markClass a_markValue v_sort v_kindAt v_value a_index v_reached v_looked) H := by rw [hH]; exact hP
  have hS : va_S A s.heap H locs := by rw [hH, hlc]; exact hS
  refine wHL hH hlc ?_
  have b_a9 := iB a9
  have b_i9 := iB i9
  refine lv_aload_n hx hb dX10_toCell_0 rfl (lv_at hl 0 rfl) ?_
  refine va_get (D := D) (ci := 9) (v := .ref (q 24)) (C := RX10) (T := TX10) (N := 71) hx hb hts hin hown hK hP 0 rfl rfl 45 (by decide) k_6_6 (fun _ h9 => h9) rfl dX10_toCell_1 ?_
  refine lv_iload_n hx hb dX10_toCell_4 rfl (lv_at hl 1 rfl) ?_
  refine m_iald hx hb hK hP 24 0 rfl rfl (ix (by omega) (by omega)) dX10_toCell_5 (fun x5 e_x5 => ?_)
  have b_x5 := iB x5
  have hx5 := congrArg Int32.toInt e_x5
  have ti9 := tn (i := i9) (by omega)
  refine lv_iload_n hx hb dX10_toCell_6 rfl (lv_at hl 2 rfl) ?_
  refine m_iadd (X := x5.toInt) (Y := i9.toInt) hx hb dX10_toCell_7 rfl rfl (fun x7 e_x7 g9 => ?_)
  obtain ⟨k_x7, g_x7⟩ := g9
  have b_x7 := iB x7
  try (have q_x7 : x7.toInt = x5.toInt + i9.toInt := (by omega); clear g_x7 k_x7)
  refine lv_istore_n (lv' := [(3, .int x7), (0, .ref (q 0)), (1, .int a9), (2, .int i9)]) hx hb dX10_toCell_8 rfl hl (by decide) rfl (fun ls hl => ?_)
  refine lv_aload_n hx hb dX10_toCell_9 rfl (lv_at hl 1 rfl) ?_
  refine va_get (D := D) (ci := 9) (v := .ref (q 26)) (C := RX10) (T := TX10) (N := 71) hx hb hts hin hown hK hP 0 rfl rfl 49 (by decide) k_6_8 (fun _ h9 => h9) rfl dX10_toCell_10 ?_
  refine lv_iload_n hx hb dX10_toCell_13 rfl (lv_at hl 0 rfl) ?_
  refine lv_aload_n hx hb dX10_toCell_14 rfl (lv_at hl 1 rfl) ?_
  refine va_get (D := D) (ci := 9) (v := .int v_sort) (C := RX10) (T := TX10) (N := 71) hx hb hts hin hown hK hP 0 rfl rfl 65 (by decide) k_47_12 (fun _ h9 => h9) rfl dX10_toCell_15 ?_
  refine va_iast hx hb hK hP hD hS 26 0 rfl rfl (ix (by omega) (by omega)) dX10_toCell_18 (fun H locs hP hD hS => ?_)
  obtain ⟨a_cellSort_18, e_a_cellSort_18⟩ : ∃ g, g = upd a_cellSort x7.toNatClampNeg v_sort := ⟨_, rfl⟩
  have hP : va_P D vwCl (mw cs q v_thrown a_tape v_taped v_size v_to v_kind v_from v_letters v_letterMany v_digits v_isBeyond v_suffix v_steps v_fault v_hasProgram a_text a_act a_guess a_take a_begin a_finish a_to1 a_one a_two a_what a_ats a_atVar a_atNumber a_atomSort a_atomKind a_atomValue v_wrong v_wrongAt v_variable v_number v_numberKind v_takes a_out v_outed a_varSort a_varKind a_varValue a_creature v_creatures a_arrayClass a_arrayFrom a_arrayLong v_arrays v_cells a_cellSort_18 a_cellKind a_cellValue a_asideSort a_asideKind a_asideValue a_outcome v_marks v_came v_guessed v_right v_taken a_markSort a_markKind a_markClass a_markValue v_sort v_kindAt v_value a_index v_reached v_looked) H := by rw [e_a_cellSort_18]; exact hP
  have hD : va_D A (mw cs q v_thrown a_tape v_taped v_size v_to v_kind v_from v_letters v_letterMany v_digits v_isBeyond v_suffix v_steps v_fault v_hasProgram a_text a_act a_guess a_take a_begin a_finish a_to1 a_one a_two a_what a_ats a_atVar a_atNumber a_atomSort a_atomKind a_atomValue v_wrong v_wrongAt v_variable v_number v_numberKind v_takes a_out v_outed a_varSort a_varKind a_varValue a_creature v_creatures a_arrayClass a_arrayFrom a_arrayLong v_arrays v_cells a_cellSort_18 a_cellKind a_cellValue a_asideSort a_asideKind a_asideValue a_outcome v_marks v_came v_guessed v_right v_taken a_markSort a_markKind a_markClass a_markValue v_sort v_kindAt v_value a_index v_reached v_looked) := by rw [e_a_cellSort_18]; exact hD
  refine lv_aload_n hx hb dX10_toCell_19 rfl (lv_at hl 1 rfl) ?_
  refine va_get (D := D) (ci := 9) (v := .ref (q 27)) (C := RX10) (T := TX10) (N := 71) hx hb hts hin hown hK hP 0 rfl rfl 50 (by decide) k_6_9 (fun _ h9 => h9) rfl dX10_toCell_20 ?_
  refine lv_iload_n hx hb dX10_toCell_23 rfl (lv_at hl 0 rfl) ?_
  refine lv_aload_n hx hb dX10_toCell_24 rfl (lv_at hl 1 rfl) ?_
  refine va_get (D := D) (ci := 9) (v := .int v_kindAt) (C := RX10) (T := TX10) (N := 71) hx hb hts hin hown hK hP 0 rfl rfl 66 (by decide) k_47_13 (fun _ h9 => h9) rfl dX10_toCell_25 ?_
  refine va_iast hx hb hK hP hD hS 27 0 rfl rfl (ix (by omega) (by omega)) dX10_toCell_28 (fun H locs hP hD hS => ?_)
  obtain ⟨a_cellKind_28, e_a_cellKind_28⟩ : ∃ g, g = upd a_cellKind x7.toNatClampNeg v_kindAt := ⟨_, rfl⟩
  have hP : va_P D vwCl (mw cs q v_thrown a_tape v_taped v_size v_to v_kind v_from v_letters v_letterMany v_digits v_isBeyond v_suffix v_steps v_fault v_hasProgram a_text a_act a_guess a_take a_begin a_finish a_to1 a_one a_two a_what a_ats a_atVar a_atNumber a_atomSort a_atomKind a_atomValue v_wrong v_wrongAt v_variable v_number v_numberKind v_takes a_out v_outed a_varSort a_varKind a_varValue a_creature v_creatures a_arrayClass a_arrayFrom a_arrayLong v_arrays v_cells a_cellSort_18 a_cellKind_28 a_cellValue a_asideSort a_asideKind a_asideValue a_outcome v_marks v_came v_guessed v_right v_taken a_markSort a_markKind a_markClass a_markValue v_sort v_kindAt v_value a_index v_reached v_looked) H := by rw [e_a_cellKind_28]; exact hP
  have hD : va_D A (mw cs q v_thrown a_tape v_taped v_size v_to v_kind v_from v_letters v_letterMany v_digits v_isBeyond v_suffix v_steps v_fault v_hasProgram a_text a_act a_guess a_take a_begin a_finish a_to1 a_one a_two a_what a_ats a_atVar a_atNumber a_atomSort a_atomKind a_atomValue v_wrong v_wrongAt v_variable v_number v_numberKind v_takes a_out v_outed a_varSort a_varKind a_varValue a_creature v_creatures a_arrayClass a_arrayFrom a_arrayLong v_arrays v_cells a_cellSort_18 a_cellKind_28 a_cellValue a_asideSort a_asideKind a_asideValue a_outcome v_marks v_came v_guessed v_right v_taken a_markSort a_markKind a_markClass a_markValue v_sort v_kindAt v_value a_index v_reached v_looked) := by rw [e_a_cellKind_28]; exact hD
  refine lv_aload_n hx hb dX10_toCell_29 rfl (lv_at hl 1 rfl) ?_
  refine va_get (D := D) (ci := 9) (v := .ref (q 28)) (C := RX10) (T := TX10) (N := 71) hx hb hts hin hown hK hP 0 rfl rfl 51 (by decide) k_6_10 (fun _ h9 => h9) rfl dX10_toCell_30 ?_
  refine lv_iload_n hx hb dX10_toCell_33 rfl (lv_at hl 0 rfl) ?_
  refine lv_aload_n hx hb dX10_toCell_34 rfl (lv_at hl 1 rfl) ?_
  refine va_get (D := D) (ci := 9) (v := .long v_value) (C := RX10) (T := TX10) (N := 71) hx hb hts hin hown hK hP 0 rfl rfl 67 (by decide) k_47_14 (fun _ h9 => h9) rfl dX10_toCell_35 ?_
  refine va_last hx hb hK hP hD hS 28 1 rfl rfl (ix (by omega) (by omega)) dX10_toCell_38 (fun H locs hP hD hS => ?_)
  obtain ⟨a_cellValue_38, e_a_cellValue_38⟩ : ∃ g, g = vp_updL a_cellValue x7.toNatClampNeg v_value := ⟨_, rfl⟩
  have hP : va_P D vwCl (mw cs q v_thrown a_tape v_taped v_size v_to v_kind v_from v_letters v_letterMany v_digits v_isBeyond v_suffix v_steps v_fault v_hasProgram a_text a_act a_guess a_take a_begin a_finish a_to1 a_one a_two a_what a_ats a_atVar a_atNumber a_atomSort a_atomKind a_atomValue v_wrong v_wrongAt v_variable v_number v_numberKind v_takes a_out v_outed a_varSort a_varKind a_varValue a_creature v_creatures a_arrayClass a_arrayFrom a_arrayLong v_arrays v_cells a_cellSort_18 a_cellKind_28 a_cellValue_38 a_asideSort a_asideKind a_asideValue a_outcome v_marks v_came v_guessed v_right v_taken a_markSort a_markKind a_markClass a_markValue v_sort v_kindAt v_value a_index v_reached v_looked) H := by rw [e_a_cellValue_38]; exact hP
  have hD : va_D A (mw cs q v_thrown a_tape v_taped v_size v_to v_kind v_from v_letters v_letterMany v_digits v_isBeyond v_suffix v_steps v_fault v_hasProgram a_text a_act a_guess a_take a_begin a_finish a_to1 a_one a_two a_what a_ats a_atVar a_atNumber a_atomSort a_atomKind a_atomValue v_wrong v_wrongAt v_variable v_number v_numberKind v_takes a_out v_outed a_varSort a_varKind a_varValue a_creature v_creatures a_arrayClass a_arrayFrom a_arrayLong v_arrays v_cells a_cellSort_18 a_cellKind_28 a_cellValue_38 a_asideSort a_asideKind a_asideValue a_outcome v_marks v_came v_guessed v_right v_taken a_markSort a_markKind a_markClass a_markValue v_sort v_kindAt v_value a_index v_reached v_looked) := by rw [e_a_cellValue_38]; exact hD
  have tf := tn (i := a_arrayFrom a9.toNatClampNeg) (by omega)
  have tx := tn (i := x7) (by omega)
  have ec : x7.toNatClampNeg = ((a_arrayFrom a9.toNatClampNeg).toNatClampNeg + i9.toNatClampNeg) := by omega
  subst hAe
  rw [hQ]
  exact W.vret hx hb hr (fun t ht hW => ⟨⟨_, rfl, ⟨a_cellSort_18, a_cellKind_28, a_cellValue_38, rfl, by rw [← ec]; exact e_a_cellSort_18, by rw [← ec]; exact e_a_cellKind_28, by rw [← ec]; exact e_a_cellValue_38⟩, by rw [ht]; exact hP, va_K.moved hW.alike hK, hD⟩, hS.F ht⟩) hS.2.2 dX10_toCell_39

def rmX10_classOf : Room := { frames := 20, cells := 0, slots := 0, locals := 400 }
set_option maxHeartbeats 4000000 in
set_option maxRecDepth 100000 in
theorem tX10_classOf {l : Launch} {D : va_G} {K : Nat → Nat → Nat} {cs : Nat → ClassId} {q : Nat → Nat} {v_thrown v_taped v_size v_to v_kind v_from v_letterMany v_isBeyond v_suffix v_steps v_fault v_hasProgram v_wrong v_wrongAt v_variable v_numberKind v_takes v_outed v_creatures v_arrays v_cells v_marks v_came v_guessed v_right v_taken v_sort v_kindAt v_reached v_looked : Int32} {a_tape a_text a_act a_guess a_take a_begin a_finish a_to1 a_one a_two a_what a_ats a_atVar a_atNumber a_atomSort a_atomKind a_out a_varSort a_varKind a_creature a_arrayClass a_arrayFrom a_arrayLong a_cellSort a_cellKind a_asideSort a_asideKind a_outcome a_markSort a_markKind a_markClass a_index : Nat → Int32} {v_letters v_digits v_number v_value : Int64} {a_atomValue a_varValue a_cellValue a_asideValue a_markValue : Nat → Int64} (p_0 : RUN a_varSort a_varKind a_varValue v_arrays v_cells v_creatures a_arrayClass a_arrayFrom a_arrayLong a_cellSort a_cellKind a_cellValue) (p_1 : VOK v_arrays.toInt v_creatures.toInt v_sort v_kindAt v_value) : CtI l yX10_classOf (wG yX10_classOf cX10_classOf 1 (some .int)) rmX10_classOf D (mwT cs) K [.ref (q 0)] (mw cs q v_thrown a_tape v_taped v_size v_to v_kind v_from v_letters v_letterMany v_digits v_isBeyond v_suffix v_steps v_fault v_hasProgram a_text a_act a_guess a_take a_begin a_finish a_to1 a_one a_two a_what a_ats a_atVar a_atNumber a_atomSort a_atomKind a_atomValue v_wrong v_wrongAt v_variable v_number v_numberKind v_takes a_out v_outed a_varSort a_varKind a_varValue a_creature v_creatures a_arrayClass a_arrayFrom a_arrayLong v_arrays v_cells a_cellSort a_cellKind a_cellValue a_asideSort a_asideKind a_asideValue a_outcome v_marks v_came v_guessed v_right v_taken a_markSort a_markKind a_markClass a_markValue v_sort v_kindAt v_value a_index v_reached v_looked) (fun r w1 => w1 = (mw cs q v_thrown a_tape v_taped v_size v_to v_kind v_from v_letters v_letterMany v_digits v_isBeyond v_suffix v_steps v_fault v_hasProgram a_text a_act a_guess a_take a_begin a_finish a_to1 a_one a_two a_what a_ats a_atVar a_atNumber a_atomSort a_atomKind a_atomValue v_wrong v_wrongAt v_variable v_number v_numberKind v_takes a_out v_outed a_varSort a_varKind a_varValue a_creature v_creatures a_arrayClass a_arrayFrom a_arrayLong v_arrays v_cells a_cellSort a_cellKind a_cellValue a_asideSort a_asideKind a_asideValue a_outcome v_marks v_came v_guessed v_right v_taken a_markSort a_markKind a_markClass a_markValue v_sort v_kindAt v_value a_index v_reached v_looked) ∧ (v_sort.toInt = 3 → r.toInt = (a_arrayClass v_value.toInt.toNat).toInt) ∧ (-1 ≤ r.toInt ∨ True)) 0 0 := by
  intro sz
  refine Met.ofW (cc := cX10_classOf) (maxL := 1) (ret := (some .int)) (by decide) rfl ?_
  intro p e s m args below meth c s₁ B hml hv
  obtain ⟨rfl, hsz, hP, hK, hD0, hE⟩ := hv
  have hx := B.exec
  have hb := B.bytes
  have hr := B.returns
  have hts := atoms_spec (ws := (wG yX10_classOf cX10_classOf 1 (some .int))) B.pre
  have hown : s.vm.findClass RX10 = some m.cls := findClass_of_methodNamed B.named
  have hlocks := B.notSynchronized
  subst hsz
  have hD := hD0.self (sz := s.heap.size)
  obtain ⟨A, hAe⟩ : ∃ A : Nat → Prop, A = va_A (mw cs q v_thrown a_tape v_taped v_size v_to v_kind v_from v_letters v_letterMany v_digits v_isBeyond v_suffix v_steps v_fault v_hasProgram a_text a_act a_guess a_take a_begin a_finish a_to1 a_one a_two a_what a_ats a_atVar a_atNumber a_atomSort a_atomKind a_atomValue v_wrong v_wrongAt v_variable v_number v_numberKind v_takes a_out v_outed a_varSort a_varKind a_varValue a_creature v_creatures a_arrayClass a_arrayFrom a_arrayLong v_arrays v_cells a_cellSort a_cellKind a_cellValue a_asideSort a_asideKind a_asideValue a_outcome v_marks v_came v_guessed v_right v_taken a_markSort a_markKind a_markClass a_markValue v_sort v_kindAt v_value a_index v_reached v_looked) s.heap.size := ⟨_, rfl⟩
  rw [← hAe] at hD hE
  have hA : ∀ q : Nat, s.heap.size ≤ q → A q := fun q h => by rw [hAe]; exact Or.inr h
  have hS : va_S A s.heap s.heap [] := va_S.rf
  have hl := lv_entry ([.ref (q 0)]) (n := 1) (Nat.le_of_ble_eq_true rfl)
  rw [lg_entry_eq]
  generalize (lg_sl ([.ref (q 0)]) ++ List.replicate (1 - (lg_sl ([.ref (q 0)])).length) Slot.unset).toArray = ls at hl ⊢
  have hl : lv_has ls 1 [(0, .ref (q 0))] := hl
  refine wq (fun Q hQ => ?_)
  have hin : ∀ w ∈ wsX100, w ∈ (wG yX10_classOf cX10_classOf 1 (some .int)) := fun w h => List.mem_cons_of_mem _ (inlX10 w h)
  have kc0 : (-1 : Int32).toInt = -1 := by decide
  have kc1 : (1 : Int32).toInt = 1 := by decide
  have kc2 : (2 : Int32).toInt = 2 := by decide
  have k_47_12 := hts (.fieldLink RX10 493 "ArrayTrainerModel" "sort" "I") (List.mem_cons_of_mem _ (wr47 _ (List.mem_of_getElem? (i := 12) rfl)))
  have k_6_5 := hts (.fieldLink RX10 77 "ArrayTrainerModel" "arrayClass" "[I") (List.mem_cons_of_mem _ (wr6 _ (List.mem_of_getElem? (i := 5) rfl)))
  have k_47_14 := hts (.fieldLink RX10 499 "ArrayTrainerModel" "value" "J") (List.mem_cons_of_mem _ (wr47 _ (List.mem_of_getElem? (i := 14) rfl)))
  have k_6_4 := hts (.fieldLink RX10 74 "ArrayTrainerModel" "creature" "[I") (List.mem_cons_of_mem _ (wr6 _ (List.mem_of_getElem? (i := 4) rfl)))
  have k_47_13 := hts (.fieldLink RX10 496 "ArrayTrainerModel" "kindAt" "I") (List.mem_cons_of_mem _ (wr47 _ (List.mem_of_getElem? (i := 13) rfl)))
  obtain ⟨H, hH⟩ : ∃ H : Heap, H = s.heap := ⟨_, rfl⟩
  obtain ⟨locs, hlc⟩ : ∃ L : List Loc, L = [] := ⟨_, rfl⟩
  have hP : va_P D vwCl (mw cs q v_thrown a_tape v_taped v_size v_to v_kind v_from v_letters v_letterMany v_digits v_isBeyond v_suffix v_steps v_fault v_hasProgram a_text a_act a_guess a_take a_begin a_finish a_to1 a_one a_two a_what a_ats a_atVar a_atNumber a_atomSort a_atomKind a_atomValue v_wrong v_wrongAt v_variable v_number v_numberKind v_takes a_out v_outed a_varSort a_varKind a_varValue a_creature v_creatures a_arrayClass a_arrayFrom a_arrayLong v_arrays v_cells a_cellSort a_cellKind a_cellValue a_asideSort a_asideKind a_asideValue a_outcome v_marks v_came v_guessed v_right v_taken a_markSort a_markKind a_markClass a_markValue v_sort v_kindAt v_value a_index v_reached v_looked) H := by rw [hH]; exact hP
  have hS : va_S A s.heap H locs := by rw [hH, hlc]; exact hS
  refine wHL hH hlc ?_
  have hr9 := p_0.1
  obtain ⟨hv0, hv1, hv2, hv3⟩ := p_1
  refine lv_aload_n hx hb dX10_classOf_0 rfl (lv_at hl 0 rfl) ?_
  refine va_get (D := D) (ci := 9) (v := .int v_sort) (C := RX10) (T := TX10) (N := 71) hx hb hts hin hown hK hP 0 rfl rfl 65 (by decide) k_47_12 (fun _ h9 => h9) rfl dX10_classOf_1 ?_
  refine m_if_ne (X := v_sort.toInt) (tgt := 11) hx hb dX10_classOf_4 (by decide) rfl (fun c4 => ?_) (fun c4 => ?_)
  · skip
    refine lv_aload_n hx hb dX10_classOf_11 rfl (lv_at hl 0 rfl) ?_
    refine va_get (D := D) (ci := 9) (v := .int v_sort) (C := RX10) (T := TX10) (N := 71) hx hb hts hin hown hK hP 0 rfl rfl 65 (by decide) k_47_12 (fun _ h9 => h9) rfl dX10_classOf_12 ?_
    refine lv_iconst (v := 1) hx hb dX10_classOf_15 (by decide) ?_
    refine m_icmp_ne (X := v_sort.toInt) (Y := 1) (tgt := 26) hx hb dX10_classOf_16 (by decide) rfl (by decide) (fun c16 => ?_) (fun c16 => ?_)
    · skip
      refine lv_aload_n hx hb dX10_classOf_26 rfl (lv_at hl 0 rfl) ?_
      refine va_get (D := D) (ci := 9) (v := .int v_sort) (C := RX10) (T := TX10) (N := 71) hx hb hts hin hown hK hP 0 rfl rfl 65 (by decide) k_47_12 (fun _ h9 => h9) rfl dX10_classOf_27 ?_
      refine lv_iconst (v := 2) hx hb dX10_classOf_30 (by decide) ?_
      refine m_icmp_ne (X := v_sort.toInt) (Y := 2) (tgt := 47) hx hb dX10_classOf_31 (by decide) rfl (by decide) (fun c31 => ?_) (fun c31 => ?_)
      · skip
        refine lv_aload_n hx hb dX10_classOf_47 rfl (lv_at hl 0 rfl) ?_
        refine va_get (D := D) (ci := 9) (v := .ref (q 23)) (C := RX10) (T := TX10) (N := 71) hx hb hts hin hown hK hP 0 rfl rfl 44 (by decide) k_6_5 (fun _ h9 => h9) rfl dX10_classOf_48 ?_
        refine lv_aload_n hx hb dX10_classOf_51 rfl (lv_at hl 0 rfl) ?_
        refine va_get (D := D) (ci := 9) (v := .long v_value) (C := RX10) (T := TX10) (N := 71) hx hb hts hin hown hK hP 0 rfl rfl 67 (by decide) k_47_14 (fun _ h9 => h9) rfl dX10_classOf_52 ?_
        refine m_l2i hx hb dX10_classOf_55 (fun x55 e_x55 => ?_)
        have b_x55 := iB x55
        have hx55 := l2iT e_x55 (by omega) (by omega)
        refine m_iald hx hb hK hP 23 0 rfl rfl (ix (by omega) (by omega)) dX10_classOf_56 (fun x56 e_x56 => ?_)
        have b_x56 := iB x56
        skip
        subst hAe
        rw [hQ]
        exact W.iret (v := x56) hx hb hr (fun t ht hW => ⟨⟨x56, _, rfl, ⟨rfl, by first | (intro h9; exfalso; omega) | (intro h9; rw [e_x56, l2n e_x55 (by omega) (by omega)]), by exact Or.inr trivial⟩, by rw [ht]; exact hP, va_K.moved hW.alike hK, hD⟩, hS.F ht⟩) hS.2.2 dX10_classOf_57
      · skip
        refine lv_aload_n hx hb dX10_classOf_34 rfl (lv_at hl 0 rfl) ?_
        refine va_get (D := D) (ci := 9) (v := .ref (q 22)) (C := RX10) (T := TX10) (N := 71) hx hb hts hin hown hK hP 0 rfl rfl 42 (by decide) k_6_4 (fun _ h9 => h9) rfl dX10_classOf_35 ?_
        refine lv_aload_n hx hb dX10_classOf_38 rfl (lv_at hl 0 rfl) ?_
        refine va_get (D := D) (ci := 9) (v := .long v_value) (C := RX10) (T := TX10) (N := 71) hx hb hts hin hown hK hP 0 rfl rfl 67 (by decide) k_47_14 (fun _ h9 => h9) rfl dX10_classOf_39 ?_
        refine m_l2i hx hb dX10_classOf_42 (fun x42 e_x42 => ?_)
        have b_x42 := iB x42
        have hx42 := l2iT e_x42 (by omega) (by omega)
        refine m_iald hx hb hK hP 22 0 rfl rfl (ix (by omega) (by omega)) dX10_classOf_43 (fun x43 e_x43 => ?_)
        have b_x43 := iB x43
        refine lv_goto (tgt := 57) hx hb dX10_classOf_44 (by decide) ?_
        skip
        subst hAe
        rw [hQ]
        exact W.iret (v := x43) hx hb hr (fun t ht hW => ⟨⟨x43, _, rfl, ⟨rfl, by first | (intro h9; exfalso; omega) | (intro h9; rw [e_x56, l2n e_x55 (by omega) (by omega)]), by exact Or.inr trivial⟩, by rw [ht]; exact hP, va_K.moved hW.alike hK, hD⟩, hS.F ht⟩) hS.2.2 dX10_classOf_57
    · skip
      refine lv_aload_n hx hb dX10_classOf_19 rfl (lv_at hl 0 rfl) ?_
      refine va_get (D := D) (ci := 9) (v := .int v_kindAt) (C := RX10) (T := TX10) (N := 71) hx hb hts hin hown hK hP 0 rfl rfl 66 (by decide) k_47_13 (fun _ h9 => h9) rfl dX10_classOf_20 ?_
      refine lv_goto (tgt := 57) hx hb dX10_classOf_23 (by decide) ?_
      skip
      subst hAe
      rw [hQ]
      exact W.iret (v := v_kindAt) hx hb hr (fun t ht hW => ⟨⟨v_kindAt, _, rfl, ⟨rfl, by first | (intro h9; exfalso; omega) | (intro h9; rw [e_x56, l2n e_x55 (by omega) (by omega)]), by exact Or.inr trivial⟩, by rw [ht]; exact hP, va_K.moved hW.alike hK, hD⟩, hS.F ht⟩) hS.2.2 dX10_classOf_57
  · skip
    refine lv_iconst (v := (-1)) hx hb dX10_classOf_7 (by decide) ?_
    refine lv_goto (tgt := 57) hx hb dX10_classOf_8 (by decide) ?_
    skip
    subst hAe
    rw [hQ]
    exact W.iret (v := (-1)) hx hb hr (fun t ht hW => ⟨⟨(-1), _, rfl, ⟨rfl, by first | (intro h9; exfalso; omega) | (intro h9; rw [e_x56, l2n e_x55 (by omega) (by omega)]), by exact Or.inr trivial⟩, by rw [ht]; exact hP, va_K.moved hW.alike hK, hD⟩, hS.F ht⟩) hS.2.2 dX10_classOf_57

def rmX10_readIndexes : Room := { frames := 20, cells := 0, slots := 0, locals := 400 }
set_option maxHeartbeats 4000000 in
set_option maxRecDepth 100000 in
theorem tX10_readIndexes {l : Launch} {D : va_G} {K : Nat → Nat → Nat} {cs : Nat → ClassId} {q : Nat → Nat} {v_thrown v_taped v_size v_to v_kind v_from v_letterMany v_isBeyond v_suffix v_steps v_fault v_hasProgram v_wrong v_wrongAt v_variable v_numberKind v_takes v_outed v_creatures v_arrays v_cells v_marks v_came v_guessed v_right v_taken v_sort v_kindAt v_reached v_looked : Int32} {a_tape a_text a_act a_guess a_take a_begin a_finish a_to1 a_one a_two a_what a_ats a_atVar a_atNumber a_atomSort a_atomKind a_out a_varSort a_varKind a_creature a_arrayClass a_arrayFrom a_arrayLong a_cellSort a_cellKind a_asideSort a_asideKind a_outcome a_markSort a_markKind a_markClass a_index : Nat → Int32} {v_letters v_digits v_number v_value : Int64} {a_atomValue a_varValue a_cellValue a_asideValue a_markValue : Nat → Int64} (s9 : Int32) (p_0 : 0 ≤ s9.toInt) (p_1 : s9.toInt ≤ 201) (p_2 : R03 a_ats) (p_3 : Rm25 a_atVar) : CtI l yX10_readIndexes (wG yX10_readIndexes cX10_readIndexes 4 (some .int)) rmX10_readIndexes D (mwT cs) K [.ref (q 0), .int s9] (mw cs q v_thrown a_tape v_taped v_size v_to v_kind v_from v_letters v_letterMany v_digits v_isBeyond v_suffix v_steps v_fault v_hasProgram a_text a_act a_guess a_take a_begin a_finish a_to1 a_one a_two a_what a_ats a_atVar a_atNumber a_atomSort a_atomKind a_atomValue v_wrong v_wrongAt v_variable v_number v_numberKind v_takes a_out v_outed a_varSort a_varKind a_varValue a_creature v_creatures a_arrayClass a_arrayFrom a_arrayLong v_arrays v_cells a_cellSort a_cellKind a_cellValue a_asideSort a_asideKind a_asideValue a_outcome v_marks v_came v_guessed v_right v_taken a_markSort a_markKind a_markClass a_markValue v_sort v_kindAt v_value a_index v_reached v_looked) (fun r w1 => ∃ (a_index' : Nat → Int32), w1 = (mw cs q v_thrown a_tape v_taped v_size v_to v_kind v_from v_letters v_letterMany v_digits v_isBeyond v_suffix v_steps v_fault v_hasProgram a_text a_act a_guess a_take a_begin a_finish a_to1 a_one a_two a_what a_ats a_atVar a_atNumber a_atomSort a_atomKind a_atomValue v_wrong v_wrongAt v_variable v_number v_numberKind v_takes a_out v_outed a_varSort a_varKind a_varValue a_creature v_creatures a_arrayClass a_arrayFrom a_arrayLong v_arrays v_cells a_cellSort a_cellKind a_cellValue a_asideSort a_asideKind a_asideValue a_outcome v_marks v_came v_guessed v_right v_taken a_markSort a_markKind a_markClass a_markValue v_sort v_kindAt v_value a_index' v_reached v_looked) ∧ (0 ≤ r.toInt)) 0 0 := by
  intro sz
  refine Met.ofW (cc := cX10_readIndexes) (maxL := 4) (ret := (some .int)) (by decide) rfl ?_
  intro p e s m args below meth c s₁ B hml hv
  obtain ⟨rfl, hsz, hP, hK, hD0, hE⟩ := hv
  have hx := B.exec
  have hb := B.bytes
  have hr := B.returns
  have hts := atoms_spec (ws := (wG yX10_readIndexes cX10_readIndexes 4 (some .int))) B.pre
  have hown : s.vm.findClass RX10 = some m.cls := findClass_of_methodNamed B.named
  have hlocks := B.notSynchronized
  subst hsz
  have hD := hD0.self (sz := s.heap.size)
  obtain ⟨A, hAe⟩ : ∃ A : Nat → Prop, A = va_A (mw cs q v_thrown a_tape v_taped v_size v_to v_kind v_from v_letters v_letterMany v_digits v_isBeyond v_suffix v_steps v_fault v_hasProgram a_text a_act a_guess a_take a_begin a_finish a_to1 a_one a_two a_what a_ats a_atVar a_atNumber a_atomSort a_atomKind a_atomValue v_wrong v_wrongAt v_variable v_number v_numberKind v_takes a_out v_outed a_varSort a_varKind a_varValue a_creature v_creatures a_arrayClass a_arrayFrom a_arrayLong v_arrays v_cells a_cellSort a_cellKind a_cellValue a_asideSort a_asideKind a_asideValue a_outcome v_marks v_came v_guessed v_right v_taken a_markSort a_markKind a_markClass a_markValue v_sort v_kindAt v_value a_index v_reached v_looked) s.heap.size := ⟨_, rfl⟩
  rw [← hAe] at hD hE
  have hA : ∀ q : Nat, s.heap.size ≤ q → A q := fun q h => by rw [hAe]; exact Or.inr h
  have hS : va_S A s.heap s.heap [] := va_S.rf
  have hl := lv_entry ([.ref (q 0), .int s9]) (n := 4) (Nat.le_of_ble_eq_true rfl)
  rw [lg_entry_eq]
  generalize (lg_sl ([.ref (q 0), .int s9]) ++ List.replicate (4 - (lg_sl ([.ref (q 0), .int s9])).length) Slot.unset).toArray = ls at hl ⊢
  have hl : lv_has ls 4 [(0, .ref (q 0)), (1, .int s9)] := hl
  refine wq (fun Q hQ => ?_)
  have hin : ∀ w ∈ wsX100, w ∈ (wG yX10_readIndexes cX10_readIndexes 4 (some .int)) := fun w h => List.mem_cons_of_mem _ (inlX10 w h)
  have kc0 : (-1 : Int32).toInt = -1 := by decide
  have kc1 : (0 : Int32).toInt = 0 := by decide
  have kc2 : (1 : Int32).toInt = 1 := by decide
  have kc3 : (4 : Int32).toInt = 4 := by decide
  have kc4 : (6 : Int32).toInt = 6 := by decide
  have k_5_18 := hts (.fieldLink RX10 43 "ArrayTrainerModel" "ats" "[I") (List.mem_cons_of_mem _ (wr5 _ (List.mem_of_getElem? (i := 18) rfl)))
  have k_5_19 := hts (.fieldLink RX10 46 "ArrayTrainerModel" "atVar" "[I") (List.mem_cons_of_mem _ (wr5 _ (List.mem_of_getElem? (i := 19) rfl)))
  have k_6_1 := hts (.fieldLink RX10 65 "ArrayTrainerModel" "varSort" "[I") (List.mem_cons_of_mem _ (wr6 _ (List.mem_of_getElem? (i := 1) rfl)))
  have k_6_2 := hts (.fieldLink RX10 68 "ArrayTrainerModel" "varKind" "[I") (List.mem_cons_of_mem _ (wr6 _ (List.mem_of_getElem? (i := 2) rfl)))
  have k_6_19 := hts (.fieldLink RX10 119 "ArrayTrainerModel" "index" "[I") (List.mem_cons_of_mem _ (wr6 _ (List.mem_of_getElem? (i := 19) rfl)))
  have k_6_3 := hts (.fieldLink RX10 71 "ArrayTrainerModel" "varValue" "[J") (List.mem_cons_of_mem _ (wr6 _ (List.mem_of_getElem? (i := 3) rfl)))
  have k_5_20 := hts (.fieldLink RX10 49 "ArrayTrainerModel" "atNumber" "[I") (List.mem_cons_of_mem _ (wr5 _ (List.mem_of_getElem? (i := 20) rfl)))
  obtain ⟨H, hH⟩ : ∃ H : Heap, H = s.heap := ⟨_, rfl⟩
  obtain ⟨locs, hlc⟩ : ∃ L : List Loc, L = [] := ⟨_, rfl⟩
  have hP : va_P D vwCl (mw cs q v_thrown a_tape v_taped v_size v_to v_kind v_from v_letters v_letterMany v_digits v_isBeyond v_suffix v_steps v_fault v_hasProgram a_text a_act a_guess a_take a_begin a_finish a_to1 a_one a_two a_what a_ats a_atVar a_atNumber a_atomSort a_atomKind a_atomValue v_wrong v_wrongAt v_variable v_number v_numberKind v_takes a_out v_outed a_varSort a_varKind a_varValue a_creature v_creatures a_arrayClass a_arrayFrom a_arrayLong v_arrays v_cells a_cellSort a_cellKind a_cellValue a_asideSort a_asideKind a_asideValue a_outcome v_marks v_came v_guessed v_right v_taken a_markSort a_markKind a_markClass a_markValue v_sort v_kindAt v_value a_index v_reached v_looked) H := by rw [hH]; exact hP
  have hS : va_S A s.heap H locs := by rw [hH, hlc]; exact hS
  refine wHL hH hlc ?_
  have b_s9 := iB s9
  refine lv_iconst (v := 0) hx hb dX10_readIndexes_0 (by decide) ?_
  refine lv_istore_n (lv' := [(2, .int 0), (0, .ref (q 0)), (1, .int s9)]) hx hb dX10_readIndexes_1 rfl hl (by decide) rfl (fun ls hl => ?_)
  have J2 : ∀ (n2 : Nat) (l2_2 : Int32) (a_index_2 : Nat → Int32) (H : Heap) (locs : List Loc) (ls : Array Slot), (0 ≤ l2_2.toInt) → (l2_2.toInt ≤ 3) → (3 - l2_2.toInt < (n2 : Int)) → va_P D vwCl (mw cs q v_thrown a_tape v_taped v_size v_to v_kind v_from v_letters v_letterMany v_digits v_isBeyond v_suffix v_steps v_fault v_hasProgram a_text a_act a_guess a_take a_begin a_finish a_to1 a_one a_two a_what a_ats a_atVar a_atNumber a_atomSort a_atomKind a_atomValue v_wrong v_wrongAt v_variable v_number v_numberKind v_takes a_out v_outed a_varSort a_varKind a_varValue a_creature v_creatures a_arrayClass a_arrayFrom a_arrayLong v_arrays v_cells a_cellSort a_cellKind a_cellValue a_asideSort a_asideKind a_asideValue a_outcome v_marks v_came v_guessed v_right v_taken a_markSort a_markKind a_markClass a_markValue v_sort v_kindAt v_value a_index_2 v_reached v_looked) H → va_D A (mw cs q v_thrown a_tape v_taped v_size v_to v_kind v_from v_letters v_letterMany v_digits v_isBeyond v_suffix v_steps v_fault v_hasProgram a_text a_act a_guess a_take a_begin a_finish a_to1 a_one a_two a_what a_ats a_atVar a_atNumber a_atomSort a_atomKind a_atomValue v_wrong v_wrongAt v_variable v_number v_numberKind v_takes a_out v_outed a_varSort a_varKind a_varValue a_creature v_creatures a_arrayClass a_arrayFrom a_arrayLong v_arrays v_cells a_cellSort a_cellKind a_cellValue a_asideSort a_asideKind a_asideValue a_outcome v_marks v_came v_guessed v_right v_taken a_markSort a_markKind a_markClass a_markValue v_sort v_kindAt v_value a_index_2 v_reached v_looked) → va_S A s.heap H locs → lv_has ls 4 [(0, .ref (q 0)), (1, .int s9), (2, .int l2_2)] → W p l e (headSpec (wG yX10_readIndexes cX10_readIndexes 4 (some .int)) rmX10_readIndexes).room s m ([.ref (q 0), .int s9] : List Value).toArray below meth c H locs 0 0 Q (F0 m 2 ls []) := by
    intro n2
    induction n2 with
    | zero =>
      intro l2_2 a_index_2 H locs ls f2_0 f2_1 hm2
      exfalso
      omega
    | succ n2 ih2 =>
      intro l2_2 a_index_2 H locs ls f2_0 f2_1 hm2 hP hD hS hl
      refine lv_iload_n hx hb dX10_readIndexes_2 rfl (lv_at hl 2 rfl) ?_
      refine lv_aload_n hx hb dX10_readIndexes_3 rfl (lv_at hl 0 rfl) ?_
      refine va_get (D := D) (ci := 9) (v := .ref (q 12)) (C := RX10) (T := TX10) (N := 71) hx hb hts hin hown hK hP 0 rfl rfl 25 (by decide) k_5_18 (fun _ h9 => h9) rfl dX10_readIndexes_4 ?_
      refine lv_iload_n hx hb dX10_readIndexes_7 rfl (lv_at hl 1 rfl) ?_
      refine m_iald hx hb hK hP 12 0 rfl rfl (ix (by omega) (by omega)) dX10_readIndexes_8 (fun x8 e_x8 => ?_)
      have b_x8 := iB x8
      have hx8 := congrArg Int32.toInt e_x8
      have hr8 := p_2 s9.toNatClampNeg
      refine m_icmp_ge (X := l2_2.toInt) (Y := x8.toInt) (tgt := 110) hx hb dX10_readIndexes_9 (by decide) rfl rfl (fun c9 => ?_) (fun c9 => ?_)
      · skip
        refine lv_iconst (v := 0) hx hb dX10_readIndexes_110 (by decide) ?_
        subst hAe
        rw [hQ]
        exact W.iret (v := 0) hx hb hr (fun t ht hW => ⟨⟨0, _, rfl, ⟨a_index_2, rfl, by first | assumption | omega | (intros; omega) | decide⟩, by rw [ht]; exact hP, va_K.moved hW.alike hK, hD⟩, hS.F ht⟩) hS.2.2 dX10_readIndexes_111
      · skip
        refine lv_aload_n hx hb dX10_readIndexes_12 rfl (lv_at hl 0 rfl) ?_
        refine va_get (D := D) (ci := 9) (v := .ref (q 13)) (C := RX10) (T := TX10) (N := 71) hx hb hts hin hown hK hP 0 rfl rfl 26 (by decide) k_5_19 (fun _ h9 => h9) rfl dX10_readIndexes_13 ?_
        refine lv_iconst (v := 4) hx hb dX10_readIndexes_16 (by decide) ?_
        refine lv_iload_n hx hb dX10_readIndexes_17 rfl (lv_at hl 1 rfl) ?_
        refine m_imul (X := 4) (Y := s9.toInt) hx hb dX10_readIndexes_18 (by decide) rfl (fun x18 e_x18 g9 => ?_)
        obtain ⟨k_x18, g_x18⟩ := g9
        have b_x18 := iB x18
        try (have q_x18 : x18.toInt = 4 * s9.toInt := (by omega); clear g_x18 k_x18)
        refine lv_iload_n hx hb dX10_readIndexes_19 rfl (lv_at hl 2 rfl) ?_
        refine m_iadd (X := x18.toInt) (Y := l2_2.toInt) hx hb dX10_readIndexes_20 rfl rfl (fun x20 e_x20 g9 => ?_)
        obtain ⟨k_x20, g_x20⟩ := g9
        have b_x20 := iB x20
        try (have q_x20 : x20.toInt = x18.toInt + l2_2.toInt := (by omega); clear g_x20 k_x20)
        refine m_iald hx hb hK hP 13 0 rfl rfl (ix (by omega) (by omega)) dX10_readIndexes_21 (fun x21 e_x21 => ?_)
        have b_x21 := iB x21
        have hx21 := congrArg Int32.toInt e_x21
        have hr21 := p_3 x20.toNatClampNeg
        refine lv_istore_n (lv' := [(3, .int x21), (0, .ref (q 0)), (1, .int s9), (2, .int l2_2)]) hx hb dX10_readIndexes_22 rfl hl (by decide) rfl (fun ls hl => ?_)
        refine lv_iload_n hx hb dX10_readIndexes_23 rfl (lv_at hl 0 rfl) ?_
        refine lv_iconst (v := (-1)) hx hb dX10_readIndexes_24 (by decide) ?_
        have J104 : ∀ (a_index_104 : Nat → Int32) (H : Heap) (locs : List Loc) (ls : Array Slot), va_P D vwCl (mw cs q v_thrown a_tape v_taped v_size v_to v_kind v_from v_letters v_letterMany v_digits v_isBeyond v_suffix v_steps v_fault v_hasProgram a_text a_act a_guess a_take a_begin a_finish a_to1 a_one a_two a_what a_ats a_atVar a_atNumber a_atomSort a_atomKind a_atomValue v_wrong v_wrongAt v_variable v_number v_numberKind v_takes a_out v_outed a_varSort a_varKind a_varValue a_creature v_creatures a_arrayClass a_arrayFrom a_arrayLong v_arrays v_cells a_cellSort a_cellKind a_cellValue a_asideSort a_asideKind a_asideValue a_outcome v_marks v_came v_guessed v_right v_taken a_markSort a_markKind a_markClass a_markValue v_sort v_kindAt v_value a_index_104 v_reached v_looked) H → va_D A (mw cs q v_thrown a_tape v_taped v_size v_to v_kind v_from v_letters v_letterMany v_digits v_isBeyond v_suffix v_steps v_fault v_hasProgram a_text a_act a_guess a_take a_begin a_finish a_to1 a_one a_two a_what a_ats a_atVar a_atNumber a_atomSort a_atomKind a_atomValue v_wrong v_wrongAt v_variable v_number v_numberKind v_takes a_out v_outed a_varSort a_varKind a_varValue a_creature v_creatures a_arrayClass a_arrayFrom a_arrayLong v_arrays v_cells a_cellSort a_cellKind a_cellValue a_asideSort a_asideKind a_asideValue a_outcome v_marks v_came v_guessed v_right v_taken a_markSort a_markKind a_markClass a_markValue v_sort v_kindAt v_value a_index_104 v_reached v_looked) → va_S A s.heap H locs → lv_has ls 4 [(0, .ref (q 0)), (1, .int s9), (2, .int l2_2)] → W p l e (headSpec (wG yX10_readIndexes cX10_readIndexes 4 (some .int)) rmX10_readIndexes).room s m ([.ref (q 0), .int s9] : List Value).toArray below meth c H locs 0 0 Q (F0 m 104 ls []) := by
          intro a_index_104 H locs ls hP hD hS hl
          obtain ⟨x104, e_x104⟩ : ∃ z : Int32, z = l2_2 + (1 : Int32) := ⟨_, rfl⟩
          obtain ⟨k_x104, g_x104⟩ : ∃ k : Int, x104.toInt = l2_2.toInt + (1) + k * 4294967296 := by rw [e_x104]; exact iAdd l2_2 (1)
          have b_x104 := iB x104
          try (have q_x104 : x104.toInt = l2_2.toInt + (1) := (by omega); clear g_x104 k_x104)
          refine lv_iinc (v := x104) (lv' := [(2, .int x104), (0, .ref (q 0)), (1, .int s9)]) hx hb dX10_readIndexes_104 hl (k := 2) rfl (by rw [e_x104]; rfl) (by decide) rfl (fun ls hl => ?_)
          refine lv_goto (tgt := 2) hx hb dX10_readIndexes_107 (by decide) ?_
          exact ih2 x104 a_index_104 H locs ls (by first | assumption | omega | (intros; omega) | decide) (by first | assumption | omega | (intros; omega) | decide) (by omega) hP hD hS (lv_sub hl [1, 2, 0] rfl)
        refine m_icmp_ne (X := x21.toInt) (Y := (-1)) (tgt := 47) hx hb dX10_readIndexes_25 (by decide) rfl (by decide) (fun c25 => ?_) (fun c25 => ?_)
        · skip
          skip
          refine lv_aload_n hx hb dX10_readIndexes_47 rfl (lv_at hl 1 rfl) ?_
          refine va_get (D := D) (ci := 9) (v := .ref (q 19)) (C := RX10) (T := TX10) (N := 71) hx hb hts hin hown hK hP 0 rfl rfl 39 (by decide) k_6_1 (fun _ h9 => h9) rfl dX10_readIndexes_48 ?_
          refine lv_iload_n hx hb dX10_readIndexes_51 rfl (lv_at hl 0 rfl) ?_
          refine m_iald hx hb hK hP 19 0 rfl rfl (ix (by omega) (by omega)) dX10_readIndexes_52 (fun x52 e_x52 => ?_)
          have b_x52 := iB x52
          refine m_if_ne (X := x52.toInt) (tgt := 58) hx hb dX10_readIndexes_53 (by decide) rfl (fun c53 => ?_) (fun c53 => ?_)
          · skip
            refine lv_aload_n hx hb dX10_readIndexes_58 rfl (lv_at hl 1 rfl) ?_
            refine va_get (D := D) (ci := 9) (v := .ref (q 19)) (C := RX10) (T := TX10) (N := 71) hx hb hts hin hown hK hP 0 rfl rfl 39 (by decide) k_6_1 (fun _ h9 => h9) rfl dX10_readIndexes_59 ?_
            refine lv_iload_n hx hb dX10_readIndexes_62 rfl (lv_at hl 0 rfl) ?_
            refine m_iald hx hb hK hP 19 0 rfl rfl (ix (by omega) (by omega)) dX10_readIndexes_63 (fun x63 e_x63 => ?_)
            have b_x63 := iB x63
            refine lv_iconst (v := 1) hx hb dX10_readIndexes_64 (by decide) ?_
            refine m_icmp_ne (X := x63.toInt) (Y := 1) (tgt := 88) hx hb dX10_readIndexes_65 (by decide) rfl (by decide) (fun c65 => ?_) (fun c65 => ?_)
            · skip
              refine lv_bipush (v := 6) hx hb dX10_readIndexes_88 (by decide) ?_
              subst hAe
              rw [hQ]
              exact W.iret (v := 6) hx hb hr (fun t ht hW => ⟨⟨6, _, rfl, ⟨a_index_2, rfl, by first | assumption | omega | (intros; omega) | decide⟩, by rw [ht]; exact hP, va_K.moved hW.alike hK, hD⟩, hS.F ht⟩) hS.2.2 dX10_readIndexes_90
            · skip
              refine lv_aload_n hx hb dX10_readIndexes_68 rfl (lv_at hl 1 rfl) ?_
              refine va_get (D := D) (ci := 9) (v := .ref (q 20)) (C := RX10) (T := TX10) (N := 71) hx hb hts hin hown hK hP 0 rfl rfl 40 (by decide) k_6_2 (fun _ h9 => h9) rfl dX10_readIndexes_69 ?_
              refine lv_iload_n hx hb dX10_readIndexes_72 rfl (lv_at hl 0 rfl) ?_
              refine m_iald hx hb hK hP 20 0 rfl rfl (ix (by omega) (by omega)) dX10_readIndexes_73 (fun x73 e_x73 => ?_)
              have b_x73 := iB x73
              refine lv_iconst (v := 1) hx hb dX10_readIndexes_74 (by decide) ?_
              refine m_icmp_lt (X := x73.toInt) (Y := 1) (tgt := 88) hx hb dX10_readIndexes_75 (by decide) rfl (by decide) (fun c75 => ?_) (fun c75 => ?_)
              · skip
                refine lv_bipush (v := 6) hx hb dX10_readIndexes_88 (by decide) ?_
                subst hAe
                rw [hQ]
                exact W.iret (v := 6) hx hb hr (fun t ht hW => ⟨⟨6, _, rfl, ⟨a_index_2, rfl, by first | assumption | omega | (intros; omega) | decide⟩, by rw [ht]; exact hP, va_K.moved hW.alike hK, hD⟩, hS.F ht⟩) hS.2.2 dX10_readIndexes_90
              · skip
                refine lv_aload_n hx hb dX10_readIndexes_78 rfl (lv_at hl 1 rfl) ?_
                refine va_get (D := D) (ci := 9) (v := .ref (q 20)) (C := RX10) (T := TX10) (N := 71) hx hb hts hin hown hK hP 0 rfl rfl 40 (by decide) k_6_2 (fun _ h9 => h9) rfl dX10_readIndexes_79 ?_
                refine lv_iload_n hx hb dX10_readIndexes_82 rfl (lv_at hl 0 rfl) ?_
                refine m_iald hx hb hK hP 20 0 rfl rfl (ix (by omega) (by omega)) dX10_readIndexes_83 (fun x83 e_x83 => ?_)
                have b_x83 := iB x83
                refine lv_iconst (v := 4) hx hb dX10_readIndexes_84 (by decide) ?_
                refine m_icmp_le (X := x83.toInt) (Y := 4) (tgt := 91) hx hb dX10_readIndexes_85 (by decide) rfl (by decide) (fun c85 => ?_) (fun c85 => ?_)
                · skip
                  refine lv_aload_n hx hb dX10_readIndexes_91 rfl (lv_at hl 1 rfl) ?_
                  refine va_get (D := D) (ci := 9) (v := .ref (q 37)) (C := RX10) (T := TX10) (N := 71) hx hb hts hin hown hK hP 0 rfl rfl 68 (by decide) k_6_19 (fun _ h9 => h9) rfl dX10_readIndexes_92 ?_
                  refine lv_iload_n hx hb dX10_readIndexes_95 rfl (lv_at hl 3 rfl) ?_
                  refine lv_aload_n hx hb dX10_readIndexes_96 rfl (lv_at hl 1 rfl) ?_
                  refine va_get (D := D) (ci := 9) (v := .ref (q 21)) (C := RX10) (T := TX10) (N := 71) hx hb hts hin hown hK hP 0 rfl rfl 41 (by decide) k_6_3 (fun _ h9 => h9) rfl dX10_readIndexes_97 ?_
                  refine lv_iload_n hx hb dX10_readIndexes_100 rfl (lv_at hl 0 rfl) ?_
                  refine m_lald hx hb hK hP 21 1 rfl rfl (ix (by omega) (by omega)) dX10_readIndexes_101 (fun x101 e_x101 => ?_)
                  have b_x101 := jB x101
                  refine m_l2i hx hb dX10_readIndexes_102 (fun x102 e_x102 => ?_)
                  have b_x102 := iB x102
                  refine va_iast hx hb hK hP hD hS 37 0 rfl rfl (ix (by omega) (by omega)) dX10_readIndexes_103 (fun H locs hP hD hS => ?_)
                  obtain ⟨a_index_103, e_a_index_103⟩ : ∃ g, g = upd a_index_2 l2_2.toNatClampNeg x102 := ⟨_, rfl⟩
                  have hP : va_P D vwCl (mw cs q v_thrown a_tape v_taped v_size v_to v_kind v_from v_letters v_letterMany v_digits v_isBeyond v_suffix v_steps v_fault v_hasProgram a_text a_act a_guess a_take a_begin a_finish a_to1 a_one a_two a_what a_ats a_atVar a_atNumber a_atomSort a_atomKind a_atomValue v_wrong v_wrongAt v_variable v_number v_numberKind v_takes a_out v_outed a_varSort a_varKind a_varValue a_creature v_creatures a_arrayClass a_arrayFrom a_arrayLong v_arrays v_cells a_cellSort a_cellKind a_cellValue a_asideSort a_asideKind a_asideValue a_outcome v_marks v_came v_guessed v_right v_taken a_markSort a_markKind a_markClass a_markValue v_sort v_kindAt v_value a_index_103 v_reached v_looked) H := by rw [e_a_index_103]; exact hP
                  have hD : va_D A (mw cs q v_thrown a_tape v_taped v_size v_to v_kind v_from v_letters v_letterMany v_digits v_isBeyond v_suffix v_steps v_fault v_hasProgram a_text a_act a_guess a_take a_begin a_finish a_to1 a_one a_two a_what a_ats a_atVar a_atNumber a_atomSort a_atomKind a_atomValue v_wrong v_wrongAt v_variable v_number v_numberKind v_takes a_out v_outed a_varSort a_varKind a_varValue a_creature v_creatures a_arrayClass a_arrayFrom a_arrayLong v_arrays v_cells a_cellSort a_cellKind a_cellValue a_asideSort a_asideKind a_asideValue a_outcome v_marks v_came v_guessed v_right v_taken a_markSort a_markKind a_markClass a_markValue v_sort v_kindAt v_value a_index_103 v_reached v_looked) := by rw [e_a_index_103]; exact hD
                  exact J104 a_index_103 H locs ls hP hD hS (lv_sub hl [1, 2, 3] rfl)
                · skip
                  refine lv_bipush (v := 6) hx hb dX10_readIndexes_88 (by decide) ?_
                  subst hAe
                  rw [hQ]
                  exact W.iret (v := 6) hx hb hr (fun t ht hW => ⟨⟨6, _, rfl, ⟨a_index_2, rfl, by first | assumption | omega | (intros; omega) | decide⟩, by rw [ht]; exact hP, va_K.moved hW.alike hK, hD⟩, hS.F ht⟩) hS.2.2 dX10_readIndexes_90
          · skip
            refine lv_iconst (v := 1) hx hb dX10_readIndexes_56 (by decide) ?_
            subst hAe
            rw [hQ]
            exact W.iret (v := 1) hx hb hr (fun t ht hW => ⟨⟨1, _, rfl, ⟨a_index_2, rfl, by first | assumption | omega | (intros; omega) | decide⟩, by rw [ht]; exact hP, va_K.moved hW.alike hK, hD⟩, hS.F ht⟩) hS.2.2 dX10_readIndexes_57
        · skip
          refine lv_aload_n hx hb dX10_readIndexes_28 rfl (lv_at hl 1 rfl) ?_
          refine va_get (D := D) (ci := 9) (v := .ref (q 37)) (C := RX10) (T := TX10) (N := 71) hx hb hts hin hown hK hP 0 rfl rfl 68 (by decide) k_6_19 (fun _ h9 => h9) rfl dX10_readIndexes_29 ?_
          refine lv_iload_n hx hb dX10_readIndexes_32 rfl (lv_at hl 3 rfl) ?_
          refine lv_aload_n hx hb dX10_readIndexes_33 rfl (lv_at hl 1 rfl) ?_
          refine va_get (D := D) (ci := 9) (v := .ref (q 14)) (C := RX10) (T := TX10) (N := 71) hx hb hts hin hown hK hP 0 rfl rfl 27 (by decide) k_5_20 (fun _ h9 => h9) rfl dX10_readIndexes_34 ?_
          refine lv_iconst (v := 4) hx hb dX10_readIndexes_37 (by decide) ?_
          refine lv_iload_n hx hb dX10_readIndexes_38 rfl (lv_at hl 2 rfl) ?_
          refine m_imul (X := 4) (Y := s9.toInt) hx hb dX10_readIndexes_39 (by decide) rfl (fun x39 e_x39 g9 => ?_)
          obtain ⟨k_x39, g_x39⟩ := g9
          have b_x39 := iB x39
          try (have q_x39 : x39.toInt = 4 * s9.toInt := (by omega); clear g_x39 k_x39)
          refine lv_iload_n hx hb dX10_readIndexes_40 rfl (lv_at hl 3 rfl) ?_
          refine m_iadd (X := x39.toInt) (Y := l2_2.toInt) hx hb dX10_readIndexes_41 rfl rfl (fun x41 e_x41 g9 => ?_)
          obtain ⟨k_x41, g_x41⟩ := g9
          have b_x41 := iB x41
          try (have q_x41 : x41.toInt = x39.toInt + l2_2.toInt := (by omega); clear g_x41 k_x41)
          refine m_iald hx hb hK hP 14 0 rfl rfl (ix (by omega) (by omega)) dX10_readIndexes_42 (fun x42 e_x42 => ?_)
          have b_x42 := iB x42
          refine va_iast hx hb hK hP hD hS 37 0 rfl rfl (ix (by omega) (by omega)) dX10_readIndexes_43 (fun H locs hP hD hS => ?_)
          obtain ⟨a_index_43, e_a_index_43⟩ : ∃ g, g = upd a_index_2 l2_2.toNatClampNeg x42 := ⟨_, rfl⟩
          have hP : va_P D vwCl (mw cs q v_thrown a_tape v_taped v_size v_to v_kind v_from v_letters v_letterMany v_digits v_isBeyond v_suffix v_steps v_fault v_hasProgram a_text a_act a_guess a_take a_begin a_finish a_to1 a_one a_two a_what a_ats a_atVar a_atNumber a_atomSort a_atomKind a_atomValue v_wrong v_wrongAt v_variable v_number v_numberKind v_takes a_out v_outed a_varSort a_varKind a_varValue a_creature v_creatures a_arrayClass a_arrayFrom a_arrayLong v_arrays v_cells a_cellSort a_cellKind a_cellValue a_asideSort a_asideKind a_asideValue a_outcome v_marks v_came v_guessed v_right v_taken a_markSort a_markKind a_markClass a_markValue v_sort v_kindAt v_value a_index_43 v_reached v_looked) H := by rw [e_a_index_43]; exact hP
          have hD : va_D A (mw cs q v_thrown a_tape v_taped v_size v_to v_kind v_from v_letters v_letterMany v_digits v_isBeyond v_suffix v_steps v_fault v_hasProgram a_text a_act a_guess a_take a_begin a_finish a_to1 a_one a_two a_what a_ats a_atVar a_atNumber a_atomSort a_atomKind a_atomValue v_wrong v_wrongAt v_variable v_number v_numberKind v_takes a_out v_outed a_varSort a_varKind a_varValue a_creature v_creatures a_arrayClass a_arrayFrom a_arrayLong v_arrays v_cells a_cellSort a_cellKind a_cellValue a_asideSort a_asideKind a_asideValue a_outcome v_marks v_came v_guessed v_right v_taken a_markSort a_markKind a_markClass a_markValue v_sort v_kindAt v_value a_index_43 v_reached v_looked) := by rw [e_a_index_43]; exact hD
          refine lv_goto (tgt := 104) hx hb dX10_readIndexes_44 (by decide) ?_
          exact J104 a_index_43 H locs ls hP hD hS (lv_sub hl [1, 2, 3] rfl)
  exact J2 ((3 - (0 : Int32).toInt).toNat + 1) (0 : Int32) a_index H locs ls (by first | assumption | omega | (intros; omega) | decide) (by first | assumption | omega | (intros; omega) | decide) (by omega) hP hD hS (lv_sub hl [1, 2, 0] rfl)

def rmX10_asArray : Room := { frames := 20, cells := 0, slots := 0, locals := 400 }
set_option maxHeartbeats 4000000 in
set_option maxRecDepth 100000 in
theorem tX10_asArray {l : Launch} {D : va_G} {K : Nat → Nat → Nat} {cs : Nat → ClassId} {q : Nat → Nat} {v_thrown v_taped v_size v_to v_kind v_from v_letterMany v_isBeyond v_suffix v_steps v_fault v_hasProgram v_wrong v_wrongAt v_variable v_numberKind v_takes v_outed v_creatures v_arrays v_cells v_marks v_came v_guessed v_right v_taken v_sort v_kindAt v_reached v_looked : Int32} {a_tape a_text a_act a_guess a_take a_begin a_finish a_to1 a_one a_two a_what a_ats a_atVar a_atNumber a_atomSort a_atomKind a_out a_varSort a_varKind a_creature a_arrayClass a_arrayFrom a_arrayLong a_cellSort a_cellKind a_asideSort a_asideKind a_outcome a_markSort a_markKind a_markClass a_index : Nat → Int32} {v_letters v_digits v_number v_value : Int64} {a_atomValue a_varValue a_cellValue a_asideValue a_markValue : Nat → Int64} (p_0 : VOK v_arrays.toInt v_creatures.toInt v_sort v_kindAt v_value) (p_1 : v_arrays.toInt ≤ 200) : CtI l yX10_asArray (wG yX10_asArray cX10_asArray 1 (some .int)) rmX10_asArray D (mwT cs) K [.ref (q 0)] (mw cs q v_thrown a_tape v_taped v_size v_to v_kind v_from v_letters v_letterMany v_digits v_isBeyond v_suffix v_steps v_fault v_hasProgram a_text a_act a_guess a_take a_begin a_finish a_to1 a_one a_two a_what a_ats a_atVar a_atNumber a_atomSort a_atomKind a_atomValue v_wrong v_wrongAt v_variable v_number v_numberKind v_takes a_out v_outed a_varSort a_varKind a_varValue a_creature v_creatures a_arrayClass a_arrayFrom a_arrayLong v_arrays v_cells a_cellSort a_cellKind a_cellValue a_asideSort a_asideKind a_asideValue a_outcome v_marks v_came v_guessed v_right v_taken a_markSort a_markKind a_markClass a_markValue v_sort v_kindAt v_value a_index v_reached v_looked) (fun r w1 => ∃ (v_reached' : Int32), w1 = (mw cs q v_thrown a_tape v_taped v_size v_to v_kind v_from v_letters v_letterMany v_digits v_isBeyond v_suffix v_steps v_fault v_hasProgram a_text a_act a_guess a_take a_begin a_finish a_to1 a_one a_two a_what a_ats a_atVar a_atNumber a_atomSort a_atomKind a_atomValue v_wrong v_wrongAt v_variable v_number v_numberKind v_takes a_out v_outed a_varSort a_varKind a_varValue a_creature v_creatures a_arrayClass a_arrayFrom a_arrayLong v_arrays v_cells a_cellSort a_cellKind a_cellValue a_asideSort a_asideKind a_asideValue a_outcome v_marks v_came v_guessed v_right v_taken a_markSort a_markKind a_markClass a_markValue v_sort v_kindAt v_value a_index v_reached' v_looked) ∧ ((r.toInt = 0 ∧ v_sort.toInt = 3 ∧ v_reached'.toInt = v_value.toInt ∧ 0 ≤ v_reached'.toInt ∧ v_reached'.toInt < v_arrays.toInt) ∨ (0 < r.toInt ∧ ¬ v_sort.toInt = 3))) 0 0 := by
  intro sz
  refine Met.ofW (cc := cX10_asArray) (maxL := 1) (ret := (some .int)) (by decide) rfl ?_
  intro p e s m args below meth c s₁ B hml hv
  obtain ⟨rfl, hsz, hP, hK, hD0, hE⟩ := hv
  have hx := B.exec
  have hb := B.bytes
  have hr := B.returns
  have hts := atoms_spec (ws := (wG yX10_asArray cX10_asArray 1 (some .int))) B.pre
  have hown : s.vm.findClass RX10 = some m.cls := findClass_of_methodNamed B.named
  have hlocks := B.notSynchronized
  subst hsz
  have hD := hD0.self (sz := s.heap.size)
  obtain ⟨A, hAe⟩ : ∃ A : Nat → Prop, A = va_A (mw cs q v_thrown a_tape v_taped v_size v_to v_kind v_from v_letters v_letterMany v_digits v_isBeyond v_suffix v_steps v_fault v_hasProgram a_text a_act a_guess a_take a_begin a_finish a_to1 a_one a_two a_what a_ats a_atVar a_atNumber a_atomSort a_atomKind a_atomValue v_wrong v_wrongAt v_variable v_number v_numberKind v_takes a_out v_outed a_varSort a_varKind a_varValue a_creature v_creatures a_arrayClass a_arrayFrom a_arrayLong v_arrays v_cells a_cellSort a_cellKind a_cellValue a_asideSort a_asideKind a_asideValue a_outcome v_marks v_came v_guessed v_right v_taken a_markSort a_markKind a_markClass a_markValue v_sort v_kindAt v_value a_index v_reached v_looked) s.heap.size := ⟨_, rfl⟩
  rw [← hAe] at hD hE
  have hA : ∀ q : Nat, s.heap.size ≤ q → A q := fun q h => by rw [hAe]; exact Or.inr h
  have hS : va_S A s.heap s.heap [] := va_S.rf
  have hl := lv_entry ([.ref (q 0)]) (n := 1) (Nat.le_of_ble_eq_true rfl)
  rw [lg_entry_eq]
  generalize (lg_sl ([.ref (q 0)]) ++ List.replicate (1 - (lg_sl ([.ref (q 0)])).length) Slot.unset).toArray = ls at hl ⊢
  have hl : lv_has ls 1 [(0, .ref (q 0))] := hl
  refine wq (fun Q hQ => ?_)
  have hin : ∀ w ∈ wsX100, w ∈ (wG yX10_asArray cX10_asArray 1 (some .int)) := fun w h => List.mem_cons_of_mem _ (inlX10 w h)
  have kc0 : (0 : Int32).toInt = 0 := by decide
  have kc1 : (1 : Int32).toInt = 1 := by decide
  have kc2 : (3 : Int32).toInt = 3 := by decide
  have kc3 : (6 : Int32).toInt = 6 := by decide
  have k_47_12 := hts (.fieldLink RX10 493 "ArrayTrainerModel" "sort" "I") (List.mem_cons_of_mem _ (wr47 _ (List.mem_of_getElem? (i := 12) rfl)))
  have k_47_14 := hts (.fieldLink RX10 499 "ArrayTrainerModel" "value" "J") (List.mem_cons_of_mem _ (wr47 _ (List.mem_of_getElem? (i := 14) rfl)))
  have k_48_11 := hts (.fieldLink RX10 510 "ArrayTrainerModel" "reached" "I") (List.mem_cons_of_mem _ (wr48 _ (List.mem_of_getElem? (i := 11) rfl)))
  obtain ⟨H, hH⟩ : ∃ H : Heap, H = s.heap := ⟨_, rfl⟩
  obtain ⟨locs, hlc⟩ : ∃ L : List Loc, L = [] := ⟨_, rfl⟩
  have hP : va_P D vwCl (mw cs q v_thrown a_tape v_taped v_size v_to v_kind v_from v_letters v_letterMany v_digits v_isBeyond v_suffix v_steps v_fault v_hasProgram a_text a_act a_guess a_take a_begin a_finish a_to1 a_one a_two a_what a_ats a_atVar a_atNumber a_atomSort a_atomKind a_atomValue v_wrong v_wrongAt v_variable v_number v_numberKind v_takes a_out v_outed a_varSort a_varKind a_varValue a_creature v_creatures a_arrayClass a_arrayFrom a_arrayLong v_arrays v_cells a_cellSort a_cellKind a_cellValue a_asideSort a_asideKind a_asideValue a_outcome v_marks v_came v_guessed v_right v_taken a_markSort a_markKind a_markClass a_markValue v_sort v_kindAt v_value a_index v_reached v_looked) H := by rw [hH]; exact hP
  have hS : va_S A s.heap H locs := by rw [hH, hlc]; exact hS
  refine wHL hH hlc ?_
  obtain ⟨hv0, hv1, hv2, hv3⟩ := p_0
  refine lv_aload_n hx hb dX10_asArray_0 rfl (lv_at hl 0 rfl) ?_
  refine va_get (D := D) (ci := 9) (v := .int v_sort) (C := RX10) (T := TX10) (N := 71) hx hb hts hin hown hK hP 0 rfl rfl 65 (by decide) k_47_12 (fun _ h9 => h9) rfl dX10_asArray_1 ?_
  refine m_if_ne (X := v_sort.toInt) (tgt := 9) hx hb dX10_asArray_4 (by decide) rfl (fun c4 => ?_) (fun c4 => ?_)
  · skip
    refine lv_aload_n hx hb dX10_asArray_9 rfl (lv_at hl 0 rfl) ?_
    refine va_get (D := D) (ci := 9) (v := .int v_sort) (C := RX10) (T := TX10) (N := 71) hx hb hts hin hown hK hP 0 rfl rfl 65 (by decide) k_47_12 (fun _ h9 => h9) rfl dX10_asArray_10 ?_
    refine lv_iconst (v := 3) hx hb dX10_asArray_13 (by decide) ?_
    refine m_icmp_eq (X := v_sort.toInt) (Y := 3) (tgt := 20) hx hb dX10_asArray_14 (by decide) rfl (by decide) (fun c14 => ?_) (fun c14 => ?_)
    · skip
      refine lv_aload_n hx hb dX10_asArray_20 rfl (lv_at hl 0 rfl) ?_
      refine lv_aload_n hx hb dX10_asArray_21 rfl (lv_at hl 0 rfl) ?_
      refine va_get (D := D) (ci := 9) (v := .long v_value) (C := RX10) (T := TX10) (N := 71) hx hb hts hin hown hK hP 0 rfl rfl 67 (by decide) k_47_14 (fun _ h9 => h9) rfl dX10_asArray_22 ?_
      refine m_l2i hx hb dX10_asArray_25 (fun x25 e_x25 => ?_)
      have b_x25 := iB x25
      have hx25 := l2iT e_x25 (by omega) (by omega)
      refine va_put (D := D) (ci := 9) (v := .int x25) (ty := .int) (C := RX10) (T := TX10) (N := 71) hx hb hts hin tyX10 tyX10_ok nmX10 hown hK hP hD hS 0 rfl rfl 69 (by decide) k_48_11 (fun _ h9 => h9) rfl (by decide +kernel) rfl rfl (Nat.le_of_ble_eq_true rfl) dX10_asArray_26 (fun H locs hP hD hS => ?_)
      have hP : va_P D vwCl (mw cs q v_thrown a_tape v_taped v_size v_to v_kind v_from v_letters v_letterMany v_digits v_isBeyond v_suffix v_steps v_fault v_hasProgram a_text a_act a_guess a_take a_begin a_finish a_to1 a_one a_two a_what a_ats a_atVar a_atNumber a_atomSort a_atomKind a_atomValue v_wrong v_wrongAt v_variable v_number v_numberKind v_takes a_out v_outed a_varSort a_varKind a_varValue a_creature v_creatures a_arrayClass a_arrayFrom a_arrayLong v_arrays v_cells a_cellSort a_cellKind a_cellValue a_asideSort a_asideKind a_asideValue a_outcome v_marks v_came v_guessed v_right v_taken a_markSort a_markKind a_markClass a_markValue v_sort v_kindAt v_value a_index x25 v_looked) H := hP
      have hD : va_D A (mw cs q v_thrown a_tape v_taped v_size v_to v_kind v_from v_letters v_letterMany v_digits v_isBeyond v_suffix v_steps v_fault v_hasProgram a_text a_act a_guess a_take a_begin a_finish a_to1 a_one a_two a_what a_ats a_atVar a_atNumber a_atomSort a_atomKind a_atomValue v_wrong v_wrongAt v_variable v_number v_numberKind v_takes a_out v_outed a_varSort a_varKind a_varValue a_creature v_creatures a_arrayClass a_arrayFrom a_arrayLong v_arrays v_cells a_cellSort a_cellKind a_cellValue a_asideSort a_asideKind a_asideValue a_outcome v_marks v_came v_guessed v_right v_taken a_markSort a_markKind a_markClass a_markValue v_sort v_kindAt v_value a_index x25 v_looked) := hD
      refine lv_iconst (v := 0) hx hb dX10_asArray_29 (by decide) ?_
      subst hAe
      rw [hQ]
      exact W.iret (v := 0) hx hb hr (fun t ht hW => ⟨⟨0, _, rfl, ⟨x25, rfl, by first | assumption | omega | (intros; omega) | decide⟩, by rw [ht]; exact hP, va_K.moved hW.alike hK, hD⟩, hS.F ht⟩) hS.2.2 dX10_asArray_30
    · skip
      refine lv_bipush (v := 6) hx hb dX10_asArray_17 (by decide) ?_
      subst hAe
      rw [hQ]
      exact W.iret (v := 6) hx hb hr (fun t ht hW => ⟨⟨6, _, rfl, ⟨v_reached, rfl, by first | assumption | omega | (intros; omega) | decide⟩, by rw [ht]; exact hP, va_K.moved hW.alike hK, hD⟩, hS.F ht⟩) hS.2.2 dX10_asArray_19
  · skip
    refine lv_iconst (v := 1) hx hb dX10_asArray_7 (by decide) ?_
    subst hAe
    rw [hQ]
    exact W.iret (v := 1) hx hb hr (fun t ht hW => ⟨⟨1, _, rfl, ⟨v_reached, rfl, by first | assumption | omega | (intros; omega) | decide⟩, by rw [ht]; exact hP, va_K.moved hW.alike hK, hD⟩, hS.F ht⟩) hS.2.2 dX10_asArray_8

def rmX10_isCell : Room := { frames := 20, cells := 0, slots := 0, locals := 400 }
set_option maxHeartbeats 4000000 in
set_option maxRecDepth 100000 in
theorem tX10_isCell {l : Launch} {D : va_G} {K : Nat → Nat → Nat} {cs : Nat → ClassId} {q : Nat → Nat} {v_thrown v_taped v_size v_to v_kind v_from v_letterMany v_isBeyond v_suffix v_steps v_fault v_hasProgram v_wrong v_wrongAt v_variable v_numberKind v_takes v_outed v_creatures v_arrays v_cells v_marks v_came v_guessed v_right v_taken v_sort v_kindAt v_reached v_looked : Int32} {a_tape a_text a_act a_guess a_take a_begin a_finish a_to1 a_one a_two a_what a_ats a_atVar a_atNumber a_atomSort a_atomKind a_out a_varSort a_varKind a_creature a_arrayClass a_arrayFrom a_arrayLong a_cellSort a_cellKind a_asideSort a_asideKind a_outcome a_markSort a_markKind a_markClass a_index : Nat → Int32} {v_letters v_digits v_number v_value : Int64} {a_atomValue a_varValue a_cellValue a_asideValue a_markValue : Nat → Int64} (i9 : Int32) (p_0 : 0 ≤ v_reached.toInt) (p_1 : v_reached.toInt < 210) : CtI l yX10_isCell (wG yX10_isCell cX10_isCell 2 (some .boolean)) rmX10_isCell D (mwT cs) K [.ref (q 0), .int i9] (mw cs q v_thrown a_tape v_taped v_size v_to v_kind v_from v_letters v_letterMany v_digits v_isBeyond v_suffix v_steps v_fault v_hasProgram a_text a_act a_guess a_take a_begin a_finish a_to1 a_one a_two a_what a_ats a_atVar a_atNumber a_atomSort a_atomKind a_atomValue v_wrong v_wrongAt v_variable v_number v_numberKind v_takes a_out v_outed a_varSort a_varKind a_varValue a_creature v_creatures a_arrayClass a_arrayFrom a_arrayLong v_arrays v_cells a_cellSort a_cellKind a_cellValue a_asideSort a_asideKind a_asideValue a_outcome v_marks v_came v_guessed v_right v_taken a_markSort a_markKind a_markClass a_markValue v_sort v_kindAt v_value a_index v_reached v_looked) (fun r w1 => w1 = (mw cs q v_thrown a_tape v_taped v_size v_to v_kind v_from v_letters v_letterMany v_digits v_isBeyond v_suffix v_steps v_fault v_hasProgram a_text a_act a_guess a_take a_begin a_finish a_to1 a_one a_two a_what a_ats a_atVar a_atNumber a_atomSort a_atomKind a_atomValue v_wrong v_wrongAt v_variable v_number v_numberKind v_takes a_out v_outed a_varSort a_varKind a_varValue a_creature v_creatures a_arrayClass a_arrayFrom a_arrayLong v_arrays v_cells a_cellSort a_cellKind a_cellValue a_asideSort a_asideKind a_asideValue a_outcome v_marks v_came v_guessed v_right v_taken a_markSort a_markKind a_markClass a_markValue v_sort v_kindAt v_value a_index v_reached v_looked) ∧ ((r.toInt = 1 ∧ 0 ≤ i9.toInt ∧ i9.toInt < (a_arrayLong v_reached.toNatClampNeg).toInt) ∨ r.toInt = 0)) 0 0 := by
  intro sz
  refine Met.ofW (cc := cX10_isCell) (maxL := 2) (ret := (some .boolean)) (by decide) rfl ?_
  intro p e s m args below meth c s₁ B hml hv
  obtain ⟨rfl, hsz, hP, hK, hD0, hE⟩ := hv
  have hx := B.exec
  have hb := B.bytes
  have hr := B.returns
  have hts := atoms_spec (ws := (wG yX10_isCell cX10_isCell 2 (some .boolean))) B.pre
  have hown : s.vm.findClass RX10 = some m.cls := findClass_of_methodNamed B.named
  have hlocks := B.notSynchronized
  subst hsz
  have hD := hD0.self (sz := s.heap.size)
  obtain ⟨A, hAe⟩ : ∃ A : Nat → Prop, A = va_A (mw cs q v_thrown a_tape v_taped v_size v_to v_kind v_from v_letters v_letterMany v_digits v_isBeyond v_suffix v_steps v_fault v_hasProgram a_text a_act a_guess a_take a_begin a_finish a_to1 a_one a_two a_what a_ats a_atVar a_atNumber a_atomSort a_atomKind a_atomValue v_wrong v_wrongAt v_variable v_number v_numberKind v_takes a_out v_outed a_varSort a_varKind a_varValue a_creature v_creatures a_arrayClass a_arrayFrom a_arrayLong v_arrays v_cells a_cellSort a_cellKind a_cellValue a_asideSort a_asideKind a_asideValue a_outcome v_marks v_came v_guessed v_right v_taken a_markSort a_markKind a_markClass a_markValue v_sort v_kindAt v_value a_index v_reached v_looked) s.heap.size := ⟨_, rfl⟩
  rw [← hAe] at hD hE
  have hA : ∀ q : Nat, s.heap.size ≤ q → A q := fun q h => by rw [hAe]; exact Or.inr h
  have hS : va_S A s.heap s.heap [] := va_S.rf
  have hl := lv_entry ([.ref (q 0), .int i9]) (n := 2) (Nat.le_of_ble_eq_true rfl)
  rw [lg_entry_eq]
  generalize (lg_sl ([.ref (q 0), .int i9]) ++ List.replicate (2 - (lg_sl ([.ref (q 0), .int i9])).length) Slot.unset).toArray = ls at hl ⊢
  have hl : lv_has ls 2 [(0, .ref (q 0)), (1, .int i9)] := hl
  refine wq (fun Q hQ => ?_)
  have hin : ∀ w ∈ wsX100, w ∈ (wG yX10_isCell cX10_isCell 2 (some .boolean)) := fun w h => List.mem_cons_of_mem _ (inlX10 w h)
  have kc0 : (0 : Int32).toInt = 0 := by decide
  have kc1 : (1 : Int32).toInt = 1 := by decide
  have k_6_7 := hts (.fieldLink RX10 83 "ArrayTrainerModel" "arrayLong" "[I") (List.mem_cons_of_mem _ (wr6 _ (List.mem_of_getElem? (i := 7) rfl)))
  have k_48_11 := hts (.fieldLink RX10 510 "ArrayTrainerModel" "reached" "I") (List.mem_cons_of_mem _ (wr48 _ (List.mem_of_getElem? (i := 11) rfl)))
  obtain ⟨H, hH⟩ : ∃ H : Heap, H = s.heap := ⟨_, rfl⟩
  obtain ⟨locs, hlc⟩ : ∃ L : List Loc, L = [] := ⟨_, rfl⟩
  have hP : va_P D vwCl (mw cs q v_thrown a_tape v_taped v_size v_to v_kind v_from v_letters v_letterMany v_digits v_isBeyond v_suffix v_steps v_fault v_hasProgram a_text a_act a_guess a_take a_begin a_finish a_to1 a_one a_two a_what a_ats a_atVar a_atNumber a_atomSort a_atomKind a_atomValue v_wrong v_wrongAt v_variable v_number v_numberKind v_takes a_out v_outed a_varSort a_varKind a_varValue a_creature v_creatures a_arrayClass a_arrayFrom a_arrayLong v_arrays v_cells a_cellSort a_cellKind a_cellValue a_asideSort a_asideKind a_asideValue a_outcome v_marks v_came v_guessed v_right v_taken a_markSort a_markKind a_markClass a_markValue v_sort v_kindAt v_value a_index v_reached v_looked) H := by rw [hH]; exact hP
  have hS : va_S A s.heap H locs := by rw [hH, hlc]; exact hS
  refine wHL hH hlc ?_
  have b_i9 := iB i9
  refine lv_iload_n hx hb dX10_isCell_0 rfl (lv_at hl 1 rfl) ?_
  refine m_if_lt (X := i9.toInt) (tgt := 21) hx hb dX10_isCell_1 (by decide) rfl (fun c1 => ?_) (fun c1 => ?_)
  · skip
    refine lv_iconst (v := 0) hx hb dX10_isCell_21 (by decide) ?_
    subst hAe
    rw [hQ]
    exact W.zret (v := 0) hx hb hr (by decide) (fun t ht hW => ⟨⟨0, _, rfl, ⟨rfl, by first | assumption | omega | (intros; omega) | decide⟩, by rw [ht]; exact hP, va_K.moved hW.alike hK, hD⟩, hS.F ht⟩) hS.2.2 dX10_isCell_22
  · skip
    refine lv_iload_n hx hb dX10_isCell_4 rfl (lv_at hl 1 rfl) ?_
    refine lv_aload_n hx hb dX10_isCell_5 rfl (lv_at hl 0 rfl) ?_
    refine va_get (D := D) (ci := 9) (v := .ref (q 25)) (C := RX10) (T := TX10) (N := 71) hx hb hts hin hown hK hP 0 rfl rfl 46 (by decide) k_6_7 (fun _ h9 => h9) rfl dX10_isCell_6 ?_
    refine lv_aload_n hx hb dX10_isCell_9 rfl (lv_at hl 0 rfl) ?_
    refine va_get (D := D) (ci := 9) (v := .int v_reached) (C := RX10) (T := TX10) (N := 71) hx hb hts hin hown hK hP 0 rfl rfl 69 (by decide) k_48_11 (fun _ h9 => h9) rfl dX10_isCell_10 ?_
    refine m_iald hx hb hK hP 25 0 rfl rfl (ix (by omega) (by omega)) dX10_isCell_13 (fun x13 e_x13 => ?_)
    have b_x13 := iB x13
    have hx13 := congrArg Int32.toInt e_x13
    refine m_icmp_ge (X := i9.toInt) (Y := x13.toInt) (tgt := 21) hx hb dX10_isCell_14 (by decide) rfl rfl (fun c14 => ?_) (fun c14 => ?_)
    · skip
      refine lv_iconst (v := 0) hx hb dX10_isCell_21 (by decide) ?_
      subst hAe
      rw [hQ]
      exact W.zret (v := 0) hx hb hr (by decide) (fun t ht hW => ⟨⟨0, _, rfl, ⟨rfl, by first | assumption | omega | (intros; omega) | decide⟩, by rw [ht]; exact hP, va_K.moved hW.alike hK, hD⟩, hS.F ht⟩) hS.2.2 dX10_isCell_22
    · skip
      refine lv_iconst (v := 1) hx hb dX10_isCell_17 (by decide) ?_
      refine lv_goto (tgt := 22) hx hb dX10_isCell_18 (by decide) ?_
      subst hAe
      rw [hQ]
      exact W.zret (v := 1) hx hb hr (by decide) (fun t ht hW => ⟨⟨1, _, rfl, ⟨rfl, by first | assumption | omega | (intros; omega) | decide⟩, by rw [ht]; exact hP, va_K.moved hW.alike hK, hD⟩, hS.F ht⟩) hS.2.2 dX10_isCell_22
