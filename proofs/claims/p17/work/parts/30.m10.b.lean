def rmX10_newArray : Room := { frames := 40, cells := 0, slots := 0, locals := 800 }
set_option maxHeartbeats 4000000 in
set_option maxRecDepth 100000 in
theorem tX10_newArray {l : Launch} {D : va_G} {K : Nat → Nat → Nat} {cs : Nat → ClassId} {q : Nat → Nat} {v_thrown v_taped v_size v_to v_kind v_from v_letterMany v_isBeyond v_suffix v_steps v_fault v_hasProgram v_wrong v_wrongAt v_variable v_numberKind v_takes v_outed v_creatures v_arrays v_cells v_marks v_came v_guessed v_right v_taken v_sort v_kindAt v_reached v_looked : Int32} {a_tape a_text a_act a_guess a_take a_begin a_finish a_to1 a_one a_two a_what a_ats a_atVar a_atNumber a_atomSort a_atomKind a_out a_varSort a_varKind a_creature a_arrayClass a_arrayFrom a_arrayLong a_cellSort a_cellKind a_asideSort a_asideKind a_outcome a_markSort a_markKind a_markClass a_index : Nat → Int32} {v_letters v_digits v_number v_value : Int64} {a_atomValue a_varValue a_cellValue a_asideValue a_markValue : Nat → Int64} (c9 : Int32) (n9 : Int32) (p_0 : RUN a_varSort a_varKind a_varValue v_arrays v_cells v_creatures a_arrayClass a_arrayFrom a_arrayLong a_cellSort a_cellKind a_cellValue) (p_1 : 20 ≤ c9.toInt) (p_2 : c9.toInt ≤ 79) (p_3 : 0 ≤ n9.toInt) (p_4 : n9.toInt ≤ 500) (p_5 : v_cells.toInt + n9.toInt ≤ 4000) (p_6 : v_arrays.toInt ≤ 199) : CtI l yX10_newArray (wG yX10_newArray cX10_newArray 6 (some .int)) rmX10_newArray D (mwT cs) K [.ref (q 0), .int c9, .int n9] (mw cs q v_thrown a_tape v_taped v_size v_to v_kind v_from v_letters v_letterMany v_digits v_isBeyond v_suffix v_steps v_fault v_hasProgram a_text a_act a_guess a_take a_begin a_finish a_to1 a_one a_two a_what a_ats a_atVar a_atNumber a_atomSort a_atomKind a_atomValue v_wrong v_wrongAt v_variable v_number v_numberKind v_takes a_out v_outed a_varSort a_varKind a_varValue a_creature v_creatures a_arrayClass a_arrayFrom a_arrayLong v_arrays v_cells a_cellSort a_cellKind a_cellValue a_asideSort a_asideKind a_asideValue a_outcome v_marks v_came v_guessed v_right v_taken a_markSort a_markKind a_markClass a_markValue v_sort v_kindAt v_value a_index v_reached v_looked) (fun r w1 => ∃ (a_arrayClass' : Nat → Int32) (a_arrayFrom' : Nat → Int32) (a_arrayLong' : Nat → Int32) (v_arrays' : Int32) (v_cells' : Int32) (a_cellSort' : Nat → Int32) (a_cellKind' : Nat → Int32) (a_cellValue' : Nat → Int64) (v_sort' : Int32) (v_kindAt' : Int32) (v_value' : Int64), w1 = (mw cs q v_thrown a_tape v_taped v_size v_to v_kind v_from v_letters v_letterMany v_digits v_isBeyond v_suffix v_steps v_fault v_hasProgram a_text a_act a_guess a_take a_begin a_finish a_to1 a_one a_two a_what a_ats a_atVar a_atNumber a_atomSort a_atomKind a_atomValue v_wrong v_wrongAt v_variable v_number v_numberKind v_takes a_out v_outed a_varSort a_varKind a_varValue a_creature v_creatures a_arrayClass' a_arrayFrom' a_arrayLong' v_arrays' v_cells' a_cellSort' a_cellKind' a_cellValue' a_asideSort a_asideKind a_asideValue a_outcome v_marks v_came v_guessed v_right v_taken a_markSort a_markKind a_markClass a_markValue v_sort' v_kindAt' v_value' a_index v_reached v_looked) ∧ (RUN a_varSort a_varKind a_varValue v_arrays' v_cells' v_creatures a_arrayClass' a_arrayFrom' a_arrayLong' a_cellSort' a_cellKind' a_cellValue') ∧ (r = v_arrays) ∧ (v_arrays'.toInt = v_arrays.toInt + 1) ∧ (v_cells'.toInt = v_cells.toInt + n9.toInt) ∧ (a_arrayClass' = upd a_arrayClass v_arrays.toNatClampNeg c9) ∧ (a_arrayFrom' = upd a_arrayFrom v_arrays.toNatClampNeg v_cells) ∧ (a_arrayLong' = upd a_arrayLong v_arrays.toNatClampNeg n9)) 0 0 := by
  intro sz
  refine Met.ofW (cc := cX10_newArray) (maxL := 6) (ret := (some .int)) (by decide) rfl ?_
  intro p e s m args below meth c s₁ B hml hv
  obtain ⟨rfl, hsz, hP, hK, hD0, hE⟩ := hv
  have hx := B.exec
  have hb := B.bytes
  have hr := B.returns
  have hts := atoms_spec (ws := (wG yX10_newArray cX10_newArray 6 (some .int))) B.pre
  have hown : s.vm.findClass RX10 = some m.cls := findClass_of_methodNamed B.named
  have hlocks := B.notSynchronized
  subst hsz
  have hD := hD0.self (sz := s.heap.size)
  obtain ⟨A, hAe⟩ : ∃ A : Nat → Prop, A = va_A (mw cs q v_thrown a_tape v_taped v_size v_to v_kind v_from v_letters v_letterMany v_digits v_isBeyond v_suffix v_steps v_fault v_hasProgram a_text a_act a_guess a_take a_begin a_finish a_to1 a_one a_two a_what a_ats a_atVar a_atNumber a_atomSort a_atomKind a_atomValue v_wrong v_wrongAt v_variable v_number v_numberKind v_takes a_out v_outed a_varSort a_varKind a_varValue a_creature v_creatures a_arrayClass a_arrayFrom a_arrayLong v_arrays v_cells a_cellSort a_cellKind a_cellValue a_asideSort a_asideKind a_asideValue a_outcome v_marks v_came v_guessed v_right v_taken a_markSort a_markKind a_markClass a_markValue v_sort v_kindAt v_value a_index v_reached v_looked) s.heap.size := ⟨_, rfl⟩
  rw [← hAe] at hD hE
  have hA : ∀ q : Nat, s.heap.size ≤ q → A q := fun q h => by rw [hAe]; exact Or.inr h
  have hS : va_S A s.heap s.heap [] := va_S.rf
  have hl := lv_entry ([.ref (q 0), .int c9, .int n9]) (n := 6) (Nat.le_of_ble_eq_true rfl)
  rw [lg_entry_eq]
  generalize (lg_sl ([.ref (q 0), .int c9, .int n9]) ++ List.replicate (6 - (lg_sl ([.ref (q 0), .int c9, .int n9])).length) Slot.unset).toArray = ls at hl ⊢
  have hl : lv_has ls 6 [(0, .ref (q 0)), (1, .int c9), (2, .int n9)] := hl
  refine wq (fun Q hQ => ?_)
  have hin : ∀ w ∈ wsX100, w ∈ (wG yX10_newArray cX10_newArray 6 (some .int)) := fun w h => List.mem_cons_of_mem _ (inlX10 w h)
  have kc0 : (0 : Int32).toInt = 0 := by decide
  have kc1 : (1 : Int32).toInt = 1 := by decide
  have kc2 : (20 : Int32).toInt = 20 := by decide
  have kc3 : (0 : Int64).toInt = 0 := by decide
  have k_31_4 := hts (.fieldLink RX10 472 "ArrayTrainerModel" "arrays" "I") (List.mem_cons_of_mem _ (wr31 _ (List.mem_of_getElem? (i := 4) rfl)))
  have k_6_5 := hts (.fieldLink RX10 77 "ArrayTrainerModel" "arrayClass" "[I") (List.mem_cons_of_mem _ (wr6 _ (List.mem_of_getElem? (i := 5) rfl)))
  have k_6_6 := hts (.fieldLink RX10 80 "ArrayTrainerModel" "arrayFrom" "[I") (List.mem_cons_of_mem _ (wr6 _ (List.mem_of_getElem? (i := 6) rfl)))
  have k_31_5 := hts (.fieldLink RX10 475 "ArrayTrainerModel" "cells" "I") (List.mem_cons_of_mem _ (wr31 _ (List.mem_of_getElem? (i := 5) rfl)))
  have k_6_7 := hts (.fieldLink RX10 83 "ArrayTrainerModel" "arrayLong" "[I") (List.mem_cons_of_mem _ (wr6 _ (List.mem_of_getElem? (i := 7) rfl)))
  obtain ⟨H, hH⟩ : ∃ H : Heap, H = s.heap := ⟨_, rfl⟩
  obtain ⟨locs, hlc⟩ : ∃ L : List Loc, L = [] := ⟨_, rfl⟩
  have hP : va_P D vwCl (mw cs q v_thrown a_tape v_taped v_size v_to v_kind v_from v_letters v_letterMany v_digits v_isBeyond v_suffix v_steps v_fault v_hasProgram a_text a_act a_guess a_take a_begin a_finish a_to1 a_one a_two a_what a_ats a_atVar a_atNumber a_atomSort a_atomKind a_atomValue v_wrong v_wrongAt v_variable v_number v_numberKind v_takes a_out v_outed a_varSort a_varKind a_varValue a_creature v_creatures a_arrayClass a_arrayFrom a_arrayLong v_arrays v_cells a_cellSort a_cellKind a_cellValue a_asideSort a_asideKind a_asideValue a_outcome v_marks v_came v_guessed v_right v_taken a_markSort a_markKind a_markClass a_markValue v_sort v_kindAt v_value a_index v_reached v_looked) H := by rw [hH]; exact hP
  have hS : va_S A s.heap H locs := by rw [hH, hlc]; exact hS
  refine wHL hH hlc ?_
  have b_c9 := iB c9
  have b_n9 := iB n9
  have hr9 := p_0.1
  have tar := tn (i := v_arrays) (by omega)
  have tce := tn (i := v_cells) (by omega)
  refine lv_aload_n hx hb dX10_newArray_0 rfl (lv_at hl 0 rfl) ?_
  refine va_get (D := D) (ci := 9) (v := .int v_arrays) (C := RX10) (T := TX10) (N := 71) hx hb hts hin hown hK hP 0 rfl rfl 47 (by decide) k_31_4 (fun _ h9 => h9) rfl dX10_newArray_1 ?_
  refine lv_istore_n (lv' := [(3, .int v_arrays), (0, .ref (q 0)), (1, .int c9), (2, .int n9)]) hx hb dX10_newArray_4 rfl hl (by decide) rfl (fun ls hl => ?_)
  refine lv_aload_n hx hb dX10_newArray_5 rfl (lv_at hl 1 rfl) ?_
  refine lv_dup hx hb dX10_newArray_6 rfl ?_
  refine va_get (D := D) (ci := 9) (v := .int v_arrays) (C := RX10) (T := TX10) (N := 71) hx hb hts hin hown hK hP 0 rfl rfl 47 (by decide) k_31_4 (fun _ h9 => h9) rfl dX10_newArray_7 ?_
  refine lv_iconst (v := 1) hx hb dX10_newArray_10 (by decide) ?_
  refine m_iadd (X := v_arrays.toInt) (Y := 1) hx hb dX10_newArray_11 rfl (by decide) (fun x11 e_x11 g9 => ?_)
  obtain ⟨k_x11, g_x11⟩ := g9
  have b_x11 := iB x11
  try (have q_x11 : x11.toInt = v_arrays.toInt + 1 := (by omega); clear g_x11 k_x11)
  refine va_put (D := D) (ci := 9) (v := .int x11) (ty := .int) (C := RX10) (T := TX10) (N := 71) hx hb hts hin tyX10 tyX10_ok nmX10 hown hK hP hD hS 0 rfl rfl 47 (by decide) k_31_4 (fun _ h9 => h9) rfl (by decide +kernel) rfl rfl (Nat.le_of_ble_eq_true rfl) dX10_newArray_12 (fun H locs hP hD hS => ?_)
  have hP : va_P D vwCl (mw cs q v_thrown a_tape v_taped v_size v_to v_kind v_from v_letters v_letterMany v_digits v_isBeyond v_suffix v_steps v_fault v_hasProgram a_text a_act a_guess a_take a_begin a_finish a_to1 a_one a_two a_what a_ats a_atVar a_atNumber a_atomSort a_atomKind a_atomValue v_wrong v_wrongAt v_variable v_number v_numberKind v_takes a_out v_outed a_varSort a_varKind a_varValue a_creature v_creatures a_arrayClass a_arrayFrom a_arrayLong x11 v_cells a_cellSort a_cellKind a_cellValue a_asideSort a_asideKind a_asideValue a_outcome v_marks v_came v_guessed v_right v_taken a_markSort a_markKind a_markClass a_markValue v_sort v_kindAt v_value a_index v_reached v_looked) H := hP
  have hD : va_D A (mw cs q v_thrown a_tape v_taped v_size v_to v_kind v_from v_letters v_letterMany v_digits v_isBeyond v_suffix v_steps v_fault v_hasProgram a_text a_act a_guess a_take a_begin a_finish a_to1 a_one a_two a_what a_ats a_atVar a_atNumber a_atomSort a_atomKind a_atomValue v_wrong v_wrongAt v_variable v_number v_numberKind v_takes a_out v_outed a_varSort a_varKind a_varValue a_creature v_creatures a_arrayClass a_arrayFrom a_arrayLong x11 v_cells a_cellSort a_cellKind a_cellValue a_asideSort a_asideKind a_asideValue a_outcome v_marks v_came v_guessed v_right v_taken a_markSort a_markKind a_markClass a_markValue v_sort v_kindAt v_value a_index v_reached v_looked) := hD
  refine lv_aload_n hx hb dX10_newArray_15 rfl (lv_at hl 1 rfl) ?_
  refine va_get (D := D) (ci := 9) (v := .ref (q 23)) (C := RX10) (T := TX10) (N := 71) hx hb hts hin hown hK hP 0 rfl rfl 44 (by decide) k_6_5 (fun _ h9 => h9) rfl dX10_newArray_16 ?_
  refine lv_iload_n hx hb dX10_newArray_19 rfl (lv_at hl 0 rfl) ?_
  refine lv_iload_n hx hb dX10_newArray_20 rfl (lv_at hl 2 rfl) ?_
  refine va_iast hx hb hK hP hD hS 23 0 rfl rfl (ix (by omega) (by omega)) dX10_newArray_21 (fun H locs hP hD hS => ?_)
  obtain ⟨a_arrayClass_21, e_a_arrayClass_21⟩ : ∃ g, g = upd a_arrayClass v_arrays.toNatClampNeg c9 := ⟨_, rfl⟩
  have hP : va_P D vwCl (mw cs q v_thrown a_tape v_taped v_size v_to v_kind v_from v_letters v_letterMany v_digits v_isBeyond v_suffix v_steps v_fault v_hasProgram a_text a_act a_guess a_take a_begin a_finish a_to1 a_one a_two a_what a_ats a_atVar a_atNumber a_atomSort a_atomKind a_atomValue v_wrong v_wrongAt v_variable v_number v_numberKind v_takes a_out v_outed a_varSort a_varKind a_varValue a_creature v_creatures a_arrayClass_21 a_arrayFrom a_arrayLong x11 v_cells a_cellSort a_cellKind a_cellValue a_asideSort a_asideKind a_asideValue a_outcome v_marks v_came v_guessed v_right v_taken a_markSort a_markKind a_markClass a_markValue v_sort v_kindAt v_value a_index v_reached v_looked) H := by rw [e_a_arrayClass_21]; exact hP
  have hD : va_D A (mw cs q v_thrown a_tape v_taped v_size v_to v_kind v_from v_letters v_letterMany v_digits v_isBeyond v_suffix v_steps v_fault v_hasProgram a_text a_act a_guess a_take a_begin a_finish a_to1 a_one a_two a_what a_ats a_atVar a_atNumber a_atomSort a_atomKind a_atomValue v_wrong v_wrongAt v_variable v_number v_numberKind v_takes a_out v_outed a_varSort a_varKind a_varValue a_creature v_creatures a_arrayClass_21 a_arrayFrom a_arrayLong x11 v_cells a_cellSort a_cellKind a_cellValue a_asideSort a_asideKind a_asideValue a_outcome v_marks v_came v_guessed v_right v_taken a_markSort a_markKind a_markClass a_markValue v_sort v_kindAt v_value a_index v_reached v_looked) := by rw [e_a_arrayClass_21]; exact hD
  refine lv_aload_n hx hb dX10_newArray_22 rfl (lv_at hl 1 rfl) ?_
  refine va_get (D := D) (ci := 9) (v := .ref (q 24)) (C := RX10) (T := TX10) (N := 71) hx hb hts hin hown hK hP 0 rfl rfl 45 (by decide) k_6_6 (fun _ h9 => h9) rfl dX10_newArray_23 ?_
  refine lv_iload_n hx hb dX10_newArray_26 rfl (lv_at hl 0 rfl) ?_
  refine lv_aload_n hx hb dX10_newArray_27 rfl (lv_at hl 1 rfl) ?_
  refine va_get (D := D) (ci := 9) (v := .int v_cells) (C := RX10) (T := TX10) (N := 71) hx hb hts hin hown hK hP 0 rfl rfl 48 (by decide) k_31_5 (fun _ h9 => h9) rfl dX10_newArray_28 ?_
  refine va_iast hx hb hK hP hD hS 24 0 rfl rfl (ix (by omega) (by omega)) dX10_newArray_31 (fun H locs hP hD hS => ?_)
  obtain ⟨a_arrayFrom_31, e_a_arrayFrom_31⟩ : ∃ g, g = upd a_arrayFrom v_arrays.toNatClampNeg v_cells := ⟨_, rfl⟩
  have hP : va_P D vwCl (mw cs q v_thrown a_tape v_taped v_size v_to v_kind v_from v_letters v_letterMany v_digits v_isBeyond v_suffix v_steps v_fault v_hasProgram a_text a_act a_guess a_take a_begin a_finish a_to1 a_one a_two a_what a_ats a_atVar a_atNumber a_atomSort a_atomKind a_atomValue v_wrong v_wrongAt v_variable v_number v_numberKind v_takes a_out v_outed a_varSort a_varKind a_varValue a_creature v_creatures a_arrayClass_21 a_arrayFrom_31 a_arrayLong x11 v_cells a_cellSort a_cellKind a_cellValue a_asideSort a_asideKind a_asideValue a_outcome v_marks v_came v_guessed v_right v_taken a_markSort a_markKind a_markClass a_markValue v_sort v_kindAt v_value a_index v_reached v_looked) H := by rw [e_a_arrayFrom_31]; exact hP
  have hD : va_D A (mw cs q v_thrown a_tape v_taped v_size v_to v_kind v_from v_letters v_letterMany v_digits v_isBeyond v_suffix v_steps v_fault v_hasProgram a_text a_act a_guess a_take a_begin a_finish a_to1 a_one a_two a_what a_ats a_atVar a_atNumber a_atomSort a_atomKind a_atomValue v_wrong v_wrongAt v_variable v_number v_numberKind v_takes a_out v_outed a_varSort a_varKind a_varValue a_creature v_creatures a_arrayClass_21 a_arrayFrom_31 a_arrayLong x11 v_cells a_cellSort a_cellKind a_cellValue a_asideSort a_asideKind a_asideValue a_outcome v_marks v_came v_guessed v_right v_taken a_markSort a_markKind a_markClass a_markValue v_sort v_kindAt v_value a_index v_reached v_looked) := by rw [e_a_arrayFrom_31]; exact hD
  refine lv_aload_n hx hb dX10_newArray_32 rfl (lv_at hl 1 rfl) ?_
  refine va_get (D := D) (ci := 9) (v := .ref (q 25)) (C := RX10) (T := TX10) (N := 71) hx hb hts hin hown hK hP 0 rfl rfl 46 (by decide) k_6_7 (fun _ h9 => h9) rfl dX10_newArray_33 ?_
  refine lv_iload_n hx hb dX10_newArray_36 rfl (lv_at hl 0 rfl) ?_
  refine lv_iload_n hx hb dX10_newArray_37 rfl (lv_at hl 3 rfl) ?_
  refine va_iast hx hb hK hP hD hS 25 0 rfl rfl (ix (by omega) (by omega)) dX10_newArray_38 (fun H locs hP hD hS => ?_)
  obtain ⟨a_arrayLong_38, e_a_arrayLong_38⟩ : ∃ g, g = upd a_arrayLong v_arrays.toNatClampNeg n9 := ⟨_, rfl⟩
  have hP : va_P D vwCl (mw cs q v_thrown a_tape v_taped v_size v_to v_kind v_from v_letters v_letterMany v_digits v_isBeyond v_suffix v_steps v_fault v_hasProgram a_text a_act a_guess a_take a_begin a_finish a_to1 a_one a_two a_what a_ats a_atVar a_atNumber a_atomSort a_atomKind a_atomValue v_wrong v_wrongAt v_variable v_number v_numberKind v_takes a_out v_outed a_varSort a_varKind a_varValue a_creature v_creatures a_arrayClass_21 a_arrayFrom_31 a_arrayLong_38 x11 v_cells a_cellSort a_cellKind a_cellValue a_asideSort a_asideKind a_asideValue a_outcome v_marks v_came v_guessed v_right v_taken a_markSort a_markKind a_markClass a_markValue v_sort v_kindAt v_value a_index v_reached v_looked) H := by rw [e_a_arrayLong_38]; exact hP
  have hD : va_D A (mw cs q v_thrown a_tape v_taped v_size v_to v_kind v_from v_letters v_letterMany v_digits v_isBeyond v_suffix v_steps v_fault v_hasProgram a_text a_act a_guess a_take a_begin a_finish a_to1 a_one a_two a_what a_ats a_atVar a_atNumber a_atomSort a_atomKind a_atomValue v_wrong v_wrongAt v_variable v_number v_numberKind v_takes a_out v_outed a_varSort a_varKind a_varValue a_creature v_creatures a_arrayClass_21 a_arrayFrom_31 a_arrayLong_38 x11 v_cells a_cellSort a_cellKind a_cellValue a_asideSort a_asideKind a_asideValue a_outcome v_marks v_came v_guessed v_right v_taken a_markSort a_markKind a_markClass a_markValue v_sort v_kindAt v_value a_index v_reached v_looked) := by rw [e_a_arrayLong_38]; exact hD
  refine lv_aload_n hx hb dX10_newArray_39 rfl (lv_at hl 1 rfl) ?_
  refine lv_dup hx hb dX10_newArray_40 rfl ?_
  refine va_get (D := D) (ci := 9) (v := .int v_cells) (C := RX10) (T := TX10) (N := 71) hx hb hts hin hown hK hP 0 rfl rfl 48 (by decide) k_31_5 (fun _ h9 => h9) rfl dX10_newArray_41 ?_
  refine lv_iload_n hx hb dX10_newArray_44 rfl (lv_at hl 3 rfl) ?_
  refine m_iadd (X := v_cells.toInt) (Y := n9.toInt) hx hb dX10_newArray_45 rfl rfl (fun x45 e_x45 g9 => ?_)
  obtain ⟨k_x45, g_x45⟩ := g9
  have b_x45 := iB x45
  try (have q_x45 : x45.toInt = v_cells.toInt + n9.toInt := (by omega); clear g_x45 k_x45)
  refine va_put (D := D) (ci := 9) (v := .int x45) (ty := .int) (C := RX10) (T := TX10) (N := 71) hx hb hts hin tyX10 tyX10_ok nmX10 hown hK hP hD hS 0 rfl rfl 48 (by decide) k_31_5 (fun _ h9 => h9) rfl (by decide +kernel) rfl rfl (Nat.le_of_ble_eq_true rfl) dX10_newArray_46 (fun H locs hP hD hS => ?_)
  have hP : va_P D vwCl (mw cs q v_thrown a_tape v_taped v_size v_to v_kind v_from v_letters v_letterMany v_digits v_isBeyond v_suffix v_steps v_fault v_hasProgram a_text a_act a_guess a_take a_begin a_finish a_to1 a_one a_two a_what a_ats a_atVar a_atNumber a_atomSort a_atomKind a_atomValue v_wrong v_wrongAt v_variable v_number v_numberKind v_takes a_out v_outed a_varSort a_varKind a_varValue a_creature v_creatures a_arrayClass_21 a_arrayFrom_31 a_arrayLong_38 x11 x45 a_cellSort a_cellKind a_cellValue a_asideSort a_asideKind a_asideValue a_outcome v_marks v_came v_guessed v_right v_taken a_markSort a_markKind a_markClass a_markValue v_sort v_kindAt v_value a_index v_reached v_looked) H := hP
  have hD : va_D A (mw cs q v_thrown a_tape v_taped v_size v_to v_kind v_from v_letters v_letterMany v_digits v_isBeyond v_suffix v_steps v_fault v_hasProgram a_text a_act a_guess a_take a_begin a_finish a_to1 a_one a_two a_what a_ats a_atVar a_atNumber a_atomSort a_atomKind a_atomValue v_wrong v_wrongAt v_variable v_number v_numberKind v_takes a_out v_outed a_varSort a_varKind a_varValue a_creature v_creatures a_arrayClass_21 a_arrayFrom_31 a_arrayLong_38 x11 x45 a_cellSort a_cellKind a_cellValue a_asideSort a_asideKind a_asideValue a_outcome v_marks v_came v_guessed v_right v_taken a_markSort a_markKind a_markClass a_markValue v_sort v_kindAt v_value a_index v_reached v_looked) := hD
  have hf31 : a_arrayFrom_31 v_arrays.toNatClampNeg = v_cells := by rw [e_a_arrayFrom_31, upd_at]
  have hf32 := congrArg Int32.toInt hf31
  refine lv_iload_n hx hb dX10_newArray_49 rfl (lv_at hl 2 rfl) ?_
  refine call_iSP (As := [.int c9]) (rest := []) ⟨hx, hb, hml, hown, hts⟩ (tX10_isOfNumbers (l := l) c9) (va_cwS 1 hts (gS (wr49 _ (List.mem_of_getElem? (i := 4) rfl)) (wr49 _ (List.mem_of_getElem? (i := 5) rfl)) (wr1 _ (List.mem_of_getElem? (i := 5) rfl)) (wr49 _ (List.mem_of_getElem? (i := 6) rfl))) rfl rfl rfl (by decide +kernel) ⟨Nat.le_of_ble_eq_true rfl, Nat.le_of_ble_eq_true rfl⟩) (hK.sub [] rfl) hP hD hE hS hA rfl hl.1 rfl (Nat.le_of_ble_eq_true rfl) dX10_newArray_50 ⟨Nat.le_of_ble_eq_true rfl, Nat.le_of_ble_eq_true rfl⟩ (fun r50 w9 H locs hw50 hP hD hS => ?_)
  obtain ⟨rfl, hw50_0⟩ := hw50
  have b_r50 := iB r50
  refine lv_istore (lv' := [(4, .int r50), (3, .int v_arrays), (0, .ref (q 0)), (1, .int c9), (2, .int n9)]) hx hb dX10_newArray_53 hl (by decide) rfl (fun ls hl => ?_)
  refine lv_iconst (v := 0) hx hb dX10_newArray_55 (by decide) ?_
  refine lv_istore (lv' := [(5, .int 0), (4, .int r50), (3, .int v_arrays), (0, .ref (q 0)), (1, .int c9), (2, .int n9)]) hx hb dX10_newArray_56 hl (by decide) rfl (fun ls hl => ?_)
  have J58 : ∀ (n58 : Nat) (l5_58 : Int32) (a_cellKind_58 : Nat → Int32) (a_cellSort_58 : Nat → Int32) (a_cellValue_58 : Nat → Int64) (v_kindAt_58 : Int32) (v_sort_58 : Int32) (v_value_58 : Int64) (H : Heap) (locs : List Loc) (ls : Array Slot), (0 ≤ l5_58.toInt) → (l5_58.toInt ≤ n9.toInt) → (NCS c9 v_cells l5_58 a_cellSort a_cellKind a_cellValue a_cellSort_58 a_cellKind_58 a_cellValue_58) → (n9.toInt - l5_58.toInt < (n58 : Int)) → va_P D vwCl (mw cs q v_thrown a_tape v_taped v_size v_to v_kind v_from v_letters v_letterMany v_digits v_isBeyond v_suffix v_steps v_fault v_hasProgram a_text a_act a_guess a_take a_begin a_finish a_to1 a_one a_two a_what a_ats a_atVar a_atNumber a_atomSort a_atomKind a_atomValue v_wrong v_wrongAt v_variable v_number v_numberKind v_takes a_out v_outed a_varSort a_varKind a_varValue a_creature v_creatures a_arrayClass_21 a_arrayFrom_31 a_arrayLong_38 x11 x45 a_cellSort_58 a_cellKind_58 a_cellValue_58 a_asideSort a_asideKind a_asideValue a_outcome v_marks v_came v_guessed v_right v_taken a_markSort a_markKind a_markClass a_markValue v_sort_58 v_kindAt_58 v_value_58 a_index v_reached v_looked) H → va_D A (mw cs q v_thrown a_tape v_taped v_size v_to v_kind v_from v_letters v_letterMany v_digits v_isBeyond v_suffix v_steps v_fault v_hasProgram a_text a_act a_guess a_take a_begin a_finish a_to1 a_one a_two a_what a_ats a_atVar a_atNumber a_atomSort a_atomKind a_atomValue v_wrong v_wrongAt v_variable v_number v_numberKind v_takes a_out v_outed a_varSort a_varKind a_varValue a_creature v_creatures a_arrayClass_21 a_arrayFrom_31 a_arrayLong_38 x11 x45 a_cellSort_58 a_cellKind_58 a_cellValue_58 a_asideSort a_asideKind a_asideValue a_outcome v_marks v_came v_guessed v_right v_taken a_markSort a_markKind a_markClass a_markValue v_sort_58 v_kindAt_58 v_value_58 a_index v_reached v_looked) → va_S A s.heap H locs → lv_has ls 6 [(0, .ref (q 0)), (1, .int c9), (2, .int n9), (3, .int v_arrays), (4, .int r50), (5, .int l5_58)] → W p l e (headSpec (wG yX10_newArray cX10_newArray 6 (some .int)) rmX10_newArray).room s m ([.ref (q 0), .int c9, .int n9] : List Value).toArray below meth c H locs 0 0 Q (F0 m 58 ls []) := by
    intro n58
    induction n58 with
    | zero =>
      intro l5_58 a_cellKind_58 a_cellSort_58 a_cellValue_58 v_kindAt_58 v_sort_58 v_value_58 H locs ls f58_0 f58_1 f58_2 hm58
      exfalso
      omega
    | succ n58 ih58 =>
      intro l5_58 a_cellKind_58 a_cellSort_58 a_cellValue_58 v_kindAt_58 v_sort_58 v_value_58 H locs ls f58_0 f58_1 f58_2 hm58 hP hD hS hl
      refine lv_iload hx hb dX10_newArray_58 (lv_at hl 5 rfl) ?_
      refine lv_iload_n hx hb dX10_newArray_60 rfl (lv_at hl 2 rfl) ?_
      refine m_icmp_ge (X := l5_58.toInt) (Y := n9.toInt) (tgt := 98) hx hb dX10_newArray_61 (by decide) rfl rfl (fun c61 => ?_) (fun c61 => ?_)
      · skip
        refine lv_iload_n hx hb dX10_newArray_98 rfl (lv_at hl 3 rfl) ?_
        subst hAe
        rw [hQ]
        exact W.iret (v := v_arrays) hx hb hr (fun t ht hW => ⟨⟨v_arrays, _, rfl, ⟨a_arrayClass_21, a_arrayFrom_31, a_arrayLong_38, x11, x45, a_cellSort_58, a_cellKind_58, a_cellValue_58, v_sort_58, v_kindAt_58, v_value_58, rfl, by exact p_0.newArr (n := n9) (by rw [show n9 = l5_58 from (Int32.toInt_inj.1 (by omega))]; exact f58_2) (by omega) (by omega) (by omega) (by omega) (by omega) (by omega) (by omega) (by omega) e_a_arrayClass_21 e_a_arrayFrom_31 e_a_arrayLong_38, by rfl, by first | assumption | omega | (intros; omega) | decide, by first | assumption | omega | (intros; omega) | decide, by first | assumption | omega | (intros; omega) | decide, by first | assumption | omega | (intros; omega) | decide, by first | assumption | omega | (intros; omega) | decide⟩, by rw [ht]; exact hP, va_K.moved hW.alike hK, hD⟩, hS.F ht⟩) hS.2.2 dX10_newArray_99
      · skip
        refine lv_iload hx hb dX10_newArray_64 (lv_at hl 4 rfl) ?_
        have J85 : ∀ (v_kindAt_85 : Int32) (v_sort_85 : Int32) (v_value_85 : Int64) (H : Heap) (locs : List Loc) (ls : Array Slot), (NC c9 v_sort_85 v_kindAt_85 v_value_85) → va_P D vwCl (mw cs q v_thrown a_tape v_taped v_size v_to v_kind v_from v_letters v_letterMany v_digits v_isBeyond v_suffix v_steps v_fault v_hasProgram a_text a_act a_guess a_take a_begin a_finish a_to1 a_one a_two a_what a_ats a_atVar a_atNumber a_atomSort a_atomKind a_atomValue v_wrong v_wrongAt v_variable v_number v_numberKind v_takes a_out v_outed a_varSort a_varKind a_varValue a_creature v_creatures a_arrayClass_21 a_arrayFrom_31 a_arrayLong_38 x11 x45 a_cellSort_58 a_cellKind_58 a_cellValue_58 a_asideSort a_asideKind a_asideValue a_outcome v_marks v_came v_guessed v_right v_taken a_markSort a_markKind a_markClass a_markValue v_sort_85 v_kindAt_85 v_value_85 a_index v_reached v_looked) H → va_D A (mw cs q v_thrown a_tape v_taped v_size v_to v_kind v_from v_letters v_letterMany v_digits v_isBeyond v_suffix v_steps v_fault v_hasProgram a_text a_act a_guess a_take a_begin a_finish a_to1 a_one a_two a_what a_ats a_atVar a_atNumber a_atomSort a_atomKind a_atomValue v_wrong v_wrongAt v_variable v_number v_numberKind v_takes a_out v_outed a_varSort a_varKind a_varValue a_creature v_creatures a_arrayClass_21 a_arrayFrom_31 a_arrayLong_38 x11 x45 a_cellSort_58 a_cellKind_58 a_cellValue_58 a_asideSort a_asideKind a_asideValue a_outcome v_marks v_came v_guessed v_right v_taken a_markSort a_markKind a_markClass a_markValue v_sort_85 v_kindAt_85 v_value_85 a_index v_reached v_looked) → va_S A s.heap H locs → lv_has ls 6 [(0, .ref (q 0)), (1, .int c9), (2, .int n9), (3, .int v_arrays), (4, .int r50), (5, .int l5_58)] → W p l e (headSpec (wG yX10_newArray cX10_newArray 6 (some .int)) rmX10_newArray).room s m ([.ref (q 0), .int c9, .int n9] : List Value).toArray below meth c H locs 0 0 Q (F0 m 85 ls []) := by
          intro v_kindAt_85 v_sort_85 v_value_85 H locs ls f85_0 hP hD hS hl
          refine lv_aload_n hx hb dX10_newArray_85 rfl (lv_at hl 0 rfl) ?_
          refine lv_iload_n hx hb dX10_newArray_86 rfl (lv_at hl 3 rfl) ?_
          refine lv_iload hx hb dX10_newArray_87 (lv_at hl 5 rfl) ?_
          refine call_v (As := [.int v_arrays, .int l5_58]) (rest := []) ⟨hx, hb, hml, hown, hts⟩ (tX10_toCell (l := l) v_arrays l5_58 (by first | assumption | omega | (intros; omega) | decide) (by first | assumption | omega | (intros; omega) | decide) (by first | assumption | omega | (intros; omega) | decide) (by first | assumption | omega | (intros; omega) | decide) (by first | assumption | omega | (intros; omega) | decide)) (cwV 2 hts (gV (wr50 _ (List.mem_of_getElem? (i := 7) rfl)) (wr50 _ (List.mem_of_getElem? (i := 8) rfl)) (wr50 _ (List.mem_of_getElem? (i := 9) rfl)) (wr1 _ (List.mem_of_getElem? (i := 5) rfl)) (wr50 _ (List.mem_of_getElem? (i := 10) rfl))) rfl rfl rfl (by decide +kernel) ⟨Nat.le_of_ble_eq_true rfl, Nat.le_of_ble_eq_true rfl⟩) (va_recv hK hP (ci := 9) (q0 := 0) rfl rfl) hK hP hD hE hS hA rfl hl.1 rfl (Nat.le_of_ble_eq_true rfl) dX10_newArray_89 ⟨Nat.le_of_ble_eq_true rfl, Nat.le_of_ble_eq_true rfl⟩ (fun w9 H locs hw89 hP hD hS => ?_)
          obtain ⟨a_cellSort_89, a_cellKind_89, a_cellValue_89, rfl, hw89_0, hw89_1, hw89_2⟩ := hw89
          obtain ⟨x92, e_x92⟩ : ∃ z : Int32, z = l5_58 + (1 : Int32) := ⟨_, rfl⟩
          obtain ⟨k_x92, g_x92⟩ : ∃ k : Int, x92.toInt = l5_58.toInt + (1) + k * 4294967296 := by rw [e_x92]; exact iAdd l5_58 (1)
          have b_x92 := iB x92
          try (have q_x92 : x92.toInt = l5_58.toInt + (1) := (by omega); clear g_x92 k_x92)
          refine lv_iinc (v := x92) (lv' := [(5, .int x92), (0, .ref (q 0)), (1, .int c9), (2, .int n9), (3, .int v_arrays), (4, .int r50)]) hx hb dX10_newArray_92 hl (k := 5) rfl (by rw [e_x92]; rfl) (by decide) rfl (fun ls hl => ?_)
          refine lv_goto (tgt := 58) hx hb dX10_newArray_95 (by decide) ?_
          exact ih58 x92 a_cellKind_89 a_cellSort_89 a_cellValue_89 v_kindAt_85 v_sort_85 v_value_85 H locs ls (by first | assumption | omega | (intros; omega) | decide) (by first | assumption | omega | (intros; omega) | decide) (by first | exact NCS.zero (by decide) | exact f58_2.next f85_0 (by omega) (by omega) (by omega) (by rw [hf31]) hw89_0 hw89_1 hw89_2) (by omega) hP hD hS (lv_sub hl [1, 2, 3, 4, 5, 0] rfl)
        refine m_if_eq (X := r50.toInt) (tgt := 81) hx hb dX10_newArray_66 (by decide) rfl (fun c66 => ?_) (fun c66 => ?_)
        · skip
          refine lv_aload_n hx hb dX10_newArray_81 rfl (lv_at hl 0 rfl) ?_
          refine call_v (As := []) (rest := []) ⟨hx, hb, hml, hown, hts⟩ (tX10_none (l := l) ) (cwV 0 hts (gV (wr47 _ (List.mem_of_getElem? (i := 23) rfl)) (wr48 _ (List.mem_of_getElem? (i := 0) rfl)) (wr48 _ (List.mem_of_getElem? (i := 1) rfl)) (wr1 _ (List.mem_of_getElem? (i := 5) rfl)) (wr48 _ (List.mem_of_getElem? (i := 2) rfl))) rfl rfl rfl (by decide +kernel) ⟨Nat.le_of_ble_eq_true rfl, Nat.le_of_ble_eq_true rfl⟩) (va_recv hK hP (ci := 9) (q0 := 0) rfl rfl) hK hP hD hE hS hA rfl hl.1 rfl (Nat.le_of_ble_eq_true rfl) dX10_newArray_82 ⟨Nat.le_of_ble_eq_true rfl, Nat.le_of_ble_eq_true rfl⟩ (fun w9 H locs hw82 hP hD hS => ?_)
          obtain ⟨v_sort_82, v_kindAt_82, v_value_82, rfl, hw82_0, hw82_1, hw82_2⟩ := hw82
          have b_v_sort_82 := iB v_sort_82
          have b_v_kindAt_82 := iB v_kindAt_82
          have b_v_value_82 := jB v_value_82
          exact J85 v_kindAt_82 v_sort_82 v_value_82 H locs ls (by first | exact Or.inl ⟨hw75_0, numOK0 _ hw75_2⟩ | exact Or.inr ⟨hw82_0, by omega⟩) hP hD hS (lv_sub hl [0, 1, 2, 3, 4, 5] rfl)
        · skip
          refine lv_aload_n hx hb dX10_newArray_69 rfl (lv_at hl 0 rfl) ?_
          refine lv_iload_n hx hb dX10_newArray_70 rfl (lv_at hl 1 rfl) ?_
          refine lv_bipush (v := 20) hx hb dX10_newArray_71 (by decide) ?_
          refine m_isub (X := c9.toInt) (Y := 20) hx hb dX10_newArray_73 rfl (by decide) (fun x73 e_x73 g9 => ?_)
          obtain ⟨k_x73, g_x73⟩ := g9
          have b_x73 := iB x73
          try (have q_x73 : x73.toInt = c9.toInt - 20 := (by omega); clear g_x73 k_x73)
          refine lv_lconst (v := 0) hx hb dX10_newArray_74 (by decide) ?_
          refine call_v (As := [.int x73, .long 0]) (rest := []) ⟨hx, hb, hml, hown, hts⟩ (tX10_number (l := l) x73 (0 : Int64)) (cwV 2 hts (gV (wr47 _ (List.mem_of_getElem? (i := 19) rfl)) (wr47 _ (List.mem_of_getElem? (i := 20) rfl)) (wr47 _ (List.mem_of_getElem? (i := 21) rfl)) (wr1 _ (List.mem_of_getElem? (i := 5) rfl)) (wr47 _ (List.mem_of_getElem? (i := 22) rfl))) rfl rfl rfl (by decide +kernel) ⟨Nat.le_of_ble_eq_true rfl, Nat.le_of_ble_eq_true rfl⟩) (va_recv hK hP (ci := 9) (q0 := 0) rfl rfl) hK hP hD hE hS hA rfl hl.1 rfl (Nat.le_of_ble_eq_true rfl) dX10_newArray_75 ⟨Nat.le_of_ble_eq_true rfl, Nat.le_of_ble_eq_true rfl⟩ (fun w9 H locs hw75 hP hD hS => ?_)
          obtain ⟨v_sort_75, v_kindAt_75, v_value_75, rfl, hw75_0, hw75_1, hw75_2⟩ := hw75
          have b_v_sort_75 := iB v_sort_75
          have b_v_kindAt_75 := iB v_kindAt_75
          have b_v_value_75 := jB v_value_75
          refine lv_goto (tgt := 85) hx hb dX10_newArray_78 (by decide) ?_
          exact J85 v_kindAt_75 v_sort_75 v_value_75 H locs ls (by first | exact Or.inl ⟨hw75_0, numOK0 _ hw75_2⟩ | exact Or.inr ⟨hw82_0, by omega⟩) hP hD hS (lv_sub hl [0, 1, 2, 3, 4, 5] rfl)
  exact J58 ((n9.toInt - (0 : Int32).toInt).toNat + 1) (0 : Int32) a_cellKind a_cellSort a_cellValue v_kindAt v_sort v_value H locs ls (by first | assumption | omega | (intros; omega) | decide) (by first | assumption | omega | (intros; omega) | decide) (by first | exact NCS.zero (by decide) | exact f58_2.next f85_0 (by omega) (by omega) (by omega) (by rw [hf31]) hw89_0 hw89_1 hw89_2) (by omega) hP hD hS (lv_sub hl [3, 4, 5, 2, 1, 0] rfl)
