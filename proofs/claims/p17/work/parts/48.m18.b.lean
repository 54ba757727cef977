def rmX10_named_q2 : Room := { frames := 180, cells := 0, slots := 0, locals := 3600 }
set_option maxHeartbeats 4000000 in
set_option maxRecDepth 100000 in
theorem tX10_named_q2 {l : Launch} {D : va_G} {K : Nat → Nat → Nat} {cs : Nat → ClassId} {q : Nat → Nat} {v_thrown v_taped v_size v_to v_kind v_from v_letterMany v_isBeyond v_suffix v_steps v_fault v_hasProgram v_wrong v_wrongAt v_variable v_numberKind v_takes v_outed v_creatures v_arrays v_cells v_marks v_came v_guessed v_right v_taken v_sort v_kindAt v_reached v_looked : Int32} {a_tape a_text a_act a_guess a_take a_begin a_finish a_to1 a_one a_two a_what a_ats a_atVar a_atNumber a_atomSort a_atomKind a_out a_varSort a_varKind a_creature a_arrayClass a_arrayFrom a_arrayLong a_cellSort a_cellKind a_asideSort a_asideKind a_outcome a_markSort a_markKind a_markClass a_index : Nat → Int32} {v_letters v_digits v_number v_value : Int64} {a_atomValue a_varValue a_cellValue a_asideValue a_markValue : Nat → Int64} (p_0 : 0 ≤ v_taped.toInt) (p_1 : v_taped.toInt ≤ 3100) (p_2 : v_isBeyond.toInt = 0 ∨ v_isBeyond.toInt = 1) : CtI l yX10_named (wG yX10_named cX10_named 2 (some .int)) rmX10_named_q2 D (mwT cs) K [.ref (q 0)] (mw cs q v_thrown a_tape v_taped v_size v_to v_kind v_from v_letters v_letterMany v_digits v_isBeyond v_suffix v_steps v_fault v_hasProgram a_text a_act a_guess a_take a_begin a_finish a_to1 a_one a_two a_what a_ats a_atVar a_atNumber a_atomSort a_atomKind a_atomValue v_wrong v_wrongAt v_variable v_number v_numberKind v_takes a_out v_outed a_varSort a_varKind a_varValue a_creature v_creatures a_arrayClass a_arrayFrom a_arrayLong v_arrays v_cells a_cellSort a_cellKind a_cellValue a_asideSort a_asideKind a_asideValue a_outcome v_marks v_came v_guessed v_right v_taken a_markSort a_markKind a_markClass a_markValue v_sort v_kindAt v_value a_index v_reached v_looked) (fun r w1 => ∃ (v_thrown' : Int32) (v_taped' : Int32) (v_size' : Int32) (v_to' : Int32) (v_kind' : Int32) (v_from' : Int32) (v_letters' : Int64) (v_letterMany' : Int32) (v_digits' : Int64) (v_isBeyond' : Int32) (v_suffix' : Int32) (a_what' : Nat → Int32) (v_wrong' : Int32) (v_wrongAt' : Int32), w1 = (mw cs q v_thrown' a_tape v_taped' v_size' v_to' v_kind' v_from' v_letters' v_letterMany' v_digits' v_isBeyond' v_suffix' v_steps v_fault v_hasProgram a_text a_act a_guess a_take a_begin a_finish a_to1 a_one a_two a_what' a_ats a_atVar a_atNumber a_atomSort a_atomKind a_atomValue v_wrong' v_wrongAt' v_variable v_number v_numberKind v_takes a_out v_outed a_varSort a_varKind a_varValue a_creature v_creatures a_arrayClass a_arrayFrom a_arrayLong v_arrays v_cells a_cellSort a_cellKind a_cellValue a_asideSort a_asideKind a_asideValue a_outcome v_marks v_came v_guessed v_right v_taken a_markSort a_markKind a_markClass a_markValue v_sort v_kindAt v_value a_index v_reached v_looked) ∧ (v_taped'.toInt = 0) ∧ (v_isBeyond'.toInt = 0 ∨ v_isBeyond'.toInt = 1) ∧ (SAME a_what' a_what (201 : Int32).toNatClampNeg)) 0 0 := by
  intro sz
  refine Met.ofW (cc := cX10_named) (maxL := 2) (ret := (some .int)) (by decide) rfl ?_
  intro p e s m args below meth c s₁ B hml hv
  obtain ⟨rfl, hsz, hP, hK, hD0, hE⟩ := hv
  have hx := B.exec
  have hb := B.bytes
  have hr := B.returns
  have hts := atoms_spec (ws := (wG yX10_named cX10_named 2 (some .int))) B.pre
  have hown : s.vm.findClass RX10 = some m.cls := findClass_of_methodNamed B.named
  have hlocks := B.notSynchronized
  subst hsz
  have hD := hD0.self (sz := s.heap.size)
  obtain ⟨A, hAe⟩ : ∃ A : Nat → Prop, A = va_A (mw cs q v_thrown a_tape v_taped v_size v_to v_kind v_from v_letters v_letterMany v_digits v_isBeyond v_suffix v_steps v_fault v_hasProgram a_text a_act a_guess a_take a_begin a_finish a_to1 a_one a_two a_what a_ats a_atVar a_atNumber a_atomSort a_atomKind a_atomValue v_wrong v_wrongAt v_variable v_number v_numberKind v_takes a_out v_outed a_varSort a_varKind a_varValue a_creature v_creatures a_arrayClass a_arrayFrom a_arrayLong v_arrays v_cells a_cellSort a_cellKind a_cellValue a_asideSort a_asideKind a_asideValue a_outcome v_marks v_came v_guessed v_right v_taken a_markSort a_markKind a_markClass a_markValue v_sort v_kindAt v_value a_index v_reached v_looked) s.heap.size := ⟨_, rfl⟩
  rw [← hAe] at hD hE
  have hA : ∀ q : Nat, s.heap.size ≤ q → A q := fun q h => by rw [hAe]; exact Or.inr h
  have hS : va_S A s.heap s.heap [] := va_S.rf
  have hl := lv_entry ([.ref (q 0)]) (n := 2) (Nat.le_of_ble_eq_true rfl)
  rw [lg_entry_eq]
  generalize (lg_sl ([.ref (q 0)]) ++ List.replicate (2 - (lg_sl ([.ref (q 0)])).length) Slot.unset).toArray = ls at hl ⊢
  have hl : lv_has ls 2 [(0, .ref (q 0))] := hl
  refine wq (fun Q hQ => ?_)
  have hin : ∀ w ∈ wsX100, w ∈ (wG yX10_named cX10_named 2 (some .int)) := fun w h => List.mem_cons_of_mem _ (inlX10 w h)
  have kc0 : (-1 : Int32).toInt = -1 := by decide
  have kc1 : (0 : Int32).toInt = 0 := by decide
  have kc2 : (201 : Int32).toInt = 201 := by decide
  have k_7_9 := hts (.fieldLink RX10 122 "ArrayTrainerModel" "thrown" "I") (List.mem_cons_of_mem _ (wr7 _ (List.mem_of_getElem? (i := 9) rfl)))
  have k_7_10 := hts (.fieldLink RX10 126 "ArrayTrainerModel" "taped" "I") (List.mem_cons_of_mem _ (wr7 _ (List.mem_of_getElem? (i := 10) rfl)))
  have k_22_11 := hts (.fieldLink RX10 261 "ArrayTrainerModel" "size" "I") (List.mem_cons_of_mem _ (wr22 _ (List.mem_of_getElem? (i := 11) rfl)))
  have k_22_12 := hts (.fieldLink RX10 263 "ArrayTrainerModel" "to" "I") (List.mem_cons_of_mem _ (wr22 _ (List.mem_of_getElem? (i := 12) rfl)))
  have k_22_15 := hts (.fieldLink RX10 273 "ArrayTrainerModel" "kind" "I") (List.mem_cons_of_mem _ (wr22 _ (List.mem_of_getElem? (i := 15) rfl)))
  have k_5_17 := hts (.fieldLink RX10 40 "ArrayTrainerModel" "what" "[I") (List.mem_cons_of_mem _ (wr5 _ (List.mem_of_getElem? (i := 17) rfl)))
  obtain ⟨H, hH⟩ : ∃ H : Heap, H = s.heap := ⟨_, rfl⟩
  obtain ⟨locs, hlc⟩ : ∃ L : List Loc, L = [] := ⟨_, rfl⟩
  have hP : va_P D vwCl (mw cs q v_thrown a_tape v_taped v_size v_to v_kind v_from v_letters v_letterMany v_digits v_isBeyond v_suffix v_steps v_fault v_hasProgram a_text a_act a_guess a_take a_begin a_finish a_to1 a_one a_two a_what a_ats a_atVar a_atNumber a_atomSort a_atomKind a_atomValue v_wrong v_wrongAt v_variable v_number v_numberKind v_takes a_out v_outed a_varSort a_varKind a_varValue a_creature v_creatures a_arrayClass a_arrayFrom a_arrayLong v_arrays v_cells a_cellSort a_cellKind a_cellValue a_asideSort a_asideKind a_asideValue a_outcome v_marks v_came v_guessed v_right v_taken a_markSort a_markKind a_markClass a_markValue v_sort v_kindAt v_value a_index v_reached v_looked) H := by rw [hH]; exact hP
  have hS : va_S A s.heap H locs := by rw [hH, hlc]; exact hS
  refine wHL hH hlc ?_
  refine lv_aload_n hx hb dX10_named_0 rfl (lv_at hl 0 rfl) ?_
  refine lv_iconst (v := 0) hx hb dX10_named_1 (by decide) ?_
  refine va_put (D := D) (ci := 9) (v := .int 0) (ty := .int) (C := RX10) (T := TX10) (N := 71) hx hb hts hin tyX10 tyX10_ok nmX10 hown hK hP hD hS 0 rfl rfl 0 (by decide) k_7_9 (fun _ h9 => h9) rfl (by decide +kernel) rfl rfl (Nat.le_of_ble_eq_true rfl) dX10_named_2 (fun H locs hP hD hS => ?_)
  have hP : va_P D vwCl (mw cs q (0 : Int32) a_tape v_taped v_size v_to v_kind v_from v_letters v_letterMany v_digits v_isBeyond v_suffix v_steps v_fault v_hasProgram a_text a_act a_guess a_take a_begin a_finish a_to1 a_one a_two a_what a_ats a_atVar a_atNumber a_atomSort a_atomKind a_atomValue v_wrong v_wrongAt v_variable v_number v_numberKind v_takes a_out v_outed a_varSort a_varKind a_varValue a_creature v_creatures a_arrayClass a_arrayFrom a_arrayLong v_arrays v_cells a_cellSort a_cellKind a_cellValue a_asideSort a_asideKind a_asideValue a_outcome v_marks v_came v_guessed v_right v_taken a_markSort a_markKind a_markClass a_markValue v_sort v_kindAt v_value a_index v_reached v_looked) H := hP
  have hD : va_D A (mw cs q (0 : Int32) a_tape v_taped v_size v_to v_kind v_from v_letters v_letterMany v_digits v_isBeyond v_suffix v_steps v_fault v_hasProgram a_text a_act a_guess a_take a_begin a_finish a_to1 a_one a_two a_what a_ats a_atVar a_atNumber a_atomSort a_atomKind a_atomValue v_wrong v_wrongAt v_variable v_number v_numberKind v_takes a_out v_outed a_varSort a_varKind a_varValue a_creature v_creatures a_arrayClass a_arrayFrom a_arrayLong v_arrays v_cells a_cellSort a_cellKind a_cellValue a_asideSort a_asideKind a_asideValue a_outcome v_marks v_came v_guessed v_right v_taken a_markSort a_markKind a_markClass a_markValue v_sort v_kindAt v_value a_index v_reached v_looked) := hD
  refine lv_aload_n hx hb dX10_named_5 rfl (lv_at hl 0 rfl) ?_
  refine lv_aload_n hx hb dX10_named_6 rfl (lv_at hl 0 rfl) ?_
  refine va_get (D := D) (ci := 9) (v := .int v_taped) (C := RX10) (T := TX10) (N := 71) hx hb hts hin hown hK hP 0 rfl rfl 2 (by decide) k_7_10 (fun _ h9 => h9) rfl dX10_named_7 ?_
  refine va_put (D := D) (ci := 9) (v := .int v_taped) (ty := .int) (C := RX10) (T := TX10) (N := 71) hx hb hts hin tyX10 tyX10_ok nmX10 hown hK hP hD hS 0 rfl rfl 3 (by decide) k_22_11 (fun _ h9 => h9) rfl (by decide +kernel) rfl rfl (Nat.le_of_ble_eq_true rfl) dX10_named_10 (fun H locs hP hD hS => ?_)
  have hP : va_P D vwCl (mw cs q (0 : Int32) a_tape v_taped v_taped v_to v_kind v_from v_letters v_letterMany v_digits v_isBeyond v_suffix v_steps v_fault v_hasProgram a_text a_act a_guess a_take a_begin a_finish a_to1 a_one a_two a_what a_ats a_atVar a_atNumber a_atomSort a_atomKind a_atomValue v_wrong v_wrongAt v_variable v_number v_numberKind v_takes a_out v_outed a_varSort a_varKind a_varValue a_creature v_creatures a_arrayClass a_arrayFrom a_arrayLong v_arrays v_cells a_cellSort a_cellKind a_cellValue a_asideSort a_asideKind a_asideValue a_outcome v_marks v_came v_guessed v_right v_taken a_markSort a_markKind a_markClass a_markValue v_sort v_kindAt v_value a_index v_reached v_looked) H := hP
  have hD : va_D A (mw cs q (0 : Int32) a_tape v_taped v_taped v_to v_kind v_from v_letters v_letterMany v_digits v_isBeyond v_suffix v_steps v_fault v_hasProgram a_text a_act a_guess a_take a_begin a_finish a_to1 a_one a_two a_what a_ats a_atVar a_atNumber a_atomSort a_atomKind a_atomValue v_wrong v_wrongAt v_variable v_number v_numberKind v_takes a_out v_outed a_varSort a_varKind a_varValue a_creature v_creatures a_arrayClass a_arrayFrom a_arrayLong v_arrays v_cells a_cellSort a_cellKind a_cellValue a_asideSort a_asideKind a_asideValue a_outcome v_marks v_came v_guessed v_right v_taken a_markSort a_markKind a_markClass a_markValue v_sort v_kindAt v_value a_index v_reached v_looked) := hD
  refine lv_aload_n hx hb dX10_named_13 rfl (lv_at hl 0 rfl) ?_
  refine lv_iconst (v := 0) hx hb dX10_named_14 (by decide) ?_
  refine va_put (D := D) (ci := 9) (v := .int 0) (ty := .int) (C := RX10) (T := TX10) (N := 71) hx hb hts hin tyX10 tyX10_ok nmX10 hown hK hP hD hS 0 rfl rfl 2 (by decide) k_7_10 (fun _ h9 => h9) rfl (by decide +kernel) rfl rfl (Nat.le_of_ble_eq_true rfl) dX10_named_15 (fun H locs hP hD hS => ?_)
  have hP : va_P D vwCl (mw cs q (0 : Int32) a_tape (0 : Int32) v_taped v_to v_kind v_from v_letters v_letterMany v_digits v_isBeyond v_suffix v_steps v_fault v_hasProgram a_text a_act a_guess a_take a_begin a_finish a_to1 a_one a_two a_what a_ats a_atVar a_atNumber a_atomSort a_atomKind a_atomValue v_wrong v_wrongAt v_variable v_number v_numberKind v_takes a_out v_outed a_varSort a_varKind a_varValue a_creature v_creatures a_arrayClass a_arrayFrom a_arrayLong v_arrays v_cells a_cellSort a_cellKind a_cellValue a_asideSort a_asideKind a_asideValue a_outcome v_marks v_came v_guessed v_right v_taken a_markSort a_markKind a_markClass a_markValue v_sort v_kindAt v_value a_index v_reached v_looked) H := hP
  have hD : va_D A (mw cs q (0 : Int32) a_tape (0 : Int32) v_taped v_to v_kind v_from v_letters v_letterMany v_digits v_isBeyond v_suffix v_steps v_fault v_hasProgram a_text a_act a_guess a_take a_begin a_finish a_to1 a_one a_two a_what a_ats a_atVar a_atNumber a_atomSort a_atomKind a_atomValue v_wrong v_wrongAt v_variable v_number v_numberKind v_takes a_out v_outed a_varSort a_varKind a_varValue a_creature v_creatures a_arrayClass a_arrayFrom a_arrayLong v_arrays v_cells a_cellSort a_cellKind a_cellValue a_asideSort a_asideKind a_asideValue a_outcome v_marks v_came v_guessed v_right v_taken a_markSort a_markKind a_markClass a_markValue v_sort v_kindAt v_value a_index v_reached v_looked) := hD
  refine lv_aload_n hx hb dX10_named_18 rfl (lv_at hl 0 rfl) ?_
  refine lv_iconst (v := 0) hx hb dX10_named_19 (by decide) ?_
  refine va_put (D := D) (ci := 9) (v := .int 0) (ty := .int) (C := RX10) (T := TX10) (N := 71) hx hb hts hin tyX10 tyX10_ok nmX10 hown hK hP hD hS 0 rfl rfl 4 (by decide) k_22_12 (fun _ h9 => h9) rfl (by decide +kernel) rfl rfl (Nat.le_of_ble_eq_true rfl) dX10_named_20 (fun H locs hP hD hS => ?_)
  have hP : va_P D vwCl (mw cs q (0 : Int32) a_tape (0 : Int32) v_taped (0 : Int32) v_kind v_from v_letters v_letterMany v_digits v_isBeyond v_suffix v_steps v_fault v_hasProgram a_text a_act a_guess a_take a_begin a_finish a_to1 a_one a_two a_what a_ats a_atVar a_atNumber a_atomSort a_atomKind a_atomValue v_wrong v_wrongAt v_variable v_number v_numberKind v_takes a_out v_outed a_varSort a_varKind a_varValue a_creature v_creatures a_arrayClass a_arrayFrom a_arrayLong v_arrays v_cells a_cellSort a_cellKind a_cellValue a_asideSort a_asideKind a_asideValue a_outcome v_marks v_came v_guessed v_right v_taken a_markSort a_markKind a_markClass a_markValue v_sort v_kindAt v_value a_index v_reached v_looked) H := hP
  have hD : va_D A (mw cs q (0 : Int32) a_tape (0 : Int32) v_taped (0 : Int32) v_kind v_from v_letters v_letterMany v_digits v_isBeyond v_suffix v_steps v_fault v_hasProgram a_text a_act a_guess a_take a_begin a_finish a_to1 a_one a_two a_what a_ats a_atVar a_atNumber a_atomSort a_atomKind a_atomValue v_wrong v_wrongAt v_variable v_number v_numberKind v_takes a_out v_outed a_varSort a_varKind a_varValue a_creature v_creatures a_arrayClass a_arrayFrom a_arrayLong v_arrays v_cells a_cellSort a_cellKind a_cellValue a_asideSort a_asideKind a_asideValue a_outcome v_marks v_came v_guessed v_right v_taken a_markSort a_markKind a_markClass a_markValue v_sort v_kindAt v_value a_index v_reached v_looked) := hD
  refine lv_aload_n hx hb dX10_named_23 rfl (lv_at hl 0 rfl) ?_
  refine call_v (As := []) (rest := []) ⟨hx, hb, hml, hown, hts⟩ (tX10_goB (l := l)  (by exact ⟨⟨by omega, by omega⟩, ⟨by decide, by omega⟩, by omega⟩)) (cwV 0 hts (gV (wr22 _ (List.mem_of_getElem? (i := 20) rfl)) (wr22 _ (List.mem_of_getElem? (i := 21) rfl)) (wr22 _ (List.mem_of_getElem? (i := 22) rfl)) (wr1 _ (List.mem_of_getElem? (i := 5) rfl)) (wr22 _ (List.mem_of_getElem? (i := 23) rfl))) rfl rfl rfl (by decide +kernel) ⟨Nat.le_of_ble_eq_true rfl, Nat.le_of_ble_eq_true rfl⟩) (va_recv hK hP (ci := 9) (q0 := 0) rfl rfl) hK hP hD hE hS hA rfl hl.1 rfl (Nat.le_of_ble_eq_true rfl) dX10_named_24 ⟨Nat.le_of_ble_eq_true rfl, Nat.le_of_ble_eq_true rfl⟩ (fun w9 H locs hw24 hP hD hS => ?_)
  obtain ⟨v_to_24, v_kind_24, v_from_24, v_letters_24, v_letterMany_24, v_digits_24, v_isBeyond_24, v_suffix_24, rfl, hw24_0, hw24_1, hw24_2⟩ := hw24
  have b_v_to_24 := iB v_to_24
  have b_v_kind_24 := iB v_kind_24
  have b_v_from_24 := iB v_from_24
  have b_v_letters_24 := jB v_letters_24
  have b_v_letterMany_24 := iB v_letterMany_24
  have b_v_digits_24 := jB v_digits_24
  have b_v_isBeyond_24 := iB v_isBeyond_24
  have b_v_suffix_24 := iB v_suffix_24
  refine lv_sipush (v := 201) hx hb dX10_named_27 (by decide) ?_
  refine lv_istore_n (lv' := [(1, .int 201), (0, .ref (q 0))]) hx hb dX10_named_30 rfl hl (by decide) rfl (fun ls hl => ?_)
  refine lv_aload_n hx hb dX10_named_31 rfl (lv_at hl 1 rfl) ?_
  refine lv_iload_n hx hb dX10_named_32 rfl (lv_at hl 0 rfl) ?_
  refine call_i (As := [.int 201]) (rest := []) ⟨hx, hb, hml, hown, hts⟩ (tX10_readClass (l := l) (201 : Int32) (by first | assumption | omega | (intros; omega) | decide) (by first | assumption | omega | (intros; omega) | decide) (by first | assumption | omega | (intros; omega) | decide)) (cwV 1 hts (gV (wr30 _ (List.mem_of_getElem? (i := 3) rfl)) (wr30 _ (List.mem_of_getElem? (i := 4) rfl)) (wr30 _ (List.mem_of_getElem? (i := 5) rfl)) (wr1 _ (List.mem_of_getElem? (i := 5) rfl)) (wr30 _ (List.mem_of_getElem? (i := 6) rfl))) rfl rfl rfl (by decide +kernel) ⟨Nat.le_of_ble_eq_true rfl, Nat.le_of_ble_eq_true rfl⟩) (va_recv hK hP (ci := 9) (q0 := 0) rfl rfl) hK hP hD hE hS hA rfl hl.1 rfl (Nat.le_of_ble_eq_true rfl) dX10_named_33 ⟨Nat.le_of_ble_eq_true rfl, Nat.le_of_ble_eq_true rfl⟩ (fun r33 w9 H locs hw33 hP hD hS => ?_)
  obtain ⟨v_to_33, v_kind_33, v_from_33, v_letters_33, v_letterMany_33, v_digits_33, v_isBeyond_33, v_suffix_33, a_what_33, v_wrong_33, v_wrongAt_33, rfl, hw33_0, hw33_1, hw33_2, hw33_3, hw33_4⟩ := hw33
  have b_v_to_33 := iB v_to_33
  have b_v_kind_33 := iB v_kind_33
  have b_v_from_33 := iB v_from_33
  have b_v_letters_33 := jB v_letters_33
  have b_v_letterMany_33 := iB v_letterMany_33
  have b_v_digits_33 := jB v_digits_33
  have b_v_isBeyond_33 := iB v_isBeyond_33
  have b_v_suffix_33 := iB v_suffix_33
  have b_v_wrong_33 := iB v_wrong_33
  have b_v_wrongAt_33 := iB v_wrongAt_33
  have b_r33 := iB r33
  refine m_if_eq (X := r33.toInt) (tgt := 55) hx hb dX10_named_36 (by decide) rfl (fun c36 => ?_) (fun c36 => ?_)
  · skip
    refine lv_iconst (v := (-1)) hx hb dX10_named_55 (by decide) ?_
    have hz := hw33_0.1.2.2
    subst hAe
    rw [hQ]
    exact W.iret (v := (-1)) hx hb hr (fun t ht hW => ⟨⟨(-1), _, rfl, ⟨(0 : Int32), (0 : Int32), v_taped, v_to_33, v_kind_33, v_from_33, v_letters_33, v_letterMany_33, v_digits_33, v_isBeyond_33, v_suffix_33, a_what_33, v_wrong_33, v_wrongAt_33, rfl, by first | assumption | omega | (intros; omega) | decide, by first | assumption | omega | (intros; omega) | decide, by first | assumption | exact hw33_4⟩, by rw [ht]; exact hP, va_K.moved hW.alike hK, hD⟩, hS.F ht⟩) hS.2.2 dX10_named_56
  · skip
    refine lv_aload_n hx hb dX10_named_39 rfl (lv_at hl 1 rfl) ?_
    refine va_get (D := D) (ci := 9) (v := .int v_kind_33) (C := RX10) (T := TX10) (N := 71) hx hb hts hin hown hK hP 0 rfl rfl 5 (by decide) k_22_15 (fun _ h9 => h9) rfl dX10_named_40 ?_
    refine m_if_ne (X := v_kind_33.toInt) (tgt := 55) hx hb dX10_named_43 (by decide) rfl (fun c43 => ?_) (fun c43 => ?_)
    · skip
      refine lv_iconst (v := (-1)) hx hb dX10_named_55 (by decide) ?_
      have hz := hw33_0.1.2.2
      subst hAe
      rw [hQ]
      exact W.iret (v := (-1)) hx hb hr (fun t ht hW => ⟨⟨(-1), _, rfl, ⟨(0 : Int32), (0 : Int32), v_taped, v_to_33, v_kind_33, v_from_33, v_letters_33, v_letterMany_33, v_digits_33, v_isBeyond_33, v_suffix_33, a_what_33, v_wrong_33, v_wrongAt_33, rfl, by first | assumption | omega | (intros; omega) | decide, by first | assumption | omega | (intros; omega) | decide, by first | assumption | exact hw33_4⟩, by rw [ht]; exact hP, va_K.moved hW.alike hK, hD⟩, hS.F ht⟩) hS.2.2 dX10_named_56
    · skip
      refine lv_aload_n hx hb dX10_named_46 rfl (lv_at hl 1 rfl) ?_
      refine va_get (D := D) (ci := 9) (v := .ref (q 11)) (C := RX10) (T := TX10) (N := 71) hx hb hts hin hown hK hP 0 rfl rfl 24 (by decide) k_5_17 (fun _ h9 => h9) rfl dX10_named_47 ?_
      refine lv_iload_n hx hb dX10_named_50 rfl (lv_at hl 0 rfl) ?_
      refine m_iald hx hb hK hP 11 0 rfl rfl (ix (by decide) (by decide)) dX10_named_51 (fun x51 e_x51 => ?_)
      have b_x51 := iB x51
      refine lv_goto (tgt := 56) hx hb dX10_named_52 (by decide) ?_
      have hz := hw33_0.1.2.2
      subst hAe
      rw [hQ]
      exact W.iret (v := x51) hx hb hr (fun t ht hW => ⟨⟨x51, _, rfl, ⟨(0 : Int32), (0 : Int32), v_taped, v_to_33, v_kind_33, v_from_33, v_letters_33, v_letterMany_33, v_digits_33, v_isBeyond_33, v_suffix_33, a_what_33, v_wrong_33, v_wrongAt_33, rfl, by first | assumption | omega | (intros; omega) | decide, by first | assumption | omega | (intros; omega) | decide, by first | assumption | exact hw33_4⟩, by rw [ht]; exact hP, va_K.moved hW.alike hK, hD⟩, hS.F ht⟩) hS.2.2 dX10_named_56
