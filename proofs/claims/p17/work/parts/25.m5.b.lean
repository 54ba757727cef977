def rmX10_readStep : Room := { frames := 220, cells := 0, slots := 0, locals := 4400 }
set_option maxHeartbeats 4000000 in
set_option maxRecDepth 100000 in
theorem tX10_readStep {l : Launch} {D : va_G} {K : Nat → Nat → Nat} {cs : Nat → ClassId} {q : Nat → Nat} {v_thrown v_taped v_size v_to v_kind v_from v_letterMany v_isBeyond v_suffix v_steps v_fault v_hasProgram v_wrong v_wrongAt v_variable v_numberKind v_takes v_outed v_creatures v_arrays v_cells v_marks v_came v_guessed v_right v_taken v_sort v_kindAt v_reached v_looked : Int32} {a_tape a_text a_act a_guess a_take a_begin a_finish a_to1 a_one a_two a_what a_ats a_atVar a_atNumber a_atomSort a_atomKind a_out a_varSort a_varKind a_creature a_arrayClass a_arrayFrom a_arrayLong a_cellSort a_cellKind a_asideSort a_asideKind a_outcome a_markSort a_markKind a_markClass a_index : Nat → Int32} {v_letters v_digits v_number v_value : Int64} {a_atomValue a_varValue a_cellValue a_asideValue a_markValue : Nat → Int64} (s9 : Int32) (p_0 : LX a_tape v_size v_to v_from v_kind v_letters v_letterMany v_isBeyond) (p_1 : 0 ≤ v_variable.toInt ∧ v_variable.toInt ≤ 25) (p_2 : NumOK v_numberKind v_number) (p_3 : Rm25 a_atVar) (p_4 : 0 ≤ s9.toInt) (p_5 : s9.toInt ≤ 201) (p_6 : R03 a_ats) (p_7 : R25 a_one) (p_8 : R25 a_two) (p_9 : R25 a_to1) (p_10 : ATM a_atomSort a_atomKind a_atomValue) (p_11 : v_kind.toInt = 2) : CtI l yX10_readStep (wG yX10_readStep cX10_readStep 2 (some .boolean)) rmX10_readStep D (mwT cs) K [.ref (q 0), .int s9] (mw cs q v_thrown a_tape v_taped v_size v_to v_kind v_from v_letters v_letterMany v_digits v_isBeyond v_suffix v_steps v_fault v_hasProgram a_text a_act a_guess a_take a_begin a_finish a_to1 a_one a_two a_what a_ats a_atVar a_atNumber a_atomSort a_atomKind a_atomValue v_wrong v_wrongAt v_variable v_number v_numberKind v_takes a_out v_outed a_varSort a_varKind a_varValue a_creature v_creatures a_arrayClass a_arrayFrom a_arrayLong v_arrays v_cells a_cellSort a_cellKind a_cellValue a_asideSort a_asideKind a_asideValue a_outcome v_marks v_came v_guessed v_right v_taken a_markSort a_markKind a_markClass a_markValue v_sort v_kindAt v_value a_index v_reached v_looked) (fun r w1 => ∃ (v_to' : Int32) (v_kind' : Int32) (v_from' : Int32) (v_letters' : Int64) (v_letterMany' : Int32) (v_digits' : Int64) (v_isBeyond' : Int32) (v_suffix' : Int32) (a_act' : Nat → Int32) (a_guess' : Nat → Int32) (a_take' : Nat → Int32) (a_begin' : Nat → Int32) (a_finish' : Nat → Int32) (a_to1' : Nat → Int32) (a_one' : Nat → Int32) (a_two' : Nat → Int32) (a_what' : Nat → Int32) (a_ats' : Nat → Int32) (a_atVar' : Nat → Int32) (a_atNumber' : Nat → Int32) (a_atomSort' : Nat → Int32) (a_atomKind' : Nat → Int32) (a_atomValue' : Nat → Int64) (v_wrong' : Int32) (v_wrongAt' : Int32) (v_variable' : Int32) (v_number' : Int64) (v_numberKind' : Int32) (v_takes' : Int32), w1 = (mw cs q v_thrown a_tape v_taped v_size v_to' v_kind' v_from' v_letters' v_letterMany' v_digits' v_isBeyond' v_suffix' v_steps v_fault v_hasProgram a_text a_act' a_guess' a_take' a_begin' a_finish' a_to1' a_one' a_two' a_what' a_ats' a_atVar' a_atNumber' a_atomSort' a_atomKind' a_atomValue' v_wrong' v_wrongAt' v_variable' v_number' v_numberKind' v_takes' a_out v_outed a_varSort a_varKind a_varValue a_creature v_creatures a_arrayClass a_arrayFrom a_arrayLong v_arrays v_cells a_cellSort a_cellKind a_cellValue a_asideSort a_asideKind a_asideValue a_outcome v_marks v_came v_guessed v_right v_taken a_markSort a_markKind a_markClass a_markValue v_sort v_kindAt v_value a_index v_reached v_looked) ∧ (LX a_tape v_size v_to' v_from' v_kind' v_letters' v_letterMany' v_isBeyond') ∧ (v_to.toInt ≤ v_to'.toInt) ∧ (ph a_tape v_to' ≤ ph a_tape v_to + 26) ∧ (0 ≤ v_variable'.toInt ∧ v_variable'.toInt ≤ 25) ∧ (NumOK v_numberKind' v_number') ∧ (Rm25 a_atVar') ∧ (R03 a_ats') ∧ (R25 a_one') ∧ (R25 a_two') ∧ (R25 a_to1') ∧ (ATM a_atomSort' a_atomKind' a_atomValue') ∧ (SAME a_ats' a_ats s9.toNatClampNeg) ∧ (SAME a_what' a_what s9.toNatClampNeg) ∧ (SAME a_act' a_act s9.toNatClampNeg) ∧ (SAME a_begin' a_begin s9.toNatClampNeg) ∧ (SAME a_finish' a_finish s9.toNatClampNeg) ∧ (r.toInt = 0 ∨ (r.toInt = 1 ∧ STPk a_act' a_ats' a_what' s9.toNatClampNeg ∧ SPN a_begin' a_finish' a_tape v_size s9.toNatClampNeg))) 0 0 := by
  intro sz
  refine Met.ofW (cc := cX10_readStep) (maxL := 2) (ret := (some .boolean)) (by decide) rfl ?_
  intro p e s m args below meth c s₁ B hml hv
  obtain ⟨rfl, hsz, hP, hK, hD0, hE⟩ := hv
  have hx := B.exec
  have hb := B.bytes
  have hr := B.returns
  have hts := atoms_spec (ws := (wG yX10_readStep cX10_readStep 2 (some .boolean))) B.pre
  have hown : s.vm.findClass RX10 = some m.cls := findClass_of_methodNamed B.named
  have hlocks := B.notSynchronized
  subst hsz
  have hD := hD0.self (sz := s.heap.size)
  obtain ⟨A, hAe⟩ : ∃ A : Nat → Prop, A = va_A (mw cs q v_thrown a_tape v_taped v_size v_to v_kind v_from v_letters v_letterMany v_digits v_isBeyond v_suffix v_steps v_fault v_hasProgram a_text a_act a_guess a_take a_begin a_finish a_to1 a_one a_two a_what a_ats a_atVar a_atNumber a_atomSort a_atomKind a_atomValue v_wrong v_wrongAt v_variable v_number v_numberKind v_takes a_out v_outed a_varSort a_varKind a_varValue a_creature v_creatures a_arrayClass a_arrayFrom a_arrayLong v_arrays v_cells a_cellSort a_cellKind a_cellValue a_asideSort a_asideKind a_asideValue a_outcome v_marks v_came v_guessed v_right v_taken a_markSort a_markKind a_markClass a_markValue v_sort v_kindAt v_value a_index v_reached v_looked) s.heap.size := ⟨_, rfl⟩
  rw [← hAe] at hD hE
  have hA : ∀ q : Nat, s.heap.size ≤ q → A q := fun q h => by rw [hAe]; exact Or.inr h
  have hS : va_S A s.heap s.heap [] := va_S.rf
  have hl := lv_entry ([.ref (q 0), .int s9]) (n := 2) (Nat.le_of_ble_eq_true rfl)
  rw [lg_entry_eq]
  generalize (lg_sl ([.ref (q 0), .int s9]) ++ List.replicate (2 - (lg_sl ([.ref (q 0), .int s9])).length) Slot.unset).toArray = ls at hl ⊢
  have hl : lv_has ls 2 [(0, .ref (q 0)), (1, .int s9)] := hl
  refine wq (fun Q hQ => ?_)
  have hin : ∀ w ∈ wsX100, w ∈ (wG yX10_readStep cX10_readStep 2 (some .boolean)) := fun w h => List.mem_cons_of_mem _ (inlX10 w h)
  have kc0 : (-1 : Int32).toInt = -1 := by decide
  have kc1 : (0 : Int32).toInt = 0 := by decide
  have kc2 : (1 : Int32).toInt = 1 := by decide
  have kc3 : (4 : Int32).toInt = 4 := by decide
  have kc4 : (8 : Int32).toInt = 8 := by decide
  have kc5 : (59 : Int32).toInt = 59 := by decide
  have k_5_12 := hts (.fieldLink RX10 25 "ArrayTrainerModel" "begin" "[I") (List.mem_cons_of_mem _ (wr5 _ (List.mem_of_getElem? (i := 12) rfl)))
  have k_23_0 := hts (.fieldLink RX10 270 "ArrayTrainerModel" "from" "I") (List.mem_cons_of_mem _ (wr23 _ (List.mem_of_getElem? (i := 0) rfl)))
  have k_5_10 := hts (.fieldLink RX10 19 "ArrayTrainerModel" "guess" "[I") (List.mem_cons_of_mem _ (wr5 _ (List.mem_of_getElem? (i := 10) rfl)))
  have k_5_11 := hts (.fieldLink RX10 22 "ArrayTrainerModel" "take" "[I") (List.mem_cons_of_mem _ (wr5 _ (List.mem_of_getElem? (i := 11) rfl)))
  have k_5_13 := hts (.fieldLink RX10 28 "ArrayTrainerModel" "finish" "[I") (List.mem_cons_of_mem _ (wr5 _ (List.mem_of_getElem? (i := 13) rfl)))
  have k_22_12 := hts (.fieldLink RX10 263 "ArrayTrainerModel" "to" "I") (List.mem_cons_of_mem _ (wr22 _ (List.mem_of_getElem? (i := 12) rfl)))
  have k_22_14 := hts (.fieldLink RX10 401 "ArrayTrainerModel" "takes" "I") (List.mem_cons_of_mem _ (wr22 _ (List.mem_of_getElem? (i := 14) rfl)))
  have k_23_1 := hts (.fieldLink RX10 289 "ArrayTrainerModel" "letters" "J") (List.mem_cons_of_mem _ (wr23 _ (List.mem_of_getElem? (i := 1) rfl)))
  obtain ⟨H, hH⟩ : ∃ H : Heap, H = s.heap := ⟨_, rfl⟩
  obtain ⟨locs, hlc⟩ : ∃ L : List Loc, L = [] := ⟨_, rfl⟩
  have hP : va_P D vwCl (mw cs q v_thrown a_tape v_taped v_size v_to v_kind v_from v_letters v_letterMany v_digits v_isBeyond v_suffix v_steps v_fault v_hasProgram a_text a_act a_guess a_take a_begin a_finish a_to1 a_one a_two a_what a_ats a_atVar a_atNumber a_atomSort a_atomKind a_atomValue v_wrong v_wrongAt v_variable v_number v_numberKind v_takes a_out v_outed a_varSort a_varKind a_varValue a_creature v_creatures a_arrayClass a_arrayFrom a_arrayLong v_arrays v_cells a_cellSort a_cellKind a_cellValue a_asideSort a_asideKind a_asideValue a_outcome v_marks v_came v_guessed v_right v_taken a_markSort a_markKind a_markClass a_markValue v_sort v_kindAt v_value a_index v_reached v_looked) H := by rw [hH]; exact hP
  have hS : va_S A s.heap H locs := by rw [hH, hlc]; exact hS
  refine wHL hH hlc ?_
  have b_s9 := iB s9
  have hfr := p_0.2.1
  have hp0 := p_0.2.2.2.2
  have hz0 := p_0.1.2.1
  refine lv_aload_n hx hb dX10_readStep_0 rfl (lv_at hl 0 rfl) ?_
  refine va_get (D := D) (ci := 9) (v := .ref (q 6)) (C := RX10) (T := TX10) (N := 71) hx hb hts hin hown hK hP 0 rfl rfl 19 (by decide) k_5_12 (fun _ h9 => h9) rfl dX10_readStep_1 ?_
  refine lv_iload_n hx hb dX10_readStep_4 rfl (lv_at hl 1 rfl) ?_
  refine lv_aload_n hx hb dX10_readStep_5 rfl (lv_at hl 0 rfl) ?_
  refine va_get (D := D) (ci := 9) (v := .int v_from) (C := RX10) (T := TX10) (N := 71) hx hb hts hin hown hK hP 0 rfl rfl 6 (by decide) k_23_0 (fun _ h9 => h9) rfl dX10_readStep_6 ?_
  refine va_iast hx hb hK hP hD hS 6 0 rfl rfl (ix (by omega) (by omega)) dX10_readStep_9 (fun H locs hP hD hS => ?_)
  obtain ⟨a_begin_9, e_a_begin_9⟩ : ∃ g, g = upd a_begin s9.toNatClampNeg v_from := ⟨_, rfl⟩
  have hP : va_P D vwCl (mw cs q v_thrown a_tape v_taped v_size v_to v_kind v_from v_letters v_letterMany v_digits v_isBeyond v_suffix v_steps v_fault v_hasProgram a_text a_act a_guess a_take a_begin_9 a_finish a_to1 a_one a_two a_what a_ats a_atVar a_atNumber a_atomSort a_atomKind a_atomValue v_wrong v_wrongAt v_variable v_number v_numberKind v_takes a_out v_outed a_varSort a_varKind a_varValue a_creature v_creatures a_arrayClass a_arrayFrom a_arrayLong v_arrays v_cells a_cellSort a_cellKind a_cellValue a_asideSort a_asideKind a_asideValue a_outcome v_marks v_came v_guessed v_right v_taken a_markSort a_markKind a_markClass a_markValue v_sort v_kindAt v_value a_index v_reached v_looked) H := by rw [e_a_begin_9]; exact hP
  have hD : va_D A (mw cs q v_thrown a_tape v_taped v_size v_to v_kind v_from v_letters v_letterMany v_digits v_isBeyond v_suffix v_steps v_fault v_hasProgram a_text a_act a_guess a_take a_begin_9 a_finish a_to1 a_one a_two a_what a_ats a_atVar a_atNumber a_atomSort a_atomKind a_atomValue v_wrong v_wrongAt v_variable v_number v_numberKind v_takes a_out v_outed a_varSort a_varKind a_varValue a_creature v_creatures a_arrayClass a_arrayFrom a_arrayLong v_arrays v_cells a_cellSort a_cellKind a_cellValue a_asideSort a_asideKind a_asideValue a_outcome v_marks v_came v_guessed v_right v_taken a_markSort a_markKind a_markClass a_markValue v_sort v_kindAt v_value a_index v_reached v_looked) := by rw [e_a_begin_9]; exact hD
  have hb9 := congrArg Int32.toInt (at_upd e_a_begin_9)
  have hsb9 : SAME a_begin_9 a_begin s9.toNatClampNeg := SAME.upd e_a_begin_9 (SAME.rf _ _)
  refine lv_aload_n hx hb dX10_readStep_10 rfl (lv_at hl 0 rfl) ?_
  refine va_get (D := D) (ci := 9) (v := .ref (q 4)) (C := RX10) (T := TX10) (N := 71) hx hb hts hin hown hK hP 0 rfl rfl 17 (by decide) k_5_10 (fun _ h9 => h9) rfl dX10_readStep_11 ?_
  refine lv_iload_n hx hb dX10_readStep_14 rfl (lv_at hl 1 rfl) ?_
  refine lv_iconst (v := (-1)) hx hb dX10_readStep_15 (by decide) ?_
  refine va_iast hx hb hK hP hD hS 4 0 rfl rfl (ix (by omega) (by omega)) dX10_readStep_16 (fun H locs hP hD hS => ?_)
  obtain ⟨a_guess_16, e_a_guess_16⟩ : ∃ g, g = upd a_guess s9.toNatClampNeg (-1 : Int32) := ⟨_, rfl⟩
  have hP : va_P D vwCl (mw cs q v_thrown a_tape v_taped v_size v_to v_kind v_from v_letters v_letterMany v_digits v_isBeyond v_suffix v_steps v_fault v_hasProgram a_text a_act a_guess_16 a_take a_begin_9 a_finish a_to1 a_one a_two a_what a_ats a_atVar a_atNumber a_atomSort a_atomKind a_atomValue v_wrong v_wrongAt v_variable v_number v_numberKind v_takes a_out v_outed a_varSort a_varKind a_varValue a_creature v_creatures a_arrayClass a_arrayFrom a_arrayLong v_arrays v_cells a_cellSort a_cellKind a_cellValue a_asideSort a_asideKind a_asideValue a_outcome v_marks v_came v_guessed v_right v_taken a_markSort a_markKind a_markClass a_markValue v_sort v_kindAt v_value a_index v_reached v_looked) H := by rw [e_a_guess_16]; exact hP
  have hD : va_D A (mw cs q v_thrown a_tape v_taped v_size v_to v_kind v_from v_letters v_letterMany v_digits v_isBeyond v_suffix v_steps v_fault v_hasProgram a_text a_act a_guess_16 a_take a_begin_9 a_finish a_to1 a_one a_two a_what a_ats a_atVar a_atNumber a_atomSort a_atomKind a_atomValue v_wrong v_wrongAt v_variable v_number v_numberKind v_takes a_out v_outed a_varSort a_varKind a_varValue a_creature v_creatures a_arrayClass a_arrayFrom a_arrayLong v_arrays v_cells a_cellSort a_cellKind a_cellValue a_asideSort a_asideKind a_asideValue a_outcome v_marks v_came v_guessed v_right v_taken a_markSort a_markKind a_markClass a_markValue v_sort v_kindAt v_value a_index v_reached v_looked) := by rw [e_a_guess_16]; exact hD
  refine lv_aload_n hx hb dX10_readStep_17 rfl (lv_at hl 0 rfl) ?_
  refine va_get (D := D) (ci := 9) (v := .ref (q 5)) (C := RX10) (T := TX10) (N := 71) hx hb hts hin hown hK hP 0 rfl rfl 18 (by decide) k_5_11 (fun _ h9 => h9) rfl dX10_readStep_18 ?_
  refine lv_iload_n hx hb dX10_readStep_21 rfl (lv_at hl 1 rfl) ?_
  refine lv_iconst (v := 0) hx hb dX10_readStep_22 (by decide) ?_
  refine va_iast hx hb hK hP hD hS 5 0 rfl rfl (ix (by omega) (by omega)) dX10_readStep_23 (fun H locs hP hD hS => ?_)
  obtain ⟨a_take_23, e_a_take_23⟩ : ∃ g, g = upd a_take s9.toNatClampNeg (0 : Int32) := ⟨_, rfl⟩
  have hP : va_P D vwCl (mw cs q v_thrown a_tape v_taped v_size v_to v_kind v_from v_letters v_letterMany v_digits v_isBeyond v_suffix v_steps v_fault v_hasProgram a_text a_act a_guess_16 a_take_23 a_begin_9 a_finish a_to1 a_one a_two a_what a_ats a_atVar a_atNumber a_atomSort a_atomKind a_atomValue v_wrong v_wrongAt v_variable v_number v_numberKind v_takes a_out v_outed a_varSort a_varKind a_varValue a_creature v_creatures a_arrayClass a_arrayFrom a_arrayLong v_arrays v_cells a_cellSort a_cellKind a_cellValue a_asideSort a_asideKind a_asideValue a_outcome v_marks v_came v_guessed v_right v_taken a_markSort a_markKind a_markClass a_markValue v_sort v_kindAt v_value a_index v_reached v_looked) H := by rw [e_a_take_23]; exact hP
  have hD : va_D A (mw cs q v_thrown a_tape v_taped v_size v_to v_kind v_from v_letters v_letterMany v_digits v_isBeyond v_suffix v_steps v_fault v_hasProgram a_text a_act a_guess_16 a_take_23 a_begin_9 a_finish a_to1 a_one a_two a_what a_ats a_atVar a_atNumber a_atomSort a_atomKind a_atomValue v_wrong v_wrongAt v_variable v_number v_numberKind v_takes a_out v_outed a_varSort a_varKind a_varValue a_creature v_creatures a_arrayClass a_arrayFrom a_arrayLong v_arrays v_cells a_cellSort a_cellKind a_cellValue a_asideSort a_asideKind a_asideValue a_outcome v_marks v_came v_guessed v_right v_taken a_markSort a_markKind a_markClass a_markValue v_sort v_kindAt v_value a_index v_reached v_looked) := by rw [e_a_take_23]; exact hD
  refine lv_aload_n hx hb dX10_readStep_24 rfl (lv_at hl 0 rfl) ?_
  refine m_ldcSw hx hb hown (ld_29 hE) dX10_readStep_25 ?_
  refine call_i (As := [.ref (K 0 29)]) (rest := []) ⟨hx, hb, hml, hown, hts⟩ (tX10_is (l := l) 29 so_29) (cwV 1 hts (gV (wr24 _ (List.mem_of_getElem? (i := 8) rfl)) (wr24 _ (List.mem_of_getElem? (i := 9) rfl)) (wr24 _ (List.mem_of_getElem? (i := 10) rfl)) (wr1 _ (List.mem_of_getElem? (i := 5) rfl)) (wr24 _ (List.mem_of_getElem? (i := 11) rfl))) rfl rfl rfl (by decide +kernel) ⟨Nat.le_of_ble_eq_true rfl, Nat.le_of_ble_eq_true rfl⟩) (va_recv hK hP (ci := 9) (q0 := 0) rfl rfl) hK hP hD hE hS hA rfl hl.1 rfl (Nat.le_of_ble_eq_true rfl) dX10_readStep_28 ⟨Nat.le_of_ble_eq_true rfl, Nat.le_of_ble_eq_true rfl⟩ (fun r28 w9 H locs hw28 hP hD hS => ?_)
  obtain ⟨rfl, hw28_0⟩ := hw28
  have b_r28 := iB r28
  have J87 : ∀ (v_to_87 : Int32) (v_digits_87 : Int64) (v_from_87 : Int32) (a_guess_87 : Nat → Int32) (v_isBeyond_87 : Int32) (v_kind_87 : Int32) (v_letterMany_87 : Int32) (v_letters_87 : Int64) (v_suffix_87 : Int32) (v_wrong_87 : Int32) (v_wrongAt_87 : Int32) (H : Heap) (locs : List Loc) (ls : Array Slot), (LX a_tape v_size v_to_87 v_from_87 v_kind_87 v_letters_87 v_letterMany_87 v_isBeyond_87) → (v_to.toInt ≤ v_to_87.toInt) → (ph a_tape v_to_87 ≤ ph a_tape v_to + 2) → va_P D vwCl (mw cs q v_thrown a_tape v_taped v_size v_to_87 v_kind_87 v_from_87 v_letters_87 v_letterMany_87 v_digits_87 v_isBeyond_87 v_suffix_87 v_steps v_fault v_hasProgram a_text a_act a_guess_87 a_take_23 a_begin_9 a_finish a_to1 a_one a_two a_what a_ats a_atVar a_atNumber a_atomSort a_atomKind a_atomValue v_wrong_87 v_wrongAt_87 v_variable v_number v_numberKind v_takes a_out v_outed a_varSort a_varKind a_varValue a_creature v_creatures a_arrayClass a_arrayFrom a_arrayLong v_arrays v_cells a_cellSort a_cellKind a_cellValue a_asideSort a_asideKind a_asideValue a_outcome v_marks v_came v_guessed v_right v_taken a_markSort a_markKind a_markClass a_markValue v_sort v_kindAt v_value a_index v_reached v_looked) H → va_D A (mw cs q v_thrown a_tape v_taped v_size v_to_87 v_kind_87 v_from_87 v_letters_87 v_letterMany_87 v_digits_87 v_isBeyond_87 v_suffix_87 v_steps v_fault v_hasProgram a_text a_act a_guess_87 a_take_23 a_begin_9 a_finish a_to1 a_one a_two a_what a_ats a_atVar a_atNumber a_atomSort a_atomKind a_atomValue v_wrong_87 v_wrongAt_87 v_variable v_number v_numberKind v_takes a_out v_outed a_varSort a_varKind a_varValue a_creature v_creatures a_arrayClass a_arrayFrom a_arrayLong v_arrays v_cells a_cellSort a_cellKind a_cellValue a_asideSort a_asideKind a_asideValue a_outcome v_marks v_came v_guessed v_right v_taken a_markSort a_markKind a_markClass a_markValue v_sort v_kindAt v_value a_index v_reached v_looked) → va_S A s.heap H locs → lv_has ls 2 [(0, .ref (q 0)), (1, .int s9)] → W p l e (headSpec (wG yX10_readStep cX10_readStep 2 (some .boolean)) rmX10_readStep).room s m ([.ref (q 0), .int s9] : List Value).toArray below meth c H locs 0 0 Q (F0 m 87 ls []) := by
    intro v_to_87 v_digits_87 v_from_87 a_guess_87 v_isBeyond_87 v_kind_87 v_letterMany_87 v_letters_87 v_suffix_87 v_wrong_87 v_wrongAt_87 H locs ls f87_0 f87_1 f87_2 hP hD hS hl
    refine lv_aload_n hx hb dX10_readStep_87 rfl (lv_at hl 0 rfl) ?_
    refine m_ldcSw hx hb hown (ld_30 hE) dX10_readStep_88 ?_
    refine call_i (As := [.ref (K 0 30)]) (rest := []) ⟨hx, hb, hml, hown, hts⟩ (tX10_is (l := l) 30 so_30) (cwV 1 hts (gV (wr24 _ (List.mem_of_getElem? (i := 8) rfl)) (wr24 _ (List.mem_of_getElem? (i := 9) rfl)) (wr24 _ (List.mem_of_getElem? (i := 10) rfl)) (wr1 _ (List.mem_of_getElem? (i := 5) rfl)) (wr24 _ (List.mem_of_getElem? (i := 11) rfl))) rfl rfl rfl (by decide +kernel) ⟨Nat.le_of_ble_eq_true rfl, Nat.le_of_ble_eq_true rfl⟩) (va_recv hK hP (ci := 9) (q0 := 0) rfl rfl) hK hP hD hE hS hA rfl hl.1 rfl (Nat.le_of_ble_eq_true rfl) dX10_readStep_91 ⟨Nat.le_of_ble_eq_true rfl, Nat.le_of_ble_eq_true rfl⟩ (fun r91 w9 H locs hw91 hP hD hS => ?_)
    obtain ⟨rfl, hw91_0⟩ := hw91
    have b_r91 := iB r91
    have J152 : ∀ (v_to_152 : Int32) (v_digits_152 : Int64) (v_from_152 : Int32) (v_isBeyond_152 : Int32) (v_kind_152 : Int32) (v_letterMany_152 : Int32) (v_letters_152 : Int64) (v_suffix_152 : Int32) (a_take_152 : Nat → Int32) (v_takes_152 : Int32) (v_wrong_152 : Int32) (v_wrongAt_152 : Int32) (H : Heap) (locs : List Loc) (ls : Array Slot), (LX a_tape v_size v_to_152 v_from_152 v_kind_152 v_letters_152 v_letterMany_152 v_isBeyond_152) → (v_to.toInt ≤ v_to_152.toInt) → (ph a_tape v_to_152 ≤ ph a_tape v_to + 4) → va_P D vwCl (mw cs q v_thrown a_tape v_taped v_size v_to_152 v_kind_152 v_from_152 v_letters_152 v_letterMany_152 v_digits_152 v_isBeyond_152 v_suffix_152 v_steps v_fault v_hasProgram a_text a_act a_guess_87 a_take_152 a_begin_9 a_finish a_to1 a_one a_two a_what a_ats a_atVar a_atNumber a_atomSort a_atomKind a_atomValue v_wrong_152 v_wrongAt_152 v_variable v_number v_numberKind v_takes_152 a_out v_outed a_varSort a_varKind a_varValue a_creature v_creatures a_arrayClass a_arrayFrom a_arrayLong v_arrays v_cells a_cellSort a_cellKind a_cellValue a_asideSort a_asideKind a_asideValue a_outcome v_marks v_came v_guessed v_right v_taken a_markSort a_markKind a_markClass a_markValue v_sort v_kindAt v_value a_index v_reached v_looked) H → va_D A (mw cs q v_thrown a_tape v_taped v_size v_to_152 v_kind_152 v_from_152 v_letters_152 v_letterMany_152 v_digits_152 v_isBeyond_152 v_suffix_152 v_steps v_fault v_hasProgram a_text a_act a_guess_87 a_take_152 a_begin_9 a_finish a_to1 a_one a_two a_what a_ats a_atVar a_atNumber a_atomSort a_atomKind a_atomValue v_wrong_152 v_wrongAt_152 v_variable v_number v_numberKind v_takes_152 a_out v_outed a_varSort a_varKind a_varValue a_creature v_creatures a_arrayClass a_arrayFrom a_arrayLong v_arrays v_cells a_cellSort a_cellKind a_cellValue a_asideSort a_asideKind a_asideValue a_outcome v_marks v_came v_guessed v_right v_taken a_markSort a_markKind a_markClass a_markValue v_sort v_kindAt v_value a_index v_reached v_looked) → va_S A s.heap H locs → lv_has ls 2 [(0, .ref (q 0)), (1, .int s9)] → W p l e (headSpec (wG yX10_readStep cX10_readStep 2 (some .boolean)) rmX10_readStep).room s m ([.ref (q 0), .int s9] : List Value).toArray below meth c H locs 0 0 Q (F0 m 152 ls []) := by
      intro v_to_152 v_digits_152 v_from_152 v_isBeyond_152 v_kind_152 v_letterMany_152 v_letters_152 v_suffix_152 a_take_152 v_takes_152 v_wrong_152 v_wrongAt_152 H locs ls f152_0 f152_1 f152_2 hP hD hS hl
      refine lv_aload_n hx hb dX10_readStep_152 rfl (lv_at hl 0 rfl) ?_
      refine lv_iload_n hx hb dX10_readStep_153 rfl (lv_at hl 1 rfl) ?_
      refine call_i (As := [.int s9]) (rest := []) ⟨hx, hb, hml, hown, hts⟩ (tX10_readAct (l := l) s9 (by first | assumption | omega | (intros; omega) | decide) (by first | assumption | omega | (intros; omega) | decide) (by first | assumption | omega | (intros; omega) | decide) (by first | assumption | omega | (intros; omega) | decide) (by first | assumption | omega | (intros; omega) | decide) (by first | assumption | omega | (intros; omega) | decide) (by first | assumption | omega | (intros; omega) | decide) (by first | assumption | omega | (intros; omega) | decide) (by first | assumption | omega | (intros; omega) | decide) (by first | assumption | omega | (intros; omega) | decide) (by first | assumption | omega | (intros; omega) | decide)) (cwV 1 hts (gV (wr25 _ (List.mem_of_getElem? (i := 18) rfl)) (wr25 _ (List.mem_of_getElem? (i := 19) rfl)) (wr25 _ (List.mem_of_getElem? (i := 20) rfl)) (wr1 _ (List.mem_of_getElem? (i := 5) rfl)) (wr25 _ (List.mem_of_getElem? (i := 21) rfl))) rfl rfl rfl (by decide +kernel) ⟨Nat.le_of_ble_eq_true rfl, Nat.le_of_ble_eq_true rfl⟩) (va_recv hK hP (ci := 9) (q0 := 0) rfl rfl) hK hP hD hE hS hA rfl hl.1 rfl (Nat.le_of_ble_eq_true rfl) dX10_readStep_154 ⟨Nat.le_of_ble_eq_true rfl, Nat.le_of_ble_eq_true rfl⟩ (fun r154 w9 H locs hw154 hP hD hS => ?_)
      obtain ⟨v_to_154, v_kind_154, v_from_154, v_letters_154, v_letterMany_154, v_digits_154, v_isBeyond_154, v_suffix_154, a_act_154, a_to1_154, a_one_154, a_two_154, a_what_154, a_ats_154, a_atVar_154, a_atNumber_154, a_atomSort_154, a_atomKind_154, a_atomValue_154, v_wrong_154, v_wrongAt_154, v_variable_154, v_number_154, v_numberKind_154, rfl, hw154_0, hw154_1, hw154_2, hw154_3, hw154_4, hw154_5, hw154_6, hw154_7, hw154_8, hw154_9, hw154_10, hw154_11, hw154_12, hw154_13, hw154_14⟩ := hw154
      have b_v_to_154 := iB v_to_154
      have b_v_kind_154 := iB v_kind_154
      have b_v_from_154 := iB v_from_154
      have b_v_letters_154 := jB v_letters_154
      have b_v_letterMany_154 := iB v_letterMany_154
      have b_v_digits_154 := jB v_digits_154
      have b_v_isBeyond_154 := iB v_isBeyond_154
      have b_v_suffix_154 := iB v_suffix_154
      have b_v_wrong_154 := iB v_wrong_154
      have b_v_wrongAt_154 := iB v_wrongAt_154
      have b_v_variable_154 := iB v_variable_154
      have b_v_number_154 := jB v_number_154
      have b_v_numberKind_154 := iB v_numberKind_154
      have b_r154 := iB r154
      refine m_if_ne (X := r154.toInt) (tgt := 162) hx hb dX10_readStep_157 (by decide) rfl (fun c157 => ?_) (fun c157 => ?_)
      · skip
        refine lv_aload_n hx hb dX10_readStep_162 rfl (lv_at hl 0 rfl) ?_
        refine va_get (D := D) (ci := 9) (v := .ref (q 7)) (C := RX10) (T := TX10) (N := 71) hx hb hts hin hown hK hP 0 rfl rfl 20 (by decide) k_5_13 (fun _ h9 => h9) rfl dX10_readStep_163 ?_
        refine lv_iload_n hx hb dX10_readStep_166 rfl (lv_at hl 1 rfl) ?_
        refine lv_aload_n hx hb dX10_readStep_167 rfl (lv_at hl 0 rfl) ?_
        refine va_get (D := D) (ci := 9) (v := .int v_to_154) (C := RX10) (T := TX10) (N := 71) hx hb hts hin hown hK hP 0 rfl rfl 4 (by decide) k_22_12 (fun _ h9 => h9) rfl dX10_readStep_168 ?_
        refine va_iast hx hb hK hP hD hS 7 0 rfl rfl (ix (by omega) (by omega)) dX10_readStep_171 (fun H locs hP hD hS => ?_)
        obtain ⟨a_finish_171, e_a_finish_171⟩ : ∃ g, g = upd a_finish s9.toNatClampNeg v_to_154 := ⟨_, rfl⟩
        have hP : va_P D vwCl (mw cs q v_thrown a_tape v_taped v_size v_to_154 v_kind_154 v_from_154 v_letters_154 v_letterMany_154 v_digits_154 v_isBeyond_154 v_suffix_154 v_steps v_fault v_hasProgram a_text a_act_154 a_guess_87 a_take_152 a_begin_9 a_finish_171 a_to1_154 a_one_154 a_two_154 a_what_154 a_ats_154 a_atVar_154 a_atNumber_154 a_atomSort_154 a_atomKind_154 a_atomValue_154 v_wrong_154 v_wrongAt_154 v_variable_154 v_number_154 v_numberKind_154 v_takes_152 a_out v_outed a_varSort a_varKind a_varValue a_creature v_creatures a_arrayClass a_arrayFrom a_arrayLong v_arrays v_cells a_cellSort a_cellKind a_cellValue a_asideSort a_asideKind a_asideValue a_outcome v_marks v_came v_guessed v_right v_taken a_markSort a_markKind a_markClass a_markValue v_sort v_kindAt v_value a_index v_reached v_looked) H := by rw [e_a_finish_171]; exact hP
        have hD : va_D A (mw cs q v_thrown a_tape v_taped v_size v_to_154 v_kind_154 v_from_154 v_letters_154 v_letterMany_154 v_digits_154 v_isBeyond_154 v_suffix_154 v_steps v_fault v_hasProgram a_text a_act_154 a_guess_87 a_take_152 a_begin_9 a_finish_171 a_to1_154 a_one_154 a_two_154 a_what_154 a_ats_154 a_atVar_154 a_atNumber_154 a_atomSort_154 a_atomKind_154 a_atomValue_154 v_wrong_154 v_wrongAt_154 v_variable_154 v_number_154 v_numberKind_154 v_takes_152 a_out v_outed a_varSort a_varKind a_varValue a_creature v_creatures a_arrayClass a_arrayFrom a_arrayLong v_arrays v_cells a_cellSort a_cellKind a_cellValue a_asideSort a_asideKind a_asideValue a_outcome v_marks v_came v_guessed v_right v_taken a_markSort a_markKind a_markClass a_markValue v_sort v_kindAt v_value a_index v_reached v_looked) := by rw [e_a_finish_171]; exact hD
        have hf171 := congrArg Int32.toInt (at_upd e_a_finish_171)
        have hsf171 : SAME a_finish_171 a_finish s9.toNatClampNeg := SAME.upd e_a_finish_171 (SAME.rf _ _)
        have hz154 := hw154_0.1.2.1
        refine lv_aload_n hx hb dX10_readStep_172 rfl (lv_at hl 0 rfl) ?_
        refine lv_bipush (v := 59) hx hb dX10_readStep_173 (by decide) ?_
        refine call_i (As := [.int 59]) (rest := []) ⟨hx, hb, hml, hown, hts⟩ (tX10_sign (l := l) (59 : Int32) (by first | assumption | omega | (intros; omega) | decide)) (cwV 1 hts (gV (wr26 _ (List.mem_of_getElem? (i := 15) rfl)) (wr26 _ (List.mem_of_getElem? (i := 16) rfl)) (wr26 _ (List.mem_of_getElem? (i := 17) rfl)) (wr1 _ (List.mem_of_getElem? (i := 5) rfl)) (wr26 _ (List.mem_of_getElem? (i := 18) rfl))) rfl rfl rfl (by decide +kernel) ⟨Nat.le_of_ble_eq_true rfl, Nat.le_of_ble_eq_true rfl⟩) (va_recv hK hP (ci := 9) (q0 := 0) rfl rfl) hK hP hD hE hS hA rfl hl.1 rfl (Nat.le_of_ble_eq_true rfl) dX10_readStep_175 ⟨Nat.le_of_ble_eq_true rfl, Nat.le_of_ble_eq_true rfl⟩ (fun r175 w9 H locs hw175 hP hD hS => ?_)
        obtain ⟨v_to_175, v_kind_175, v_from_175, v_letters_175, v_letterMany_175, v_digits_175, v_isBeyond_175, v_suffix_175, v_wrong_175, v_wrongAt_175, rfl, hw175_0, hw175_1, hw175_2, hw175_3⟩ := hw175
        have b_v_to_175 := iB v_to_175
        have b_v_kind_175 := iB v_kind_175
        have b_v_from_175 := iB v_from_175
        have b_v_letters_175 := jB v_letters_175
        have b_v_letterMany_175 := iB v_letterMany_175
        have b_v_digits_175 := jB v_digits_175
        have b_v_isBeyond_175 := iB v_isBeyond_175
        have b_v_suffix_175 := iB v_suffix_175
        have b_v_wrong_175 := iB v_wrong_175
        have b_v_wrongAt_175 := iB v_wrongAt_175
        have b_r175 := iB r175
        subst hAe
        rw [hQ]
        exact W.zret (v := r175) hx hb hr (nbool (by first | omega | decide)) (fun t ht hW => ⟨⟨r175, _, rfl, ⟨v_to_175, v_kind_175, v_from_175, v_letters_175, v_letterMany_175, v_digits_175, v_isBeyond_175, v_suffix_175, a_act_154, a_guess_87, a_take_152, a_begin_9, a_finish_171, a_to1_154, a_one_154, a_two_154, a_what_154, a_ats_154, a_atVar_154, a_atNumber_154, a_atomSort_154, a_atomKind_154, a_atomValue_154, v_wrong_175, v_wrongAt_175, v_variable_154, v_number_154, v_numberKind_154, v_takes_152, rfl, by first | assumption | omega | (intros; omega) | decide, by first | assumption | omega | (intros; omega) | decide, by first | assumption | omega | (intros; omega) | decide, by first | assumption | omega | (intros; omega) | decide, by first | assumption | omega | (intros; omega) | decide, by first | assumption | omega | (intros; omega) | decide, by first | assumption | omega | (intros; omega) | decide, by first | assumption | omega | (intros; omega) | decide, by first | assumption | omega | (intros; omega) | decide, by first | assumption | omega | (intros; omega) | decide, by first | assumption | omega | (intros; omega) | decide, by first | assumption | exact SAME.rf _ _ | exact SAME.trans (by assumption) (by assumption) | exact SAME.trans (by assumption) (SAME.trans (by assumption) (by assumption)), by first | assumption | exact SAME.rf _ _ | exact SAME.trans (by assumption) (by assumption) | exact SAME.trans (by assumption) (SAME.trans (by assumption) (by assumption)), by first | assumption | exact SAME.rf _ _ | exact SAME.trans (by assumption) (by assumption) | exact SAME.trans (by assumption) (SAME.trans (by assumption) (by assumption)), by first | assumption | exact SAME.rf _ _ | exact SAME.trans (by assumption) (by assumption) | exact SAME.trans (by assumption) (SAME.trans (by assumption) (by assumption)), by first | assumption | exact SAME.rf _ _ | exact SAME.trans (by assumption) (by assumption) | exact SAME.trans (by assumption) (SAME.trans (by assumption) (by assumption)), by exact hw175_3.elim (fun hq => Or.inr ⟨hq.1, (hw154_14.resolve_left (fun q => by omega)).2, SPN.mk hb9 hf171 (by omega) (by omega) (by omega) (hw154_0.2.2.2.1 hq.2.1).1 (by have h9 := (hw154_0.2.2.2.1 hq.2.1).2; have h8 := hq.2.2; omega) (by omega)⟩) (fun hq => Or.inl hq)⟩, by rw [ht]; exact hP, va_K.moved hW.alike hK, hD⟩, hS.F ht⟩) hS.2.2 dX10_readStep_178
      · skip
        refine lv_iconst (v := 0) hx hb dX10_readStep_160 (by decide) ?_
        subst hAe
        rw [hQ]
        exact W.zret (v := 0) hx hb hr (by decide) (fun t ht hW => ⟨⟨0, _, rfl, ⟨v_to_154, v_kind_154, v_from_154, v_letters_154, v_letterMany_154, v_digits_154, v_isBeyond_154, v_suffix_154, a_act_154, a_guess_87, a_take_152, a_begin_9, a_finish, a_to1_154, a_one_154, a_two_154, a_what_154, a_ats_154, a_atVar_154, a_atNumber_154, a_atomSort_154, a_atomKind_154, a_atomValue_154, v_wrong_154, v_wrongAt_154, v_variable_154, v_number_154, v_numberKind_154, v_takes_152, rfl, by first | assumption | omega | (intros; omega) | decide, by first | assumption | omega | (intros; omega) | decide, by first | assumption | omega | (intros; omega) | decide, by first | assumption | omega | (intros; omega) | decide, by first | assumption | omega | (intros; omega) | decide, by first | assumption | omega | (intros; omega) | decide, by first | assumption | omega | (intros; omega) | decide, by first | assumption | omega | (intros; omega) | decide, by first | assumption | omega | (intros; omega) | decide, by first | assumption | omega | (intros; omega) | decide, by first | assumption | omega | (intros; omega) | decide, by first | assumption | exact SAME.rf _ _ | exact SAME.trans (by assumption) (by assumption) | exact SAME.trans (by assumption) (SAME.trans (by assumption) (by assumption)), by first | assumption | exact SAME.rf _ _ | exact SAME.trans (by assumption) (by assumption) | exact SAME.trans (by assumption) (SAME.trans (by assumption) (by assumption)), by first | assumption | exact SAME.rf _ _ | exact SAME.trans (by assumption) (by assumption) | exact SAME.trans (by assumption) (SAME.trans (by assumption) (by assumption)), by first | assumption | exact SAME.rf _ _ | exact SAME.trans (by assumption) (by assumption) | exact SAME.trans (by assumption) (SAME.trans (by assumption) (by assumption)), by first | assumption | exact SAME.rf _ _ | exact SAME.trans (by assumption) (by assumption) | exact SAME.trans (by assumption) (SAME.trans (by assumption) (by assumption)), by first | assumption | omega | (intros; omega) | decide⟩, by rw [ht]; exact hP, va_K.moved hW.alike hK, hD⟩, hS.F ht⟩) hS.2.2 dX10_readStep_161
    refine m_if_eq (X := r91.toInt) (tgt := 152) hx hb dX10_readStep_94 (by decide) rfl (fun c94 => ?_) (fun c94 => ?_)
    · skip
      exact J152 v_to_87 v_digits_87 v_from_87 v_isBeyond_87 v_kind_87 v_letterMany_87 v_letters_87 v_suffix_87 a_take_23 v_takes v_wrong_87 v_wrongAt_87 H locs ls (by first | assumption | omega | (intros; omega) | decide) (by first | assumption | omega | (intros; omega) | decide) (by first | assumption | omega | (intros; omega) | decide) hP hD hS (lv_sub hl [0, 1] rfl)
    · skip
      refine lv_aload_n hx hb dX10_readStep_97 rfl (lv_at hl 0 rfl) ?_
      refine va_get (D := D) (ci := 9) (v := .int v_takes) (C := RX10) (T := TX10) (N := 71) hx hb hts hin hown hK hP 0 rfl rfl 36 (by decide) k_22_14 (fun _ h9 => h9) rfl dX10_readStep_98 ?_
      refine lv_bipush (v := 8) hx hb dX10_readStep_101 (by decide) ?_
      refine m_icmp_ne (X := v_takes.toInt) (Y := 8) (tgt := 112) hx hb dX10_readStep_103 (by decide) rfl (by decide) (fun c103 => ?_) (fun c103 => ?_)
      · skip
        refine lv_aload_n hx hb dX10_readStep_112 rfl (lv_at hl 0 rfl) ?_
        refine lv_dup hx hb dX10_readStep_113 rfl ?_
        refine va_get (D := D) (ci := 9) (v := .int v_takes) (C := RX10) (T := TX10) (N := 71) hx hb hts hin hown hK hP 0 rfl rfl 36 (by decide) k_22_14 (fun _ h9 => h9) rfl dX10_readStep_114 ?_
        refine lv_iconst (v := 1) hx hb dX10_readStep_117 (by decide) ?_
        refine m_iadd (X := v_takes.toInt) (Y := 1) hx hb dX10_readStep_118 rfl (by decide) (fun x118 e_x118 g9 => ?_)
        obtain ⟨k_x118, g_x118⟩ := g9
        have b_x118 := iB x118
        try (have q_x118 : x118.toInt = v_takes.toInt + 1 := (by omega); clear g_x118 k_x118)
        refine va_put (D := D) (ci := 9) (v := .int x118) (ty := .int) (C := RX10) (T := TX10) (N := 71) hx hb hts hin tyX10 tyX10_ok nmX10 hown hK hP hD hS 0 rfl rfl 36 (by decide) k_22_14 (fun _ h9 => h9) rfl (by decide +kernel) rfl rfl (Nat.le_of_ble_eq_true rfl) dX10_readStep_119 (fun H locs hP hD hS => ?_)
        have hP : va_P D vwCl (mw cs q v_thrown a_tape v_taped v_size v_to_87 v_kind_87 v_from_87 v_letters_87 v_letterMany_87 v_digits_87 v_isBeyond_87 v_suffix_87 v_steps v_fault v_hasProgram a_text a_act a_guess_87 a_take_23 a_begin_9 a_finish a_to1 a_one a_two a_what a_ats a_atVar a_atNumber a_atomSort a_atomKind a_atomValue v_wrong_87 v_wrongAt_87 v_variable v_number v_numberKind x118 a_out v_outed a_varSort a_varKind a_varValue a_creature v_creatures a_arrayClass a_arrayFrom a_arrayLong v_arrays v_cells a_cellSort a_cellKind a_cellValue a_asideSort a_asideKind a_asideValue a_outcome v_marks v_came v_guessed v_right v_taken a_markSort a_markKind a_markClass a_markValue v_sort v_kindAt v_value a_index v_reached v_looked) H := hP
        have hD : va_D A (mw cs q v_thrown a_tape v_taped v_size v_to_87 v_kind_87 v_from_87 v_letters_87 v_letterMany_87 v_digits_87 v_isBeyond_87 v_suffix_87 v_steps v_fault v_hasProgram a_text a_act a_guess_87 a_take_23 a_begin_9 a_finish a_to1 a_one a_two a_what a_ats a_atVar a_atNumber a_atomSort a_atomKind a_atomValue v_wrong_87 v_wrongAt_87 v_variable v_number v_numberKind x118 a_out v_outed a_varSort a_varKind a_varValue a_creature v_creatures a_arrayClass a_arrayFrom a_arrayLong v_arrays v_cells a_cellSort a_cellKind a_cellValue a_asideSort a_asideKind a_asideValue a_outcome v_marks v_came v_guessed v_right v_taken a_markSort a_markKind a_markClass a_markValue v_sort v_kindAt v_value a_index v_reached v_looked) := hD
        refine lv_aload_n hx hb dX10_readStep_122 rfl (lv_at hl 0 rfl) ?_
        refine call_v (As := []) (rest := []) ⟨hx, hb, hml, hown, hts⟩ (tX10_goB (l := l)  (by first | assumption | exact LX.z (by assumption))) (cwV 0 hts (gV (wr22 _ (List.mem_of_getElem? (i := 20) rfl)) (wr22 _ (List.mem_of_getElem? (i := 21) rfl)) (wr22 _ (List.mem_of_getElem? (i := 22) rfl)) (wr1 _ (List.mem_of_getElem? (i := 5) rfl)) (wr22 _ (List.mem_of_getElem? (i := 23) rfl))) rfl rfl rfl (by decide +kernel) ⟨Nat.le_of_ble_eq_true rfl, Nat.le_of_ble_eq_true rfl⟩) (va_recv hK hP (ci := 9) (q0 := 0) rfl rfl) hK hP hD hE hS hA rfl hl.1 rfl (Nat.le_of_ble_eq_true rfl) dX10_readStep_123 ⟨Nat.le_of_ble_eq_true rfl, Nat.le_of_ble_eq_true rfl⟩ (fun w9 H locs hw123 hP hD hS => ?_)
        obtain ⟨v_to_123, v_kind_123, v_from_123, v_letters_123, v_letterMany_123, v_digits_123, v_isBeyond_123, v_suffix_123, rfl, hw123_0, hw123_1, hw123_2⟩ := hw123
        have b_v_to_123 := iB v_to_123
        have b_v_kind_123 := iB v_kind_123
        have b_v_from_123 := iB v_from_123
        have b_v_letters_123 := jB v_letters_123
        have b_v_letterMany_123 := iB v_letterMany_123
        have b_v_digits_123 := jB v_digits_123
        have b_v_isBeyond_123 := iB v_isBeyond_123
        have b_v_suffix_123 := iB v_suffix_123
        refine lv_aload_n hx hb dX10_readStep_126 rfl (lv_at hl 0 rfl) ?_
        refine call_i (As := []) (rest := []) ⟨hx, hb, hml, hown, hts⟩ (tX10_readRefusal (l := l) ) (cwV 0 hts (gV (wr25 _ (List.mem_of_getElem? (i := 8) rfl)) (wr25 _ (List.mem_of_getElem? (i := 9) rfl)) (wr25 _ (List.mem_of_getElem? (i := 10) rfl)) (wr1 _ (List.mem_of_getElem? (i := 5) rfl)) (wr25 _ (List.mem_of_getElem? (i := 11) rfl))) rfl rfl rfl (by decide +kernel) ⟨Nat.le_of_ble_eq_true rfl, Nat.le_of_ble_eq_true rfl⟩) (va_recv hK hP (ci := 9) (q0 := 0) rfl rfl) hK hP hD hE hS hA rfl hl.1 rfl (Nat.le_of_ble_eq_true rfl) dX10_readStep_127 ⟨Nat.le_of_ble_eq_true rfl, Nat.le_of_ble_eq_true rfl⟩ (fun r127 w9 H locs hw127 hP hD hS => ?_)
        obtain ⟨v_wrong_127, v_wrongAt_127, rfl, hw127_0⟩ := hw127
        have b_v_wrong_127 := iB v_wrong_127
        have b_v_wrongAt_127 := iB v_wrongAt_127
        have b_r127 := iB r127
        refine m_if_ne (X := r127.toInt) (tgt := 135) hx hb dX10_readStep_130 (by decide) rfl (fun c130 => ?_) (fun c130 => ?_)
        · skip
          refine lv_aload_n hx hb dX10_readStep_135 rfl (lv_at hl 0 rfl) ?_
          refine va_get (D := D) (ci := 9) (v := .ref (q 5)) (C := RX10) (T := TX10) (N := 71) hx hb hts hin hown hK hP 0 rfl rfl 18 (by decide) k_5_11 (fun _ h9 => h9) rfl dX10_readStep_136 ?_
          refine lv_iload_n hx hb dX10_readStep_139 rfl (lv_at hl 1 rfl) ?_
          refine lv_aload_n hx hb dX10_readStep_140 rfl (lv_at hl 0 rfl) ?_
          refine va_get (D := D) (ci := 9) (v := .long v_letters_123) (C := RX10) (T := TX10) (N := 71) hx hb hts hin hown hK hP 0 rfl rfl 7 (by decide) k_23_1 (fun _ h9 => h9) rfl dX10_readStep_141 ?_
          refine call_iSP (As := [.long v_letters_123]) (rest := [.int s9, .ref (q 5)]) ⟨hx, hb, hml, hown, hts⟩ (tX10_refusalOf (l := l) v_letters_123) (va_cwS 1 hts (gS (wr25 _ (List.mem_of_getElem? (i := 12) rfl)) (wr25 _ (List.mem_of_getElem? (i := 13) rfl)) (wr1 _ (List.mem_of_getElem? (i := 5) rfl)) (wr25 _ (List.mem_of_getElem? (i := 14) rfl))) rfl rfl rfl (by decide +kernel) ⟨Nat.le_of_ble_eq_true rfl, Nat.le_of_ble_eq_true rfl⟩) (hK.sub [] rfl) hP hD hE hS hA rfl hl.1 rfl (Nat.le_of_ble_eq_true rfl) dX10_readStep_144 ⟨Nat.le_of_ble_eq_true rfl, Nat.le_of_ble_eq_true rfl⟩ (fun r144 w9 H locs hw144 hP hD hS => ?_)
          obtain ⟨rfl, hw144_0, hw144_1⟩ := hw144
          have b_r144 := iB r144
          refine va_iast hx hb hK hP hD hS 5 0 rfl rfl (ix (by omega) (by omega)) dX10_readStep_147 (fun H locs hP hD hS => ?_)
          obtain ⟨a_take_147, e_a_take_147⟩ : ∃ g, g = upd a_take_23 s9.toNatClampNeg r144 := ⟨_, rfl⟩
          have hP : va_P D vwCl (mw cs q v_thrown a_tape v_taped v_size v_to_123 v_kind_123 v_from_123 v_letters_123 v_letterMany_123 v_digits_123 v_isBeyond_123 v_suffix_123 v_steps v_fault v_hasProgram a_text a_act a_guess_87 a_take_147 a_begin_9 a_finish a_to1 a_one a_two a_what a_ats a_atVar a_atNumber a_atomSort a_atomKind a_atomValue v_wrong_127 v_wrongAt_127 v_variable v_number v_numberKind x118 a_out v_outed a_varSort a_varKind a_varValue a_creature v_creatures a_arrayClass a_arrayFrom a_arrayLong v_arrays v_cells a_cellSort a_cellKind a_cellValue a_asideSort a_asideKind a_asideValue a_outcome v_marks v_came v_guessed v_right v_taken a_markSort a_markKind a_markClass a_markValue v_sort v_kindAt v_value a_index v_reached v_looked) H := by rw [e_a_take_147]; exact hP
          have hD : va_D A (mw cs q v_thrown a_tape v_taped v_size v_to_123 v_kind_123 v_from_123 v_letters_123 v_letterMany_123 v_digits_123 v_isBeyond_123 v_suffix_123 v_steps v_fault v_hasProgram a_text a_act a_guess_87 a_take_147 a_begin_9 a_finish a_to1 a_one a_two a_what a_ats a_atVar a_atNumber a_atomSort a_atomKind a_atomValue v_wrong_127 v_wrongAt_127 v_variable v_number v_numberKind x118 a_out v_outed a_varSort a_varKind a_varValue a_creature v_creatures a_arrayClass a_arrayFrom a_arrayLong v_arrays v_cells a_cellSort a_cellKind a_cellValue a_asideSort a_asideKind a_asideValue a_outcome v_marks v_came v_guessed v_right v_taken a_markSort a_markKind a_markClass a_markValue v_sort v_kindAt v_value a_index v_reached v_looked) := by rw [e_a_take_147]; exact hD
          refine lv_aload_n hx hb dX10_readStep_148 rfl (lv_at hl 0 rfl) ?_
          refine call_v (As := []) (rest := []) ⟨hx, hb, hml, hown, hts⟩ (tX10_goB (l := l)  (by first | assumption | exact LX.z (by assumption))) (cwV 0 hts (gV (wr22 _ (List.mem_of_getElem? (i := 20) rfl)) (wr22 _ (List.mem_of_getElem? (i := 21) rfl)) (wr22 _ (List.mem_of_getElem? (i := 22) rfl)) (wr1 _ (List.mem_of_getElem? (i := 5) rfl)) (wr22 _ (List.mem_of_getElem? (i := 23) rfl))) rfl rfl rfl (by decide +kernel) ⟨Nat.le_of_ble_eq_true rfl, Nat.le_of_ble_eq_true rfl⟩) (va_recv hK hP (ci := 9) (q0 := 0) rfl rfl) hK hP hD hE hS hA rfl hl.1 rfl (Nat.le_of_ble_eq_true rfl) dX10_readStep_149 ⟨Nat.le_of_ble_eq_true rfl, Nat.le_of_ble_eq_true rfl⟩ (fun w9 H locs hw149 hP hD hS => ?_)
          obtain ⟨v_to_149, v_kind_149, v_from_149, v_letters_149, v_letterMany_149, v_digits_149, v_isBeyond_149, v_suffix_149, rfl, hw149_0, hw149_1, hw149_2⟩ := hw149
          have b_v_to_149 := iB v_to_149
          have b_v_kind_149 := iB v_kind_149
          have b_v_from_149 := iB v_from_149
          have b_v_letters_149 := jB v_letters_149
          have b_v_letterMany_149 := iB v_letterMany_149
          have b_v_digits_149 := jB v_digits_149
          have b_v_isBeyond_149 := iB v_isBeyond_149
          have b_v_suffix_149 := iB v_suffix_149
          exact J152 v_to_149 v_digits_149 v_from_149 v_isBeyond_149 v_kind_149 v_letterMany_149 v_letters_149 v_suffix_149 a_take_147 x118 v_wrong_127 v_wrongAt_127 H locs ls (by first | assumption | omega | (intros; omega) | decide) (by first | assumption | omega | (intros; omega) | decide) (by first | assumption | omega | (intros; omega) | decide) hP hD hS (lv_sub hl [0, 1] rfl)
        · skip
          refine lv_iconst (v := 0) hx hb dX10_readStep_133 (by decide) ?_
          subst hAe
          rw [hQ]
          exact W.zret (v := 0) hx hb hr (by decide) (fun t ht hW => ⟨⟨0, _, rfl, ⟨v_to_123, v_kind_123, v_from_123, v_letters_123, v_letterMany_123, v_digits_123, v_isBeyond_123, v_suffix_123, a_act, a_guess_87, a_take_23, a_begin_9, a_finish, a_to1, a_one, a_two, a_what, a_ats, a_atVar, a_atNumber, a_atomSort, a_atomKind, a_atomValue, v_wrong_127, v_wrongAt_127, v_variable, v_number, v_numberKind, x118, rfl, by first | assumption | omega | (intros; omega) | decide, by first | assumption | omega | (intros; omega) | decide, by first | assumption | omega | (intros; omega) | decide, by first | assumption | omega | (intros; omega) | decide, by first | assumption | omega | (intros; omega) | decide, by first | assumption | omega | (intros; omega) | decide, by first | assumption | omega | (intros; omega) | decide, by first | assumption | omega | (intros; omega) | decide, by first | assumption | omega | (intros; omega) | decide, by first | assumption | omega | (intros; omega) | decide, by first | assumption | omega | (intros; omega) | decide, by first | assumption | exact SAME.rf _ _ | exact SAME.trans (by assumption) (by assumption) | exact SAME.trans (by assumption) (SAME.trans (by assumption) (by assumption)), by first | assumption | exact SAME.rf _ _ | exact SAME.trans (by assumption) (by assumption) | exact SAME.trans (by assumption) (SAME.trans (by assumption) (by assumption)), by first | assumption | exact SAME.rf _ _ | exact SAME.trans (by assumption) (by assumption) | exact SAME.trans (by assumption) (SAME.trans (by assumption) (by assumption)), by first | assumption | exact SAME.rf _ _ | exact SAME.trans (by assumption) (by assumption) | exact SAME.trans (by assumption) (SAME.trans (by assumption) (by assumption)), by first | assumption | exact SAME.rf _ _ | exact SAME.trans (by assumption) (by assumption) | exact SAME.trans (by assumption) (SAME.trans (by assumption) (by assumption)), by first | assumption | omega | (intros; omega) | decide⟩, by rw [ht]; exact hP, va_K.moved hW.alike hK, hD⟩, hS.F ht⟩) hS.2.2 dX10_readStep_134
      · skip
        refine lv_aload_n hx hb dX10_readStep_106 rfl (lv_at hl 0 rfl) ?_
        refine lv_iconst (v := 4) hx hb dX10_readStep_107 (by decide) ?_
        refine call_i (As := [.int 4]) (rest := []) ⟨hx, hb, hml, hown, hts⟩ (tX10_bad (l := l) (4 : Int32)) (cwV 1 hts (gV (wr25 _ (List.mem_of_getElem? (i := 0) rfl)) (wr25 _ (List.mem_of_getElem? (i := 1) rfl)) (wr25 _ (List.mem_of_getElem? (i := 2) rfl)) (wr1 _ (List.mem_of_getElem? (i := 5) rfl)) (wr25 _ (List.mem_of_getElem? (i := 3) rfl))) rfl rfl rfl (by decide +kernel) ⟨Nat.le_of_ble_eq_true rfl, Nat.le_of_ble_eq_true rfl⟩) (va_recv hK hP (ci := 9) (q0 := 0) rfl rfl) hK hP hD hE hS hA rfl hl.1 rfl (Nat.le_of_ble_eq_true rfl) dX10_readStep_108 ⟨Nat.le_of_ble_eq_true rfl, Nat.le_of_ble_eq_true rfl⟩ (fun r108 w9 H locs hw108 hP hD hS => ?_)
        obtain ⟨v_wrong_108, v_wrongAt_108, rfl, hw108_0⟩ := hw108
        have b_v_wrong_108 := iB v_wrong_108
        have b_v_wrongAt_108 := iB v_wrongAt_108
        have b_r108 := iB r108
        subst hAe
        rw [hQ]
        exact W.zret (v := r108) hx hb hr (nbool (by first | omega | decide)) (fun t ht hW => ⟨⟨r108, _, rfl, ⟨v_to_87, v_kind_87, v_from_87, v_letters_87, v_letterMany_87, v_digits_87, v_isBeyond_87, v_suffix_87, a_act, a_guess_87, a_take_23, a_begin_9, a_finish, a_to1, a_one, a_two, a_what, a_ats, a_atVar, a_atNumber, a_atomSort, a_atomKind, a_atomValue, v_wrong_108, v_wrongAt_108, v_variable, v_number, v_numberKind, v_takes, rfl, by first | assumption | omega | (intros; omega) | decide, by first | assumption | omega | (intros; omega) | decide, by first | assumption | omega | (intros; omega) | decide, by first | assumption | omega | (intros; omega) | decide, by first | assumption | omega | (intros; omega) | decide, by first | assumption | omega | (intros; omega) | decide, by first | assumption | omega | (intros; omega) | decide, by first | assumption | omega | (intros; omega) | decide, by first | assumption | omega | (intros; omega) | decide, by first | assumption | omega | (intros; omega) | decide, by first | assumption | omega | (intros; omega) | decide, by first | assumption | exact SAME.rf _ _ | exact SAME.trans (by assumption) (by assumption) | exact SAME.trans (by assumption) (SAME.trans (by assumption) (by assumption)), by first | assumption | exact SAME.rf _ _ | exact SAME.trans (by assumption) (by assumption) | exact SAME.trans (by assumption) (SAME.trans (by assumption) (by assumption)), by first | assumption | exact SAME.rf _ _ | exact SAME.trans (by assumption) (by assumption) | exact SAME.trans (by assumption) (SAME.trans (by assumption) (by assumption)), by first | assumption | exact SAME.rf _ _ | exact SAME.trans (by assumption) (by assumption) | exact SAME.trans (by assumption) (SAME.trans (by assumption) (by assumption)), by first | assumption | exact SAME.rf _ _ | exact SAME.trans (by assumption) (by assumption) | exact SAME.trans (by assumption) (SAME.trans (by assumption) (by assumption)), by first | assumption | omega | (intros; omega) | decide⟩, by rw [ht]; exact hP, va_K.moved hW.alike hK, hD⟩, hS.F ht⟩) hS.2.2 dX10_readStep_111
  refine m_if_eq (X := r28.toInt) (tgt := 87) hx hb dX10_readStep_31 (by decide) rfl (fun c31 => ?_) (fun c31 => ?_)
  · skip
    exact J87 v_to v_digits v_from a_guess_16 v_isBeyond v_kind v_letterMany v_letters v_suffix v_wrong v_wrongAt H locs ls (by first | assumption | omega | (intros; omega) | decide) (by first | assumption | omega | (intros; omega) | decide) (by first | assumption | omega | (intros; omega) | decide) hP hD hS (lv_sub hl [0, 1] rfl)
  · skip
    refine lv_aload_n hx hb dX10_readStep_34 rfl (lv_at hl 0 rfl) ?_
    refine call_v (As := []) (rest := []) ⟨hx, hb, hml, hown, hts⟩ (tX10_goB (l := l)  (by first | assumption | exact LX.z (by assumption))) (cwV 0 hts (gV (wr22 _ (List.mem_of_getElem? (i := 20) rfl)) (wr22 _ (List.mem_of_getElem? (i := 21) rfl)) (wr22 _ (List.mem_of_getElem? (i := 22) rfl)) (wr1 _ (List.mem_of_getElem? (i := 5) rfl)) (wr22 _ (List.mem_of_getElem? (i := 23) rfl))) rfl rfl rfl (by decide +kernel) ⟨Nat.le_of_ble_eq_true rfl, Nat.le_of_ble_eq_true rfl⟩) (va_recv hK hP (ci := 9) (q0 := 0) rfl rfl) hK hP hD hE hS hA rfl hl.1 rfl (Nat.le_of_ble_eq_true rfl) dX10_readStep_35 ⟨Nat.le_of_ble_eq_true rfl, Nat.le_of_ble_eq_true rfl⟩ (fun w9 H locs hw35 hP hD hS => ?_)
    obtain ⟨v_to_35, v_kind_35, v_from_35, v_letters_35, v_letterMany_35, v_digits_35, v_isBeyond_35, v_suffix_35, rfl, hw35_0, hw35_1, hw35_2⟩ := hw35
    have b_v_to_35 := iB v_to_35
    have b_v_kind_35 := iB v_kind_35
    have b_v_from_35 := iB v_from_35
    have b_v_letters_35 := jB v_letters_35
    have b_v_letterMany_35 := iB v_letterMany_35
    have b_v_digits_35 := jB v_digits_35
    have b_v_isBeyond_35 := iB v_isBeyond_35
    have b_v_suffix_35 := iB v_suffix_35
    refine lv_aload_n hx hb dX10_readStep_38 rfl (lv_at hl 0 rfl) ?_
    refine m_ldcSw hx hb hown (ld_38 hE) dX10_readStep_39 ?_
    refine call_i (As := [.ref (K 0 38)]) (rest := []) ⟨hx, hb, hml, hown, hts⟩ (tX10_is (l := l) 38 so_38) (cwV 1 hts (gV (wr24 _ (List.mem_of_getElem? (i := 8) rfl)) (wr24 _ (List.mem_of_getElem? (i := 9) rfl)) (wr24 _ (List.mem_of_getElem? (i := 10) rfl)) (wr1 _ (List.mem_of_getElem? (i := 5) rfl)) (wr24 _ (List.mem_of_getElem? (i := 11) rfl))) rfl rfl rfl (by decide +kernel) ⟨Nat.le_of_ble_eq_true rfl, Nat.le_of_ble_eq_true rfl⟩) (va_recv hK hP (ci := 9) (q0 := 0) rfl rfl) hK hP hD hE hS hA rfl hl.1 rfl (Nat.le_of_ble_eq_true rfl) dX10_readStep_42 ⟨Nat.le_of_ble_eq_true rfl, Nat.le_of_ble_eq_true rfl⟩ (fun r42 w9 H locs hw42 hP hD hS => ?_)
    obtain ⟨rfl, hw42_0⟩ := hw42
    have b_r42 := iB r42
    have J83 : ∀ (a_guess_83 : Nat → Int32) (v_wrong_83 : Int32) (v_wrongAt_83 : Int32) (H : Heap) (locs : List Loc) (ls : Array Slot), va_P D vwCl (mw cs q v_thrown a_tape v_taped v_size v_to_35 v_kind_35 v_from_35 v_letters_35 v_letterMany_35 v_digits_35 v_isBeyond_35 v_suffix_35 v_steps v_fault v_hasProgram a_text a_act a_guess_83 a_take_23 a_begin_9 a_finish a_to1 a_one a_two a_what a_ats a_atVar a_atNumber a_atomSort a_atomKind a_atomValue v_wrong_83 v_wrongAt_83 v_variable v_number v_numberKind v_takes a_out v_outed a_varSort a_varKind a_varValue a_creature v_creatures a_arrayClass a_arrayFrom a_arrayLong v_arrays v_cells a_cellSort a_cellKind a_cellValue a_asideSort a_asideKind a_asideValue a_outcome v_marks v_came v_guessed v_right v_taken a_markSort a_markKind a_markClass a_markValue v_sort v_kindAt v_value a_index v_reached v_looked) H → va_D A (mw cs q v_thrown a_tape v_taped v_size v_to_35 v_kind_35 v_from_35 v_letters_35 v_letterMany_35 v_digits_35 v_isBeyond_35 v_suffix_35 v_steps v_fault v_hasProgram a_text a_act a_guess_83 a_take_23 a_begin_9 a_finish a_to1 a_one a_two a_what a_ats a_atVar a_atNumber a_atomSort a_atomKind a_atomValue v_wrong_83 v_wrongAt_83 v_variable v_number v_numberKind v_takes a_out v_outed a_varSort a_varKind a_varValue a_creature v_creatures a_arrayClass a_arrayFrom a_arrayLong v_arrays v_cells a_cellSort a_cellKind a_cellValue a_asideSort a_asideKind a_asideValue a_outcome v_marks v_came v_guessed v_right v_taken a_markSort a_markKind a_markClass a_markValue v_sort v_kindAt v_value a_index v_reached v_looked) → va_S A s.heap H locs → lv_has ls 2 [(0, .ref (q 0)), (1, .int s9)] → W p l e (headSpec (wG yX10_readStep cX10_readStep 2 (some .boolean)) rmX10_readStep).room s m ([.ref (q 0), .int s9] : List Value).toArray below meth c H locs 0 0 Q (F0 m 83 ls []) := by
      intro a_guess_83 v_wrong_83 v_wrongAt_83 H locs ls hP hD hS hl
      refine lv_aload_n hx hb dX10_readStep_83 rfl (lv_at hl 0 rfl) ?_
      refine call_v (As := []) (rest := []) ⟨hx, hb, hml, hown, hts⟩ (tX10_goB (l := l)  (by first | assumption | exact LX.z (by assumption))) (cwV 0 hts (gV (wr22 _ (List.mem_of_getElem? (i := 20) rfl)) (wr22 _ (List.mem_of_getElem? (i := 21) rfl)) (wr22 _ (List.mem_of_getElem? (i := 22) rfl)) (wr1 _ (List.mem_of_getElem? (i := 5) rfl)) (wr22 _ (List.mem_of_getElem? (i := 23) rfl))) rfl rfl rfl (by decide +kernel) ⟨Nat.le_of_ble_eq_true rfl, Nat.le_of_ble_eq_true rfl⟩) (va_recv hK hP (ci := 9) (q0 := 0) rfl rfl) hK hP hD hE hS hA rfl hl.1 rfl (Nat.le_of_ble_eq_true rfl) dX10_readStep_84 ⟨Nat.le_of_ble_eq_true rfl, Nat.le_of_ble_eq_true rfl⟩ (fun w9 H locs hw84 hP hD hS => ?_)
      obtain ⟨v_to_84, v_kind_84, v_from_84, v_letters_84, v_letterMany_84, v_digits_84, v_isBeyond_84, v_suffix_84, rfl, hw84_0, hw84_1, hw84_2⟩ := hw84
      have b_v_to_84 := iB v_to_84
      have b_v_kind_84 := iB v_kind_84
      have b_v_from_84 := iB v_from_84
      have b_v_letters_84 := jB v_letters_84
      have b_v_letterMany_84 := iB v_letterMany_84
      have b_v_digits_84 := jB v_digits_84
      have b_v_isBeyond_84 := iB v_isBeyond_84
      have b_v_suffix_84 := iB v_suffix_84
      exact J87 v_to_84 v_digits_84 v_from_84 a_guess_83 v_isBeyond_84 v_kind_84 v_letterMany_84 v_letters_84 v_suffix_84 v_wrong_83 v_wrongAt_83 H locs ls (by first | assumption | omega | (intros; omega) | decide) (by first | assumption | omega | (intros; omega) | decide) (by first | assumption | omega | (intros; omega) | decide) hP hD hS (lv_sub hl [0, 1] rfl)
    refine m_if_eq (X := r42.toInt) (tgt := 58) hx hb dX10_readStep_45 (by decide) rfl (fun c45 => ?_) (fun c45 => ?_)
    · skip
      refine lv_aload_n hx hb dX10_readStep_58 rfl (lv_at hl 0 rfl) ?_
      refine call_i (As := []) (rest := []) ⟨hx, hb, hml, hown, hts⟩ (tX10_readRefusal (l := l) ) (cwV 0 hts (gV (wr25 _ (List.mem_of_getElem? (i := 8) rfl)) (wr25 _ (List.mem_of_getElem? (i := 9) rfl)) (wr25 _ (List.mem_of_getElem? (i := 10) rfl)) (wr1 _ (List.mem_of_getElem? (i := 5) rfl)) (wr25 _ (List.mem_of_getElem? (i := 11) rfl))) rfl rfl rfl (by decide +kernel) ⟨Nat.le_of_ble_eq_true rfl, Nat.le_of_ble_eq_true rfl⟩) (va_recv hK hP (ci := 9) (q0 := 0) rfl rfl) hK hP hD hE hS hA rfl hl.1 rfl (Nat.le_of_ble_eq_true rfl) dX10_readStep_59 ⟨Nat.le_of_ble_eq_true rfl, Nat.le_of_ble_eq_true rfl⟩ (fun r59 w9 H locs hw59 hP hD hS => ?_)
      obtain ⟨v_wrong_59, v_wrongAt_59, rfl, hw59_0⟩ := hw59
      have b_v_wrong_59 := iB v_wrong_59
      have b_v_wrongAt_59 := iB v_wrongAt_59
      have b_r59 := iB r59
      refine m_if_eq (X := r59.toInt) (tgt := 81) hx hb dX10_readStep_62 (by decide) rfl (fun c62 => ?_) (fun c62 => ?_)
      · skip
        refine lv_iconst (v := 0) hx hb dX10_readStep_81 (by decide) ?_
        subst hAe
        rw [hQ]
        exact W.zret (v := 0) hx hb hr (by decide) (fun t ht hW => ⟨⟨0, _, rfl, ⟨v_to_35, v_kind_35, v_from_35, v_letters_35, v_letterMany_35, v_digits_35, v_isBeyond_35, v_suffix_35, a_act, a_guess_16, a_take_23, a_begin_9, a_finish, a_to1, a_one, a_two, a_what, a_ats, a_atVar, a_atNumber, a_atomSort, a_atomKind, a_atomValue, v_wrong_59, v_wrongAt_59, v_variable, v_number, v_numberKind, v_takes, rfl, by first | assumption | omega | (intros; omega) | decide, by first | assumption | omega | (intros; omega) | decide, by first | assumption | omega | (intros; omega) | decide, by first | assumption | omega | (intros; omega) | decide, by first | assumption | omega | (intros; omega) | decide, by first | assumption | omega | (intros; omega) | decide, by first | assumption | omega | (intros; omega) | decide, by first | assumption | omega | (intros; omega) | decide, by first | assumption | omega | (intros; omega) | decide, by first | assumption | omega | (intros; omega) | decide, by first | assumption | omega | (intros; omega) | decide, by first | assumption | exact SAME.rf _ _ | exact SAME.trans (by assumption) (by assumption) | exact SAME.trans (by assumption) (SAME.trans (by assumption) (by assumption)), by first | assumption | exact SAME.rf _ _ | exact SAME.trans (by assumption) (by assumption) | exact SAME.trans (by assumption) (SAME.trans (by assumption) (by assumption)), by first | assumption | exact SAME.rf _ _ | exact SAME.trans (by assumption) (by assumption) | exact SAME.trans (by assumption) (SAME.trans (by assumption) (by assumption)), by first | assumption | exact SAME.rf _ _ | exact SAME.trans (by assumption) (by assumption) | exact SAME.trans (by assumption) (SAME.trans (by assumption) (by assumption)), by first | assumption | exact SAME.rf _ _ | exact SAME.trans (by assumption) (by assumption) | exact SAME.trans (by assumption) (SAME.trans (by assumption) (by assumption)), by first | assumption | omega | (intros; omega) | decide⟩, by rw [ht]; exact hP, va_K.moved hW.alike hK, hD⟩, hS.F ht⟩) hS.2.2 dX10_readStep_82
      · skip
        refine lv_aload_n hx hb dX10_readStep_65 rfl (lv_at hl 0 rfl) ?_
        refine va_get (D := D) (ci := 9) (v := .ref (q 4)) (C := RX10) (T := TX10) (N := 71) hx hb hts hin hown hK hP 0 rfl rfl 17 (by decide) k_5_10 (fun _ h9 => h9) rfl dX10_readStep_66 ?_
        refine lv_iload_n hx hb dX10_readStep_69 rfl (lv_at hl 1 rfl) ?_
        refine lv_aload_n hx hb dX10_readStep_70 rfl (lv_at hl 0 rfl) ?_
        refine va_get (D := D) (ci := 9) (v := .long v_letters_35) (C := RX10) (T := TX10) (N := 71) hx hb hts hin hown hK hP 0 rfl rfl 7 (by decide) k_23_1 (fun _ h9 => h9) rfl dX10_readStep_71 ?_
        refine call_iSP (As := [.long v_letters_35]) (rest := [.int s9, .ref (q 4)]) ⟨hx, hb, hml, hown, hts⟩ (tX10_refusalOf (l := l) v_letters_35) (va_cwS 1 hts (gS (wr25 _ (List.mem_of_getElem? (i := 12) rfl)) (wr25 _ (List.mem_of_getElem? (i := 13) rfl)) (wr1 _ (List.mem_of_getElem? (i := 5) rfl)) (wr25 _ (List.mem_of_getElem? (i := 14) rfl))) rfl rfl rfl (by decide +kernel) ⟨Nat.le_of_ble_eq_true rfl, Nat.le_of_ble_eq_true rfl⟩) (hK.sub [] rfl) hP hD hE hS hA rfl hl.1 rfl (Nat.le_of_ble_eq_true rfl) dX10_readStep_74 ⟨Nat.le_of_ble_eq_true rfl, Nat.le_of_ble_eq_true rfl⟩ (fun r74 w9 H locs hw74 hP hD hS => ?_)
        obtain ⟨rfl, hw74_0, hw74_1⟩ := hw74
        have b_r74 := iB r74
        refine va_iast hx hb hK hP hD hS 4 0 rfl rfl (ix (by omega) (by omega)) dX10_readStep_77 (fun H locs hP hD hS => ?_)
        obtain ⟨a_guess_77, e_a_guess_77⟩ : ∃ g, g = upd a_guess_16 s9.toNatClampNeg r74 := ⟨_, rfl⟩
        have hP : va_P D vwCl (mw cs q v_thrown a_tape v_taped v_size v_to_35 v_kind_35 v_from_35 v_letters_35 v_letterMany_35 v_digits_35 v_isBeyond_35 v_suffix_35 v_steps v_fault v_hasProgram a_text a_act a_guess_77 a_take_23 a_begin_9 a_finish a_to1 a_one a_two a_what a_ats a_atVar a_atNumber a_atomSort a_atomKind a_atomValue v_wrong_59 v_wrongAt_59 v_variable v_number v_numberKind v_takes a_out v_outed a_varSort a_varKind a_varValue a_creature v_creatures a_arrayClass a_arrayFrom a_arrayLong v_arrays v_cells a_cellSort a_cellKind a_cellValue a_asideSort a_asideKind a_asideValue a_outcome v_marks v_came v_guessed v_right v_taken a_markSort a_markKind a_markClass a_markValue v_sort v_kindAt v_value a_index v_reached v_looked) H := by rw [e_a_guess_77]; exact hP
        have hD : va_D A (mw cs q v_thrown a_tape v_taped v_size v_to_35 v_kind_35 v_from_35 v_letters_35 v_letterMany_35 v_digits_35 v_isBeyond_35 v_suffix_35 v_steps v_fault v_hasProgram a_text a_act a_guess_77 a_take_23 a_begin_9 a_finish a_to1 a_one a_two a_what a_ats a_atVar a_atNumber a_atomSort a_atomKind a_atomValue v_wrong_59 v_wrongAt_59 v_variable v_number v_numberKind v_takes a_out v_outed a_varSort a_varKind a_varValue a_creature v_creatures a_arrayClass a_arrayFrom a_arrayLong v_arrays v_cells a_cellSort a_cellKind a_cellValue a_asideSort a_asideKind a_asideValue a_outcome v_marks v_came v_guessed v_right v_taken a_markSort a_markKind a_markClass a_markValue v_sort v_kindAt v_value a_index v_reached v_looked) := by rw [e_a_guess_77]; exact hD
        refine lv_goto (tgt := 83) hx hb dX10_readStep_78 (by decide) ?_
        exact J83 a_guess_77 v_wrong_59 v_wrongAt_59 H locs ls hP hD hS (lv_sub hl [0, 1] rfl)
    · skip
      refine lv_aload_n hx hb dX10_readStep_48 rfl (lv_at hl 0 rfl) ?_
      refine va_get (D := D) (ci := 9) (v := .ref (q 4)) (C := RX10) (T := TX10) (N := 71) hx hb hts hin hown hK hP 0 rfl rfl 17 (by decide) k_5_10 (fun _ h9 => h9) rfl dX10_readStep_49 ?_
      refine lv_iload_n hx hb dX10_readStep_52 rfl (lv_at hl 1 rfl) ?_
      refine lv_iconst (v := 0) hx hb dX10_readStep_53 (by decide) ?_
      refine va_iast hx hb hK hP hD hS 4 0 rfl rfl (ix (by omega) (by omega)) dX10_readStep_54 (fun H locs hP hD hS => ?_)
      obtain ⟨a_guess_54, e_a_guess_54⟩ : ∃ g, g = upd a_guess_16 s9.toNatClampNeg (0 : Int32) := ⟨_, rfl⟩
      have hP : va_P D vwCl (mw cs q v_thrown a_tape v_taped v_size v_to_35 v_kind_35 v_from_35 v_letters_35 v_letterMany_35 v_digits_35 v_isBeyond_35 v_suffix_35 v_steps v_fault v_hasProgram a_text a_act a_guess_54 a_take_23 a_begin_9 a_finish a_to1 a_one a_two a_what a_ats a_atVar a_atNumber a_atomSort a_atomKind a_atomValue v_wrong v_wrongAt v_variable v_number v_numberKind v_takes a_out v_outed a_varSort a_varKind a_varValue a_creature v_creatures a_arrayClass a_arrayFrom a_arrayLong v_arrays v_cells a_cellSort a_cellKind a_cellValue a_asideSort a_asideKind a_asideValue a_outcome v_marks v_came v_guessed v_right v_taken a_markSort a_markKind a_markClass a_markValue v_sort v_kindAt v_value a_index v_reached v_looked) H := by rw [e_a_guess_54]; exact hP
      have hD : va_D A (mw cs q v_thrown a_tape v_taped v_size v_to_35 v_kind_35 v_from_35 v_letters_35 v_letterMany_35 v_digits_35 v_isBeyond_35 v_suffix_35 v_steps v_fault v_hasProgram a_text a_act a_guess_54 a_take_23 a_begin_9 a_finish a_to1 a_one a_two a_what a_ats a_atVar a_atNumber a_atomSort a_atomKind a_atomValue v_wrong v_wrongAt v_variable v_number v_numberKind v_takes a_out v_outed a_varSort a_varKind a_varValue a_creature v_creatures a_arrayClass a_arrayFrom a_arrayLong v_arrays v_cells a_cellSort a_cellKind a_cellValue a_asideSort a_asideKind a_asideValue a_outcome v_marks v_came v_guessed v_right v_taken a_markSort a_markKind a_markClass a_markValue v_sort v_kindAt v_value a_index v_reached v_looked) := by rw [e_a_guess_54]; exact hD
      refine lv_goto (tgt := 83) hx hb dX10_readStep_55 (by decide) ?_
      exact J83 a_guess_54 v_wrong v_wrongAt H locs ls hP hD hS (lv_sub hl [0, 1] rfl)

def rmX10_keep : Room := { frames := 20, cells := 0, slots := 0, locals := 400 }
set_option maxHeartbeats 4000000 in
set_option maxRecDepth 100000 in
theorem tX10_keep {l : Launch} {D : va_G} {K : Nat → Nat → Nat} {cs : Nat → ClassId} {q : Nat → Nat} {v_thrown v_taped v_size v_to v_kind v_from v_letterMany v_isBeyond v_suffix v_steps v_fault v_hasProgram v_wrong v_wrongAt v_variable v_numberKind v_takes v_outed v_creatures v_arrays v_cells v_marks v_came v_guessed v_right v_taken v_sort v_kindAt v_reached v_looked : Int32} {a_tape a_text a_act a_guess a_take a_begin a_finish a_to1 a_one a_two a_what a_ats a_atVar a_atNumber a_atomSort a_atomKind a_out a_varSort a_varKind a_creature a_arrayClass a_arrayFrom a_arrayLong a_cellSort a_cellKind a_asideSort a_asideKind a_outcome a_markSort a_markKind a_markClass a_index : Nat → Int32} {v_letters v_digits v_number v_value : Int64} {a_atomValue a_varValue a_cellValue a_asideValue a_markValue : Nat → Int64} (s9 : Int32) (k9 : Int32) (p_0 : 101 ≤ s9.toInt) (p_1 : s9.toInt ≤ 200) (p_2 : 0 ≤ k9.toInt) (p_3 : k9.toInt ≤ 99) (p_4 : Rm25 a_atVar) (p_5 : R03 a_ats) (p_6 : R25 a_one) (p_7 : R25 a_two) (p_8 : R25 a_to1) (p_9 : ATM a_atomSort a_atomKind a_atomValue) : CtV l yX10_keep (wG yX10_keep cX10_keep 4 none) rmX10_keep D (mwT cs) K [.ref (q 0), .int s9, .int k9] (mw cs q v_thrown a_tape v_taped v_size v_to v_kind v_from v_letters v_letterMany v_digits v_isBeyond v_suffix v_steps v_fault v_hasProgram a_text a_act a_guess a_take a_begin a_finish a_to1 a_one a_two a_what a_ats a_atVar a_atNumber a_atomSort a_atomKind a_atomValue v_wrong v_wrongAt v_variable v_number v_numberKind v_takes a_out v_outed a_varSort a_varKind a_varValue a_creature v_creatures a_arrayClass a_arrayFrom a_arrayLong v_arrays v_cells a_cellSort a_cellKind a_cellValue a_asideSort a_asideKind a_asideValue a_outcome v_marks v_came v_guessed v_right v_taken a_markSort a_markKind a_markClass a_markValue v_sort v_kindAt v_value a_index v_reached v_looked) (fun w1 => ∃ (a_act' : Nat → Int32) (a_guess' : Nat → Int32) (a_take' : Nat → Int32) (a_begin' : Nat → Int32) (a_finish' : Nat → Int32) (a_to1' : Nat → Int32) (a_one' : Nat → Int32) (a_two' : Nat → Int32) (a_what' : Nat → Int32) (a_ats' : Nat → Int32) (a_atVar' : Nat → Int32) (a_atNumber' : Nat → Int32) (a_atomSort' : Nat → Int32) (a_atomKind' : Nat → Int32) (a_atomValue' : Nat → Int64), w1 = (mw cs q v_thrown a_tape v_taped v_size v_to v_kind v_from v_letters v_letterMany v_digits v_isBeyond v_suffix v_steps v_fault v_hasProgram a_text a_act' a_guess' a_take' a_begin' a_finish' a_to1' a_one' a_two' a_what' a_ats' a_atVar' a_atNumber' a_atomSort' a_atomKind' a_atomValue' v_wrong v_wrongAt v_variable v_number v_numberKind v_takes a_out v_outed a_varSort a_varKind a_varValue a_creature v_creatures a_arrayClass a_arrayFrom a_arrayLong v_arrays v_cells a_cellSort a_cellKind a_cellValue a_asideSort a_asideKind a_asideValue a_outcome v_marks v_came v_guessed v_right v_taken a_markSort a_markKind a_markClass a_markValue v_sort v_kindAt v_value a_index v_reached v_looked) ∧ (Rm25 a_atVar') ∧ (R03 a_ats') ∧ (R25 a_one') ∧ (R25 a_two') ∧ (R25 a_to1') ∧ (ATM a_atomSort' a_atomKind' a_atomValue') ∧ (a_act' k9.toNatClampNeg = a_act s9.toNatClampNeg) ∧ (a_ats' k9.toNatClampNeg = a_ats s9.toNatClampNeg) ∧ (a_what' k9.toNatClampNeg = a_what s9.toNatClampNeg) ∧ (a_begin' k9.toNatClampNeg = a_begin s9.toNatClampNeg) ∧ (a_finish' k9.toNatClampNeg = a_finish s9.toNatClampNeg) ∧ (SAME a_act' a_act k9.toNatClampNeg) ∧ (SAME a_ats' a_ats k9.toNatClampNeg) ∧ (SAME a_what' a_what k9.toNatClampNeg) ∧ (SAME a_begin' a_begin k9.toNatClampNeg) ∧ (SAME a_finish' a_finish k9.toNatClampNeg)) 0 0 := by
  intro sz
  refine Met.ofW (cc := cX10_keep) (maxL := 4) (ret := none) (by decide) rfl ?_
  intro p e s m args below meth c s₁ B hml hv
  obtain ⟨rfl, hsz, hP, hK, hD0, hE⟩ := hv
  have hx := B.exec
  have hb := B.bytes
  have hr := B.returns
  have hts := atoms_spec (ws := (wG yX10_keep cX10_keep 4 none)) B.pre
  have hown : s.vm.findClass RX10 = some m.cls := findClass_of_methodNamed B.named
  have hlocks := B.notSynchronized
  subst hsz
  have hD := hD0.self (sz := s.heap.size)
  obtain ⟨A, hAe⟩ : ∃ A : Nat → Prop, A = va_A (mw cs q v_thrown a_tape v_taped v_size v_to v_kind v_from v_letters v_letterMany v_digits v_isBeyond v_suffix v_steps v_fault v_hasProgram a_text a_act a_guess a_take a_begin a_finish a_to1 a_one a_two a_what a_ats a_atVar a_atNumber a_atomSort a_atomKind a_atomValue v_wrong v_wrongAt v_variable v_number v_numberKind v_takes a_out v_outed a_varSort a_varKind a_varValue a_creature v_creatures a_arrayClass a_arrayFrom a_arrayLong v_arrays v_cells a_cellSort a_cellKind a_cellValue a_asideSort a_asideKind a_asideValue a_outcome v_marks v_came v_guessed v_right v_taken a_markSort a_markKind a_markClass a_markValue v_sort v_kindAt v_value a_index v_reached v_looked) s.heap.size := ⟨_, rfl⟩
  rw [← hAe] at hD hE
  have hA : ∀ q : Nat, s.heap.size ≤ q → A q := fun q h => by rw [hAe]; exact Or.inr h
  have hS : va_S A s.heap s.heap [] := va_S.rf
  have hl := lv_entry ([.ref (q 0), .int s9, .int k9]) (n := 4) (Nat.le_of_ble_eq_true rfl)
  rw [lg_entry_eq]
  generalize (lg_sl ([.ref (q 0), .int s9, .int k9]) ++ List.replicate (4 - (lg_sl ([.ref (q 0), .int s9, .int k9])).length) Slot.unset).toArray = ls at hl ⊢
  have hl : lv_has ls 4 [(0, .ref (q 0)), (1, .int s9), (2, .int k9)] := hl
  refine wq (fun Q hQ => ?_)
  have hin : ∀ w ∈ wsX100, w ∈ (wG yX10_keep cX10_keep 4 none) := fun w h => List.mem_cons_of_mem _ (inlX10 w h)
  have kc0 : (0 : Int32).toInt = 0 := by decide
  have kc1 : (4 : Int32).toInt = 4 := by decide
  have k_5_9 := hts (.fieldLink RX10 16 "ArrayTrainerModel" "act" "[I") (List.mem_cons_of_mem _ (wr5 _ (List.mem_of_getElem? (i := 9) rfl)))
  have k_5_10 := hts (.fieldLink RX10 19 "ArrayTrainerModel" "guess" "[I") (List.mem_cons_of_mem _ (wr5 _ (List.mem_of_getElem? (i := 10) rfl)))
  have k_5_11 := hts (.fieldLink RX10 22 "ArrayTrainerModel" "take" "[I") (List.mem_cons_of_mem _ (wr5 _ (List.mem_of_getElem? (i := 11) rfl)))
  have k_5_12 := hts (.fieldLink RX10 25 "ArrayTrainerModel" "begin" "[I") (List.mem_cons_of_mem _ (wr5 _ (List.mem_of_getElem? (i := 12) rfl)))
  have k_5_13 := hts (.fieldLink RX10 28 "ArrayTrainerModel" "finish" "[I") (List.mem_cons_of_mem _ (wr5 _ (List.mem_of_getElem? (i := 13) rfl)))
  have k_5_14 := hts (.fieldLink RX10 31 "ArrayTrainerModel" "to1" "[I") (List.mem_cons_of_mem _ (wr5 _ (List.mem_of_getElem? (i := 14) rfl)))
  have k_5_15 := hts (.fieldLink RX10 34 "ArrayTrainerModel" "one" "[I") (List.mem_cons_of_mem _ (wr5 _ (List.mem_of_getElem? (i := 15) rfl)))
  have k_5_16 := hts (.fieldLink RX10 37 "ArrayTrainerModel" "two" "[I") (List.mem_cons_of_mem _ (wr5 _ (List.mem_of_getElem? (i := 16) rfl)))
  have k_5_17 := hts (.fieldLink RX10 40 "ArrayTrainerModel" "what" "[I") (List.mem_cons_of_mem _ (wr5 _ (List.mem_of_getElem? (i := 17) rfl)))
  have k_5_18 := hts (.fieldLink RX10 43 "ArrayTrainerModel" "ats" "[I") (List.mem_cons_of_mem _ (wr5 _ (List.mem_of_getElem? (i := 18) rfl)))
  have k_5_21 := hts (.fieldLink RX10 52 "ArrayTrainerModel" "atomSort" "[I") (List.mem_cons_of_mem _ (wr5 _ (List.mem_of_getElem? (i := 21) rfl)))
  have k_5_22 := hts (.fieldLink RX10 55 "ArrayTrainerModel" "atomKind" "[I") (List.mem_cons_of_mem _ (wr5 _ (List.mem_of_getElem? (i := 22) rfl)))
  have k_5_23 := hts (.fieldLink RX10 58 "ArrayTrainerModel" "atomValue" "[J") (List.mem_cons_of_mem _ (wr5 _ (List.mem_of_getElem? (i := 23) rfl)))
  have k_5_19 := hts (.fieldLink RX10 46 "ArrayTrainerModel" "atVar" "[I") (List.mem_cons_of_mem _ (wr5 _ (List.mem_of_getElem? (i := 19) rfl)))
  have k_5_20 := hts (.fieldLink RX10 49 "ArrayTrainerModel" "atNumber" "[I") (List.mem_cons_of_mem _ (wr5 _ (List.mem_of_getElem? (i := 20) rfl)))
  obtain ⟨H, hH⟩ : ∃ H : Heap, H = s.heap := ⟨_, rfl⟩
  obtain ⟨locs, hlc⟩ : ∃ L : List Loc, L = [] := ⟨_, rfl⟩
  have hP : va_P D vwCl (mw cs q v_thrown a_tape v_taped v_size v_to v_kind v_from v_letters v_letterMany v_digits v_isBeyond v_suffix v_steps v_fault v_hasProgram a_text a_act a_guess a_take a_begin a_finish a_to1 a_one a_two a_what a_ats a_atVar a_atNumber a_atomSort a_atomKind a_atomValue v_wrong v_wrongAt v_variable v_number v_numberKind v_takes a_out v_outed a_varSort a_varKind a_varValue a_creature v_creatures a_arrayClass a_arrayFrom a_arrayLong v_arrays v_cells a_cellSort a_cellKind a_cellValue a_asideSort a_asideKind a_asideValue a_outcome v_marks v_came v_guessed v_right v_taken a_markSort a_markKind a_markClass a_markValue v_sort v_kindAt v_value a_index v_reached v_looked) H := by rw [hH]; exact hP
  have hS : va_S A s.heap H locs := by rw [hH, hlc]; exact hS
  refine wHL hH hlc ?_
  have b_s9 := iB s9
  have b_k9 := iB k9
  refine lv_aload_n hx hb dX10_keep_0 rfl (lv_at hl 0 rfl) ?_
  refine va_get (D := D) (ci := 9) (v := .ref (q 3)) (C := RX10) (T := TX10) (N := 71) hx hb hts hin hown hK hP 0 rfl rfl 16 (by decide) k_5_9 (fun _ h9 => h9) rfl dX10_keep_1 ?_
  refine lv_iload_n hx hb dX10_keep_4 rfl (lv_at hl 2 rfl) ?_
  refine lv_aload_n hx hb dX10_keep_5 rfl (lv_at hl 0 rfl) ?_
  refine va_get (D := D) (ci := 9) (v := .ref (q 3)) (C := RX10) (T := TX10) (N := 71) hx hb hts hin hown hK hP 0 rfl rfl 16 (by decide) k_5_9 (fun _ h9 => h9) rfl dX10_keep_6 ?_
  refine lv_iload_n hx hb dX10_keep_9 rfl (lv_at hl 1 rfl) ?_
  refine m_iald hx hb hK hP 3 0 rfl rfl (ix (by omega) (by omega)) dX10_keep_10 (fun x10 e_x10 => ?_)
  have b_x10 := iB x10
  refine va_iast hx hb hK hP hD hS 3 0 rfl rfl (ix (by omega) (by omega)) dX10_keep_11 (fun H locs hP hD hS => ?_)
  obtain ⟨a_act_11, e_a_act_11⟩ : ∃ g, g = upd a_act k9.toNatClampNeg x10 := ⟨_, rfl⟩
  have hP : va_P D vwCl (mw cs q v_thrown a_tape v_taped v_size v_to v_kind v_from v_letters v_letterMany v_digits v_isBeyond v_suffix v_steps v_fault v_hasProgram a_text a_act_11 a_guess a_take a_begin a_finish a_to1 a_one a_two a_what a_ats a_atVar a_atNumber a_atomSort a_atomKind a_atomValue v_wrong v_wrongAt v_variable v_number v_numberKind v_takes a_out v_outed a_varSort a_varKind a_varValue a_creature v_creatures a_arrayClass a_arrayFrom a_arrayLong v_arrays v_cells a_cellSort a_cellKind a_cellValue a_asideSort a_asideKind a_asideValue a_outcome v_marks v_came v_guessed v_right v_taken a_markSort a_markKind a_markClass a_markValue v_sort v_kindAt v_value a_index v_reached v_looked) H := by rw [e_a_act_11]; exact hP
  have hD : va_D A (mw cs q v_thrown a_tape v_taped v_size v_to v_kind v_from v_letters v_letterMany v_digits v_isBeyond v_suffix v_steps v_fault v_hasProgram a_text a_act_11 a_guess a_take a_begin a_finish a_to1 a_one a_two a_what a_ats a_atVar a_atNumber a_atomSort a_atomKind a_atomValue v_wrong v_wrongAt v_variable v_number v_numberKind v_takes a_out v_outed a_varSort a_varKind a_varValue a_creature v_creatures a_arrayClass a_arrayFrom a_arrayLong v_arrays v_cells a_cellSort a_cellKind a_cellValue a_asideSort a_asideKind a_asideValue a_outcome v_marks v_came v_guessed v_right v_taken a_markSort a_markKind a_markClass a_markValue v_sort v_kindAt v_value a_index v_reached v_looked) := by rw [e_a_act_11]; exact hD
  refine lv_aload_n hx hb dX10_keep_12 rfl (lv_at hl 0 rfl) ?_
  refine va_get (D := D) (ci := 9) (v := .ref (q 4)) (C := RX10) (T := TX10) (N := 71) hx hb hts hin hown hK hP 0 rfl rfl 17 (by decide) k_5_10 (fun _ h9 => h9) rfl dX10_keep_13 ?_
  refine lv_iload_n hx hb dX10_keep_16 rfl (lv_at hl 2 rfl) ?_
  refine lv_aload_n hx hb dX10_keep_17 rfl (lv_at hl 0 rfl) ?_
  refine va_get (D := D) (ci := 9) (v := .ref (q 4)) (C := RX10) (T := TX10) (N := 71) hx hb hts hin hown hK hP 0 rfl rfl 17 (by decide) k_5_10 (fun _ h9 => h9) rfl dX10_keep_18 ?_
  refine lv_iload_n hx hb dX10_keep_21 rfl (lv_at hl 1 rfl) ?_
  refine m_iald hx hb hK hP 4 0 rfl rfl (ix (by omega) (by omega)) dX10_keep_22 (fun x22 e_x22 => ?_)
  have b_x22 := iB x22
  refine va_iast hx hb hK hP hD hS 4 0 rfl rfl (ix (by omega) (by omega)) dX10_keep_23 (fun H locs hP hD hS => ?_)
  obtain ⟨a_guess_23, e_a_guess_23⟩ : ∃ g, g = upd a_guess k9.toNatClampNeg x22 := ⟨_, rfl⟩
  have hP : va_P D vwCl (mw cs q v_thrown a_tape v_taped v_size v_to v_kind v_from v_letters v_letterMany v_digits v_isBeyond v_suffix v_steps v_fault v_hasProgram a_text a_act_11 a_guess_23 a_take a_begin a_finish a_to1 a_one a_two a_what a_ats a_atVar a_atNumber a_atomSort a_atomKind a_atomValue v_wrong v_wrongAt v_variable v_number v_numberKind v_takes a_out v_outed a_varSort a_varKind a_varValue a_creature v_creatures a_arrayClass a_arrayFrom a_arrayLong v_arrays v_cells a_cellSort a_cellKind a_cellValue a_asideSort a_asideKind a_asideValue a_outcome v_marks v_came v_guessed v_right v_taken a_markSort a_markKind a_markClass a_markValue v_sort v_kindAt v_value a_index v_reached v_looked) H := by rw [e_a_guess_23]; exact hP
  have hD : va_D A (mw cs q v_thrown a_tape v_taped v_size v_to v_kind v_from v_letters v_letterMany v_digits v_isBeyond v_suffix v_steps v_fault v_hasProgram a_text a_act_11 a_guess_23 a_take a_begin a_finish a_to1 a_one a_two a_what a_ats a_atVar a_atNumber a_atomSort a_atomKind a_atomValue v_wrong v_wrongAt v_variable v_number v_numberKind v_takes a_out v_outed a_varSort a_varKind a_varValue a_creature v_creatures a_arrayClass a_arrayFrom a_arrayLong v_arrays v_cells a_cellSort a_cellKind a_cellValue a_asideSort a_asideKind a_asideValue a_outcome v_marks v_came v_guessed v_right v_taken a_markSort a_markKind a_markClass a_markValue v_sort v_kindAt v_value a_index v_reached v_looked) := by rw [e_a_guess_23]; exact hD
  refine lv_aload_n hx hb dX10_keep_24 rfl (lv_at hl 0 rfl) ?_
  refine va_get (D := D) (ci := 9) (v := .ref (q 5)) (C := RX10) (T := TX10) (N := 71) hx hb hts hin hown hK hP 0 rfl rfl 18 (by decide) k_5_11 (fun _ h9 => h9) rfl dX10_keep_25 ?_
  refine lv_iload_n hx hb dX10_keep_28 rfl (lv_at hl 2 rfl) ?_
  refine lv_aload_n hx hb dX10_keep_29 rfl (lv_at hl 0 rfl) ?_
  refine va_get (D := D) (ci := 9) (v := .ref (q 5)) (C := RX10) (T := TX10) (N := 71) hx hb hts hin hown hK hP 0 rfl rfl 18 (by decide) k_5_11 (fun _ h9 => h9) rfl dX10_keep_30 ?_
  refine lv_iload_n hx hb dX10_keep_33 rfl (lv_at hl 1 rfl) ?_
  refine m_iald hx hb hK hP 5 0 rfl rfl (ix (by omega) (by omega)) dX10_keep_34 (fun x34 e_x34 => ?_)
  have b_x34 := iB x34
  refine va_iast hx hb hK hP hD hS 5 0 rfl rfl (ix (by omega) (by omega)) dX10_keep_35 (fun H locs hP hD hS => ?_)
  obtain ⟨a_take_35, e_a_take_35⟩ : ∃ g, g = upd a_take k9.toNatClampNeg x34 := ⟨_, rfl⟩
  have hP : va_P D vwCl (mw cs q v_thrown a_tape v_taped v_size v_to v_kind v_from v_letters v_letterMany v_digits v_isBeyond v_suffix v_steps v_fault v_hasProgram a_text a_act_11 a_guess_23 a_take_35 a_begin a_finish a_to1 a_one a_two a_what a_ats a_atVar a_atNumber a_atomSort a_atomKind a_atomValue v_wrong v_wrongAt v_variable v_number v_numberKind v_takes a_out v_outed a_varSort a_varKind a_varValue a_creature v_creatures a_arrayClass a_arrayFrom a_arrayLong v_arrays v_cells a_cellSort a_cellKind a_cellValue a_asideSort a_asideKind a_asideValue a_outcome v_marks v_came v_guessed v_right v_taken a_markSort a_markKind a_markClass a_markValue v_sort v_kindAt v_value a_index v_reached v_looked) H := by rw [e_a_take_35]; exact hP
  have hD : va_D A (mw cs q v_thrown a_tape v_taped v_size v_to v_kind v_from v_letters v_letterMany v_digits v_isBeyond v_suffix v_steps v_fault v_hasProgram a_text a_act_11 a_guess_23 a_take_35 a_begin a_finish a_to1 a_one a_two a_what a_ats a_atVar a_atNumber a_atomSort a_atomKind a_atomValue v_wrong v_wrongAt v_variable v_number v_numberKind v_takes a_out v_outed a_varSort a_varKind a_varValue a_creature v_creatures a_arrayClass a_arrayFrom a_arrayLong v_arrays v_cells a_cellSort a_cellKind a_cellValue a_asideSort a_asideKind a_asideValue a_outcome v_marks v_came v_guessed v_right v_taken a_markSort a_markKind a_markClass a_markValue v_sort v_kindAt v_value a_index v_reached v_looked) := by rw [e_a_take_35]; exact hD
  refine lv_aload_n hx hb dX10_keep_36 rfl (lv_at hl 0 rfl) ?_
  refine va_get (D := D) (ci := 9) (v := .ref (q 6)) (C := RX10) (T := TX10) (N := 71) hx hb hts hin hown hK hP 0 rfl rfl 19 (by decide) k_5_12 (fun _ h9 => h9) rfl dX10_keep_37 ?_
  refine lv_iload_n hx hb dX10_keep_40 rfl (lv_at hl 2 rfl) ?_
  refine lv_aload_n hx hb dX10_keep_41 rfl (lv_at hl 0 rfl) ?_
  refine va_get (D := D) (ci := 9) (v := .ref (q 6)) (C := RX10) (T := TX10) (N := 71) hx hb hts hin hown hK hP 0 rfl rfl 19 (by decide) k_5_12 (fun _ h9 => h9) rfl dX10_keep_42 ?_
  refine lv_iload_n hx hb dX10_keep_45 rfl (lv_at hl 1 rfl) ?_
  refine m_iald hx hb hK hP 6 0 rfl rfl (ix (by omega) (by omega)) dX10_keep_46 (fun x46 e_x46 => ?_)
  have b_x46 := iB x46
  refine va_iast hx hb hK hP hD hS 6 0 rfl rfl (ix (by omega) (by omega)) dX10_keep_47 (fun H locs hP hD hS => ?_)
  obtain ⟨a_begin_47, e_a_begin_47⟩ : ∃ g, g = upd a_begin k9.toNatClampNeg x46 := ⟨_, rfl⟩
  have hP : va_P D vwCl (mw cs q v_thrown a_tape v_taped v_size v_to v_kind v_from v_letters v_letterMany v_digits v_isBeyond v_suffix v_steps v_fault v_hasProgram a_text a_act_11 a_guess_23 a_take_35 a_begin_47 a_finish a_to1 a_one a_two a_what a_ats a_atVar a_atNumber a_atomSort a_atomKind a_atomValue v_wrong v_wrongAt v_variable v_number v_numberKind v_takes a_out v_outed a_varSort a_varKind a_varValue a_creature v_creatures a_arrayClass a_arrayFrom a_arrayLong v_arrays v_cells a_cellSort a_cellKind a_cellValue a_asideSort a_asideKind a_asideValue a_outcome v_marks v_came v_guessed v_right v_taken a_markSort a_markKind a_markClass a_markValue v_sort v_kindAt v_value a_index v_reached v_looked) H := by rw [e_a_begin_47]; exact hP
  have hD : va_D A (mw cs q v_thrown a_tape v_taped v_size v_to v_kind v_from v_letters v_letterMany v_digits v_isBeyond v_suffix v_steps v_fault v_hasProgram a_text a_act_11 a_guess_23 a_take_35 a_begin_47 a_finish a_to1 a_one a_two a_what a_ats a_atVar a_atNumber a_atomSort a_atomKind a_atomValue v_wrong v_wrongAt v_variable v_number v_numberKind v_takes a_out v_outed a_varSort a_varKind a_varValue a_creature v_creatures a_arrayClass a_arrayFrom a_arrayLong v_arrays v_cells a_cellSort a_cellKind a_cellValue a_asideSort a_asideKind a_asideValue a_outcome v_marks v_came v_guessed v_right v_taken a_markSort a_markKind a_markClass a_markValue v_sort v_kindAt v_value a_index v_reached v_looked) := by rw [e_a_begin_47]; exact hD
  refine lv_aload_n hx hb dX10_keep_48 rfl (lv_at hl 0 rfl) ?_
  refine va_get (D := D) (ci := 9) (v := .ref (q 7)) (C := RX10) (T := TX10) (N := 71) hx hb hts hin hown hK hP 0 rfl rfl 20 (by decide) k_5_13 (fun _ h9 => h9) rfl dX10_keep_49 ?_
  refine lv_iload_n hx hb dX10_keep_52 rfl (lv_at hl 2 rfl) ?_
  refine lv_aload_n hx hb dX10_keep_53 rfl (lv_at hl 0 rfl) ?_
  refine va_get (D := D) (ci := 9) (v := .ref (q 7)) (C := RX10) (T := TX10) (N := 71) hx hb hts hin hown hK hP 0 rfl rfl 20 (by decide) k_5_13 (fun _ h9 => h9) rfl dX10_keep_54 ?_
  refine lv_iload_n hx hb dX10_keep_57 rfl (lv_at hl 1 rfl) ?_
  refine m_iald hx hb hK hP 7 0 rfl rfl (ix (by omega) (by omega)) dX10_keep_58 (fun x58 e_x58 => ?_)
  have b_x58 := iB x58
  refine va_iast hx hb hK hP hD hS 7 0 rfl rfl (ix (by omega) (by omega)) dX10_keep_59 (fun H locs hP hD hS => ?_)
  obtain ⟨a_finish_59, e_a_finish_59⟩ : ∃ g, g = upd a_finish k9.toNatClampNeg x58 := ⟨_, rfl⟩
  have hP : va_P D vwCl (mw cs q v_thrown a_tape v_taped v_size v_to v_kind v_from v_letters v_letterMany v_digits v_isBeyond v_suffix v_steps v_fault v_hasProgram a_text a_act_11 a_guess_23 a_take_35 a_begin_47 a_finish_59 a_to1 a_one a_two a_what a_ats a_atVar a_atNumber a_atomSort a_atomKind a_atomValue v_wrong v_wrongAt v_variable v_number v_numberKind v_takes a_out v_outed a_varSort a_varKind a_varValue a_creature v_creatures a_arrayClass a_arrayFrom a_arrayLong v_arrays v_cells a_cellSort a_cellKind a_cellValue a_asideSort a_asideKind a_asideValue a_outcome v_marks v_came v_guessed v_right v_taken a_markSort a_markKind a_markClass a_markValue v_sort v_kindAt v_value a_index v_reached v_looked) H := by rw [e_a_finish_59]; exact hP
  have hD : va_D A (mw cs q v_thrown a_tape v_taped v_size v_to v_kind v_from v_letters v_letterMany v_digits v_isBeyond v_suffix v_steps v_fault v_hasProgram a_text a_act_11 a_guess_23 a_take_35 a_begin_47 a_finish_59 a_to1 a_one a_two a_what a_ats a_atVar a_atNumber a_atomSort a_atomKind a_atomValue v_wrong v_wrongAt v_variable v_number v_numberKind v_takes a_out v_outed a_varSort a_varKind a_varValue a_creature v_creatures a_arrayClass a_arrayFrom a_arrayLong v_arrays v_cells a_cellSort a_cellKind a_cellValue a_asideSort a_asideKind a_asideValue a_outcome v_marks v_came v_guessed v_right v_taken a_markSort a_markKind a_markClass a_markValue v_sort v_kindAt v_value a_index v_reached v_looked) := by rw [e_a_finish_59]; exact hD
  refine lv_aload_n hx hb dX10_keep_60 rfl (lv_at hl 0 rfl) ?_
  refine va_get (D := D) (ci := 9) (v := .ref (q 8)) (C := RX10) (T := TX10) (N := 71) hx hb hts hin hown hK hP 0 rfl rfl 21 (by decide) k_5_14 (fun _ h9 => h9) rfl dX10_keep_61 ?_
  refine lv_iload_n hx hb dX10_keep_64 rfl (lv_at hl 2 rfl) ?_
  refine lv_aload_n hx hb dX10_keep_65 rfl (lv_at hl 0 rfl) ?_
  refine va_get (D := D) (ci := 9) (v := .ref (q 8)) (C := RX10) (T := TX10) (N := 71) hx hb hts hin hown hK hP 0 rfl rfl 21 (by decide) k_5_14 (fun _ h9 => h9) rfl dX10_keep_66 ?_
  refine lv_iload_n hx hb dX10_keep_69 rfl (lv_at hl 1 rfl) ?_
  refine m_iald hx hb hK hP 8 0 rfl rfl (ix (by omega) (by omega)) dX10_keep_70 (fun x70 e_x70 => ?_)
  have b_x70 := iB x70
  refine va_iast hx hb hK hP hD hS 8 0 rfl rfl (ix (by omega) (by omega)) dX10_keep_71 (fun H locs hP hD hS => ?_)
  obtain ⟨a_to1_71, e_a_to1_71⟩ : ∃ g, g = upd a_to1 k9.toNatClampNeg x70 := ⟨_, rfl⟩
  have hP : va_P D vwCl (mw cs q v_thrown a_tape v_taped v_size v_to v_kind v_from v_letters v_letterMany v_digits v_isBeyond v_suffix v_steps v_fault v_hasProgram a_text a_act_11 a_guess_23 a_take_35 a_begin_47 a_finish_59 a_to1_71 a_one a_two a_what a_ats a_atVar a_atNumber a_atomSort a_atomKind a_atomValue v_wrong v_wrongAt v_variable v_number v_numberKind v_takes a_out v_outed a_varSort a_varKind a_varValue a_creature v_creatures a_arrayClass a_arrayFrom a_arrayLong v_arrays v_cells a_cellSort a_cellKind a_cellValue a_asideSort a_asideKind a_asideValue a_outcome v_marks v_came v_guessed v_right v_taken a_markSort a_markKind a_markClass a_markValue v_sort v_kindAt v_value a_index v_reached v_looked) H := by rw [e_a_to1_71]; exact hP
  have hD : va_D A (mw cs q v_thrown a_tape v_taped v_size v_to v_kind v_from v_letters v_letterMany v_digits v_isBeyond v_suffix v_steps v_fault v_hasProgram a_text a_act_11 a_guess_23 a_take_35 a_begin_47 a_finish_59 a_to1_71 a_one a_two a_what a_ats a_atVar a_atNumber a_atomSort a_atomKind a_atomValue v_wrong v_wrongAt v_variable v_number v_numberKind v_takes a_out v_outed a_varSort a_varKind a_varValue a_creature v_creatures a_arrayClass a_arrayFrom a_arrayLong v_arrays v_cells a_cellSort a_cellKind a_cellValue a_asideSort a_asideKind a_asideValue a_outcome v_marks v_came v_guessed v_right v_taken a_markSort a_markKind a_markClass a_markValue v_sort v_kindAt v_value a_index v_reached v_looked) := by rw [e_a_to1_71]; exact hD
  refine lv_aload_n hx hb dX10_keep_72 rfl (lv_at hl 0 rfl) ?_
  refine va_get (D := D) (ci := 9) (v := .ref (q 9)) (C := RX10) (T := TX10) (N := 71) hx hb hts hin hown hK hP 0 rfl rfl 22 (by decide) k_5_15 (fun _ h9 => h9) rfl dX10_keep_73 ?_
  refine lv_iload_n hx hb dX10_keep_76 rfl (lv_at hl 2 rfl) ?_
  refine lv_aload_n hx hb dX10_keep_77 rfl (lv_at hl 0 rfl) ?_
  refine va_get (D := D) (ci := 9) (v := .ref (q 9)) (C := RX10) (T := TX10) (N := 71) hx hb hts hin hown hK hP 0 rfl rfl 22 (by decide) k_5_15 (fun _ h9 => h9) rfl dX10_keep_78 ?_
  refine lv_iload_n hx hb dX10_keep_81 rfl (lv_at hl 1 rfl) ?_
  refine m_iald hx hb hK hP 9 0 rfl rfl (ix (by omega) (by omega)) dX10_keep_82 (fun x82 e_x82 => ?_)
  have b_x82 := iB x82
  refine va_iast hx hb hK hP hD hS 9 0 rfl rfl (ix (by omega) (by omega)) dX10_keep_83 (fun H locs hP hD hS => ?_)
  obtain ⟨a_one_83, e_a_one_83⟩ : ∃ g, g = upd a_one k9.toNatClampNeg x82 := ⟨_, rfl⟩
  have hP : va_P D vwCl (mw cs q v_thrown a_tape v_taped v_size v_to v_kind v_from v_letters v_letterMany v_digits v_isBeyond v_suffix v_steps v_fault v_hasProgram a_text a_act_11 a_guess_23 a_take_35 a_begin_47 a_finish_59 a_to1_71 a_one_83 a_two a_what a_ats a_atVar a_atNumber a_atomSort a_atomKind a_atomValue v_wrong v_wrongAt v_variable v_number v_numberKind v_takes a_out v_outed a_varSort a_varKind a_varValue a_creature v_creatures a_arrayClass a_arrayFrom a_arrayLong v_arrays v_cells a_cellSort a_cellKind a_cellValue a_asideSort a_asideKind a_asideValue a_outcome v_marks v_came v_guessed v_right v_taken a_markSort a_markKind a_markClass a_markValue v_sort v_kindAt v_value a_index v_reached v_looked) H := by rw [e_a_one_83]; exact hP
  have hD : va_D A (mw cs q v_thrown a_tape v_taped v_size v_to v_kind v_from v_letters v_letterMany v_digits v_isBeyond v_suffix v_steps v_fault v_hasProgram a_text a_act_11 a_guess_23 a_take_35 a_begin_47 a_finish_59 a_to1_71 a_one_83 a_two a_what a_ats a_atVar a_atNumber a_atomSort a_atomKind a_atomValue v_wrong v_wrongAt v_variable v_number v_numberKind v_takes a_out v_outed a_varSort a_varKind a_varValue a_creature v_creatures a_arrayClass a_arrayFrom a_arrayLong v_arrays v_cells a_cellSort a_cellKind a_cellValue a_asideSort a_asideKind a_asideValue a_outcome v_marks v_came v_guessed v_right v_taken a_markSort a_markKind a_markClass a_markValue v_sort v_kindAt v_value a_index v_reached v_looked) := by rw [e_a_one_83]; exact hD
  refine lv_aload_n hx hb dX10_keep_84 rfl (lv_at hl 0 rfl) ?_
  refine va_get (D := D) (ci := 9) (v := .ref (q 10)) (C := RX10) (T := TX10) (N := 71) hx hb hts hin hown hK hP 0 rfl rfl 23 (by decide) k_5_16 (fun _ h9 => h9) rfl dX10_keep_85 ?_
  refine lv_iload_n hx hb dX10_keep_88 rfl (lv_at hl 2 rfl) ?_
  refine lv_aload_n hx hb dX10_keep_89 rfl (lv_at hl 0 rfl) ?_
  refine va_get (D := D) (ci := 9) (v := .ref (q 10)) (C := RX10) (T := TX10) (N := 71) hx hb hts hin hown hK hP 0 rfl rfl 23 (by decide) k_5_16 (fun _ h9 => h9) rfl dX10_keep_90 ?_
  refine lv_iload_n hx hb dX10_keep_93 rfl (lv_at hl 1 rfl) ?_
  refine m_iald hx hb hK hP 10 0 rfl rfl (ix (by omega) (by omega)) dX10_keep_94 (fun x94 e_x94 => ?_)
  have b_x94 := iB x94
  refine va_iast hx hb hK hP hD hS 10 0 rfl rfl (ix (by omega) (by omega)) dX10_keep_95 (fun H locs hP hD hS => ?_)
  obtain ⟨a_two_95, e_a_two_95⟩ : ∃ g, g = upd a_two k9.toNatClampNeg x94 := ⟨_, rfl⟩
  have hP : va_P D vwCl (mw cs q v_thrown a_tape v_taped v_size v_to v_kind v_from v_letters v_letterMany v_digits v_isBeyond v_suffix v_steps v_fault v_hasProgram a_text a_act_11 a_guess_23 a_take_35 a_begin_47 a_finish_59 a_to1_71 a_one_83 a_two_95 a_what a_ats a_atVar a_atNumber a_atomSort a_atomKind a_atomValue v_wrong v_wrongAt v_variable v_number v_numberKind v_takes a_out v_outed a_varSort a_varKind a_varValue a_creature v_creatures a_arrayClass a_arrayFrom a_arrayLong v_arrays v_cells a_cellSort a_cellKind a_cellValue a_asideSort a_asideKind a_asideValue a_outcome v_marks v_came v_guessed v_right v_taken a_markSort a_markKind a_markClass a_markValue v_sort v_kindAt v_value a_index v_reached v_looked) H := by rw [e_a_two_95]; exact hP
  have hD : va_D A (mw cs q v_thrown a_tape v_taped v_size v_to v_kind v_from v_letters v_letterMany v_digits v_isBeyond v_suffix v_steps v_fault v_hasProgram a_text a_act_11 a_guess_23 a_take_35 a_begin_47 a_finish_59 a_to1_71 a_one_83 a_two_95 a_what a_ats a_atVar a_atNumber a_atomSort a_atomKind a_atomValue v_wrong v_wrongAt v_variable v_number v_numberKind v_takes a_out v_outed a_varSort a_varKind a_varValue a_creature v_creatures a_arrayClass a_arrayFrom a_arrayLong v_arrays v_cells a_cellSort a_cellKind a_cellValue a_asideSort a_asideKind a_asideValue a_outcome v_marks v_came v_guessed v_right v_taken a_markSort a_markKind a_markClass a_markValue v_sort v_kindAt v_value a_index v_reached v_looked) := by rw [e_a_two_95]; exact hD
  refine lv_aload_n hx hb dX10_keep_96 rfl (lv_at hl 0 rfl) ?_
  refine va_get (D := D) (ci := 9) (v := .ref (q 11)) (C := RX10) (T := TX10) (N := 71) hx hb hts hin hown hK hP 0 rfl rfl 24 (by decide) k_5_17 (fun _ h9 => h9) rfl dX10_keep_97 ?_
  refine lv_iload_n hx hb dX10_keep_100 rfl (lv_at hl 2 rfl) ?_
  refine lv_aload_n hx hb dX10_keep_101 rfl (lv_at hl 0 rfl) ?_
  refine va_get (D := D) (ci := 9) (v := .ref (q 11)) (C := RX10) (T := TX10) (N := 71) hx hb hts hin hown hK hP 0 rfl rfl 24 (by decide) k_5_17 (fun _ h9 => h9) rfl dX10_keep_102 ?_
  refine lv_iload_n hx hb dX10_keep_105 rfl (lv_at hl 1 rfl) ?_
  refine m_iald hx hb hK hP 11 0 rfl rfl (ix (by omega) (by omega)) dX10_keep_106 (fun x106 e_x106 => ?_)
  have b_x106 := iB x106
  refine va_iast hx hb hK hP hD hS 11 0 rfl rfl (ix (by omega) (by omega)) dX10_keep_107 (fun H locs hP hD hS => ?_)
  obtain ⟨a_what_107, e_a_what_107⟩ : ∃ g, g = upd a_what k9.toNatClampNeg x106 := ⟨_, rfl⟩
  have hP : va_P D vwCl (mw cs q v_thrown a_tape v_taped v_size v_to v_kind v_from v_letters v_letterMany v_digits v_isBeyond v_suffix v_steps v_fault v_hasProgram a_text a_act_11 a_guess_23 a_take_35 a_begin_47 a_finish_59 a_to1_71 a_one_83 a_two_95 a_what_107 a_ats a_atVar a_atNumber a_atomSort a_atomKind a_atomValue v_wrong v_wrongAt v_variable v_number v_numberKind v_takes a_out v_outed a_varSort a_varKind a_varValue a_creature v_creatures a_arrayClass a_arrayFrom a_arrayLong v_arrays v_cells a_cellSort a_cellKind a_cellValue a_asideSort a_asideKind a_asideValue a_outcome v_marks v_came v_guessed v_right v_taken a_markSort a_markKind a_markClass a_markValue v_sort v_kindAt v_value a_index v_reached v_looked) H := by rw [e_a_what_107]; exact hP
  have hD : va_D A (mw cs q v_thrown a_tape v_taped v_size v_to v_kind v_from v_letters v_letterMany v_digits v_isBeyond v_suffix v_steps v_fault v_hasProgram a_text a_act_11 a_guess_23 a_take_35 a_begin_47 a_finish_59 a_to1_71 a_one_83 a_two_95 a_what_107 a_ats a_atVar a_atNumber a_atomSort a_atomKind a_atomValue v_wrong v_wrongAt v_variable v_number v_numberKind v_takes a_out v_outed a_varSort a_varKind a_varValue a_creature v_creatures a_arrayClass a_arrayFrom a_arrayLong v_arrays v_cells a_cellSort a_cellKind a_cellValue a_asideSort a_asideKind a_asideValue a_outcome v_marks v_came v_guessed v_right v_taken a_markSort a_markKind a_markClass a_markValue v_sort v_kindAt v_value a_index v_reached v_looked) := by rw [e_a_what_107]; exact hD
  refine lv_aload_n hx hb dX10_keep_108 rfl (lv_at hl 0 rfl) ?_
  refine va_get (D := D) (ci := 9) (v := .ref (q 12)) (C := RX10) (T := TX10) (N := 71) hx hb hts hin hown hK hP 0 rfl rfl 25 (by decide) k_5_18 (fun _ h9 => h9) rfl dX10_keep_109 ?_
  refine lv_iload_n hx hb dX10_keep_112 rfl (lv_at hl 2 rfl) ?_
  refine lv_aload_n hx hb dX10_keep_113 rfl (lv_at hl 0 rfl) ?_
  refine va_get (D := D) (ci := 9) (v := .ref (q 12)) (C := RX10) (T := TX10) (N := 71) hx hb hts hin hown hK hP 0 rfl rfl 25 (by decide) k_5_18 (fun _ h9 => h9) rfl dX10_keep_114 ?_
  refine lv_iload_n hx hb dX10_keep_117 rfl (lv_at hl 1 rfl) ?_
  refine m_iald hx hb hK hP 12 0 rfl rfl (ix (by omega) (by omega)) dX10_keep_118 (fun x118 e_x118 => ?_)
  have b_x118 := iB x118
  refine va_iast hx hb hK hP hD hS 12 0 rfl rfl (ix (by omega) (by omega)) dX10_keep_119 (fun H locs hP hD hS => ?_)
  obtain ⟨a_ats_119, e_a_ats_119⟩ : ∃ g, g = upd a_ats k9.toNatClampNeg x118 := ⟨_, rfl⟩
  have hP : va_P D vwCl (mw cs q v_thrown a_tape v_taped v_size v_to v_kind v_from v_letters v_letterMany v_digits v_isBeyond v_suffix v_steps v_fault v_hasProgram a_text a_act_11 a_guess_23 a_take_35 a_begin_47 a_finish_59 a_to1_71 a_one_83 a_two_95 a_what_107 a_ats_119 a_atVar a_atNumber a_atomSort a_atomKind a_atomValue v_wrong v_wrongAt v_variable v_number v_numberKind v_takes a_out v_outed a_varSort a_varKind a_varValue a_creature v_creatures a_arrayClass a_arrayFrom a_arrayLong v_arrays v_cells a_cellSort a_cellKind a_cellValue a_asideSort a_asideKind a_asideValue a_outcome v_marks v_came v_guessed v_right v_taken a_markSort a_markKind a_markClass a_markValue v_sort v_kindAt v_value a_index v_reached v_looked) H := by rw [e_a_ats_119]; exact hP
  have hD : va_D A (mw cs q v_thrown a_tape v_taped v_size v_to v_kind v_from v_letters v_letterMany v_digits v_isBeyond v_suffix v_steps v_fault v_hasProgram a_text a_act_11 a_guess_23 a_take_35 a_begin_47 a_finish_59 a_to1_71 a_one_83 a_two_95 a_what_107 a_ats_119 a_atVar a_atNumber a_atomSort a_atomKind a_atomValue v_wrong v_wrongAt v_variable v_number v_numberKind v_takes a_out v_outed a_varSort a_varKind a_varValue a_creature v_creatures a_arrayClass a_arrayFrom a_arrayLong v_arrays v_cells a_cellSort a_cellKind a_cellValue a_asideSort a_asideKind a_asideValue a_outcome v_marks v_came v_guessed v_right v_taken a_markSort a_markKind a_markClass a_markValue v_sort v_kindAt v_value a_index v_reached v_looked) := by rw [e_a_ats_119]; exact hD
  refine lv_iconst (v := 0) hx hb dX10_keep_120 (by decide) ?_
  refine lv_istore_n (lv' := [(3, .int 0), (0, .ref (q 0)), (1, .int s9), (2, .int k9)]) hx hb dX10_keep_121 rfl hl (by decide) rfl (fun ls hl => ?_)
  have J122 : ∀ (n122 : Nat) (l3_122 : Int32) (a_atNumber_122 : Nat → Int32) (a_atVar_122 : Nat → Int32) (H : Heap) (locs : List Loc) (ls : Array Slot), (0 ≤ l3_122.toInt) → (l3_122.toInt ≤ 4) → (Rm25 a_atVar_122) → (4 - l3_122.toInt < (n122 : Int)) → va_P D vwCl (mw cs q v_thrown a_tape v_taped v_size v_to v_kind v_from v_letters v_letterMany v_digits v_isBeyond v_suffix v_steps v_fault v_hasProgram a_text a_act_11 a_guess_23 a_take_35 a_begin_47 a_finish_59 a_to1_71 a_one_83 a_two_95 a_what_107 a_ats_119 a_atVar_122 a_atNumber_122 a_atomSort a_atomKind a_atomValue v_wrong v_wrongAt v_variable v_number v_numberKind v_takes a_out v_outed a_varSort a_varKind a_varValue a_creature v_creatures a_arrayClass a_arrayFrom a_arrayLong v_arrays v_cells a_cellSort a_cellKind a_cellValue a_asideSort a_asideKind a_asideValue a_outcome v_marks v_came v_guessed v_right v_taken a_markSort a_markKind a_markClass a_markValue v_sort v_kindAt v_value a_index v_reached v_looked) H → va_D A (mw cs q v_thrown a_tape v_taped v_size v_to v_kind v_from v_letters v_letterMany v_digits v_isBeyond v_suffix v_steps v_fault v_hasProgram a_text a_act_11 a_guess_23 a_take_35 a_begin_47 a_finish_59 a_to1_71 a_one_83 a_two_95 a_what_107 a_ats_119 a_atVar_122 a_atNumber_122 a_atomSort a_atomKind a_atomValue v_wrong v_wrongAt v_variable v_number v_numberKind v_takes a_out v_outed a_varSort a_varKind a_varValue a_creature v_creatures a_arrayClass a_arrayFrom a_arrayLong v_arrays v_cells a_cellSort a_cellKind a_cellValue a_asideSort a_asideKind a_asideValue a_outcome v_marks v_came v_guessed v_right v_taken a_markSort a_markKind a_markClass a_markValue v_sort v_kindAt v_value a_index v_reached v_looked) → va_S A s.heap H locs → lv_has ls 4 [(0, .ref (q 0)), (1, .int s9), (2, .int k9), (3, .int l3_122)] → W p l e (headSpec (wG yX10_keep cX10_keep 4 none) rmX10_keep).room s m ([.ref (q 0), .int s9, .int k9] : List Value).toArray below meth c H locs 0 0 Q (F0 m 122 ls []) := by
    intro n122
    induction n122 with
    | zero =>
      intro l3_122 a_atNumber_122 a_atVar_122 H locs ls f122_0 f122_1 f122_2 hm122
      exfalso
      omega
    | succ n122 ih122 =>
      intro l3_122 a_atNumber_122 a_atVar_122 H locs ls f122_0 f122_1 f122_2 hm122 hP hD hS hl
      refine lv_iload_n hx hb dX10_keep_122 rfl (lv_at hl 3 rfl) ?_
      refine lv_iconst (v := 4) hx hb dX10_keep_123 (by decide) ?_
      refine m_icmp_ge (X := l3_122.toInt) (Y := 4) (tgt := 173) hx hb dX10_keep_124 (by decide) rfl (by decide) (fun c124 => ?_) (fun c124 => ?_)
      · skip
        refine lv_aload_n hx hb dX10_keep_173 rfl (lv_at hl 0 rfl) ?_
        refine va_get (D := D) (ci := 9) (v := .ref (q 15)) (C := RX10) (T := TX10) (N := 71) hx hb hts hin hown hK hP 0 rfl rfl 28 (by decide) k_5_21 (fun _ h9 => h9) rfl dX10_keep_174 ?_
        refine lv_iload_n hx hb dX10_keep_177 rfl (lv_at hl 2 rfl) ?_
        refine lv_aload_n hx hb dX10_keep_178 rfl (lv_at hl 0 rfl) ?_
        refine va_get (D := D) (ci := 9) (v := .ref (q 15)) (C := RX10) (T := TX10) (N := 71) hx hb hts hin hown hK hP 0 rfl rfl 28 (by decide) k_5_21 (fun _ h9 => h9) rfl dX10_keep_179 ?_
        refine lv_iload_n hx hb dX10_keep_182 rfl (lv_at hl 1 rfl) ?_
        refine m_iald hx hb hK hP 15 0 rfl rfl (ix (by omega) (by omega)) dX10_keep_183 (fun x183 e_x183 => ?_)
        have b_x183 := iB x183
        refine va_iast hx hb hK hP hD hS 15 0 rfl rfl (ix (by omega) (by omega)) dX10_keep_184 (fun H locs hP hD hS => ?_)
        obtain ⟨a_atomSort_184, e_a_atomSort_184⟩ : ∃ g, g = upd a_atomSort k9.toNatClampNeg x183 := ⟨_, rfl⟩
        have hP : va_P D vwCl (mw cs q v_thrown a_tape v_taped v_size v_to v_kind v_from v_letters v_letterMany v_digits v_isBeyond v_suffix v_steps v_fault v_hasProgram a_text a_act_11 a_guess_23 a_take_35 a_begin_47 a_finish_59 a_to1_71 a_one_83 a_two_95 a_what_107 a_ats_119 a_atVar_122 a_atNumber_122 a_atomSort_184 a_atomKind a_atomValue v_wrong v_wrongAt v_variable v_number v_numberKind v_takes a_out v_outed a_varSort a_varKind a_varValue a_creature v_creatures a_arrayClass a_arrayFrom a_arrayLong v_arrays v_cells a_cellSort a_cellKind a_cellValue a_asideSort a_asideKind a_asideValue a_outcome v_marks v_came v_guessed v_right v_taken a_markSort a_markKind a_markClass a_markValue v_sort v_kindAt v_value a_index v_reached v_looked) H := by rw [e_a_atomSort_184]; exact hP
        have hD : va_D A (mw cs q v_thrown a_tape v_taped v_size v_to v_kind v_from v_letters v_letterMany v_digits v_isBeyond v_suffix v_steps v_fault v_hasProgram a_text a_act_11 a_guess_23 a_take_35 a_begin_47 a_finish_59 a_to1_71 a_one_83 a_two_95 a_what_107 a_ats_119 a_atVar_122 a_atNumber_122 a_atomSort_184 a_atomKind a_atomValue v_wrong v_wrongAt v_variable v_number v_numberKind v_takes a_out v_outed a_varSort a_varKind a_varValue a_creature v_creatures a_arrayClass a_arrayFrom a_arrayLong v_arrays v_cells a_cellSort a_cellKind a_cellValue a_asideSort a_asideKind a_asideValue a_outcome v_marks v_came v_guessed v_right v_taken a_markSort a_markKind a_markClass a_markValue v_sort v_kindAt v_value a_index v_reached v_looked) := by rw [e_a_atomSort_184]; exact hD
        refine lv_aload_n hx hb dX10_keep_185 rfl (lv_at hl 0 rfl) ?_
        refine va_get (D := D) (ci := 9) (v := .ref (q 16)) (C := RX10) (T := TX10) (N := 71) hx hb hts hin hown hK hP 0 rfl rfl 29 (by decide) k_5_22 (fun _ h9 => h9) rfl dX10_keep_186 ?_
        refine lv_iload_n hx hb dX10_keep_189 rfl (lv_at hl 2 rfl) ?_
        refine lv_aload_n hx hb dX10_keep_190 rfl (lv_at hl 0 rfl) ?_
        refine va_get (D := D) (ci := 9) (v := .ref (q 16)) (C := RX10) (T := TX10) (N := 71) hx hb hts hin hown hK hP 0 rfl rfl 29 (by decide) k_5_22 (fun _ h9 => h9) rfl dX10_keep_191 ?_
        refine lv_iload_n hx hb dX10_keep_194 rfl (lv_at hl 1 rfl) ?_
        refine m_iald hx hb hK hP 16 0 rfl rfl (ix (by omega) (by omega)) dX10_keep_195 (fun x195 e_x195 => ?_)
        have b_x195 := iB x195
        refine va_iast hx hb hK hP hD hS 16 0 rfl rfl (ix (by omega) (by omega)) dX10_keep_196 (fun H locs hP hD hS => ?_)
        obtain ⟨a_atomKind_196, e_a_atomKind_196⟩ : ∃ g, g = upd a_atomKind k9.toNatClampNeg x195 := ⟨_, rfl⟩
        have hP : va_P D vwCl (mw cs q v_thrown a_tape v_taped v_size v_to v_kind v_from v_letters v_letterMany v_digits v_isBeyond v_suffix v_steps v_fault v_hasProgram a_text a_act_11 a_guess_23 a_take_35 a_begin_47 a_finish_59 a_to1_71 a_one_83 a_two_95 a_what_107 a_ats_119 a_atVar_122 a_atNumber_122 a_atomSort_184 a_atomKind_196 a_atomValue v_wrong v_wrongAt v_variable v_number v_numberKind v_takes a_out v_outed a_varSort a_varKind a_varValue a_creature v_creatures a_arrayClass a_arrayFrom a_arrayLong v_arrays v_cells a_cellSort a_cellKind a_cellValue a_asideSort a_asideKind a_asideValue a_outcome v_marks v_came v_guessed v_right v_taken a_markSort a_markKind a_markClass a_markValue v_sort v_kindAt v_value a_index v_reached v_looked) H := by rw [e_a_atomKind_196]; exact hP
        have hD : va_D A (mw cs q v_thrown a_tape v_taped v_size v_to v_kind v_from v_letters v_letterMany v_digits v_isBeyond v_suffix v_steps v_fault v_hasProgram a_text a_act_11 a_guess_23 a_take_35 a_begin_47 a_finish_59 a_to1_71 a_one_83 a_two_95 a_what_107 a_ats_119 a_atVar_122 a_atNumber_122 a_atomSort_184 a_atomKind_196 a_atomValue v_wrong v_wrongAt v_variable v_number v_numberKind v_takes a_out v_outed a_varSort a_varKind a_varValue a_creature v_creatures a_arrayClass a_arrayFrom a_arrayLong v_arrays v_cells a_cellSort a_cellKind a_cellValue a_asideSort a_asideKind a_asideValue a_outcome v_marks v_came v_guessed v_right v_taken a_markSort a_markKind a_markClass a_markValue v_sort v_kindAt v_value a_index v_reached v_looked) := by rw [e_a_atomKind_196]; exact hD
        refine lv_aload_n hx hb dX10_keep_197 rfl (lv_at hl 0 rfl) ?_
        refine va_get (D := D) (ci := 9) (v := .ref (q 17)) (C := RX10) (T := TX10) (N := 71) hx hb hts hin hown hK hP 0 rfl rfl 30 (by decide) k_5_23 (fun _ h9 => h9) rfl dX10_keep_198 ?_
        refine lv_iload_n hx hb dX10_keep_201 rfl (lv_at hl 2 rfl) ?_
        refine lv_aload_n hx hb dX10_keep_202 rfl (lv_at hl 0 rfl) ?_
        refine va_get (D := D) (ci := 9) (v := .ref (q 17)) (C := RX10) (T := TX10) (N := 71) hx hb hts hin hown hK hP 0 rfl rfl 30 (by decide) k_5_23 (fun _ h9 => h9) rfl dX10_keep_203 ?_
        refine lv_iload_n hx hb dX10_keep_206 rfl (lv_at hl 1 rfl) ?_
        refine m_lald hx hb hK hP 17 1 rfl rfl (ix (by omega) (by omega)) dX10_keep_207 (fun x207 e_x207 => ?_)
        have b_x207 := jB x207
        refine va_last hx hb hK hP hD hS 17 1 rfl rfl (ix (by omega) (by omega)) dX10_keep_208 (fun H locs hP hD hS => ?_)
        obtain ⟨a_atomValue_208, e_a_atomValue_208⟩ : ∃ g, g = vp_updL a_atomValue k9.toNatClampNeg x207 := ⟨_, rfl⟩
        have hP : va_P D vwCl (mw cs q v_thrown a_tape v_taped v_size v_to v_kind v_from v_letters v_letterMany v_digits v_isBeyond v_suffix v_steps v_fault v_hasProgram a_text a_act_11 a_guess_23 a_take_35 a_begin_47 a_finish_59 a_to1_71 a_one_83 a_two_95 a_what_107 a_ats_119 a_atVar_122 a_atNumber_122 a_atomSort_184 a_atomKind_196 a_atomValue_208 v_wrong v_wrongAt v_variable v_number v_numberKind v_takes a_out v_outed a_varSort a_varKind a_varValue a_creature v_creatures a_arrayClass a_arrayFrom a_arrayLong v_arrays v_cells a_cellSort a_cellKind a_cellValue a_asideSort a_asideKind a_asideValue a_outcome v_marks v_came v_guessed v_right v_taken a_markSort a_markKind a_markClass a_markValue v_sort v_kindAt v_value a_index v_reached v_looked) H := by rw [e_a_atomValue_208]; exact hP
        have hD : va_D A (mw cs q v_thrown a_tape v_taped v_size v_to v_kind v_from v_letters v_letterMany v_digits v_isBeyond v_suffix v_steps v_fault v_hasProgram a_text a_act_11 a_guess_23 a_take_35 a_begin_47 a_finish_59 a_to1_71 a_one_83 a_two_95 a_what_107 a_ats_119 a_atVar_122 a_atNumber_122 a_atomSort_184 a_atomKind_196 a_atomValue_208 v_wrong v_wrongAt v_variable v_number v_numberKind v_takes a_out v_outed a_varSort a_varKind a_varValue a_creature v_creatures a_arrayClass a_arrayFrom a_arrayLong v_arrays v_cells a_cellSort a_cellKind a_cellValue a_asideSort a_asideKind a_asideValue a_outcome v_marks v_came v_guessed v_right v_taken a_markSort a_markKind a_markClass a_markValue v_sort v_kindAt v_value a_index v_reached v_looked) := by rw [e_a_atomValue_208]; exact hD
        have hat : ATM a_atomSort_184 a_atomKind_196 a_atomValue_208 := ATM.copy p_9 e_a_atomSort_184 e_a_atomKind_196 e_a_atomValue_208 e_x183 e_x195 e_x207
        have hr3 : R03 a_ats_119 := cp03 p_5 e_a_ats_119 e_x118
        have ho : R25 a_one_83 := cp25 p_6 e_a_one_83 e_x82
        have htw : R25 a_two_95 := cp25 p_7 e_a_two_95 e_x94
        have hto : R25 a_to1_71 := cp25 p_8 e_a_to1_71 e_x70
        have c0 := cp_at e_a_act_11 e_x10
        have c1 := cp_at e_a_ats_119 e_x118
        have c2 := cp_at e_a_what_107 e_x106
        have c3 := cp_at e_a_begin_47 e_x46
        have c4 := cp_at e_a_finish_59 e_x58
        have d0 : SAME a_act_11 a_act k9.toNatClampNeg := SAME.upd e_a_act_11 (SAME.rf _ _)
        have d1 : SAME a_ats_119 a_ats k9.toNatClampNeg := SAME.upd e_a_ats_119 (SAME.rf _ _)
        have d2 : SAME a_what_107 a_what k9.toNatClampNeg := SAME.upd e_a_what_107 (SAME.rf _ _)
        have d3 : SAME a_begin_47 a_begin k9.toNatClampNeg := SAME.upd e_a_begin_47 (SAME.rf _ _)
        have d4 : SAME a_finish_59 a_finish k9.toNatClampNeg := SAME.upd e_a_finish_59 (SAME.rf _ _)
        subst hAe
        rw [hQ]
        exact W.vret hx hb hr (fun t ht hW => ⟨⟨_, rfl, ⟨a_act_11, a_guess_23, a_take_35, a_begin_47, a_finish_59, a_to1_71, a_one_83, a_two_95, a_what_107, a_ats_119, a_atVar_122, a_atNumber_122, a_atomSort_184, a_atomKind_196, a_atomValue_208, rfl, by first | assumption | omega | (intros; omega) | decide, by first | assumption | omega | (intros; omega) | decide, by first | assumption | omega | (intros; omega) | decide, by first | assumption | omega | (intros; omega) | decide, by first | assumption | omega | (intros; omega) | decide, by first | assumption | omega | (intros; omega) | decide, by first | assumption | omega | (intros; omega) | decide, by first | assumption | omega | (intros; omega) | decide, by first | assumption | omega | (intros; omega) | decide, by first | assumption | omega | (intros; omega) | decide, by first | assumption | omega | (intros; omega) | decide, by first | assumption | omega | (intros; omega) | decide, by first | assumption | omega | (intros; omega) | decide, by first | assumption | omega | (intros; omega) | decide, by first | assumption | omega | (intros; omega) | decide, by first | assumption | omega | (intros; omega) | decide⟩, by rw [ht]; exact hP, va_K.moved hW.alike hK, hD⟩, hS.F ht⟩) hS.2.2 dX10_keep_209
      · skip
        refine lv_aload_n hx hb dX10_keep_127 rfl (lv_at hl 0 rfl) ?_
        refine va_get (D := D) (ci := 9) (v := .ref (q 13)) (C := RX10) (T := TX10) (N := 71) hx hb hts hin hown hK hP 0 rfl rfl 26 (by decide) k_5_19 (fun _ h9 => h9) rfl dX10_keep_128 ?_
        refine lv_iconst (v := 4) hx hb dX10_keep_131 (by decide) ?_
        refine lv_iload_n hx hb dX10_keep_132 rfl (lv_at hl 2 rfl) ?_
        refine m_imul (X := 4) (Y := k9.toInt) hx hb dX10_keep_133 (by decide) rfl (fun x133 e_x133 g9 => ?_)
        obtain ⟨k_x133, g_x133⟩ := g9
        have b_x133 := iB x133
        try (have q_x133 : x133.toInt = 4 * k9.toInt := (by omega); clear g_x133 k_x133)
        refine lv_iload_n hx hb dX10_keep_134 rfl (lv_at hl 3 rfl) ?_
        refine m_iadd (X := x133.toInt) (Y := l3_122.toInt) hx hb dX10_keep_135 rfl rfl (fun x135 e_x135 g9 => ?_)
        obtain ⟨k_x135, g_x135⟩ := g9
        have b_x135 := iB x135
        try (have q_x135 : x135.toInt = x133.toInt + l3_122.toInt := (by omega); clear g_x135 k_x135)
        refine lv_aload_n hx hb dX10_keep_136 rfl (lv_at hl 0 rfl) ?_
        refine va_get (D := D) (ci := 9) (v := .ref (q 13)) (C := RX10) (T := TX10) (N := 71) hx hb hts hin hown hK hP 0 rfl rfl 26 (by decide) k_5_19 (fun _ h9 => h9) rfl dX10_keep_137 ?_
        refine lv_iconst (v := 4) hx hb dX10_keep_140 (by decide) ?_
        refine lv_iload_n hx hb dX10_keep_141 rfl (lv_at hl 1 rfl) ?_
        refine m_imul (X := 4) (Y := s9.toInt) hx hb dX10_keep_142 (by decide) rfl (fun x142 e_x142 g9 => ?_)
        obtain ⟨k_x142, g_x142⟩ := g9
        have b_x142 := iB x142
        try (have q_x142 : x142.toInt = 4 * s9.toInt := (by omega); clear g_x142 k_x142)
        refine lv_iload_n hx hb dX10_keep_143 rfl (lv_at hl 3 rfl) ?_
        refine m_iadd (X := x142.toInt) (Y := l3_122.toInt) hx hb dX10_keep_144 rfl rfl (fun x144 e_x144 g9 => ?_)
        obtain ⟨k_x144, g_x144⟩ := g9
        have b_x144 := iB x144
        try (have q_x144 : x144.toInt = x142.toInt + l3_122.toInt := (by omega); clear g_x144 k_x144)
        refine m_iald hx hb hK hP 13 0 rfl rfl (ix (by omega) (by omega)) dX10_keep_145 (fun x145 e_x145 => ?_)
        have b_x145 := iB x145
        refine va_iast hx hb hK hP hD hS 13 0 rfl rfl (ix (by omega) (by omega)) dX10_keep_146 (fun H locs hP hD hS => ?_)
        obtain ⟨a_atVar_146, e_a_atVar_146⟩ : ∃ g, g = upd a_atVar_122 x135.toNatClampNeg x145 := ⟨_, rfl⟩
        have hP : va_P D vwCl (mw cs q v_thrown a_tape v_taped v_size v_to v_kind v_from v_letters v_letterMany v_digits v_isBeyond v_suffix v_steps v_fault v_hasProgram a_text a_act_11 a_guess_23 a_take_35 a_begin_47 a_finish_59 a_to1_71 a_one_83 a_two_95 a_what_107 a_ats_119 a_atVar_146 a_atNumber_122 a_atomSort a_atomKind a_atomValue v_wrong v_wrongAt v_variable v_number v_numberKind v_takes a_out v_outed a_varSort a_varKind a_varValue a_creature v_creatures a_arrayClass a_arrayFrom a_arrayLong v_arrays v_cells a_cellSort a_cellKind a_cellValue a_asideSort a_asideKind a_asideValue a_outcome v_marks v_came v_guessed v_right v_taken a_markSort a_markKind a_markClass a_markValue v_sort v_kindAt v_value a_index v_reached v_looked) H := by rw [e_a_atVar_146]; exact hP
        have hD : va_D A (mw cs q v_thrown a_tape v_taped v_size v_to v_kind v_from v_letters v_letterMany v_digits v_isBeyond v_suffix v_steps v_fault v_hasProgram a_text a_act_11 a_guess_23 a_take_35 a_begin_47 a_finish_59 a_to1_71 a_one_83 a_two_95 a_what_107 a_ats_119 a_atVar_146 a_atNumber_122 a_atomSort a_atomKind a_atomValue v_wrong v_wrongAt v_variable v_number v_numberKind v_takes a_out v_outed a_varSort a_varKind a_varValue a_creature v_creatures a_arrayClass a_arrayFrom a_arrayLong v_arrays v_cells a_cellSort a_cellKind a_cellValue a_asideSort a_asideKind a_asideValue a_outcome v_marks v_came v_guessed v_right v_taken a_markSort a_markKind a_markClass a_markValue v_sort v_kindAt v_value a_index v_reached v_looked) := by rw [e_a_atVar_146]; exact hD
        refine lv_aload_n hx hb dX10_keep_147 rfl (lv_at hl 0 rfl) ?_
        refine va_get (D := D) (ci := 9) (v := .ref (q 14)) (C := RX10) (T := TX10) (N := 71) hx hb hts hin hown hK hP 0 rfl rfl 27 (by decide) k_5_20 (fun _ h9 => h9) rfl dX10_keep_148 ?_
        refine lv_iconst (v := 4) hx hb dX10_keep_151 (by decide) ?_
        refine lv_iload_n hx hb dX10_keep_152 rfl (lv_at hl 2 rfl) ?_
        refine m_imul (X := 4) (Y := k9.toInt) hx hb dX10_keep_153 (by decide) rfl (fun x153 e_x153 g9 => ?_)
        obtain ⟨k_x153, g_x153⟩ := g9
        have b_x153 := iB x153
        try (have q_x153 : x153.toInt = 4 * k9.toInt := (by omega); clear g_x153 k_x153)
        refine lv_iload_n hx hb dX10_keep_154 rfl (lv_at hl 3 rfl) ?_
        refine m_iadd (X := x153.toInt) (Y := l3_122.toInt) hx hb dX10_keep_155 rfl rfl (fun x155 e_x155 g9 => ?_)
        obtain ⟨k_x155, g_x155⟩ := g9
        have b_x155 := iB x155
        try (have q_x155 : x155.toInt = x153.toInt + l3_122.toInt := (by omega); clear g_x155 k_x155)
        refine lv_aload_n hx hb dX10_keep_156 rfl (lv_at hl 0 rfl) ?_
        refine va_get (D := D) (ci := 9) (v := .ref (q 14)) (C := RX10) (T := TX10) (N := 71) hx hb hts hin hown hK hP 0 rfl rfl 27 (by decide) k_5_20 (fun _ h9 => h9) rfl dX10_keep_157 ?_
        refine lv_iconst (v := 4) hx hb dX10_keep_160 (by decide) ?_
        refine lv_iload_n hx hb dX10_keep_161 rfl (lv_at hl 1 rfl) ?_
        refine m_imul (X := 4) (Y := s9.toInt) hx hb dX10_keep_162 (by decide) rfl (fun x162 e_x162 g9 => ?_)
        obtain ⟨k_x162, g_x162⟩ := g9
        have b_x162 := iB x162
        try (have q_x162 : x162.toInt = 4 * s9.toInt := (by omega); clear g_x162 k_x162)
        refine lv_iload_n hx hb dX10_keep_163 rfl (lv_at hl 3 rfl) ?_
        refine m_iadd (X := x162.toInt) (Y := l3_122.toInt) hx hb dX10_keep_164 rfl rfl (fun x164 e_x164 g9 => ?_)
        obtain ⟨k_x164, g_x164⟩ := g9
        have b_x164 := iB x164
        try (have q_x164 : x164.toInt = x162.toInt + l3_122.toInt := (by omega); clear g_x164 k_x164)
        refine m_iald hx hb hK hP 14 0 rfl rfl (ix (by omega) (by omega)) dX10_keep_165 (fun x165 e_x165 => ?_)
        have b_x165 := iB x165
        refine va_iast hx hb hK hP hD hS 14 0 rfl rfl (ix (by omega) (by omega)) dX10_keep_166 (fun H locs hP hD hS => ?_)
        obtain ⟨a_atNumber_166, e_a_atNumber_166⟩ : ∃ g, g = upd a_atNumber_122 x155.toNatClampNeg x165 := ⟨_, rfl⟩
        have hP : va_P D vwCl (mw cs q v_thrown a_tape v_taped v_size v_to v_kind v_from v_letters v_letterMany v_digits v_isBeyond v_suffix v_steps v_fault v_hasProgram a_text a_act_11 a_guess_23 a_take_35 a_begin_47 a_finish_59 a_to1_71 a_one_83 a_two_95 a_what_107 a_ats_119 a_atVar_146 a_atNumber_166 a_atomSort a_atomKind a_atomValue v_wrong v_wrongAt v_variable v_number v_numberKind v_takes a_out v_outed a_varSort a_varKind a_varValue a_creature v_creatures a_arrayClass a_arrayFrom a_arrayLong v_arrays v_cells a_cellSort a_cellKind a_cellValue a_asideSort a_asideKind a_asideValue a_outcome v_marks v_came v_guessed v_right v_taken a_markSort a_markKind a_markClass a_markValue v_sort v_kindAt v_value a_index v_reached v_looked) H := by rw [e_a_atNumber_166]; exact hP
        have hD : va_D A (mw cs q v_thrown a_tape v_taped v_size v_to v_kind v_from v_letters v_letterMany v_digits v_isBeyond v_suffix v_steps v_fault v_hasProgram a_text a_act_11 a_guess_23 a_take_35 a_begin_47 a_finish_59 a_to1_71 a_one_83 a_two_95 a_what_107 a_ats_119 a_atVar_146 a_atNumber_166 a_atomSort a_atomKind a_atomValue v_wrong v_wrongAt v_variable v_number v_numberKind v_takes a_out v_outed a_varSort a_varKind a_varValue a_creature v_creatures a_arrayClass a_arrayFrom a_arrayLong v_arrays v_cells a_cellSort a_cellKind a_cellValue a_asideSort a_asideKind a_asideValue a_outcome v_marks v_came v_guessed v_right v_taken a_markSort a_markKind a_markClass a_markValue v_sort v_kindAt v_value a_index v_reached v_looked) := by rw [e_a_atNumber_166]; exact hD
        obtain ⟨x167, e_x167⟩ : ∃ z : Int32, z = l3_122 + (1 : Int32) := ⟨_, rfl⟩
        obtain ⟨k_x167, g_x167⟩ : ∃ k : Int, x167.toInt = l3_122.toInt + (1) + k * 4294967296 := by rw [e_x167]; exact iAdd l3_122 (1)
        have b_x167 := iB x167
        try (have q_x167 : x167.toInt = l3_122.toInt + (1) := (by omega); clear g_x167 k_x167)
        refine lv_iinc (v := x167) (lv' := [(3, .int x167), (0, .ref (q 0)), (1, .int s9), (2, .int k9)]) hx hb dX10_keep_167 hl (k := 3) rfl (by rw [e_x167]; rfl) (by decide) rfl (fun ls hl => ?_)
        refine lv_goto (tgt := 122) hx hb dX10_keep_170 (by decide) ?_
        exact ih122 x167 a_atNumber_166 a_atVar_146 H locs ls (by first | assumption | omega | (intros; omega) | decide) (by first | assumption | omega | (intros; omega) | decide) (by first | assumption | exact cpm25 (by assumption) e_a_atVar_146 e_x145) (by omega) hP hD hS (lv_sub hl [1, 2, 3, 0] rfl)
  exact J122 ((4 - (0 : Int32).toInt).toNat + 1) (0 : Int32) a_atNumber a_atVar H locs ls (by first | assumption | omega | (intros; omega) | decide) (by first | assumption | omega | (intros; omega) | decide) (by first | assumption | exact cpm25 (by assumption) e_a_atVar_146 e_x145) (by omega) hP hD hS (lv_sub hl [1, 2, 3, 0] rfl)

def rmX10_named : Room := { frames := 180, cells := 0, slots := 0, locals := 3600 }
set_option maxHeartbeats 4000000 in
set_option maxRecDepth 100000 in
theorem tX10_named {l : Launch} {D : va_G} {K : Nat → Nat → Nat} {cs : Nat → ClassId} {q : Nat → Nat} {v_thrown v_taped v_size v_to v_kind v_from v_letterMany v_isBeyond v_suffix v_steps v_fault v_hasProgram v_wrong v_wrongAt v_variable v_numberKind v_takes v_outed v_creatures v_arrays v_cells v_marks v_came v_guessed v_right v_taken v_sort v_kindAt v_reached v_looked : Int32} {a_tape a_text a_act a_guess a_take a_begin a_finish a_to1 a_one a_two a_what a_ats a_atVar a_atNumber a_atomSort a_atomKind a_out a_varSort a_varKind a_creature a_arrayClass a_arrayFrom a_arrayLong a_cellSort a_cellKind a_asideSort a_asideKind a_outcome a_markSort a_markKind a_markClass a_index : Nat → Int32} {v_letters v_digits v_number v_value : Int64} {a_atomValue a_varValue a_cellValue a_asideValue a_markValue : Nat → Int64} (p_0 : 0 ≤ v_taped.toInt) (p_1 : v_taped.toInt ≤ 3100) (p_2 : v_isBeyond.toInt = 0 ∨ v_isBeyond.toInt = 1) : CtI l yX10_named (wG yX10_named cX10_named 2 (some .int)) rmX10_named D (mwT cs) K [.ref (q 0)] (mw cs q v_thrown a_tape v_taped v_size v_to v_kind v_from v_letters v_letterMany v_digits v_isBeyond v_suffix v_steps v_fault v_hasProgram a_text a_act a_guess a_take a_begin a_finish a_to1 a_one a_two a_what a_ats a_atVar a_atNumber a_atomSort a_atomKind a_atomValue v_wrong v_wrongAt v_variable v_number v_numberKind v_takes a_out v_outed a_varSort a_varKind a_varValue a_creature v_creatures a_arrayClass a_arrayFrom a_arrayLong v_arrays v_cells a_cellSort a_cellKind a_cellValue a_asideSort a_asideKind a_asideValue a_outcome v_marks v_came v_guessed v_right v_taken a_markSort a_markKind a_markClass a_markValue v_sort v_kindAt v_value a_index v_reached v_looked) (fun r w1 => ∃ (v_thrown' : Int32) (v_taped' : Int32) (v_size' : Int32) (v_to' : Int32) (v_kind' : Int32) (v_from' : Int32) (v_letters' : Int64) (v_letterMany' : Int32) (v_digits' : Int64) (v_isBeyond' : Int32) (v_suffix' : Int32) (a_what' : Nat → Int32) (v_wrong' : Int32) (v_wrongAt' : Int32), w1 = (mw cs q v_thrown' a_tape v_taped' v_size' v_to' v_kind' v_from' v_letters' v_letterMany' v_digits' v_isBeyond' v_suffix' v_steps v_fault v_hasProgram a_text a_act a_guess a_take a_begin a_finish a_to1 a_one a_two a_what' a_ats a_atVar a_atNumber a_atomSort a_atomKind a_atomValue v_wrong' v_wrongAt' v_variable v_number v_numberKind v_takes a_out v_outed a_varSort a_varKind a_varValue a_creature v_creatures a_arrayClass a_arrayFrom a_arrayLong v_arrays v_cells a_cellSort a_cellKind a_cellValue a_asideSort a_asideKind a_asideValue a_outcome v_marks v_came v_guessed v_right v_taken a_markSort a_markKind a_markClass a_markValue v_sort v_kindAt v_value a_index v_reached v_looked) ∧ (v_taped'.toInt = 0) ∧ (v_isBeyond'.toInt = 0 ∨ v_isBeyond'.toInt = 1)) 0 0 := by
  intro sz
  refine Met.ofW (cc := cX10_named) (maxL := 2) (ret := (some .int)) (by decide) rfl ?_
  intro p e s m args below meth c s₁ B hml hv
  obtain ⟨rfl, hsz, hP, hK, hD0, hE⟩ := hv
  have hx := B.exec
  have hb := B.bytes
  have hr := B.returns
  have hts := atoms_spec (ws := (wG yX10_named cX10_named 2 (some .int))) B.pre
  have hown : s.vm.findClass RX10 = some m.cls := findClass_of_methodNamed B.named
  have hlocks := B.notSynchronized
  subst hsz
  have hD := hD0.self (sz := s.heap.size)
  obtain ⟨A, hAe⟩ : ∃ A : Nat → Prop, A = va_A (mw cs q v_thrown a_tape v_taped v_size v_to v_kind v_from v_letters v_letterMany v_digits v_isBeyond v_suffix v_steps v_fault v_hasProgram a_text a_act a_guess a_take a_begin a_finish a_to1 a_one a_two a_what a_ats a_atVar a_atNumber a_atomSort a_atomKind a_atomValue v_wrong v_wrongAt v_variable v_number v_numberKind v_takes a_out v_outed a_varSort a_varKind a_varValue a_creature v_creatures a_arrayClass a_arrayFrom a_arrayLong v_arrays v_cells a_cellSort a_cellKind a_cellValue a_asideSort a_asideKind a_asideValue a_outcome v_marks v_came v_guessed v_right v_taken a_markSort a_markKind a_markClass a_markValue v_sort v_kindAt v_value a_index v_reached v_looked) s.heap.size := ⟨_, rfl⟩
  rw [← hAe] at hD hE
  have hA : ∀ q : Nat, s.heap.size ≤ q → A q := fun q h => by rw [hAe]; exact Or.inr h
  have hS : va_S A s.heap s.heap [] := va_S.rf
  have hl := lv_entry ([.ref (q 0)]) (n := 2) (Nat.le_of_ble_eq_true rfl)
  rw [lg_entry_eq]
  generalize (lg_sl ([.ref (q 0)]) ++ List.replicate (2 - (lg_sl ([.ref (q 0)])).length) Slot.unset).toArray = ls at hl ⊢
  have hl : lv_has ls 2 [(0, .ref (q 0))] := hl
  refine wq (fun Q hQ => ?_)
  have hin : ∀ w ∈ wsX100, w ∈ (wG yX10_named cX10_named 2 (some .int)) := fun w h => List.mem_cons_of_mem _ (inlX10 w h)
  have kc0 : (-1 : Int32).toInt = -1 := by decide
  have kc1 : (0 : Int32).toInt = 0 := by decide
  have kc2 : (201 : Int32).toInt = 201 := by decide
  have k_7_9 := hts (.fieldLink RX10 122 "ArrayTrainerModel" "thrown" "I") (List.mem_cons_of_mem _ (wr7 _ (List.mem_of_getElem? (i := 9) rfl)))
  have k_7_10 := hts (.fieldLink RX10 126 "ArrayTrainerModel" "taped" "I") (List.mem_cons_of_mem _ (wr7 _ (List.mem_of_getElem? (i := 10) rfl)))
  have k_22_11 := hts (.fieldLink RX10 261 "ArrayTrainerModel" "size" "I") (List.mem_cons_of_mem _ (wr22 _ (List.mem_of_getElem? (i := 11) rfl)))
  have k_22_12 := hts (.fieldLink RX10 263 "ArrayTrainerModel" "to" "I") (List.mem_cons_of_mem _ (wr22 _ (List.mem_of_getElem? (i := 12) rfl)))
  have k_22_15 := hts (.fieldLink RX10 273 "ArrayTrainerModel" "kind" "I") (List.mem_cons_of_mem _ (wr22 _ (List.mem_of_getElem? (i := 15) rfl)))
  have k_5_17 := hts (.fieldLink RX10 40 "ArrayTrainerModel" "what" "[I") (List.mem_cons_of_mem _ (wr5 _ (List.mem_of_getElem? (i := 17) rfl)))
  obtain ⟨H, hH⟩ : ∃ H : Heap, H = s.heap := ⟨_, rfl⟩
  obtain ⟨locs, hlc⟩ : ∃ L : List Loc, L = [] := ⟨_, rfl⟩
  have hP : va_P D vwCl (mw cs q v_thrown a_tape v_taped v_size v_to v_kind v_from v_letters v_letterMany v_digits v_isBeyond v_suffix v_steps v_fault v_hasProgram a_text a_act a_guess a_take a_begin a_finish a_to1 a_one a_two a_what a_ats a_atVar a_atNumber a_atomSort a_atomKind a_atomValue v_wrong v_wrongAt v_variable v_number v_numberKind v_takes a_out v_outed a_varSort a_varKind a_varValue a_creature v_creatures a_arrayClass a_arrayFrom a_arrayLong v_arrays v_cells a_cellSort a_cellKind a_cellValue a_asideSort a_asideKind a_asideValue a_outcome v_marks v_came v_guessed v_right v_taken a_markSort a_markKind a_markClass a_markValue v_sort v_kindAt v_value a_index v_reached v_looked) H := by rw [hH]; exact hP
  have hS : va_S A s.heap H locs := by rw [hH, hlc]; exact hS
  refine wHL hH hlc ?_
  refine lv_aload_n hx hb dX10_named_0 rfl (lv_at hl 0 rfl) ?_
  refine lv_iconst (v := 0) hx hb dX10_named_1 (by decide) ?_
  refine va_put (D := D) (ci := 9) (v := .int 0) (ty := .int) (C := RX10) (T := TX10) (N := 71) hx hb hts hin tyX10 tyX10_ok nmX10 hown hK hP hD hS 0 rfl rfl 0 (by decide) k_7_9 (fun _ h9 => h9) rfl (by decide +kernel) rfl rfl (Nat.le_of_ble_eq_true rfl) dX10_named_2 (fun H locs hP hD hS => ?_)
  have hP : va_P D vwCl (mw cs q (0 : Int32) a_tape v_taped v_size v_to v_kind v_from v_letters v_letterMany v_digits v_isBeyond v_suffix v_steps v_fault v_hasProgram a_text a_act a_guess a_take a_begin a_finish a_to1 a_one a_two a_what a_ats a_atVar a_atNumber a_atomSort a_atomKind a_atomValue v_wrong v_wrongAt v_variable v_number v_numberKind v_takes a_out v_outed a_varSort a_varKind a_varValue a_creature v_creatures a_arrayClass a_arrayFrom a_arrayLong v_arrays v_cells a_cellSort a_cellKind a_cellValue a_asideSort a_asideKind a_asideValue a_outcome v_marks v_came v_guessed v_right v_taken a_markSort a_markKind a_markClass a_markValue v_sort v_kindAt v_value a_index v_reached v_looked) H := hP
  have hD : va_D A (mw cs q (0 : Int32) a_tape v_taped v_size v_to v_kind v_from v_letters v_letterMany v_digits v_isBeyond v_suffix v_steps v_fault v_hasProgram a_text a_act a_guess a_take a_begin a_finish a_to1 a_one a_two a_what a_ats a_atVar a_atNumber a_atomSort a_atomKind a_atomValue v_wrong v_wrongAt v_variable v_number v_numberKind v_takes a_out v_outed a_varSort a_varKind a_varValue a_creature v_creatures a_arrayClass a_arrayFrom a_arrayLong v_arrays v_cells a_cellSort a_cellKind a_cellValue a_asideSort a_asideKind a_asideValue a_outcome v_marks v_came v_guessed v_right v_taken a_markSort a_markKind a_markClass a_markValue v_sort v_kindAt v_value a_index v_reached v_looked) := hD
  refine lv_aload_n hx hb dX10_named_5 rfl (lv_at hl 0 rfl) ?_
  refine lv_aload_n hx hb dX10_named_6 rfl (lv_at hl 0 rfl) ?_
  refine va_get (D := D) (ci := 9) (v := .int v_taped) (C := RX10) (T := TX10) (N := 71) hx hb hts hin hown hK hP 0 rfl rfl 2 (by decide) k_7_10 (fun _ h9 => h9) rfl dX10_named_7 ?_
  refine va_put (D := D) (ci := 9) (v := .int v_taped) (ty := .int) (C := RX10) (T := TX10) (N := 71) hx hb hts hin tyX10 tyX10_ok nmX10 hown hK hP hD hS 0 rfl rfl 3 (by decide) k_22_11 (fun _ h9 => h9) rfl (by decide +kernel) rfl rfl (Nat.le_of_ble_eq_true rfl) dX10_named_10 (fun H locs hP hD hS => ?_)
  have hP : va_P D vwCl (mw cs q (0 : Int32) a_tape v_taped v_taped v_to v_kind v_from v_letters v_letterMany v_digits v_isBeyond v_suffix v_steps v_fault v_hasProgram a_text a_act a_guess a_take a_begin a_finish a_to1 a_one a_two a_what a_ats a_atVar a_atNumber a_atomSort a_atomKind a_atomValue v_wrong v_wrongAt v_variable v_number v_numberKind v_takes a_out v_outed a_varSort a_varKind a_varValue a_creature v_creatures a_arrayClass a_arrayFrom a_arrayLong v_arrays v_cells a_cellSort a_cellKind a_cellValue a_asideSort a_asideKind a_asideValue a_outcome v_marks v_came v_guessed v_right v_taken a_markSort a_markKind a_markClass a_markValue v_sort v_kindAt v_value a_index v_reached v_looked) H := hP
  have hD : va_D A (mw cs q (0 : Int32) a_tape v_taped v_taped v_to v_kind v_from v_letters v_letterMany v_digits v_isBeyond v_suffix v_steps v_fault v_hasProgram a_text a_act a_guess a_take a_begin a_finish a_to1 a_one a_two a_what a_ats a_atVar a_atNumber a_atomSort a_atomKind a_atomValue v_wrong v_wrongAt v_variable v_number v_numberKind v_takes a_out v_outed a_varSort a_varKind a_varValue a_creature v_creatures a_arrayClass a_arrayFrom a_arrayLong v_arrays v_cells a_cellSort a_cellKind a_cellValue a_asideSort a_asideKind a_asideValue a_outcome v_marks v_came v_guessed v_right v_taken a_markSort a_markKind a_markClass a_markValue v_sort v_kindAt v_value a_index v_reached v_looked) := hD
  refine lv_aload_n hx hb dX10_named_13 rfl (lv_at hl 0 rfl) ?_
  refine lv_iconst (v := 0) hx hb dX10_named_14 (by decide) ?_
  refine va_put (D := D) (ci := 9) (v := .int 0) (ty := .int) (C := RX10) (T := TX10) (N := 71) hx hb hts hin tyX10 tyX10_ok nmX10 hown hK hP hD hS 0 rfl rfl 2 (by decide) k_7_10 (fun _ h9 => h9) rfl (by decide +kernel) rfl rfl (Nat.le_of_ble_eq_true rfl) dX10_named_15 (fun H locs hP hD hS => ?_)
  have hP : va_P D vwCl (mw cs q (0 : Int32) a_tape (0 : Int32) v_taped v_to v_kind v_from v_letters v_letterMany v_digits v_isBeyond v_suffix v_steps v_fault v_hasProgram a_text a_act a_guess a_take a_begin a_finish a_to1 a_one a_two a_what a_ats a_atVar a_atNumber a_atomSort a_atomKind a_atomValue v_wrong v_wrongAt v_variable v_number v_numberKind v_takes a_out v_outed a_varSort a_varKind a_varValue a_creature v_creatures a_arrayClass a_arrayFrom a_arrayLong v_arrays v_cells a_cellSort a_cellKind a_cellValue a_asideSort a_asideKind a_asideValue a_outcome v_marks v_came v_guessed v_right v_taken a_markSort a_markKind a_markClass a_markValue v_sort v_kindAt v_value a_index v_reached v_looked) H := hP
  have hD : va_D A (mw cs q (0 : Int32) a_tape (0 : Int32) v_taped v_to v_kind v_from v_letters v_letterMany v_digits v_isBeyond v_suffix v_steps v_fault v_hasProgram a_text a_act a_guess a_take a_begin a_finish a_to1 a_one a_two a_what a_ats a_atVar a_atNumber a_atomSort a_atomKind a_atomValue v_wrong v_wrongAt v_variable v_number v_numberKind v_takes a_out v_outed a_varSort a_varKind a_varValue a_creature v_creatures a_arrayClass a_arrayFrom a_arrayLong v_arrays v_cells a_cellSort a_cellKind a_cellValue a_asideSort a_asideKind a_asideValue a_outcome v_marks v_came v_guessed v_right v_taken a_markSort a_markKind a_markClass a_markValue v_sort v_kindAt v_value a_index v_reached v_looked) := hD
  refine lv_aload_n hx hb dX10_named_18 rfl (lv_at hl 0 rfl) ?_
  refine lv_iconst (v := 0) hx hb dX10_named_19 (by decide) ?_
  refine va_put (D := D) (ci := 9) (v := .int 0) (ty := .int) (C := RX10) (T := TX10) (N := 71) hx hb hts hin tyX10 tyX10_ok nmX10 hown hK hP hD hS 0 rfl rfl 4 (by decide) k_22_12 (fun _ h9 => h9) rfl (by decide +kernel) rfl rfl (Nat.le_of_ble_eq_true rfl) dX10_named_20 (fun H locs hP hD hS => ?_)
  have hP : va_P D vwCl (mw cs q (0 : Int32) a_tape (0 : Int32) v_taped (0 : Int32) v_kind v_from v_letters v_letterMany v_digits v_isBeyond v_suffix v_steps v_fault v_hasProgram a_text a_act a_guess a_take a_begin a_finish a_to1 a_one a_two a_what a_ats a_atVar a_atNumber a_atomSort a_atomKind a_atomValue v_wrong v_wrongAt v_variable v_number v_numberKind v_takes a_out v_outed a_varSort a_varKind a_varValue a_creature v_creatures a_arrayClass a_arrayFrom a_arrayLong v_arrays v_cells a_cellSort a_cellKind a_cellValue a_asideSort a_asideKind a_asideValue a_outcome v_marks v_came v_guessed v_right v_taken a_markSort a_markKind a_markClass a_markValue v_sort v_kindAt v_value a_index v_reached v_looked) H := hP
  have hD : va_D A (mw cs q (0 : Int32) a_tape (0 : Int32) v_taped (0 : Int32) v_kind v_from v_letters v_letterMany v_digits v_isBeyond v_suffix v_steps v_fault v_hasProgram a_text a_act a_guess a_take a_begin a_finish a_to1 a_one a_two a_what a_ats a_atVar a_atNumber a_atomSort a_atomKind a_atomValue v_wrong v_wrongAt v_variable v_number v_numberKind v_takes a_out v_outed a_varSort a_varKind a_varValue a_creature v_creatures a_arrayClass a_arrayFrom a_arrayLong v_arrays v_cells a_cellSort a_cellKind a_cellValue a_asideSort a_asideKind a_asideValue a_outcome v_marks v_came v_guessed v_right v_taken a_markSort a_markKind a_markClass a_markValue v_sort v_kindAt v_value a_index v_reached v_looked) := hD
  refine lv_aload_n hx hb dX10_named_23 rfl (lv_at hl 0 rfl) ?_
  refine call_v (As := []) (rest := []) ⟨hx, hb, hml, hown, hts⟩ (tX10_goB (l := l)  (by exact ⟨⟨by omega, by omega⟩, ⟨by decide, by omega⟩, by omega⟩)) (cwV 0 hts (gV (wr22 _ (List.mem_of_getElem? (i := 20) rfl)) (wr22 _ (List.mem_of_getElem? (i := 21) rfl)) (wr22 _ (List.mem_of_getElem? (i := 22) rfl)) (wr1 _ (List.mem_of_getElem? (i := 5) rfl)) (wr22 _ (List.mem_of_getElem? (i := 23) rfl))) rfl rfl rfl (by decide +kernel) ⟨Nat.le_of_ble_eq_true rfl, Nat.le_of_ble_eq_true rfl⟩) (va_recv hK hP (ci := 9) (q0 := 0) rfl rfl) hK hP hD hE hS hA rfl hl.1 rfl (Nat.le_of_ble_eq_true rfl) dX10_named_24 ⟨Nat.le_of_ble_eq_true rfl, Nat.le_of_ble_eq_true rfl⟩ (fun w9 H locs hw24 hP hD hS => ?_)
  obtain ⟨v_to_24, v_kind_24, v_from_24, v_letters_24, v_letterMany_24, v_digits_24, v_isBeyond_24, v_suffix_24, rfl, hw24_0, hw24_1, hw24_2⟩ := hw24
  have b_v_to_24 := iB v_to_24
  have b_v_kind_24 := iB v_kind_24
  have b_v_from_24 := iB v_from_24
  have b_v_letters_24 := jB v_letters_24
  have b_v_letterMany_24 := iB v_letterMany_24
  have b_v_digits_24 := jB v_digits_24
  have b_v_isBeyond_24 := iB v_isBeyond_24
  have b_v_suffix_24 := iB v_suffix_24
  refine lv_sipush (v := 201) hx hb dX10_named_27 (by decide) ?_
  refine lv_istore_n (lv' := [(1, .int 201), (0, .ref (q 0))]) hx hb dX10_named_30 rfl hl (by decide) rfl (fun ls hl => ?_)
  refine lv_aload_n hx hb dX10_named_31 rfl (lv_at hl 1 rfl) ?_
  refine lv_iload_n hx hb dX10_named_32 rfl (lv_at hl 0 rfl) ?_
  refine call_i (As := [.int 201]) (rest := []) ⟨hx, hb, hml, hown, hts⟩ (tX10_readClass (l := l) (201 : Int32) (by first | assumption | omega | (intros; omega) | decide) (by first | assumption | omega | (intros; omega) | decide) (by first | assumption | omega | (intros; omega) | decide)) (cwV 1 hts (gV (wr30 _ (List.mem_of_getElem? (i := 3) rfl)) (wr30 _ (List.mem_of_getElem? (i := 4) rfl)) (wr30 _ (List.mem_of_getElem? (i := 5) rfl)) (wr1 _ (List.mem_of_getElem? (i := 5) rfl)) (wr30 _ (List.mem_of_getElem? (i := 6) rfl))) rfl rfl rfl (by decide +kernel) ⟨Nat.le_of_ble_eq_true rfl, Nat.le_of_ble_eq_true rfl⟩) (va_recv hK hP (ci := 9) (q0 := 0) rfl rfl) hK hP hD hE hS hA rfl hl.1 rfl (Nat.le_of_ble_eq_true rfl) dX10_named_33 ⟨Nat.le_of_ble_eq_true rfl, Nat.le_of_ble_eq_true rfl⟩ (fun r33 w9 H locs hw33 hP hD hS => ?_)
  obtain ⟨v_to_33, v_kind_33, v_from_33, v_letters_33, v_letterMany_33, v_digits_33, v_isBeyond_33, v_suffix_33, a_what_33, v_wrong_33, v_wrongAt_33, rfl, hw33_0, hw33_1, hw33_2, hw33_3, hw33_4⟩ := hw33
  have b_v_to_33 := iB v_to_33
  have b_v_kind_33 := iB v_kind_33
  have b_v_from_33 := iB v_from_33
  have b_v_letters_33 := jB v_letters_33
  have b_v_letterMany_33 := iB v_letterMany_33
  have b_v_digits_33 := jB v_digits_33
  have b_v_isBeyond_33 := iB v_isBeyond_33
  have b_v_suffix_33 := iB v_suffix_33
  have b_v_wrong_33 := iB v_wrong_33
  have b_v_wrongAt_33 := iB v_wrongAt_33
  have b_r33 := iB r33
  refine m_if_eq (X := r33.toInt) (tgt := 55) hx hb dX10_named_36 (by decide) rfl (fun c36 => ?_) (fun c36 => ?_)
  · skip
    refine lv_iconst (v := (-1)) hx hb dX10_named_55 (by decide) ?_
    have hz := hw33_0.1.2.2
    subst hAe
    rw [hQ]
    exact W.iret (v := (-1)) hx hb hr (fun t ht hW => ⟨⟨(-1), _, rfl, ⟨(0 : Int32), (0 : Int32), v_taped, v_to_33, v_kind_33, v_from_33, v_letters_33, v_letterMany_33, v_digits_33, v_isBeyond_33, v_suffix_33, a_what_33, v_wrong_33, v_wrongAt_33, rfl, by first | assumption | omega | (intros; omega) | decide, by first | assumption | omega | (intros; omega) | decide⟩, by rw [ht]; exact hP, va_K.moved hW.alike hK, hD⟩, hS.F ht⟩) hS.2.2 dX10_named_56
  · skip
    refine lv_aload_n hx hb dX10_named_39 rfl (lv_at hl 1 rfl) ?_
    refine va_get (D := D) (ci := 9) (v := .int v_kind_33) (C := RX10) (T := TX10) (N := 71) hx hb hts hin hown hK hP 0 rfl rfl 5 (by decide) k_22_15 (fun _ h9 => h9) rfl dX10_named_40 ?_
    refine m_if_ne (X := v_kind_33.toInt) (tgt := 55) hx hb dX10_named_43 (by decide) rfl (fun c43 => ?_) (fun c43 => ?_)
    · skip
      refine lv_iconst (v := (-1)) hx hb dX10_named_55 (by decide) ?_
      have hz := hw33_0.1.2.2
      subst hAe
      rw [hQ]
      exact W.iret (v := (-1)) hx hb hr (fun t ht hW => ⟨⟨(-1), _, rfl, ⟨(0 : Int32), (0 : Int32), v_taped, v_to_33, v_kind_33, v_from_33, v_letters_33, v_letterMany_33, v_digits_33, v_isBeyond_33, v_suffix_33, a_what_33, v_wrong_33, v_wrongAt_33, rfl, by first | assumption | omega | (intros; omega) | decide, by first | assumption | omega | (intros; omega) | decide⟩, by rw [ht]; exact hP, va_K.moved hW.alike hK, hD⟩, hS.F ht⟩) hS.2.2 dX10_named_56
    · skip
      refine lv_aload_n hx hb dX10_named_46 rfl (lv_at hl 1 rfl) ?_
      refine va_get (D := D) (ci := 9) (v := .ref (q 11)) (C := RX10) (T := TX10) (N := 71) hx hb hts hin hown hK hP 0 rfl rfl 24 (by decide) k_5_17 (fun _ h9 => h9) rfl dX10_named_47 ?_
      refine lv_iload_n hx hb dX10_named_50 rfl (lv_at hl 0 rfl) ?_
      refine m_iald hx hb hK hP 11 0 rfl rfl (ix (by decide) (by decide)) dX10_named_51 (fun x51 e_x51 => ?_)
      have b_x51 := iB x51
      refine lv_goto (tgt := 56) hx hb dX10_named_52 (by decide) ?_
      have hz := hw33_0.1.2.2
      subst hAe
      rw [hQ]
      exact W.iret (v := x51) hx hb hr (fun t ht hW => ⟨⟨x51, _, rfl, ⟨(0 : Int32), (0 : Int32), v_taped, v_to_33, v_kind_33, v_from_33, v_letters_33, v_letterMany_33, v_digits_33, v_isBeyond_33, v_suffix_33, a_what_33, v_wrong_33, v_wrongAt_33, rfl, by first | assumption | omega | (intros; omega) | decide, by first | assumption | omega | (intros; omega) | decide⟩, by rw [ht]; exact hP, va_K.moved hW.alike hK, hD⟩, hS.F ht⟩) hS.2.2 dX10_named_56
