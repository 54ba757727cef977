def rmX10_readAtom : Room := { frames := 140, cells := 0, slots := 0, locals := 2800 }
set_option maxHeartbeats 4000000 in
set_option maxRecDepth 100000 in
theorem tX10_readAtom {l : Launch} {D : va_G} {K : Nat → Nat → Nat} {cs : Nat → ClassId} {q : Nat → Nat} {v_thrown v_taped v_size v_to v_kind v_from v_letterMany v_isBeyond v_suffix v_steps v_fault v_hasProgram v_wrong v_wrongAt v_variable v_numberKind v_takes v_outed v_creatures v_arrays v_cells v_marks v_came v_guessed v_right v_taken v_sort v_kindAt v_reached v_looked : Int32} {a_tape a_text a_act a_guess a_take a_begin a_finish a_to1 a_one a_two a_what a_ats a_atVar a_atNumber a_atomSort a_atomKind a_out a_varSort a_varKind a_creature a_arrayClass a_arrayFrom a_arrayLong a_cellSort a_cellKind a_asideSort a_asideKind a_outcome a_markSort a_markKind a_markClass a_index : Nat → Int32} {v_letters v_digits v_number v_value : Int64} {a_atomValue a_varValue a_cellValue a_asideValue a_markValue : Nat → Int64} (s9 : Int32) (p_0 : LX a_tape v_size v_to v_from v_kind v_letters v_letterMany v_isBeyond) (p_1 : 0 ≤ v_variable.toInt ∧ v_variable.toInt ≤ 25) (p_2 : NumOK v_numberKind v_number) (p_3 : ATM a_atomSort a_atomKind a_atomValue) (p_4 : 0 ≤ s9.toInt) (p_5 : s9.toInt ≤ 201) : CtI l yX10_readAtom (wG yX10_readAtom cX10_readAtom 3 (some .boolean)) rmX10_readAtom D (mwT cs) K [.ref (q 0), .int s9] (mw cs q v_thrown a_tape v_taped v_size v_to v_kind v_from v_letters v_letterMany v_digits v_isBeyond v_suffix v_steps v_fault v_hasProgram a_text a_act a_guess a_take a_begin a_finish a_to1 a_one a_two a_what a_ats a_atVar a_atNumber a_atomSort a_atomKind a_atomValue v_wrong v_wrongAt v_variable v_number v_numberKind v_takes a_out v_outed a_varSort a_varKind a_varValue a_creature v_creatures a_arrayClass a_arrayFrom a_arrayLong v_arrays v_cells a_cellSort a_cellKind a_cellValue a_asideSort a_asideKind a_asideValue a_outcome v_marks v_came v_guessed v_right v_taken a_markSort a_markKind a_markClass a_markValue v_sort v_kindAt v_value a_index v_reached v_looked) (fun r w1 => ∃ (v_to' : Int32) (v_kind' : Int32) (v_from' : Int32) (v_letters' : Int64) (v_letterMany' : Int32) (v_digits' : Int64) (v_isBeyond' : Int32) (v_suffix' : Int32) (a_atomSort' : Nat → Int32) (a_atomKind' : Nat → Int32) (a_atomValue' : Nat → Int64) (v_wrong' : Int32) (v_wrongAt' : Int32) (v_variable' : Int32) (v_number' : Int64) (v_numberKind' : Int32), w1 = (mw cs q v_thrown a_tape v_taped v_size v_to' v_kind' v_from' v_letters' v_letterMany' v_digits' v_isBeyond' v_suffix' v_steps v_fault v_hasProgram a_text a_act a_guess a_take a_begin a_finish a_to1 a_one a_two a_what a_ats a_atVar a_atNumber a_atomSort' a_atomKind' a_atomValue' v_wrong' v_wrongAt' v_variable' v_number' v_numberKind' v_takes a_out v_outed a_varSort a_varKind a_varValue a_creature v_creatures a_arrayClass a_arrayFrom a_arrayLong v_arrays v_cells a_cellSort a_cellKind a_cellValue a_asideSort a_asideKind a_asideValue a_outcome v_marks v_came v_guessed v_right v_taken a_markSort a_markKind a_markClass a_markValue v_sort v_kindAt v_value a_index v_reached v_looked) ∧ (LX a_tape v_size v_to' v_from' v_kind' v_letters' v_letterMany' v_isBeyond') ∧ (v_to.toInt ≤ v_to'.toInt) ∧ (ph a_tape v_to' ≤ ph a_tape v_to + 2) ∧ (0 ≤ v_variable'.toInt ∧ v_variable'.toInt ≤ 25) ∧ (NumOK v_numberKind' v_number') ∧ (ATM a_atomSort' a_atomKind' a_atomValue') ∧ (r.toInt = 0 ∨ r.toInt = 1)) 0 0 := by
  intro sz
  refine Met.ofW (cc := cX10_readAtom) (maxL := 3) (ret := (some .boolean)) (by decide) rfl ?_
  intro p e s m args below meth c s₁ B hml hv
  obtain ⟨rfl, hsz, hP, hK, hD0, hE⟩ := hv
  have hx := B.exec
  have hb := B.bytes
  have hr := B.returns
  have hts := atoms_spec (ws := (wG yX10_readAtom cX10_readAtom 3 (some .boolean))) B.pre
  have hown : s.vm.findClass RX10 = some m.cls := findClass_of_methodNamed B.named
  have hlocks := B.notSynchronized
  subst hsz
  have hD := hD0.self (sz := s.heap.size)
  obtain ⟨A, hAe⟩ : ∃ A : Nat → Prop, A = va_A (mw cs q v_thrown a_tape v_taped v_size v_to v_kind v_from v_letters v_letterMany v_digits v_isBeyond v_suffix v_steps v_fault v_hasProgram a_text a_act a_guess a_take a_begin a_finish a_to1 a_one a_two a_what a_ats a_atVar a_atNumber a_atomSort a_atomKind a_atomValue v_wrong v_wrongAt v_variable v_number v_numberKind v_takes a_out v_outed a_varSort a_varKind a_varValue a_creature v_creatures a_arrayClass a_arrayFrom a_arrayLong v_arrays v_cells a_cellSort a_cellKind a_cellValue a_asideSort a_asideKind a_asideValue a_outcome v_marks v_came v_guessed v_right v_taken a_markSort a_markKind a_markClass a_markValue v_sort v_kindAt v_value a_index v_reached v_looked) s.heap.size := ⟨_, rfl⟩
  rw [← hAe] at hD hE
  have hA : ∀ q : Nat, s.heap.size ≤ q → A q := fun q h => by rw [hAe]; exact Or.inr h
  have hS : va_S A s.heap s.heap [] := va_S.rf
  have hl := lv_entry ([.ref (q 0), .int s9]) (n := 3) (Nat.le_of_ble_eq_true rfl)
  rw [lg_entry_eq]
  generalize (lg_sl ([.ref (q 0), .int s9]) ++ List.replicate (3 - (lg_sl ([.ref (q 0), .int s9])).length) Slot.unset).toArray = ls at hl ⊢
  have hl : lv_has ls 3 [(0, .ref (q 0)), (1, .int s9)] := hl
  refine wq (fun Q hQ => ?_)
  have hin : ∀ w ∈ wsX100, w ∈ (wG yX10_readAtom cX10_readAtom 3 (some .boolean)) := fun w h => List.mem_cons_of_mem _ (inlX10 w h)
  have kc0 : (0 : Int32).toInt = 0 := by decide
  have kc1 : (1 : Int32).toInt = 1 := by decide
  have kc2 : (2 : Int32).toInt = 2 := by decide
  have kc3 : (3 : Int32).toInt = 3 := by decide
  have kc4 : (4 : Int32).toInt = 4 := by decide
  have kc5 : (7 : Int32).toInt = 7 := by decide
  have kc6 : (15 : Int32).toInt = 15 := by decide
  have kc7 : (45 : Int32).toInt = 45 := by decide
  have kc8 : (0 : Int64).toInt = 0 := by decide
  have kc9 : (1 : Int64).toInt = 1 := by decide
  have k_22_15 := hts (.fieldLink RX10 273 "ArrayTrainerModel" "kind" "I") (List.mem_cons_of_mem _ (wr22 _ (List.mem_of_getElem? (i := 15) rfl)))
  have k_5_21 := hts (.fieldLink RX10 52 "ArrayTrainerModel" "atomSort" "[I") (List.mem_cons_of_mem _ (wr5 _ (List.mem_of_getElem? (i := 21) rfl)))
  have k_5_22 := hts (.fieldLink RX10 55 "ArrayTrainerModel" "atomKind" "[I") (List.mem_cons_of_mem _ (wr5 _ (List.mem_of_getElem? (i := 22) rfl)))
  have k_27_11 := hts (.fieldLink RX10 356 "ArrayTrainerModel" "numberKind" "I") (List.mem_cons_of_mem _ (wr27 _ (List.mem_of_getElem? (i := 11) rfl)))
  have k_5_23 := hts (.fieldLink RX10 58 "ArrayTrainerModel" "atomValue" "[J") (List.mem_cons_of_mem _ (wr5 _ (List.mem_of_getElem? (i := 23) rfl)))
  have k_26_23 := hts (.fieldLink RX10 353 "ArrayTrainerModel" "number" "J") (List.mem_cons_of_mem _ (wr26 _ (List.mem_of_getElem? (i := 23) rfl)))
  have k_23_1 := hts (.fieldLink RX10 289 "ArrayTrainerModel" "letters" "J") (List.mem_cons_of_mem _ (wr23 _ (List.mem_of_getElem? (i := 1) rfl)))
  have k_25_22 := hts (.fieldLink RX10 332 "ArrayTrainerModel" "variable" "I") (List.mem_cons_of_mem _ (wr25 _ (List.mem_of_getElem? (i := 22) rfl)))
  obtain ⟨H, hH⟩ : ∃ H : Heap, H = s.heap := ⟨_, rfl⟩
  obtain ⟨locs, hlc⟩ : ∃ L : List Loc, L = [] := ⟨_, rfl⟩
  have hP : va_P D vwCl (mw cs q v_thrown a_tape v_taped v_size v_to v_kind v_from v_letters v_letterMany v_digits v_isBeyond v_suffix v_steps v_fault v_hasProgram a_text a_act a_guess a_take a_begin a_finish a_to1 a_one a_two a_what a_ats a_atVar a_atNumber a_atomSort a_atomKind a_atomValue v_wrong v_wrongAt v_variable v_number v_numberKind v_takes a_out v_outed a_varSort a_varKind a_varValue a_creature v_creatures a_arrayClass a_arrayFrom a_arrayLong v_arrays v_cells a_cellSort a_cellKind a_cellValue a_asideSort a_asideKind a_asideValue a_outcome v_marks v_came v_guessed v_right v_taken a_markSort a_markKind a_markClass a_markValue v_sort v_kindAt v_value a_index v_reached v_looked) H := by rw [hH]; exact hP
  have hS : va_S A s.heap H locs := by rw [hH, hlc]; exact hS
  refine wHL hH hlc ?_
  have b_s9 := iB s9
  refine lv_aload_n hx hb dX10_readAtom_0 rfl (lv_at hl 0 rfl) ?_
  refine call_i (As := []) (rest := []) ⟨hx, hb, hml, hown, hts⟩ (tX10_isVar (l := l) ) (cwV 0 hts (gV (wr24 _ (List.mem_of_getElem? (i := 17) rfl)) (wr24 _ (List.mem_of_getElem? (i := 18) rfl)) (wr24 _ (List.mem_of_getElem? (i := 19) rfl)) (wr1 _ (List.mem_of_getElem? (i := 5) rfl)) (wr24 _ (List.mem_of_getElem? (i := 20) rfl))) rfl rfl rfl (by decide +kernel) ⟨Nat.le_of_ble_eq_true rfl, Nat.le_of_ble_eq_true rfl⟩) (va_recv hK hP (ci := 9) (q0 := 0) rfl rfl) hK hP hD hE hS hA rfl hl.1 rfl (Nat.le_of_ble_eq_true rfl) dX10_readAtom_1 ⟨Nat.le_of_ble_eq_true rfl, Nat.le_of_ble_eq_true rfl⟩ (fun r1 w9 H locs hw1 hP hD hS => ?_)
  obtain ⟨rfl, hw1_0⟩ := hw1
  have b_r1 := iB r1
  refine m_if_eq (X := r1.toInt) (tgt := 32) hx hb dX10_readAtom_4 (by decide) rfl (fun c4 => ?_) (fun c4 => ?_)
  · skip
    refine lv_aload_n hx hb dX10_readAtom_32 rfl (lv_at hl 0 rfl) ?_
    refine va_get (D := D) (ci := 9) (v := .int v_kind) (C := RX10) (T := TX10) (N := 71) hx hb hts hin hown hK hP 0 rfl rfl 5 (by decide) k_22_15 (fun _ h9 => h9) rfl dX10_readAtom_33 ?_
    refine lv_iconst (v := 3) hx hb dX10_readAtom_36 (by decide) ?_
    have J49 : ∀ (H : Heap) (locs : List Loc) (ls : Array Slot), va_P D vwCl (mw cs q v_thrown a_tape v_taped v_size v_to v_kind v_from v_letters v_letterMany v_digits v_isBeyond v_suffix v_steps v_fault v_hasProgram a_text a_act a_guess a_take a_begin a_finish a_to1 a_one a_two a_what a_ats a_atVar a_atNumber a_atomSort a_atomKind a_atomValue v_wrong v_wrongAt v_variable v_number v_numberKind v_takes a_out v_outed a_varSort a_varKind a_varValue a_creature v_creatures a_arrayClass a_arrayFrom a_arrayLong v_arrays v_cells a_cellSort a_cellKind a_cellValue a_asideSort a_asideKind a_asideValue a_outcome v_marks v_came v_guessed v_right v_taken a_markSort a_markKind a_markClass a_markValue v_sort v_kindAt v_value a_index v_reached v_looked) H → va_D A (mw cs q v_thrown a_tape v_taped v_size v_to v_kind v_from v_letters v_letterMany v_digits v_isBeyond v_suffix v_steps v_fault v_hasProgram a_text a_act a_guess a_take a_begin a_finish a_to1 a_one a_two a_what a_ats a_atVar a_atNumber a_atomSort a_atomKind a_atomValue v_wrong v_wrongAt v_variable v_number v_numberKind v_takes a_out v_outed a_varSort a_varKind a_varValue a_creature v_creatures a_arrayClass a_arrayFrom a_arrayLong v_arrays v_cells a_cellSort a_cellKind a_cellValue a_asideSort a_asideKind a_asideValue a_outcome v_marks v_came v_guessed v_right v_taken a_markSort a_markKind a_markClass a_markValue v_sort v_kindAt v_value a_index v_reached v_looked) → va_S A s.heap H locs → lv_has ls 3 [(0, .ref (q 0)), (1, .int s9)] → W p l e (headSpec (wG yX10_readAtom cX10_readAtom 3 (some .boolean)) rmX10_readAtom).room s m ([.ref (q 0), .int s9] : List Value).toArray below meth c H locs 0 0 Q (F0 m 49 ls []) := by
      intro H locs ls hP hD hS hl
      refine lv_aload_n hx hb dX10_readAtom_49 rfl (lv_at hl 0 rfl) ?_
      refine lv_iconst (v := 0) hx hb dX10_readAtom_50 (by decide) ?_
      refine call_i (As := [.int 0]) (rest := []) ⟨hx, hb, hml, hown, hts⟩ (tX10_readNumber_ (l := l) (0 : Int32) (by first | assumption | omega | (intros; omega) | decide) (by first | assumption | omega | (intros; omega) | decide)) (cwV 1 hts (gV (wr27 _ (List.mem_of_getElem? (i := 0) rfl)) (wr27 _ (List.mem_of_getElem? (i := 1) rfl)) (wr27 _ (List.mem_of_getElem? (i := 2) rfl)) (wr1 _ (List.mem_of_getElem? (i := 5) rfl)) (wr27 _ (List.mem_of_getElem? (i := 3) rfl))) rfl rfl rfl (by decide +kernel) ⟨Nat.le_of_ble_eq_true rfl, Nat.le_of_ble_eq_true rfl⟩) (va_recv hK hP (ci := 9) (q0 := 0) rfl rfl) hK hP hD hE hS hA rfl hl.1 rfl (Nat.le_of_ble_eq_true rfl) dX10_readAtom_51 ⟨Nat.le_of_ble_eq_true rfl, Nat.le_of_ble_eq_true rfl⟩ (fun r51 w9 H locs hw51 hP hD hS => ?_)
      obtain ⟨v_to_51, v_kind_51, v_from_51, v_letters_51, v_letterMany_51, v_digits_51, v_isBeyond_51, v_suffix_51, v_wrong_51, v_wrongAt_51, v_number_51, v_numberKind_51, rfl, hw51_0, hw51_1, hw51_2, hw51_3, hw51_4⟩ := hw51
      have b_v_to_51 := iB v_to_51
      have b_v_kind_51 := iB v_kind_51
      have b_v_from_51 := iB v_from_51
      have b_v_letters_51 := jB v_letters_51
      have b_v_letterMany_51 := iB v_letterMany_51
      have b_v_digits_51 := jB v_digits_51
      have b_v_isBeyond_51 := iB v_isBeyond_51
      have b_v_suffix_51 := iB v_suffix_51
      have b_v_wrong_51 := iB v_wrong_51
      have b_v_wrongAt_51 := iB v_wrongAt_51
      have b_v_number_51 := jB v_number_51
      have b_v_numberKind_51 := iB v_numberKind_51
      have b_r51 := iB r51
      refine m_if_ne (X := r51.toInt) (tgt := 59) hx hb dX10_readAtom_54 (by decide) rfl (fun c54 => ?_) (fun c54 => ?_)
      · skip
        refine lv_aload_n hx hb dX10_readAtom_59 rfl (lv_at hl 0 rfl) ?_
        refine va_get (D := D) (ci := 9) (v := .ref (q 15)) (C := RX10) (T := TX10) (N := 71) hx hb hts hin hown hK hP 0 rfl rfl 28 (by decide) k_5_21 (fun _ h9 => h9) rfl dX10_readAtom_60 ?_
        refine lv_iload_n hx hb dX10_readAtom_63 rfl (lv_at hl 1 rfl) ?_
        refine lv_iconst (v := 2) hx hb dX10_readAtom_64 (by decide) ?_
        refine va_iast hx hb hK hP hD hS 15 0 rfl rfl (ix (by omega) (by omega)) dX10_readAtom_65 (fun H locs hP hD hS => ?_)
        obtain ⟨a_atomSort_65, e_a_atomSort_65⟩ : ∃ g, g = upd a_atomSort s9.toNatClampNeg (2 : Int32) := ⟨_, rfl⟩
        have hP : va_P D vwCl (mw cs q v_thrown a_tape v_taped v_size v_to_51 v_kind_51 v_from_51 v_letters_51 v_letterMany_51 v_digits_51 v_isBeyond_51 v_suffix_51 v_steps v_fault v_hasProgram a_text a_act a_guess a_take a_begin a_finish a_to1 a_one a_two a_what a_ats a_atVar a_atNumber a_atomSort_65 a_atomKind a_atomValue v_wrong_51 v_wrongAt_51 v_variable v_number_51 v_numberKind_51 v_takes a_out v_outed a_varSort a_varKind a_varValue a_creature v_creatures a_arrayClass a_arrayFrom a_arrayLong v_arrays v_cells a_cellSort a_cellKind a_cellValue a_asideSort a_asideKind a_asideValue a_outcome v_marks v_came v_guessed v_right v_taken a_markSort a_markKind a_markClass a_markValue v_sort v_kindAt v_value a_index v_reached v_looked) H := by rw [e_a_atomSort_65]; exact hP
        have hD : va_D A (mw cs q v_thrown a_tape v_taped v_size v_to_51 v_kind_51 v_from_51 v_letters_51 v_letterMany_51 v_digits_51 v_isBeyond_51 v_suffix_51 v_steps v_fault v_hasProgram a_text a_act a_guess a_take a_begin a_finish a_to1 a_one a_two a_what a_ats a_atVar a_atNumber a_atomSort_65 a_atomKind a_atomValue v_wrong_51 v_wrongAt_51 v_variable v_number_51 v_numberKind_51 v_takes a_out v_outed a_varSort a_varKind a_varValue a_creature v_creatures a_arrayClass a_arrayFrom a_arrayLong v_arrays v_cells a_cellSort a_cellKind a_cellValue a_asideSort a_asideKind a_asideValue a_outcome v_marks v_came v_guessed v_right v_taken a_markSort a_markKind a_markClass a_markValue v_sort v_kindAt v_value a_index v_reached v_looked) := by rw [e_a_atomSort_65]; exact hD
        refine lv_aload_n hx hb dX10_readAtom_66 rfl (lv_at hl 0 rfl) ?_
        refine va_get (D := D) (ci := 9) (v := .ref (q 16)) (C := RX10) (T := TX10) (N := 71) hx hb hts hin hown hK hP 0 rfl rfl 29 (by decide) k_5_22 (fun _ h9 => h9) rfl dX10_readAtom_67 ?_
        refine lv_iload_n hx hb dX10_readAtom_70 rfl (lv_at hl 1 rfl) ?_
        refine lv_aload_n hx hb dX10_readAtom_71 rfl (lv_at hl 0 rfl) ?_
        refine va_get (D := D) (ci := 9) (v := .int v_numberKind_51) (C := RX10) (T := TX10) (N := 71) hx hb hts hin hown hK hP 0 rfl rfl 35 (by decide) k_27_11 (fun _ h9 => h9) rfl dX10_readAtom_72 ?_
        refine va_iast hx hb hK hP hD hS 16 0 rfl rfl (ix (by omega) (by omega)) dX10_readAtom_75 (fun H locs hP hD hS => ?_)
        obtain ⟨a_atomKind_75, e_a_atomKind_75⟩ : ∃ g, g = upd a_atomKind s9.toNatClampNeg v_numberKind_51 := ⟨_, rfl⟩
        have hP : va_P D vwCl (mw cs q v_thrown a_tape v_taped v_size v_to_51 v_kind_51 v_from_51 v_letters_51 v_letterMany_51 v_digits_51 v_isBeyond_51 v_suffix_51 v_steps v_fault v_hasProgram a_text a_act a_guess a_take a_begin a_finish a_to1 a_one a_two a_what a_ats a_atVar a_atNumber a_atomSort_65 a_atomKind_75 a_atomValue v_wrong_51 v_wrongAt_51 v_variable v_number_51 v_numberKind_51 v_takes a_out v_outed a_varSort a_varKind a_varValue a_creature v_creatures a_arrayClass a_arrayFrom a_arrayLong v_arrays v_cells a_cellSort a_cellKind a_cellValue a_asideSort a_asideKind a_asideValue a_outcome v_marks v_came v_guessed v_right v_taken a_markSort a_markKind a_markClass a_markValue v_sort v_kindAt v_value a_index v_reached v_looked) H := by rw [e_a_atomKind_75]; exact hP
        have hD : va_D A (mw cs q v_thrown a_tape v_taped v_size v_to_51 v_kind_51 v_from_51 v_letters_51 v_letterMany_51 v_digits_51 v_isBeyond_51 v_suffix_51 v_steps v_fault v_hasProgram a_text a_act a_guess a_take a_begin a_finish a_to1 a_one a_two a_what a_ats a_atVar a_atNumber a_atomSort_65 a_atomKind_75 a_atomValue v_wrong_51 v_wrongAt_51 v_variable v_number_51 v_numberKind_51 v_takes a_out v_outed a_varSort a_varKind a_varValue a_creature v_creatures a_arrayClass a_arrayFrom a_arrayLong v_arrays v_cells a_cellSort a_cellKind a_cellValue a_asideSort a_asideKind a_asideValue a_outcome v_marks v_came v_guessed v_right v_taken a_markSort a_markKind a_markClass a_markValue v_sort v_kindAt v_value a_index v_reached v_looked) := by rw [e_a_atomKind_75]; exact hD
        refine lv_aload_n hx hb dX10_readAtom_76 rfl (lv_at hl 0 rfl) ?_
        refine va_get (D := D) (ci := 9) (v := .ref (q 17)) (C := RX10) (T := TX10) (N := 71) hx hb hts hin hown hK hP 0 rfl rfl 30 (by decide) k_5_23 (fun _ h9 => h9) rfl dX10_readAtom_77 ?_
        refine lv_iload_n hx hb dX10_readAtom_80 rfl (lv_at hl 1 rfl) ?_
        refine lv_aload_n hx hb dX10_readAtom_81 rfl (lv_at hl 0 rfl) ?_
        refine va_get (D := D) (ci := 9) (v := .long v_number_51) (C := RX10) (T := TX10) (N := 71) hx hb hts hin hown hK hP 0 rfl rfl 34 (by decide) k_26_23 (fun _ h9 => h9) rfl dX10_readAtom_82 ?_
        refine va_last hx hb hK hP hD hS 17 1 rfl rfl (ix (by omega) (by omega)) dX10_readAtom_85 (fun H locs hP hD hS => ?_)
        obtain ⟨a_atomValue_85, e_a_atomValue_85⟩ : ∃ g, g = vp_updL a_atomValue s9.toNatClampNeg v_number_51 := ⟨_, rfl⟩
        have hP : va_P D vwCl (mw cs q v_thrown a_tape v_taped v_size v_to_51 v_kind_51 v_from_51 v_letters_51 v_letterMany_51 v_digits_51 v_isBeyond_51 v_suffix_51 v_steps v_fault v_hasProgram a_text a_act a_guess a_take a_begin a_finish a_to1 a_one a_two a_what a_ats a_atVar a_atNumber a_atomSort_65 a_atomKind_75 a_atomValue_85 v_wrong_51 v_wrongAt_51 v_variable v_number_51 v_numberKind_51 v_takes a_out v_outed a_varSort a_varKind a_varValue a_creature v_creatures a_arrayClass a_arrayFrom a_arrayLong v_arrays v_cells a_cellSort a_cellKind a_cellValue a_asideSort a_asideKind a_asideValue a_outcome v_marks v_came v_guessed v_right v_taken a_markSort a_markKind a_markClass a_markValue v_sort v_kindAt v_value a_index v_reached v_looked) H := by rw [e_a_atomValue_85]; exact hP
        have hD : va_D A (mw cs q v_thrown a_tape v_taped v_size v_to_51 v_kind_51 v_from_51 v_letters_51 v_letterMany_51 v_digits_51 v_isBeyond_51 v_suffix_51 v_steps v_fault v_hasProgram a_text a_act a_guess a_take a_begin a_finish a_to1 a_one a_two a_what a_ats a_atVar a_atNumber a_atomSort_65 a_atomKind_75 a_atomValue_85 v_wrong_51 v_wrongAt_51 v_variable v_number_51 v_numberKind_51 v_takes a_out v_outed a_varSort a_varKind a_varValue a_creature v_creatures a_arrayClass a_arrayFrom a_arrayLong v_arrays v_cells a_cellSort a_cellKind a_cellValue a_asideSort a_asideKind a_asideValue a_outcome v_marks v_came v_guessed v_right v_taken a_markSort a_markKind a_markClass a_markValue v_sort v_kindAt v_value a_index v_reached v_looked) := by rw [e_a_atomValue_85]; exact hD
        have ha85 : ATM a_atomSort_65 a_atomKind_75 a_atomValue_85 := ATM.num p_3 e_a_atomSort_65 e_a_atomKind_75 e_a_atomValue_85 (by decide) hw51_3
        refine lv_iconst (v := 1) hx hb dX10_readAtom_86 (by decide) ?_
        subst hAe
        rw [hQ]
        exact W.zret (v := 1) hx hb hr (by decide) (fun t ht hW => ⟨⟨1, _, rfl, ⟨v_to_51, v_kind_51, v_from_51, v_letters_51, v_letterMany_51, v_digits_51, v_isBeyond_51, v_suffix_51, a_atomSort_65, a_atomKind_75, a_atomValue_85, v_wrong_51, v_wrongAt_51, v_variable, v_number_51, v_numberKind_51, rfl, by first | assumption | omega | (intros; omega) | decide, by first | assumption | omega | (intros; omega) | decide, by first | assumption | omega | (intros; omega) | decide, by first | assumption | omega | (intros; omega) | decide, by first | assumption | omega | (intros; omega) | decide, by first | assumption | omega | (intros; omega) | decide, by first | assumption | omega | (intros; omega) | decide⟩, by rw [ht]; exact hP, va_K.moved hW.alike hK, hD⟩, hS.F ht⟩) hS.2.2 dX10_readAtom_87
      · skip
        refine lv_iconst (v := 0) hx hb dX10_readAtom_57 (by decide) ?_
        subst hAe
        rw [hQ]
        exact W.zret (v := 0) hx hb hr (by decide) (fun t ht hW => ⟨⟨0, _, rfl, ⟨v_to_51, v_kind_51, v_from_51, v_letters_51, v_letterMany_51, v_digits_51, v_isBeyond_51, v_suffix_51, a_atomSort, a_atomKind, a_atomValue, v_wrong_51, v_wrongAt_51, v_variable, v_number_51, v_numberKind_51, rfl, by first | assumption | omega | (intros; omega) | decide, by first | assumption | omega | (intros; omega) | decide, by first | assumption | omega | (intros; omega) | decide, by first | assumption | omega | (intros; omega) | decide, by first | assumption | omega | (intros; omega) | decide, by first | assumption | omega | (intros; omega) | decide, by first | assumption | omega | (intros; omega) | decide⟩, by rw [ht]; exact hP, va_K.moved hW.alike hK, hD⟩, hS.F ht⟩) hS.2.2 dX10_readAtom_58
    refine m_icmp_eq (X := v_kind.toInt) (Y := 3) (tgt := 49) hx hb dX10_readAtom_37 (by decide) rfl (by decide) (fun c37 => ?_) (fun c37 => ?_)
    · skip
      exact J49 H locs ls hP hD hS (lv_sub hl [0, 1] rfl)
    · skip
      refine lv_aload_n hx hb dX10_readAtom_40 rfl (lv_at hl 0 rfl) ?_
      refine lv_bipush (v := 45) hx hb dX10_readAtom_41 (by decide) ?_
      refine call_i (As := [.int 45]) (rest := []) ⟨hx, hb, hml, hown, hts⟩ (tX10_isSign (l := l) (45 : Int32)) (cwV 1 hts (gV (wr26 _ (List.mem_of_getElem? (i := 3) rfl)) (wr26 _ (List.mem_of_getElem? (i := 4) rfl)) (wr26 _ (List.mem_of_getElem? (i := 5) rfl)) (wr1 _ (List.mem_of_getElem? (i := 5) rfl)) (wr26 _ (List.mem_of_getElem? (i := 6) rfl))) rfl rfl rfl (by decide +kernel) ⟨Nat.le_of_ble_eq_true rfl, Nat.le_of_ble_eq_true rfl⟩) (va_recv hK hP (ci := 9) (q0 := 0) rfl rfl) hK hP hD hE hS hA rfl hl.1 rfl (Nat.le_of_ble_eq_true rfl) dX10_readAtom_43 ⟨Nat.le_of_ble_eq_true rfl, Nat.le_of_ble_eq_true rfl⟩ (fun r43 w9 H locs hw43 hP hD hS => ?_)
      obtain ⟨rfl, hw43_0⟩ := hw43
      have b_r43 := iB r43
      refine m_if_eq (X := r43.toInt) (tgt := 88) hx hb dX10_readAtom_46 (by decide) rfl (fun c46 => ?_) (fun c46 => ?_)
      · skip
        refine lv_aload_n hx hb dX10_readAtom_88 rfl (lv_at hl 0 rfl) ?_
        refine va_get (D := D) (ci := 9) (v := .int v_kind) (C := RX10) (T := TX10) (N := 71) hx hb hts hin hown hK hP 0 rfl rfl 5 (by decide) k_22_15 (fun _ h9 => h9) rfl dX10_readAtom_89 ?_
        refine lv_iconst (v := 2) hx hb dX10_readAtom_92 (by decide) ?_
        refine m_icmp_eq (X := v_kind.toInt) (Y := 2) (tgt := 102) hx hb dX10_readAtom_93 (by decide) rfl (by decide) (fun c93 => ?_) (fun c93 => ?_)
        · skip
          refine lv_aload_n hx hb dX10_readAtom_102 rfl (lv_at hl 0 rfl) ?_
          refine va_get (D := D) (ci := 9) (v := .long v_letters) (C := RX10) (T := TX10) (N := 71) hx hb hts hin hown hK hP 0 rfl rfl 7 (by decide) k_23_1 (fun _ h9 => h9) rfl dX10_readAtom_103 ?_
          refine call_iSP (As := [.long v_letters]) (rest := []) ⟨hx, hb, hml, hown, hts⟩ (tX10_kindOf (l := l) v_letters) (va_cwS 1 hts (gS (wr28 _ (List.mem_of_getElem? (i := 22) rfl)) (wr28 _ (List.mem_of_getElem? (i := 23) rfl)) (wr1 _ (List.mem_of_getElem? (i := 5) rfl)) (wr29 _ (List.mem_of_getElem? (i := 0) rfl))) rfl rfl rfl (by decide +kernel) ⟨Nat.le_of_ble_eq_true rfl, Nat.le_of_ble_eq_true rfl⟩) (hK.sub [] rfl) hP hD hE hS hA rfl hl.1 rfl (Nat.le_of_ble_eq_true rfl) dX10_readAtom_106 ⟨Nat.le_of_ble_eq_true rfl, Nat.le_of_ble_eq_true rfl⟩ (fun r106 w9 H locs hw106 hP hD hS => ?_)
          obtain ⟨rfl, hw106_0, hw106_1⟩ := hw106
          have b_r106 := iB r106
          refine lv_istore_n (lv' := [(2, .int r106), (0, .ref (q 0)), (1, .int s9)]) hx hb dX10_readAtom_109 rfl hl (by decide) rfl (fun ls hl => ?_)
          refine lv_aload_n hx hb dX10_readAtom_110 rfl (lv_at hl 1 rfl) ?_
          refine m_ldcSw hx hb hown (ld_63 hE) dX10_readAtom_111 ?_
          refine call_i (As := [.ref (K 0 63)]) (rest := []) ⟨hx, hb, hml, hown, hts⟩ (tX10_is (l := l) 63 so_63) (cwV 1 hts (gV (wr24 _ (List.mem_of_getElem? (i := 8) rfl)) (wr24 _ (List.mem_of_getElem? (i := 9) rfl)) (wr24 _ (List.mem_of_getElem? (i := 10) rfl)) (wr1 _ (List.mem_of_getElem? (i := 5) rfl)) (wr24 _ (List.mem_of_getElem? (i := 11) rfl))) rfl rfl rfl (by decide +kernel) ⟨Nat.le_of_ble_eq_true rfl, Nat.le_of_ble_eq_true rfl⟩) (va_recv hK hP (ci := 9) (q0 := 0) rfl rfl) hK hP hD hE hS hA rfl hl.1 rfl (Nat.le_of_ble_eq_true rfl) dX10_readAtom_114 ⟨Nat.le_of_ble_eq_true rfl, Nat.le_of_ble_eq_true rfl⟩ (fun r114 w9 H locs hw114 hP hD hS => ?_)
          obtain ⟨rfl, hw114_0⟩ := hw114
          have b_r114 := iB r114
          have J223 : ∀ (a_atomKind_223 : Nat → Int32) (a_atomSort_223 : Nat → Int32) (a_atomValue_223 : Nat → Int64) (H : Heap) (locs : List Loc) (ls : Array Slot), (ATM a_atomSort_223 a_atomKind_223 a_atomValue_223) → va_P D vwCl (mw cs q v_thrown a_tape v_taped v_size v_to v_kind v_from v_letters v_letterMany v_digits v_isBeyond v_suffix v_steps v_fault v_hasProgram a_text a_act a_guess a_take a_begin a_finish a_to1 a_one a_two a_what a_ats a_atVar a_atNumber a_atomSort_223 a_atomKind_223 a_atomValue_223 v_wrong v_wrongAt v_variable v_number v_numberKind v_takes a_out v_outed a_varSort a_varKind a_varValue a_creature v_creatures a_arrayClass a_arrayFrom a_arrayLong v_arrays v_cells a_cellSort a_cellKind a_cellValue a_asideSort a_asideKind a_asideValue a_outcome v_marks v_came v_guessed v_right v_taken a_markSort a_markKind a_markClass a_markValue v_sort v_kindAt v_value a_index v_reached v_looked) H → va_D A (mw cs q v_thrown a_tape v_taped v_size v_to v_kind v_from v_letters v_letterMany v_digits v_isBeyond v_suffix v_steps v_fault v_hasProgram a_text a_act a_guess a_take a_begin a_finish a_to1 a_one a_two a_what a_ats a_atVar a_atNumber a_atomSort_223 a_atomKind_223 a_atomValue_223 v_wrong v_wrongAt v_variable v_number v_numberKind v_takes a_out v_outed a_varSort a_varKind a_varValue a_creature v_creatures a_arrayClass a_arrayFrom a_arrayLong v_arrays v_cells a_cellSort a_cellKind a_cellValue a_asideSort a_asideKind a_asideValue a_outcome v_marks v_came v_guessed v_right v_taken a_markSort a_markKind a_markClass a_markValue v_sort v_kindAt v_value a_index v_reached v_looked) → va_S A s.heap H locs → lv_has ls 3 [(0, .ref (q 0))] → W p l e (headSpec (wG yX10_readAtom cX10_readAtom 3 (some .boolean)) rmX10_readAtom).room s m ([.ref (q 0), .int s9] : List Value).toArray below meth c H locs 0 0 Q (F0 m 223 ls []) := by
            intro a_atomKind_223 a_atomSort_223 a_atomValue_223 H locs ls f223_0 hP hD hS hl
            refine lv_aload_n hx hb dX10_readAtom_223 rfl (lv_at hl 0 rfl) ?_
            refine call_v (As := []) (rest := []) ⟨hx, hb, hml, hown, hts⟩ (tX10_goB (l := l)  (by first | assumption | exact LX.z (by assumption))) (cwV 0 hts (gV (wr22 _ (List.mem_of_getElem? (i := 20) rfl)) (wr22 _ (List.mem_of_getElem? (i := 21) rfl)) (wr22 _ (List.mem_of_getElem? (i := 22) rfl)) (wr1 _ (List.mem_of_getElem? (i := 5) rfl)) (wr22 _ (List.mem_of_getElem? (i := 23) rfl))) rfl rfl rfl (by decide +kernel) ⟨Nat.le_of_ble_eq_true rfl, Nat.le_of_ble_eq_true rfl⟩) (va_recv hK hP (ci := 9) (q0 := 0) rfl rfl) hK hP hD hE hS hA rfl hl.1 rfl (Nat.le_of_ble_eq_true rfl) dX10_readAtom_224 ⟨Nat.le_of_ble_eq_true rfl, Nat.le_of_ble_eq_true rfl⟩ (fun w9 H locs hw224 hP hD hS => ?_)
            obtain ⟨v_to_224, v_kind_224, v_from_224, v_letters_224, v_letterMany_224, v_digits_224, v_isBeyond_224, v_suffix_224, rfl, hw224_0, hw224_1, hw224_2⟩ := hw224
            have b_v_to_224 := iB v_to_224
            have b_v_kind_224 := iB v_kind_224
            have b_v_from_224 := iB v_from_224
            have b_v_letters_224 := jB v_letters_224
            have b_v_letterMany_224 := iB v_letterMany_224
            have b_v_digits_224 := jB v_digits_224
            have b_v_isBeyond_224 := iB v_isBeyond_224
            have b_v_suffix_224 := iB v_suffix_224
            refine lv_iconst (v := 1) hx hb dX10_readAtom_227 (by decide) ?_
            subst hAe
            rw [hQ]
            exact W.zret (v := 1) hx hb hr (by decide) (fun t ht hW => ⟨⟨1, _, rfl, ⟨v_to_224, v_kind_224, v_from_224, v_letters_224, v_letterMany_224, v_digits_224, v_isBeyond_224, v_suffix_224, a_atomSort_223, a_atomKind_223, a_atomValue_223, v_wrong, v_wrongAt, v_variable, v_number, v_numberKind, rfl, by first | assumption | omega | (intros; omega) | decide, by first | assumption | omega | (intros; omega) | decide, by first | assumption | omega | (intros; omega) | decide, by first | assumption | omega | (intros; omega) | decide, by first | assumption | omega | (intros; omega) | decide, by first | assumption | omega | (intros; omega) | decide, by first | assumption | omega | (intros; omega) | decide⟩, by rw [ht]; exact hP, va_K.moved hW.alike hK, hD⟩, hS.F ht⟩) hS.2.2 dX10_readAtom_228
          have J130 : ∀ (H : Heap) (locs : List Loc) (ls : Array Slot), va_P D vwCl (mw cs q v_thrown a_tape v_taped v_size v_to v_kind v_from v_letters v_letterMany v_digits v_isBeyond v_suffix v_steps v_fault v_hasProgram a_text a_act a_guess a_take a_begin a_finish a_to1 a_one a_two a_what a_ats a_atVar a_atNumber a_atomSort a_atomKind a_atomValue v_wrong v_wrongAt v_variable v_number v_numberKind v_takes a_out v_outed a_varSort a_varKind a_varValue a_creature v_creatures a_arrayClass a_arrayFrom a_arrayLong v_arrays v_cells a_cellSort a_cellKind a_cellValue a_asideSort a_asideKind a_asideValue a_outcome v_marks v_came v_guessed v_right v_taken a_markSort a_markKind a_markClass a_markValue v_sort v_kindAt v_value a_index v_reached v_looked) H → va_D A (mw cs q v_thrown a_tape v_taped v_size v_to v_kind v_from v_letters v_letterMany v_digits v_isBeyond v_suffix v_steps v_fault v_hasProgram a_text a_act a_guess a_take a_begin a_finish a_to1 a_one a_two a_what a_ats a_atVar a_atNumber a_atomSort a_atomKind a_atomValue v_wrong v_wrongAt v_variable v_number v_numberKind v_takes a_out v_outed a_varSort a_varKind a_varValue a_creature v_creatures a_arrayClass a_arrayFrom a_arrayLong v_arrays v_cells a_cellSort a_cellKind a_cellValue a_asideSort a_asideKind a_asideValue a_outcome v_marks v_came v_guessed v_right v_taken a_markSort a_markKind a_markClass a_markValue v_sort v_kindAt v_value a_index v_reached v_looked) → va_S A s.heap H locs → lv_has ls 3 [(0, .ref (q 0)), (1, .int s9)] → W p l e (headSpec (wG yX10_readAtom cX10_readAtom 3 (some .boolean)) rmX10_readAtom).room s m ([.ref (q 0), .int s9] : List Value).toArray below meth c H locs 0 0 Q (F0 m 130 ls []) := by
            intro H locs ls hP hD hS hl
            refine lv_aload_n hx hb dX10_readAtom_130 rfl (lv_at hl 0 rfl) ?_
            refine va_get (D := D) (ci := 9) (v := .ref (q 15)) (C := RX10) (T := TX10) (N := 71) hx hb hts hin hown hK hP 0 rfl rfl 28 (by decide) k_5_21 (fun _ h9 => h9) rfl dX10_readAtom_131 ?_
            refine lv_iload_n hx hb dX10_readAtom_134 rfl (lv_at hl 1 rfl) ?_
            refine lv_iconst (v := 2) hx hb dX10_readAtom_135 (by decide) ?_
            refine va_iast hx hb hK hP hD hS 15 0 rfl rfl (ix (by omega) (by omega)) dX10_readAtom_136 (fun H locs hP hD hS => ?_)
            obtain ⟨a_atomSort_136, e_a_atomSort_136⟩ : ∃ g, g = upd a_atomSort s9.toNatClampNeg (2 : Int32) := ⟨_, rfl⟩
            have hP : va_P D vwCl (mw cs q v_thrown a_tape v_taped v_size v_to v_kind v_from v_letters v_letterMany v_digits v_isBeyond v_suffix v_steps v_fault v_hasProgram a_text a_act a_guess a_take a_begin a_finish a_to1 a_one a_two a_what a_ats a_atVar a_atNumber a_atomSort_136 a_atomKind a_atomValue v_wrong v_wrongAt v_variable v_number v_numberKind v_takes a_out v_outed a_varSort a_varKind a_varValue a_creature v_creatures a_arrayClass a_arrayFrom a_arrayLong v_arrays v_cells a_cellSort a_cellKind a_cellValue a_asideSort a_asideKind a_asideValue a_outcome v_marks v_came v_guessed v_right v_taken a_markSort a_markKind a_markClass a_markValue v_sort v_kindAt v_value a_index v_reached v_looked) H := by rw [e_a_atomSort_136]; exact hP
            have hD : va_D A (mw cs q v_thrown a_tape v_taped v_size v_to v_kind v_from v_letters v_letterMany v_digits v_isBeyond v_suffix v_steps v_fault v_hasProgram a_text a_act a_guess a_take a_begin a_finish a_to1 a_one a_two a_what a_ats a_atVar a_atNumber a_atomSort_136 a_atomKind a_atomValue v_wrong v_wrongAt v_variable v_number v_numberKind v_takes a_out v_outed a_varSort a_varKind a_varValue a_creature v_creatures a_arrayClass a_arrayFrom a_arrayLong v_arrays v_cells a_cellSort a_cellKind a_cellValue a_asideSort a_asideKind a_asideValue a_outcome v_marks v_came v_guessed v_right v_taken a_markSort a_markKind a_markClass a_markValue v_sort v_kindAt v_value a_index v_reached v_looked) := by rw [e_a_atomSort_136]; exact hD
            refine lv_aload_n hx hb dX10_readAtom_137 rfl (lv_at hl 0 rfl) ?_
            refine va_get (D := D) (ci := 9) (v := .ref (q 16)) (C := RX10) (T := TX10) (N := 71) hx hb hts hin hown hK hP 0 rfl rfl 29 (by decide) k_5_22 (fun _ h9 => h9) rfl dX10_readAtom_138 ?_
            refine lv_iload_n hx hb dX10_readAtom_141 rfl (lv_at hl 1 rfl) ?_
            refine lv_iconst (v := 0) hx hb dX10_readAtom_142 (by decide) ?_
            refine va_iast hx hb hK hP hD hS 16 0 rfl rfl (ix (by omega) (by omega)) dX10_readAtom_143 (fun H locs hP hD hS => ?_)
            obtain ⟨a_atomKind_143, e_a_atomKind_143⟩ : ∃ g, g = upd a_atomKind s9.toNatClampNeg (0 : Int32) := ⟨_, rfl⟩
            have hP : va_P D vwCl (mw cs q v_thrown a_tape v_taped v_size v_to v_kind v_from v_letters v_letterMany v_digits v_isBeyond v_suffix v_steps v_fault v_hasProgram a_text a_act a_guess a_take a_begin a_finish a_to1 a_one a_two a_what a_ats a_atVar a_atNumber a_atomSort_136 a_atomKind_143 a_atomValue v_wrong v_wrongAt v_variable v_number v_numberKind v_takes a_out v_outed a_varSort a_varKind a_varValue a_creature v_creatures a_arrayClass a_arrayFrom a_arrayLong v_arrays v_cells a_cellSort a_cellKind a_cellValue a_asideSort a_asideKind a_asideValue a_outcome v_marks v_came v_guessed v_right v_taken a_markSort a_markKind a_markClass a_markValue v_sort v_kindAt v_value a_index v_reached v_looked) H := by rw [e_a_atomKind_143]; exact hP
            have hD : va_D A (mw cs q v_thrown a_tape v_taped v_size v_to v_kind v_from v_letters v_letterMany v_digits v_isBeyond v_suffix v_steps v_fault v_hasProgram a_text a_act a_guess a_take a_begin a_finish a_to1 a_one a_two a_what a_ats a_atVar a_atNumber a_atomSort_136 a_atomKind_143 a_atomValue v_wrong v_wrongAt v_variable v_number v_numberKind v_takes a_out v_outed a_varSort a_varKind a_varValue a_creature v_creatures a_arrayClass a_arrayFrom a_arrayLong v_arrays v_cells a_cellSort a_cellKind a_cellValue a_asideSort a_asideKind a_asideValue a_outcome v_marks v_came v_guessed v_right v_taken a_markSort a_markKind a_markClass a_markValue v_sort v_kindAt v_value a_index v_reached v_looked) := by rw [e_a_atomKind_143]; exact hD
            refine lv_aload_n hx hb dX10_readAtom_144 rfl (lv_at hl 0 rfl) ?_
            refine va_get (D := D) (ci := 9) (v := .ref (q 17)) (C := RX10) (T := TX10) (N := 71) hx hb hts hin hown hK hP 0 rfl rfl 30 (by decide) k_5_23 (fun _ h9 => h9) rfl dX10_readAtom_145 ?_
            refine lv_iload_n hx hb dX10_readAtom_148 rfl (lv_at hl 1 rfl) ?_
            refine lv_aload_n hx hb dX10_readAtom_149 rfl (lv_at hl 0 rfl) ?_
            refine m_ldcSw hx hb hown (ld_63 hE) dX10_readAtom_150 ?_
            refine call_i (As := [.ref (K 0 63)]) (rest := [.int s9, .ref (q 17)]) ⟨hx, hb, hml, hown, hts⟩ (tX10_is (l := l) 63 so_63) (cwV 1 hts (gV (wr24 _ (List.mem_of_getElem? (i := 8) rfl)) (wr24 _ (List.mem_of_getElem? (i := 9) rfl)) (wr24 _ (List.mem_of_getElem? (i := 10) rfl)) (wr1 _ (List.mem_of_getElem? (i := 5) rfl)) (wr24 _ (List.mem_of_getElem? (i := 11) rfl))) rfl rfl rfl (by decide +kernel) ⟨Nat.le_of_ble_eq_true rfl, Nat.le_of_ble_eq_true rfl⟩) (va_recv hK hP (ci := 9) (q0 := 0) rfl rfl) hK hP hD hE hS hA rfl hl.1 rfl (Nat.le_of_ble_eq_true rfl) dX10_readAtom_153 ⟨Nat.le_of_ble_eq_true rfl, Nat.le_of_ble_eq_true rfl⟩ (fun r153 w9 H locs hw153 hP hD hS => ?_)
            obtain ⟨rfl, hw153_0⟩ := hw153
            have b_r153 := iB r153
            have J164 : ∀ (s2_164 : Int64) (H : Heap) (locs : List Loc) (ls : Array Slot), (s2_164.toInt = 0 ∨ s2_164.toInt = 1) → va_P D vwCl (mw cs q v_thrown a_tape v_taped v_size v_to v_kind v_from v_letters v_letterMany v_digits v_isBeyond v_suffix v_steps v_fault v_hasProgram a_text a_act a_guess a_take a_begin a_finish a_to1 a_one a_two a_what a_ats a_atVar a_atNumber a_atomSort_136 a_atomKind_143 a_atomValue v_wrong v_wrongAt v_variable v_number v_numberKind v_takes a_out v_outed a_varSort a_varKind a_varValue a_creature v_creatures a_arrayClass a_arrayFrom a_arrayLong v_arrays v_cells a_cellSort a_cellKind a_cellValue a_asideSort a_asideKind a_asideValue a_outcome v_marks v_came v_guessed v_right v_taken a_markSort a_markKind a_markClass a_markValue v_sort v_kindAt v_value a_index v_reached v_looked) H → va_D A (mw cs q v_thrown a_tape v_taped v_size v_to v_kind v_from v_letters v_letterMany v_digits v_isBeyond v_suffix v_steps v_fault v_hasProgram a_text a_act a_guess a_take a_begin a_finish a_to1 a_one a_two a_what a_ats a_atVar a_atNumber a_atomSort_136 a_atomKind_143 a_atomValue v_wrong v_wrongAt v_variable v_number v_numberKind v_takes a_out v_outed a_varSort a_varKind a_varValue a_creature v_creatures a_arrayClass a_arrayFrom a_arrayLong v_arrays v_cells a_cellSort a_cellKind a_cellValue a_asideSort a_asideKind a_asideValue a_outcome v_marks v_came v_guessed v_right v_taken a_markSort a_markKind a_markClass a_markValue v_sort v_kindAt v_value a_index v_reached v_looked) → va_S A s.heap H locs → lv_has ls 3 [(0, .ref (q 0))] → W p l e (headSpec (wG yX10_readAtom cX10_readAtom 3 (some .boolean)) rmX10_readAtom).room s m ([.ref (q 0), .int s9] : List Value).toArray below meth c H locs 0 0 Q (F0 m 164 ls [.long s2_164, .int s9, .ref (q 17)]) := by
              intro s2_164 H locs ls f164_0 hP hD hS hl
              refine va_last hx hb hK hP hD hS 17 1 rfl rfl (ix (by omega) (by omega)) dX10_readAtom_164 (fun H locs hP hD hS => ?_)
              obtain ⟨a_atomValue_164, e_a_atomValue_164⟩ : ∃ g, g = vp_updL a_atomValue s9.toNatClampNeg s2_164 := ⟨_, rfl⟩
              have hP : va_P D vwCl (mw cs q v_thrown a_tape v_taped v_size v_to v_kind v_from v_letters v_letterMany v_digits v_isBeyond v_suffix v_steps v_fault v_hasProgram a_text a_act a_guess a_take a_begin a_finish a_to1 a_one a_two a_what a_ats a_atVar a_atNumber a_atomSort_136 a_atomKind_143 a_atomValue_164 v_wrong v_wrongAt v_variable v_number v_numberKind v_takes a_out v_outed a_varSort a_varKind a_varValue a_creature v_creatures a_arrayClass a_arrayFrom a_arrayLong v_arrays v_cells a_cellSort a_cellKind a_cellValue a_asideSort a_asideKind a_asideValue a_outcome v_marks v_came v_guessed v_right v_taken a_markSort a_markKind a_markClass a_markValue v_sort v_kindAt v_value a_index v_reached v_looked) H := by rw [e_a_atomValue_164]; exact hP
              have hD : va_D A (mw cs q v_thrown a_tape v_taped v_size v_to v_kind v_from v_letters v_letterMany v_digits v_isBeyond v_suffix v_steps v_fault v_hasProgram a_text a_act a_guess a_take a_begin a_finish a_to1 a_one a_two a_what a_ats a_atVar a_atNumber a_atomSort_136 a_atomKind_143 a_atomValue_164 v_wrong v_wrongAt v_variable v_number v_numberKind v_takes a_out v_outed a_varSort a_varKind a_varValue a_creature v_creatures a_arrayClass a_arrayFrom a_arrayLong v_arrays v_cells a_cellSort a_cellKind a_cellValue a_asideSort a_asideKind a_asideValue a_outcome v_marks v_came v_guessed v_right v_taken a_markSort a_markKind a_markClass a_markValue v_sort v_kindAt v_value a_index v_reached v_looked) := by rw [e_a_atomValue_164]; exact hD
              refine lv_goto (tgt := 223) hx hb dX10_readAtom_165 (by decide) ?_
              exact J223 a_atomKind_143 a_atomSort_136 a_atomValue_164 H locs ls (by first | exact ATM.num p_3 e_a_atomSort_136 e_a_atomKind_143 e_a_atomValue_164 (by decide) (NumOK.low (by decide) (by decide)) | exact ATM.non p_3 e_a_atomSort_184 (by decide) | exact ATM.neu p_3 e_a_atomSort_206 e_a_atomKind_213 (by decide)) hP hD hS (lv_sub hl [0] rfl)
            refine m_if_eq (X := r153.toInt) (tgt := 163) hx hb dX10_readAtom_156 (by decide) rfl (fun c156 => ?_) (fun c156 => ?_)
            · skip
              refine lv_lconst (v := 0) hx hb dX10_readAtom_163 (by decide) ?_
              exact J164 (0 : Int64) H locs ls (by first | decide | omega) hP hD hS (lv_sub hl [0] rfl)
            · skip
              refine lv_lconst (v := 1) hx hb dX10_readAtom_159 (by decide) ?_
              refine lv_goto (tgt := 164) hx hb dX10_readAtom_160 (by decide) ?_
              exact J164 (1 : Int64) H locs ls (by first | decide | omega) hP hD hS (lv_sub hl [0] rfl)
          refine m_if_ne (X := r114.toInt) (tgt := 130) hx hb dX10_readAtom_117 (by decide) rfl (fun c117 => ?_) (fun c117 => ?_)
          · skip
            exact J130 H locs ls hP hD hS (lv_sub hl [1, 2] rfl)
          · skip
            refine lv_aload_n hx hb dX10_readAtom_120 rfl (lv_at hl 1 rfl) ?_
            refine m_ldcSw hx hb hown (ld_64 hE) dX10_readAtom_121 ?_
            refine call_i (As := [.ref (K 0 64)]) (rest := []) ⟨hx, hb, hml, hown, hts⟩ (tX10_is (l := l) 64 so_64) (cwV 1 hts (gV (wr24 _ (List.mem_of_getElem? (i := 8) rfl)) (wr24 _ (List.mem_of_getElem? (i := 9) rfl)) (wr24 _ (List.mem_of_getElem? (i := 10) rfl)) (wr1 _ (List.mem_of_getElem? (i := 5) rfl)) (wr24 _ (List.mem_of_getElem? (i := 11) rfl))) rfl rfl rfl (by decide +kernel) ⟨Nat.le_of_ble_eq_true rfl, Nat.le_of_ble_eq_true rfl⟩) (va_recv hK hP (ci := 9) (q0 := 0) rfl rfl) hK hP hD hE hS hA rfl hl.1 rfl (Nat.le_of_ble_eq_true rfl) dX10_readAtom_124 ⟨Nat.le_of_ble_eq_true rfl, Nat.le_of_ble_eq_true rfl⟩ (fun r124 w9 H locs hw124 hP hD hS => ?_)
            obtain ⟨rfl, hw124_0⟩ := hw124
            have b_r124 := iB r124
            refine m_if_eq (X := r124.toInt) (tgt := 168) hx hb dX10_readAtom_127 (by decide) rfl (fun c127 => ?_) (fun c127 => ?_)
            · skip
              refine lv_aload_n hx hb dX10_readAtom_168 rfl (lv_at hl 1 rfl) ?_
              refine m_ldcSw hx hb hown (ld_38 hE) dX10_readAtom_169 ?_
              refine call_i (As := [.ref (K 0 38)]) (rest := []) ⟨hx, hb, hml, hown, hts⟩ (tX10_is (l := l) 38 so_38) (cwV 1 hts (gV (wr24 _ (List.mem_of_getElem? (i := 8) rfl)) (wr24 _ (List.mem_of_getElem? (i := 9) rfl)) (wr24 _ (List.mem_of_getElem? (i := 10) rfl)) (wr1 _ (List.mem_of_getElem? (i := 5) rfl)) (wr24 _ (List.mem_of_getElem? (i := 11) rfl))) rfl rfl rfl (by decide +kernel) ⟨Nat.le_of_ble_eq_true rfl, Nat.le_of_ble_eq_true rfl⟩) (va_recv hK hP (ci := 9) (q0 := 0) rfl rfl) hK hP hD hE hS hA rfl hl.1 rfl (Nat.le_of_ble_eq_true rfl) dX10_readAtom_172 ⟨Nat.le_of_ble_eq_true rfl, Nat.le_of_ble_eq_true rfl⟩ (fun r172 w9 H locs hw172 hP hD hS => ?_)
              obtain ⟨rfl, hw172_0⟩ := hw172
              have b_r172 := iB r172
              refine m_if_eq (X := r172.toInt) (tgt := 188) hx hb dX10_readAtom_175 (by decide) rfl (fun c175 => ?_) (fun c175 => ?_)
              · skip
                refine lv_iload_n hx hb dX10_readAtom_188 rfl (lv_at hl 0 rfl) ?_
                refine lv_bipush (v := 7) hx hb dX10_readAtom_189 (by decide) ?_
                have J217 : ∀ (H : Heap) (locs : List Loc) (ls : Array Slot), va_P D vwCl (mw cs q v_thrown a_tape v_taped v_size v_to v_kind v_from v_letters v_letterMany v_digits v_isBeyond v_suffix v_steps v_fault v_hasProgram a_text a_act a_guess a_take a_begin a_finish a_to1 a_one a_two a_what a_ats a_atVar a_atNumber a_atomSort a_atomKind a_atomValue v_wrong v_wrongAt v_variable v_number v_numberKind v_takes a_out v_outed a_varSort a_varKind a_varValue a_creature v_creatures a_arrayClass a_arrayFrom a_arrayLong v_arrays v_cells a_cellSort a_cellKind a_cellValue a_asideSort a_asideKind a_asideValue a_outcome v_marks v_came v_guessed v_right v_taken a_markSort a_markKind a_markClass a_markValue v_sort v_kindAt v_value a_index v_reached v_looked) H → va_D A (mw cs q v_thrown a_tape v_taped v_size v_to v_kind v_from v_letters v_letterMany v_digits v_isBeyond v_suffix v_steps v_fault v_hasProgram a_text a_act a_guess a_take a_begin a_finish a_to1 a_one a_two a_what a_ats a_atVar a_atNumber a_atomSort a_atomKind a_atomValue v_wrong v_wrongAt v_variable v_number v_numberKind v_takes a_out v_outed a_varSort a_varKind a_varValue a_creature v_creatures a_arrayClass a_arrayFrom a_arrayLong v_arrays v_cells a_cellSort a_cellKind a_cellValue a_asideSort a_asideKind a_asideValue a_outcome v_marks v_came v_guessed v_right v_taken a_markSort a_markKind a_markClass a_markValue v_sort v_kindAt v_value a_index v_reached v_looked) → va_S A s.heap H locs → lv_has ls 3 [(0, .ref (q 0))] → W p l e (headSpec (wG yX10_readAtom cX10_readAtom 3 (some .boolean)) rmX10_readAtom).room s m ([.ref (q 0), .int s9] : List Value).toArray below meth c H locs 0 0 Q (F0 m 217 ls []) := by
                  intro H locs ls hP hD hS hl
                  refine lv_aload_n hx hb dX10_readAtom_217 rfl (lv_at hl 0 rfl) ?_
                  refine lv_iconst (v := 2) hx hb dX10_readAtom_218 (by decide) ?_
                  refine call_i (As := [.int 2]) (rest := []) ⟨hx, hb, hml, hown, hts⟩ (tX10_bad (l := l) (2 : Int32)) (cwV 1 hts (gV (wr25 _ (List.mem_of_getElem? (i := 0) rfl)) (wr25 _ (List.mem_of_getElem? (i := 1) rfl)) (wr25 _ (List.mem_of_getElem? (i := 2) rfl)) (wr1 _ (List.mem_of_getElem? (i := 5) rfl)) (wr25 _ (List.mem_of_getElem? (i := 3) rfl))) rfl rfl rfl (by decide +kernel) ⟨Nat.le_of_ble_eq_true rfl, Nat.le_of_ble_eq_true rfl⟩) (va_recv hK hP (ci := 9) (q0 := 0) rfl rfl) hK hP hD hE hS hA rfl hl.1 rfl (Nat.le_of_ble_eq_true rfl) dX10_readAtom_219 ⟨Nat.le_of_ble_eq_true rfl, Nat.le_of_ble_eq_true rfl⟩ (fun r219 w9 H locs hw219 hP hD hS => ?_)
                  obtain ⟨v_wrong_219, v_wrongAt_219, rfl, hw219_0⟩ := hw219
                  have b_v_wrong_219 := iB v_wrong_219
                  have b_v_wrongAt_219 := iB v_wrongAt_219
                  have b_r219 := iB r219
                  subst hAe
                  rw [hQ]
                  exact W.zret (v := r219) hx hb hr (nbool (by first | omega | decide)) (fun t ht hW => ⟨⟨r219, _, rfl, ⟨v_to, v_kind, v_from, v_letters, v_letterMany, v_digits, v_isBeyond, v_suffix, a_atomSort, a_atomKind, a_atomValue, v_wrong_219, v_wrongAt_219, v_variable, v_number, v_numberKind, rfl, by first | assumption | omega | (intros; omega) | decide, by first | assumption | omega | (intros; omega) | decide, by first | assumption | omega | (intros; omega) | decide, by first | assumption | omega | (intros; omega) | decide, by first | assumption | omega | (intros; omega) | decide, by first | assumption | omega | (intros; omega) | decide, by first | assumption | omega | (intros; omega) | decide⟩, by rw [ht]; exact hP, va_K.moved hW.alike hK, hD⟩, hS.F ht⟩) hS.2.2 dX10_readAtom_222
                refine m_icmp_le (X := r106.toInt) (Y := 7) (tgt := 217) hx hb dX10_readAtom_191 (by decide) rfl (by decide) (fun c191 => ?_) (fun c191 => ?_)
                · skip
                  exact J217 H locs ls hP hD hS (lv_sub hl [1] rfl)
                · skip
                  refine lv_iload_n hx hb dX10_readAtom_194 rfl (lv_at hl 0 rfl) ?_
                  refine lv_bipush (v := 15) hx hb dX10_readAtom_195 (by decide) ?_
                  refine m_icmp_ge (X := r106.toInt) (Y := 15) (tgt := 217) hx hb dX10_readAtom_197 (by decide) rfl (by decide) (fun c197 => ?_) (fun c197 => ?_)
                  · skip
                    exact J217 H locs ls hP hD hS (lv_sub hl [1] rfl)
                  · skip
                    refine lv_aload_n hx hb dX10_readAtom_200 rfl (lv_at hl 1 rfl) ?_
                    refine va_get (D := D) (ci := 9) (v := .ref (q 15)) (C := RX10) (T := TX10) (N := 71) hx hb hts hin hown hK hP 0 rfl rfl 28 (by decide) k_5_21 (fun _ h9 => h9) rfl dX10_readAtom_201 ?_
                    refine lv_iload_n hx hb dX10_readAtom_204 rfl (lv_at hl 2 rfl) ?_
                    refine lv_iconst (v := 4) hx hb dX10_readAtom_205 (by decide) ?_
                    refine va_iast hx hb hK hP hD hS 15 0 rfl rfl (ix (by omega) (by omega)) dX10_readAtom_206 (fun H locs hP hD hS => ?_)
                    obtain ⟨a_atomSort_206, e_a_atomSort_206⟩ : ∃ g, g = upd a_atomSort s9.toNatClampNeg (4 : Int32) := ⟨_, rfl⟩
                    have hP : va_P D vwCl (mw cs q v_thrown a_tape v_taped v_size v_to v_kind v_from v_letters v_letterMany v_digits v_isBeyond v_suffix v_steps v_fault v_hasProgram a_text a_act a_guess a_take a_begin a_finish a_to1 a_one a_two a_what a_ats a_atVar a_atNumber a_atomSort_206 a_atomKind a_atomValue v_wrong v_wrongAt v_variable v_number v_numberKind v_takes a_out v_outed a_varSort a_varKind a_varValue a_creature v_creatures a_arrayClass a_arrayFrom a_arrayLong v_arrays v_cells a_cellSort a_cellKind a_cellValue a_asideSort a_asideKind a_asideValue a_outcome v_marks v_came v_guessed v_right v_taken a_markSort a_markKind a_markClass a_markValue v_sort v_kindAt v_value a_index v_reached v_looked) H := by rw [e_a_atomSort_206]; exact hP
                    have hD : va_D A (mw cs q v_thrown a_tape v_taped v_size v_to v_kind v_from v_letters v_letterMany v_digits v_isBeyond v_suffix v_steps v_fault v_hasProgram a_text a_act a_guess a_take a_begin a_finish a_to1 a_one a_two a_what a_ats a_atVar a_atNumber a_atomSort_206 a_atomKind a_atomValue v_wrong v_wrongAt v_variable v_number v_numberKind v_takes a_out v_outed a_varSort a_varKind a_varValue a_creature v_creatures a_arrayClass a_arrayFrom a_arrayLong v_arrays v_cells a_cellSort a_cellKind a_cellValue a_asideSort a_asideKind a_asideValue a_outcome v_marks v_came v_guessed v_right v_taken a_markSort a_markKind a_markClass a_markValue v_sort v_kindAt v_value a_index v_reached v_looked) := by rw [e_a_atomSort_206]; exact hD
                    refine lv_aload_n hx hb dX10_readAtom_207 rfl (lv_at hl 1 rfl) ?_
                    refine va_get (D := D) (ci := 9) (v := .ref (q 16)) (C := RX10) (T := TX10) (N := 71) hx hb hts hin hown hK hP 0 rfl rfl 29 (by decide) k_5_22 (fun _ h9 => h9) rfl dX10_readAtom_208 ?_
                    refine lv_iload_n hx hb dX10_readAtom_211 rfl (lv_at hl 2 rfl) ?_
                    refine lv_iload_n hx hb dX10_readAtom_212 rfl (lv_at hl 0 rfl) ?_
                    refine va_iast hx hb hK hP hD hS 16 0 rfl rfl (ix (by omega) (by omega)) dX10_readAtom_213 (fun H locs hP hD hS => ?_)
                    obtain ⟨a_atomKind_213, e_a_atomKind_213⟩ : ∃ g, g = upd a_atomKind s9.toNatClampNeg r106 := ⟨_, rfl⟩
                    have hP : va_P D vwCl (mw cs q v_thrown a_tape v_taped v_size v_to v_kind v_from v_letters v_letterMany v_digits v_isBeyond v_suffix v_steps v_fault v_hasProgram a_text a_act a_guess a_take a_begin a_finish a_to1 a_one a_two a_what a_ats a_atVar a_atNumber a_atomSort_206 a_atomKind_213 a_atomValue v_wrong v_wrongAt v_variable v_number v_numberKind v_takes a_out v_outed a_varSort a_varKind a_varValue a_creature v_creatures a_arrayClass a_arrayFrom a_arrayLong v_arrays v_cells a_cellSort a_cellKind a_cellValue a_asideSort a_asideKind a_asideValue a_outcome v_marks v_came v_guessed v_right v_taken a_markSort a_markKind a_markClass a_markValue v_sort v_kindAt v_value a_index v_reached v_looked) H := by rw [e_a_atomKind_213]; exact hP
                    have hD : va_D A (mw cs q v_thrown a_tape v_taped v_size v_to v_kind v_from v_letters v_letterMany v_digits v_isBeyond v_suffix v_steps v_fault v_hasProgram a_text a_act a_guess a_take a_begin a_finish a_to1 a_one a_two a_what a_ats a_atVar a_atNumber a_atomSort_206 a_atomKind_213 a_atomValue v_wrong v_wrongAt v_variable v_number v_numberKind v_takes a_out v_outed a_varSort a_varKind a_varValue a_creature v_creatures a_arrayClass a_arrayFrom a_arrayLong v_arrays v_cells a_cellSort a_cellKind a_cellValue a_asideSort a_asideKind a_asideValue a_outcome v_marks v_came v_guessed v_right v_taken a_markSort a_markKind a_markClass a_markValue v_sort v_kindAt v_value a_index v_reached v_looked) := by rw [e_a_atomKind_213]; exact hD
                    refine lv_goto (tgt := 223) hx hb dX10_readAtom_214 (by decide) ?_
                    exact J223 a_atomKind_213 a_atomSort_206 a_atomValue H locs ls (by first | exact ATM.num p_3 e_a_atomSort_136 e_a_atomKind_143 e_a_atomValue_164 (by decide) (NumOK.low (by decide) (by decide)) | exact ATM.non p_3 e_a_atomSort_184 (by decide) | exact ATM.neu p_3 e_a_atomSort_206 e_a_atomKind_213 (by decide)) hP hD hS (lv_sub hl [1] rfl)
              · skip
                refine lv_aload_n hx hb dX10_readAtom_178 rfl (lv_at hl 1 rfl) ?_
                refine va_get (D := D) (ci := 9) (v := .ref (q 15)) (C := RX10) (T := TX10) (N := 71) hx hb hts hin hown hK hP 0 rfl rfl 28 (by decide) k_5_21 (fun _ h9 => h9) rfl dX10_readAtom_179 ?_
                refine lv_iload_n hx hb dX10_readAtom_182 rfl (lv_at hl 2 rfl) ?_
                refine lv_iconst (v := 3) hx hb dX10_readAtom_183 (by decide) ?_
                refine va_iast hx hb hK hP hD hS 15 0 rfl rfl (ix (by omega) (by omega)) dX10_readAtom_184 (fun H locs hP hD hS => ?_)
                obtain ⟨a_atomSort_184, e_a_atomSort_184⟩ : ∃ g, g = upd a_atomSort s9.toNatClampNeg (3 : Int32) := ⟨_, rfl⟩
                have hP : va_P D vwCl (mw cs q v_thrown a_tape v_taped v_size v_to v_kind v_from v_letters v_letterMany v_digits v_isBeyond v_suffix v_steps v_fault v_hasProgram a_text a_act a_guess a_take a_begin a_finish a_to1 a_one a_two a_what a_ats a_atVar a_atNumber a_atomSort_184 a_atomKind a_atomValue v_wrong v_wrongAt v_variable v_number v_numberKind v_takes a_out v_outed a_varSort a_varKind a_varValue a_creature v_creatures a_arrayClass a_arrayFrom a_arrayLong v_arrays v_cells a_cellSort a_cellKind a_cellValue a_asideSort a_asideKind a_asideValue a_outcome v_marks v_came v_guessed v_right v_taken a_markSort a_markKind a_markClass a_markValue v_sort v_kindAt v_value a_index v_reached v_looked) H := by rw [e_a_atomSort_184]; exact hP
                have hD : va_D A (mw cs q v_thrown a_tape v_taped v_size v_to v_kind v_from v_letters v_letterMany v_digits v_isBeyond v_suffix v_steps v_fault v_hasProgram a_text a_act a_guess a_take a_begin a_finish a_to1 a_one a_two a_what a_ats a_atVar a_atNumber a_atomSort_184 a_atomKind a_atomValue v_wrong v_wrongAt v_variable v_number v_numberKind v_takes a_out v_outed a_varSort a_varKind a_varValue a_creature v_creatures a_arrayClass a_arrayFrom a_arrayLong v_arrays v_cells a_cellSort a_cellKind a_cellValue a_asideSort a_asideKind a_asideValue a_outcome v_marks v_came v_guessed v_right v_taken a_markSort a_markKind a_markClass a_markValue v_sort v_kindAt v_value a_index v_reached v_looked) := by rw [e_a_atomSort_184]; exact hD
                refine lv_goto (tgt := 223) hx hb dX10_readAtom_185 (by decide) ?_
                exact J223 a_atomKind a_atomSort_184 a_atomValue H locs ls (by first | exact ATM.num p_3 e_a_atomSort_136 e_a_atomKind_143 e_a_atomValue_164 (by decide) (NumOK.low (by decide) (by decide)) | exact ATM.non p_3 e_a_atomSort_184 (by decide) | exact ATM.neu p_3 e_a_atomSort_206 e_a_atomKind_213 (by decide)) hP hD hS (lv_sub hl [1] rfl)
            · skip
              exact J130 H locs ls hP hD hS (lv_sub hl [1, 2] rfl)
        · skip
          refine lv_aload_n hx hb dX10_readAtom_96 rfl (lv_at hl 0 rfl) ?_
          refine lv_iconst (v := 2) hx hb dX10_readAtom_97 (by decide) ?_
          refine call_i (As := [.int 2]) (rest := []) ⟨hx, hb, hml, hown, hts⟩ (tX10_bad (l := l) (2 : Int32)) (cwV 1 hts (gV (wr25 _ (List.mem_of_getElem? (i := 0) rfl)) (wr25 _ (List.mem_of_getElem? (i := 1) rfl)) (wr25 _ (List.mem_of_getElem? (i := 2) rfl)) (wr1 _ (List.mem_of_getElem? (i := 5) rfl)) (wr25 _ (List.mem_of_getElem? (i := 3) rfl))) rfl rfl rfl (by decide +kernel) ⟨Nat.le_of_ble_eq_true rfl, Nat.le_of_ble_eq_true rfl⟩) (va_recv hK hP (ci := 9) (q0 := 0) rfl rfl) hK hP hD hE hS hA rfl hl.1 rfl (Nat.le_of_ble_eq_true rfl) dX10_readAtom_98 ⟨Nat.le_of_ble_eq_true rfl, Nat.le_of_ble_eq_true rfl⟩ (fun r98 w9 H locs hw98 hP hD hS => ?_)
          obtain ⟨v_wrong_98, v_wrongAt_98, rfl, hw98_0⟩ := hw98
          have b_v_wrong_98 := iB v_wrong_98
          have b_v_wrongAt_98 := iB v_wrongAt_98
          have b_r98 := iB r98
          subst hAe
          rw [hQ]
          exact W.zret (v := r98) hx hb hr (nbool (by first | omega | decide)) (fun t ht hW => ⟨⟨r98, _, rfl, ⟨v_to, v_kind, v_from, v_letters, v_letterMany, v_digits, v_isBeyond, v_suffix, a_atomSort, a_atomKind, a_atomValue, v_wrong_98, v_wrongAt_98, v_variable, v_number, v_numberKind, rfl, by first | assumption | omega | (intros; omega) | decide, by first | assumption | omega | (intros; omega) | decide, by first | assumption | omega | (intros; omega) | decide, by first | assumption | omega | (intros; omega) | decide, by first | assumption | omega | (intros; omega) | decide, by first | assumption | omega | (intros; omega) | decide, by first | assumption | omega | (intros; omega) | decide⟩, by rw [ht]; exact hP, va_K.moved hW.alike hK, hD⟩, hS.F ht⟩) hS.2.2 dX10_readAtom_101
      · skip
        exact J49 H locs ls hP hD hS (lv_sub hl [0, 1] rfl)
  · skip
    refine lv_aload_n hx hb dX10_readAtom_7 rfl (lv_at hl 0 rfl) ?_
    refine call_i (As := []) (rest := []) ⟨hx, hb, hml, hown, hts⟩ (tX10_readVar (l := l)  (by first | assumption | omega | (intros; omega) | decide) (by first | assumption | omega | (intros; omega) | decide)) (cwV 0 hts (gV (wr25 _ (List.mem_of_getElem? (i := 23) rfl)) (wr26 _ (List.mem_of_getElem? (i := 0) rfl)) (wr26 _ (List.mem_of_getElem? (i := 1) rfl)) (wr1 _ (List.mem_of_getElem? (i := 5) rfl)) (wr26 _ (List.mem_of_getElem? (i := 2) rfl))) rfl rfl rfl (by decide +kernel) ⟨Nat.le_of_ble_eq_true rfl, Nat.le_of_ble_eq_true rfl⟩) (va_recv hK hP (ci := 9) (q0 := 0) rfl rfl) hK hP hD hE hS hA rfl hl.1 rfl (Nat.le_of_ble_eq_true rfl) dX10_readAtom_8 ⟨Nat.le_of_ble_eq_true rfl, Nat.le_of_ble_eq_true rfl⟩ (fun r8 w9 H locs hw8 hP hD hS => ?_)
    obtain ⟨v_to_8, v_kind_8, v_from_8, v_letters_8, v_letterMany_8, v_digits_8, v_isBeyond_8, v_suffix_8, v_wrong_8, v_wrongAt_8, v_variable_8, rfl, hw8_0, hw8_1, hw8_2, hw8_3, hw8_4⟩ := hw8
    have b_v_to_8 := iB v_to_8
    have b_v_kind_8 := iB v_kind_8
    have b_v_from_8 := iB v_from_8
    have b_v_letters_8 := jB v_letters_8
    have b_v_letterMany_8 := iB v_letterMany_8
    have b_v_digits_8 := jB v_digits_8
    have b_v_isBeyond_8 := iB v_isBeyond_8
    have b_v_suffix_8 := iB v_suffix_8
    have b_v_wrong_8 := iB v_wrong_8
    have b_v_wrongAt_8 := iB v_wrongAt_8
    have b_v_variable_8 := iB v_variable_8
    have b_r8 := iB r8
    refine lv_pop hx hb dX10_readAtom_11 rfl ?_
    refine lv_aload_n hx hb dX10_readAtom_12 rfl (lv_at hl 0 rfl) ?_
    refine va_get (D := D) (ci := 9) (v := .ref (q 15)) (C := RX10) (T := TX10) (N := 71) hx hb hts hin hown hK hP 0 rfl rfl 28 (by decide) k_5_21 (fun _ h9 => h9) rfl dX10_readAtom_13 ?_
    refine lv_iload_n hx hb dX10_readAtom_16 rfl (lv_at hl 1 rfl) ?_
    refine lv_iconst (v := 1) hx hb dX10_readAtom_17 (by decide) ?_
    refine va_iast hx hb hK hP hD hS 15 0 rfl rfl (ix (by omega) (by omega)) dX10_readAtom_18 (fun H locs hP hD hS => ?_)
    obtain ⟨a_atomSort_18, e_a_atomSort_18⟩ : ∃ g, g = upd a_atomSort s9.toNatClampNeg (1 : Int32) := ⟨_, rfl⟩
    have hP : va_P D vwCl (mw cs q v_thrown a_tape v_taped v_size v_to_8 v_kind_8 v_from_8 v_letters_8 v_letterMany_8 v_digits_8 v_isBeyond_8 v_suffix_8 v_steps v_fault v_hasProgram a_text a_act a_guess a_take a_begin a_finish a_to1 a_one a_two a_what a_ats a_atVar a_atNumber a_atomSort_18 a_atomKind a_atomValue v_wrong_8 v_wrongAt_8 v_variable_8 v_number v_numberKind v_takes a_out v_outed a_varSort a_varKind a_varValue a_creature v_creatures a_arrayClass a_arrayFrom a_arrayLong v_arrays v_cells a_cellSort a_cellKind a_cellValue a_asideSort a_asideKind a_asideValue a_outcome v_marks v_came v_guessed v_right v_taken a_markSort a_markKind a_markClass a_markValue v_sort v_kindAt v_value a_index v_reached v_looked) H := by rw [e_a_atomSort_18]; exact hP
    have hD : va_D A (mw cs q v_thrown a_tape v_taped v_size v_to_8 v_kind_8 v_from_8 v_letters_8 v_letterMany_8 v_digits_8 v_isBeyond_8 v_suffix_8 v_steps v_fault v_hasProgram a_text a_act a_guess a_take a_begin a_finish a_to1 a_one a_two a_what a_ats a_atVar a_atNumber a_atomSort_18 a_atomKind a_atomValue v_wrong_8 v_wrongAt_8 v_variable_8 v_number v_numberKind v_takes a_out v_outed a_varSort a_varKind a_varValue a_creature v_creatures a_arrayClass a_arrayFrom a_arrayLong v_arrays v_cells a_cellSort a_cellKind a_cellValue a_asideSort a_asideKind a_asideValue a_outcome v_marks v_came v_guessed v_right v_taken a_markSort a_markKind a_markClass a_markValue v_sort v_kindAt v_value a_index v_reached v_looked) := by rw [e_a_atomSort_18]; exact hD
    refine lv_aload_n hx hb dX10_readAtom_19 rfl (lv_at hl 0 rfl) ?_
    refine va_get (D := D) (ci := 9) (v := .ref (q 17)) (C := RX10) (T := TX10) (N := 71) hx hb hts hin hown hK hP 0 rfl rfl 30 (by decide) k_5_23 (fun _ h9 => h9) rfl dX10_readAtom_20 ?_
    refine lv_iload_n hx hb dX10_readAtom_23 rfl (lv_at hl 1 rfl) ?_
    refine lv_aload_n hx hb dX10_readAtom_24 rfl (lv_at hl 0 rfl) ?_
    refine va_get (D := D) (ci := 9) (v := .int v_variable_8) (C := RX10) (T := TX10) (N := 71) hx hb hts hin hown hK hP 0 rfl rfl 33 (by decide) k_25_22 (fun _ h9 => h9) rfl dX10_readAtom_25 ?_
    refine m_i2l (X := v_variable_8.toInt) hx hb dX10_readAtom_28 rfl (fun x28 e_x28 g_x28 => ?_)
    refine va_last hx hb hK hP hD hS 17 1 rfl rfl (ix (by omega) (by omega)) dX10_readAtom_29 (fun H locs hP hD hS => ?_)
    obtain ⟨a_atomValue_29, e_a_atomValue_29⟩ : ∃ g, g = vp_updL a_atomValue s9.toNatClampNeg x28 := ⟨_, rfl⟩
    have hP : va_P D vwCl (mw cs q v_thrown a_tape v_taped v_size v_to_8 v_kind_8 v_from_8 v_letters_8 v_letterMany_8 v_digits_8 v_isBeyond_8 v_suffix_8 v_steps v_fault v_hasProgram a_text a_act a_guess a_take a_begin a_finish a_to1 a_one a_two a_what a_ats a_atVar a_atNumber a_atomSort_18 a_atomKind a_atomValue_29 v_wrong_8 v_wrongAt_8 v_variable_8 v_number v_numberKind v_takes a_out v_outed a_varSort a_varKind a_varValue a_creature v_creatures a_arrayClass a_arrayFrom a_arrayLong v_arrays v_cells a_cellSort a_cellKind a_cellValue a_asideSort a_asideKind a_asideValue a_outcome v_marks v_came v_guessed v_right v_taken a_markSort a_markKind a_markClass a_markValue v_sort v_kindAt v_value a_index v_reached v_looked) H := by rw [e_a_atomValue_29]; exact hP
    have hD : va_D A (mw cs q v_thrown a_tape v_taped v_size v_to_8 v_kind_8 v_from_8 v_letters_8 v_letterMany_8 v_digits_8 v_isBeyond_8 v_suffix_8 v_steps v_fault v_hasProgram a_text a_act a_guess a_take a_begin a_finish a_to1 a_one a_two a_what a_ats a_atVar a_atNumber a_atomSort_18 a_atomKind a_atomValue_29 v_wrong_8 v_wrongAt_8 v_variable_8 v_number v_numberKind v_takes a_out v_outed a_varSort a_varKind a_varValue a_creature v_creatures a_arrayClass a_arrayFrom a_arrayLong v_arrays v_cells a_cellSort a_cellKind a_cellValue a_asideSort a_asideKind a_asideValue a_outcome v_marks v_came v_guessed v_right v_taken a_markSort a_markKind a_markClass a_markValue v_sort v_kindAt v_value a_index v_reached v_looked) := by rw [e_a_atomValue_29]; exact hD
    have ha29 : ATM a_atomSort_18 a_atomKind a_atomValue_29 := ATM.var p_3 e_a_atomSort_18 e_a_atomValue_29 (by decide) (by omega) (by omega)
    refine lv_iconst (v := 1) hx hb dX10_readAtom_30 (by decide) ?_
    subst hAe
    rw [hQ]
    exact W.zret (v := 1) hx hb hr (by decide) (fun t ht hW => ⟨⟨1, _, rfl, ⟨v_to_8, v_kind_8, v_from_8, v_letters_8, v_letterMany_8, v_digits_8, v_isBeyond_8, v_suffix_8, a_atomSort_18, a_atomKind, a_atomValue_29, v_wrong_8, v_wrongAt_8, v_variable_8, v_number, v_numberKind, rfl, by first | assumption | omega | (intros; omega) | decide, by first | assumption | omega | (intros; omega) | decide, by first | assumption | omega | (intros; omega) | decide, by first | assumption | omega | (intros; omega) | decide, by first | assumption | omega | (intros; omega) | decide, by first | assumption | omega | (intros; omega) | decide, by first | assumption | omega | (intros; omega) | decide⟩, by rw [ht]; exact hP, va_K.moved hW.alike hK, hD⟩, hS.F ht⟩) hS.2.2 dX10_readAtom_31

def rmX10_readKind : Room := { frames := 140, cells := 0, slots := 0, locals := 2800 }
set_option maxHeartbeats 4000000 in
set_option maxRecDepth 100000 in
theorem tX10_readKind {l : Launch} {D : va_G} {K : Nat → Nat → Nat} {cs : Nat → ClassId} {q : Nat → Nat} {v_thrown v_taped v_size v_to v_kind v_from v_letterMany v_isBeyond v_suffix v_steps v_fault v_hasProgram v_wrong v_wrongAt v_variable v_numberKind v_takes v_outed v_creatures v_arrays v_cells v_marks v_came v_guessed v_right v_taken v_sort v_kindAt v_reached v_looked : Int32} {a_tape a_text a_act a_guess a_take a_begin a_finish a_to1 a_one a_two a_what a_ats a_atVar a_atNumber a_atomSort a_atomKind a_out a_varSort a_varKind a_creature a_arrayClass a_arrayFrom a_arrayLong a_cellSort a_cellKind a_asideSort a_asideKind a_outcome a_markSort a_markKind a_markClass a_index : Nat → Int32} {v_letters v_digits v_number v_value : Int64} {a_atomValue a_varValue a_cellValue a_asideValue a_markValue : Nat → Int64} (s9 : Int32) (b9 : Int32) (p_0 : LX a_tape v_size v_to v_from v_kind v_letters v_letterMany v_isBeyond) (p_1 : 0 ≤ s9.toInt) (p_2 : s9.toInt ≤ 201) : CtI l yX10_readKind (wG yX10_readKind cX10_readKind 4 (some .boolean)) rmX10_readKind D (mwT cs) K [.ref (q 0), .int s9, .int b9] (mw cs q v_thrown a_tape v_taped v_size v_to v_kind v_from v_letters v_letterMany v_digits v_isBeyond v_suffix v_steps v_fault v_hasProgram a_text a_act a_guess a_take a_begin a_finish a_to1 a_one a_two a_what a_ats a_atVar a_atNumber a_atomSort a_atomKind a_atomValue v_wrong v_wrongAt v_variable v_number v_numberKind v_takes a_out v_outed a_varSort a_varKind a_varValue a_creature v_creatures a_arrayClass a_arrayFrom a_arrayLong v_arrays v_cells a_cellSort a_cellKind a_cellValue a_asideSort a_asideKind a_asideValue a_outcome v_marks v_came v_guessed v_right v_taken a_markSort a_markKind a_markClass a_markValue v_sort v_kindAt v_value a_index v_reached v_looked) (fun r w1 => ∃ (v_to' : Int32) (v_kind' : Int32) (v_from' : Int32) (v_letters' : Int64) (v_letterMany' : Int32) (v_digits' : Int64) (v_isBeyond' : Int32) (v_suffix' : Int32) (a_what' : Nat → Int32) (v_wrong' : Int32) (v_wrongAt' : Int32), w1 = (mw cs q v_thrown a_tape v_taped v_size v_to' v_kind' v_from' v_letters' v_letterMany' v_digits' v_isBeyond' v_suffix' v_steps v_fault v_hasProgram a_text a_act a_guess a_take a_begin a_finish a_to1 a_one a_two a_what' a_ats a_atVar a_atNumber a_atomSort a_atomKind a_atomValue v_wrong' v_wrongAt' v_variable v_number v_numberKind v_takes a_out v_outed a_varSort a_varKind a_varValue a_creature v_creatures a_arrayClass a_arrayFrom a_arrayLong v_arrays v_cells a_cellSort a_cellKind a_cellValue a_asideSort a_asideKind a_asideValue a_outcome v_marks v_came v_guessed v_right v_taken a_markSort a_markKind a_markClass a_markValue v_sort v_kindAt v_value a_index v_reached v_looked) ∧ (LX a_tape v_size v_to' v_from' v_kind' v_letters' v_letterMany' v_isBeyond') ∧ (v_to.toInt ≤ v_to'.toInt) ∧ (ph a_tape v_to' ≤ ph a_tape v_to + 1) ∧ ((r.toInt = 1 ∧ 0 ≤ (a_what' s9.toNatClampNeg).toInt ∧ (a_what' s9.toNatClampNeg).toInt ≤ 16) ∨ r.toInt = 0) ∧ (SAME a_what' a_what s9.toNatClampNeg)) 0 0 := by
  intro sz
  refine Met.ofW (cc := cX10_readKind) (maxL := 4) (ret := (some .boolean)) (by decide) rfl ?_
  intro p e s m args below meth c s₁ B hml hv
  obtain ⟨rfl, hsz, hP, hK, hD0, hE⟩ := hv
  have hx := B.exec
  have hb := B.bytes
  have hr := B.returns
  have hts := atoms_spec (ws := (wG yX10_readKind cX10_readKind 4 (some .boolean))) B.pre
  have hown : s.vm.findClass RX10 = some m.cls := findClass_of_methodNamed B.named
  have hlocks := B.notSynchronized
  subst hsz
  have hD := hD0.self (sz := s.heap.size)
  obtain ⟨A, hAe⟩ : ∃ A : Nat → Prop, A = va_A (mw cs q v_thrown a_tape v_taped v_size v_to v_kind v_from v_letters v_letterMany v_digits v_isBeyond v_suffix v_steps v_fault v_hasProgram a_text a_act a_guess a_take a_begin a_finish a_to1 a_one a_two a_what a_ats a_atVar a_atNumber a_atomSort a_atomKind a_atomValue v_wrong v_wrongAt v_variable v_number v_numberKind v_takes a_out v_outed a_varSort a_varKind a_varValue a_creature v_creatures a_arrayClass a_arrayFrom a_arrayLong v_arrays v_cells a_cellSort a_cellKind a_cellValue a_asideSort a_asideKind a_asideValue a_outcome v_marks v_came v_guessed v_right v_taken a_markSort a_markKind a_markClass a_markValue v_sort v_kindAt v_value a_index v_reached v_looked) s.heap.size := ⟨_, rfl⟩
  rw [← hAe] at hD hE
  have hA : ∀ q : Nat, s.heap.size ≤ q → A q := fun q h => by rw [hAe]; exact Or.inr h
  have hS : va_S A s.heap s.heap [] := va_S.rf
  have hl := lv_entry ([.ref (q 0), .int s9, .int b9]) (n := 4) (Nat.le_of_ble_eq_true rfl)
  rw [lg_entry_eq]
  generalize (lg_sl ([.ref (q 0), .int s9, .int b9]) ++ List.replicate (4 - (lg_sl ([.ref (q 0), .int s9, .int b9])).length) Slot.unset).toArray = ls at hl ⊢
  have hl : lv_has ls 4 [(0, .ref (q 0)), (1, .int s9), (2, .int b9)] := hl
  refine wq (fun Q hQ => ?_)
  have hin : ∀ w ∈ wsX100, w ∈ (wG yX10_readKind cX10_readKind 4 (some .boolean)) := fun w h => List.mem_cons_of_mem _ (inlX10 w h)
  have kc0 : (-1 : Int32).toInt = -1 := by decide
  have kc1 : (1 : Int32).toInt = 1 := by decide
  have kc2 : (2 : Int32).toInt = 2 := by decide
  have k_22_15 := hts (.fieldLink RX10 273 "ArrayTrainerModel" "kind" "I") (List.mem_cons_of_mem _ (wr22 _ (List.mem_of_getElem? (i := 15) rfl)))
  have k_5_17 := hts (.fieldLink RX10 40 "ArrayTrainerModel" "what" "[I") (List.mem_cons_of_mem _ (wr5 _ (List.mem_of_getElem? (i := 17) rfl)))
  have k_23_1 := hts (.fieldLink RX10 289 "ArrayTrainerModel" "letters" "J") (List.mem_cons_of_mem _ (wr23 _ (List.mem_of_getElem? (i := 1) rfl)))
  obtain ⟨H, hH⟩ : ∃ H : Heap, H = s.heap := ⟨_, rfl⟩
  obtain ⟨locs, hlc⟩ : ∃ L : List Loc, L = [] := ⟨_, rfl⟩
  have hP : va_P D vwCl (mw cs q v_thrown a_tape v_taped v_size v_to v_kind v_from v_letters v_letterMany v_digits v_isBeyond v_suffix v_steps v_fault v_hasProgram a_text a_act a_guess a_take a_begin a_finish a_to1 a_one a_two a_what a_ats a_atVar a_atNumber a_atomSort a_atomKind a_atomValue v_wrong v_wrongAt v_variable v_number v_numberKind v_takes a_out v_outed a_varSort a_varKind a_varValue a_creature v_creatures a_arrayClass a_arrayFrom a_arrayLong v_arrays v_cells a_cellSort a_cellKind a_cellValue a_asideSort a_asideKind a_asideValue a_outcome v_marks v_came v_guessed v_right v_taken a_markSort a_markKind a_markClass a_markValue v_sort v_kindAt v_value a_index v_reached v_looked) H := by rw [hH]; exact hP
  have hS : va_S A s.heap H locs := by rw [hH, hlc]; exact hS
  refine wHL hH hlc ?_
  have b_s9 := iB s9
  have b_b9 := iB b9
  refine lv_aload_n hx hb dX10_readKind_0 rfl (lv_at hl 0 rfl) ?_
  refine va_get (D := D) (ci := 9) (v := .int v_kind) (C := RX10) (T := TX10) (N := 71) hx hb hts hin hown hK hP 0 rfl rfl 5 (by decide) k_22_15 (fun _ h9 => h9) rfl dX10_readKind_1 ?_
  refine lv_iconst (v := 2) hx hb dX10_readKind_4 (by decide) ?_
  have J19 : ∀ (s0_19 : Int32) (H : Heap) (locs : List Loc) (ls : Array Slot), (-1 ≤ s0_19.toInt) → (s0_19.toInt ≤ 16) → va_P D vwCl (mw cs q v_thrown a_tape v_taped v_size v_to v_kind v_from v_letters v_letterMany v_digits v_isBeyond v_suffix v_steps v_fault v_hasProgram a_text a_act a_guess a_take a_begin a_finish a_to1 a_one a_two a_what a_ats a_atVar a_atNumber a_atomSort a_atomKind a_atomValue v_wrong v_wrongAt v_variable v_number v_numberKind v_takes a_out v_outed a_varSort a_varKind a_varValue a_creature v_creatures a_arrayClass a_arrayFrom a_arrayLong v_arrays v_cells a_cellSort a_cellKind a_cellValue a_asideSort a_asideKind a_asideValue a_outcome v_marks v_came v_guessed v_right v_taken a_markSort a_markKind a_markClass a_markValue v_sort v_kindAt v_value a_index v_reached v_looked) H → va_D A (mw cs q v_thrown a_tape v_taped v_size v_to v_kind v_from v_letters v_letterMany v_digits v_isBeyond v_suffix v_steps v_fault v_hasProgram a_text a_act a_guess a_take a_begin a_finish a_to1 a_one a_two a_what a_ats a_atVar a_atNumber a_atomSort a_atomKind a_atomValue v_wrong v_wrongAt v_variable v_number v_numberKind v_takes a_out v_outed a_varSort a_varKind a_varValue a_creature v_creatures a_arrayClass a_arrayFrom a_arrayLong v_arrays v_cells a_cellSort a_cellKind a_cellValue a_asideSort a_asideKind a_asideValue a_outcome v_marks v_came v_guessed v_right v_taken a_markSort a_markKind a_markClass a_markValue v_sort v_kindAt v_value a_index v_reached v_looked) → va_S A s.heap H locs → lv_has ls 4 [(0, .ref (q 0)), (1, .int s9), (2, .int b9)] → W p l e (headSpec (wG yX10_readKind cX10_readKind 4 (some .boolean)) rmX10_readKind).room s m ([.ref (q 0), .int s9, .int b9] : List Value).toArray below meth c H locs 0 0 Q (F0 m 19 ls [.int s0_19]) := by
    intro s0_19 H locs ls f19_0 f19_1 hP hD hS hl
    refine lv_istore_n (lv' := [(3, .int s0_19), (0, .ref (q 0)), (1, .int s9), (2, .int b9)]) hx hb dX10_readKind_19 rfl hl (by decide) rfl (fun ls hl => ?_)
    refine lv_iload_n hx hb dX10_readKind_20 rfl (lv_at hl 0 rfl) ?_
    refine lv_iconst (v := (-1)) hx hb dX10_readKind_21 (by decide) ?_
    have J30 : ∀ (H : Heap) (locs : List Loc) (ls : Array Slot), va_P D vwCl (mw cs q v_thrown a_tape v_taped v_size v_to v_kind v_from v_letters v_letterMany v_digits v_isBeyond v_suffix v_steps v_fault v_hasProgram a_text a_act a_guess a_take a_begin a_finish a_to1 a_one a_two a_what a_ats a_atVar a_atNumber a_atomSort a_atomKind a_atomValue v_wrong v_wrongAt v_variable v_number v_numberKind v_takes a_out v_outed a_varSort a_varKind a_varValue a_creature v_creatures a_arrayClass a_arrayFrom a_arrayLong v_arrays v_cells a_cellSort a_cellKind a_cellValue a_asideSort a_asideKind a_asideValue a_outcome v_marks v_came v_guessed v_right v_taken a_markSort a_markKind a_markClass a_markValue v_sort v_kindAt v_value a_index v_reached v_looked) H → va_D A (mw cs q v_thrown a_tape v_taped v_size v_to v_kind v_from v_letters v_letterMany v_digits v_isBeyond v_suffix v_steps v_fault v_hasProgram a_text a_act a_guess a_take a_begin a_finish a_to1 a_one a_two a_what a_ats a_atVar a_atNumber a_atomSort a_atomKind a_atomValue v_wrong v_wrongAt v_variable v_number v_numberKind v_takes a_out v_outed a_varSort a_varKind a_varValue a_creature v_creatures a_arrayClass a_arrayFrom a_arrayLong v_arrays v_cells a_cellSort a_cellKind a_cellValue a_asideSort a_asideKind a_asideValue a_outcome v_marks v_came v_guessed v_right v_taken a_markSort a_markKind a_markClass a_markValue v_sort v_kindAt v_value a_index v_reached v_looked) → va_S A s.heap H locs → lv_has ls 4 [(0, .ref (q 0))] → W p l e (headSpec (wG yX10_readKind cX10_readKind 4 (some .boolean)) rmX10_readKind).room s m ([.ref (q 0), .int s9, .int b9] : List Value).toArray below meth c H locs 0 0 Q (F0 m 30 ls []) := by
      intro H locs ls hP hD hS hl
      refine lv_aload_n hx hb dX10_readKind_30 rfl (lv_at hl 0 rfl) ?_
      refine lv_iconst (v := 2) hx hb dX10_readKind_31 (by decide) ?_
      refine call_i (As := [.int 2]) (rest := []) ⟨hx, hb, hml, hown, hts⟩ (tX10_bad (l := l) (2 : Int32)) (cwV 1 hts (gV (wr25 _ (List.mem_of_getElem? (i := 0) rfl)) (wr25 _ (List.mem_of_getElem? (i := 1) rfl)) (wr25 _ (List.mem_of_getElem? (i := 2) rfl)) (wr1 _ (List.mem_of_getElem? (i := 5) rfl)) (wr25 _ (List.mem_of_getElem? (i := 3) rfl))) rfl rfl rfl (by decide +kernel) ⟨Nat.le_of_ble_eq_true rfl, Nat.le_of_ble_eq_true rfl⟩) (va_recv hK hP (ci := 9) (q0 := 0) rfl rfl) hK hP hD hE hS hA rfl hl.1 rfl (Nat.le_of_ble_eq_true rfl) dX10_readKind_32 ⟨Nat.le_of_ble_eq_true rfl, Nat.le_of_ble_eq_true rfl⟩ (fun r32 w9 H locs hw32 hP hD hS => ?_)
      obtain ⟨v_wrong_32, v_wrongAt_32, rfl, hw32_0⟩ := hw32
      have b_v_wrong_32 := iB v_wrong_32
      have b_v_wrongAt_32 := iB v_wrongAt_32
      have b_r32 := iB r32
      subst hAe
      rw [hQ]
      exact W.zret (v := r32) hx hb hr (nbool (by first | omega | decide)) (fun t ht hW => ⟨⟨r32, _, rfl, ⟨v_to, v_kind, v_from, v_letters, v_letterMany, v_digits, v_isBeyond, v_suffix, a_what, v_wrong_32, v_wrongAt_32, rfl, by first | assumption | omega | (intros; omega) | decide, by first | assumption | omega | (intros; omega) | decide, by first | assumption | omega | (intros; omega) | decide, by first | assumption | omega | (intros; omega) | decide, by first | assumption | exact SAME.rf _ _ | exact SAME.trans (by assumption) (by assumption) | exact SAME.trans (by assumption) (SAME.trans (by assumption) (by assumption))⟩, by rw [ht]; exact hP, va_K.moved hW.alike hK, hD⟩, hS.F ht⟩) hS.2.2 dX10_readKind_35
    refine m_icmp_eq (X := s0_19.toInt) (Y := (-1)) (tgt := 30) hx hb dX10_readKind_22 (by decide) rfl (by decide) (fun c22 => ?_) (fun c22 => ?_)
    · skip
      exact J30 H locs ls hP hD hS (lv_sub hl [1] rfl)
    · skip
      refine lv_iload_n hx hb dX10_readKind_25 rfl (lv_at hl 0 rfl) ?_
      refine lv_iload_n hx hb dX10_readKind_26 rfl (lv_at hl 3 rfl) ?_
      refine m_icmp_lt (X := s0_19.toInt) (Y := b9.toInt) (tgt := 36) hx hb dX10_readKind_27 (by decide) rfl rfl (fun c27 => ?_) (fun c27 => ?_)
      · skip
        refine lv_aload_n hx hb dX10_readKind_36 rfl (lv_at hl 1 rfl) ?_
        refine va_get (D := D) (ci := 9) (v := .ref (q 11)) (C := RX10) (T := TX10) (N := 71) hx hb hts hin hown hK hP 0 rfl rfl 24 (by decide) k_5_17 (fun _ h9 => h9) rfl dX10_readKind_37 ?_
        refine lv_iload_n hx hb dX10_readKind_40 rfl (lv_at hl 2 rfl) ?_
        refine lv_iload_n hx hb dX10_readKind_41 rfl (lv_at hl 0 rfl) ?_
        refine va_iast hx hb hK hP hD hS 11 0 rfl rfl (ix (by omega) (by omega)) dX10_readKind_42 (fun H locs hP hD hS => ?_)
        obtain ⟨a_what_42, e_a_what_42⟩ : ∃ g, g = upd a_what s9.toNatClampNeg s0_19 := ⟨_, rfl⟩
        have hP : va_P D vwCl (mw cs q v_thrown a_tape v_taped v_size v_to v_kind v_from v_letters v_letterMany v_digits v_isBeyond v_suffix v_steps v_fault v_hasProgram a_text a_act a_guess a_take a_begin a_finish a_to1 a_one a_two a_what_42 a_ats a_atVar a_atNumber a_atomSort a_atomKind a_atomValue v_wrong v_wrongAt v_variable v_number v_numberKind v_takes a_out v_outed a_varSort a_varKind a_varValue a_creature v_creatures a_arrayClass a_arrayFrom a_arrayLong v_arrays v_cells a_cellSort a_cellKind a_cellValue a_asideSort a_asideKind a_asideValue a_outcome v_marks v_came v_guessed v_right v_taken a_markSort a_markKind a_markClass a_markValue v_sort v_kindAt v_value a_index v_reached v_looked) H := by rw [e_a_what_42]; exact hP
        have hD : va_D A (mw cs q v_thrown a_tape v_taped v_size v_to v_kind v_from v_letters v_letterMany v_digits v_isBeyond v_suffix v_steps v_fault v_hasProgram a_text a_act a_guess a_take a_begin a_finish a_to1 a_one a_two a_what_42 a_ats a_atVar a_atNumber a_atomSort a_atomKind a_atomValue v_wrong v_wrongAt v_variable v_number v_numberKind v_takes a_out v_outed a_varSort a_varKind a_varValue a_creature v_creatures a_arrayClass a_arrayFrom a_arrayLong v_arrays v_cells a_cellSort a_cellKind a_cellValue a_asideSort a_asideKind a_asideValue a_outcome v_marks v_came v_guessed v_right v_taken a_markSort a_markKind a_markClass a_markValue v_sort v_kindAt v_value a_index v_reached v_looked) := by rw [e_a_what_42]; exact hD
        have hs42 : SAME a_what_42 a_what s9.toNatClampNeg := SAME.upd e_a_what_42 (SAME.rf _ _)
        have hn42 := congrArg Int32.toInt (at_upd e_a_what_42)
        refine lv_aload_n hx hb dX10_readKind_43 rfl (lv_at hl 1 rfl) ?_
        refine call_v (As := []) (rest := []) ⟨hx, hb, hml, hown, hts⟩ (tX10_goB (l := l)  (by first | assumption | exact LX.z (by assumption))) (cwV 0 hts (gV (wr22 _ (List.mem_of_getElem? (i := 20) rfl)) (wr22 _ (List.mem_of_getElem? (i := 21) rfl)) (wr22 _ (List.mem_of_getElem? (i := 22) rfl)) (wr1 _ (List.mem_of_getElem? (i := 5) rfl)) (wr22 _ (List.mem_of_getElem? (i := 23) rfl))) rfl rfl rfl (by decide +kernel) ⟨Nat.le_of_ble_eq_true rfl, Nat.le_of_ble_eq_true rfl⟩) (va_recv hK hP (ci := 9) (q0 := 0) rfl rfl) hK hP hD hE hS hA rfl hl.1 rfl (Nat.le_of_ble_eq_true rfl) dX10_readKind_44 ⟨Nat.le_of_ble_eq_true rfl, Nat.le_of_ble_eq_true rfl⟩ (fun w9 H locs hw44 hP hD hS => ?_)
        obtain ⟨v_to_44, v_kind_44, v_from_44, v_letters_44, v_letterMany_44, v_digits_44, v_isBeyond_44, v_suffix_44, rfl, hw44_0, hw44_1, hw44_2⟩ := hw44
        have b_v_to_44 := iB v_to_44
        have b_v_kind_44 := iB v_kind_44
        have b_v_from_44 := iB v_from_44
        have b_v_letters_44 := jB v_letters_44
        have b_v_letterMany_44 := iB v_letterMany_44
        have b_v_digits_44 := jB v_digits_44
        have b_v_isBeyond_44 := iB v_isBeyond_44
        have b_v_suffix_44 := iB v_suffix_44
        refine lv_iconst (v := 1) hx hb dX10_readKind_47 (by decide) ?_
        subst hAe
        rw [hQ]
        exact W.zret (v := 1) hx hb hr (by decide) (fun t ht hW => ⟨⟨1, _, rfl, ⟨v_to_44, v_kind_44, v_from_44, v_letters_44, v_letterMany_44, v_digits_44, v_isBeyond_44, v_suffix_44, a_what_42, v_wrong, v_wrongAt, rfl, by first | assumption | omega | (intros; omega) | decide, by first | assumption | omega | (intros; omega) | decide, by first | assumption | omega | (intros; omega) | decide, by first | assumption | omega | (intros; omega) | decide, by first | assumption | exact SAME.rf _ _ | exact SAME.trans (by assumption) (by assumption) | exact SAME.trans (by assumption) (SAME.trans (by assumption) (by assumption))⟩, by rw [ht]; exact hP, va_K.moved hW.alike hK, hD⟩, hS.F ht⟩) hS.2.2 dX10_readKind_48
      · skip
        exact J30 H locs ls hP hD hS (lv_sub hl [1] rfl)
  refine m_icmp_ne (X := v_kind.toInt) (Y := 2) (tgt := 18) hx hb dX10_readKind_5 (by decide) rfl (by decide) (fun c5 => ?_) (fun c5 => ?_)
  · skip
    refine lv_iconst (v := (-1)) hx hb dX10_readKind_18 (by decide) ?_
    exact J19 (-1 : Int32) H locs ls (by first | assumption | omega | (intros; omega) | decide) (by first | assumption | omega | (intros; omega) | decide) hP hD hS (lv_sub hl [0, 1, 2] rfl)
  · skip
    refine lv_aload_n hx hb dX10_readKind_8 rfl (lv_at hl 0 rfl) ?_
    refine va_get (D := D) (ci := 9) (v := .long v_letters) (C := RX10) (T := TX10) (N := 71) hx hb hts hin hown hK hP 0 rfl rfl 7 (by decide) k_23_1 (fun _ h9 => h9) rfl dX10_readKind_9 ?_
    refine call_iSP (As := [.long v_letters]) (rest := []) ⟨hx, hb, hml, hown, hts⟩ (tX10_kindOf (l := l) v_letters) (va_cwS 1 hts (gS (wr28 _ (List.mem_of_getElem? (i := 22) rfl)) (wr28 _ (List.mem_of_getElem? (i := 23) rfl)) (wr1 _ (List.mem_of_getElem? (i := 5) rfl)) (wr29 _ (List.mem_of_getElem? (i := 0) rfl))) rfl rfl rfl (by decide +kernel) ⟨Nat.le_of_ble_eq_true rfl, Nat.le_of_ble_eq_true rfl⟩) (hK.sub [] rfl) hP hD hE hS hA rfl hl.1 rfl (Nat.le_of_ble_eq_true rfl) dX10_readKind_12 ⟨Nat.le_of_ble_eq_true rfl, Nat.le_of_ble_eq_true rfl⟩ (fun r12 w9 H locs hw12 hP hD hS => ?_)
    obtain ⟨rfl, hw12_0, hw12_1⟩ := hw12
    have b_r12 := iB r12
    refine lv_goto (tgt := 19) hx hb dX10_readKind_15 (by decide) ?_
    exact J19 r12 H locs ls (by first | assumption | omega | (intros; omega) | decide) (by first | assumption | omega | (intros; omega) | decide) hP hD hS (lv_sub hl [0, 1, 2] rfl)

def rmX10_readClass : Room := { frames := 160, cells := 0, slots := 0, locals := 3200 }
set_option maxHeartbeats 4000000 in
set_option maxRecDepth 100000 in
theorem tX10_readClass {l : Launch} {D : va_G} {K : Nat → Nat → Nat} {cs : Nat → ClassId} {q : Nat → Nat} {v_thrown v_taped v_size v_to v_kind v_from v_letterMany v_isBeyond v_suffix v_steps v_fault v_hasProgram v_wrong v_wrongAt v_variable v_numberKind v_takes v_outed v_creatures v_arrays v_cells v_marks v_came v_guessed v_right v_taken v_sort v_kindAt v_reached v_looked : Int32} {a_tape a_text a_act a_guess a_take a_begin a_finish a_to1 a_one a_two a_what a_ats a_atVar a_atNumber a_atomSort a_atomKind a_out a_varSort a_varKind a_creature a_arrayClass a_arrayFrom a_arrayLong a_cellSort a_cellKind a_asideSort a_asideKind a_outcome a_markSort a_markKind a_markClass a_index : Nat → Int32} {v_letters v_digits v_number v_value : Int64} {a_atomValue a_varValue a_cellValue a_asideValue a_markValue : Nat → Int64} (s9 : Int32) (p_0 : LX a_tape v_size v_to v_from v_kind v_letters v_letterMany v_isBeyond) (p_1 : 0 ≤ s9.toInt) (p_2 : s9.toInt ≤ 201) : CtI l yX10_readClass (wG yX10_readClass cX10_readClass 4 (some .boolean)) rmX10_readClass D (mwT cs) K [.ref (q 0), .int s9] (mw cs q v_thrown a_tape v_taped v_size v_to v_kind v_from v_letters v_letterMany v_digits v_isBeyond v_suffix v_steps v_fault v_hasProgram a_text a_act a_guess a_take a_begin a_finish a_to1 a_one a_two a_what a_ats a_atVar a_atNumber a_atomSort a_atomKind a_atomValue v_wrong v_wrongAt v_variable v_number v_numberKind v_takes a_out v_outed a_varSort a_varKind a_varValue a_creature v_creatures a_arrayClass a_arrayFrom a_arrayLong v_arrays v_cells a_cellSort a_cellKind a_cellValue a_asideSort a_asideKind a_asideValue a_outcome v_marks v_came v_guessed v_right v_taken a_markSort a_markKind a_markClass a_markValue v_sort v_kindAt v_value a_index v_reached v_looked) (fun r w1 => ∃ (v_to' : Int32) (v_kind' : Int32) (v_from' : Int32) (v_letters' : Int64) (v_letterMany' : Int32) (v_digits' : Int64) (v_isBeyond' : Int32) (v_suffix' : Int32) (a_what' : Nat → Int32) (v_wrong' : Int32) (v_wrongAt' : Int32), w1 = (mw cs q v_thrown a_tape v_taped v_size v_to' v_kind' v_from' v_letters' v_letterMany' v_digits' v_isBeyond' v_suffix' v_steps v_fault v_hasProgram a_text a_act a_guess a_take a_begin a_finish a_to1 a_one a_two a_what' a_ats a_atVar a_atNumber a_atomSort a_atomKind a_atomValue v_wrong' v_wrongAt' v_variable v_number v_numberKind v_takes a_out v_outed a_varSort a_varKind a_varValue a_creature v_creatures a_arrayClass a_arrayFrom a_arrayLong v_arrays v_cells a_cellSort a_cellKind a_cellValue a_asideSort a_asideKind a_asideValue a_outcome v_marks v_came v_guessed v_right v_taken a_markSort a_markKind a_markClass a_markValue v_sort v_kindAt v_value a_index v_reached v_looked) ∧ (LX a_tape v_size v_to' v_from' v_kind' v_letters' v_letterMany' v_isBeyond') ∧ (v_to.toInt ≤ v_to'.toInt) ∧ (ph a_tape v_to' ≤ ph a_tape v_to + 7) ∧ (r.toInt = 0 ∨ r.toInt = 1) ∧ (SAME a_what' a_what s9.toNatClampNeg)) 0 0 := by
  intro sz
  refine Met.ofW (cc := cX10_readClass) (maxL := 4) (ret := (some .boolean)) (by decide) rfl ?_
  intro p e s m args below meth c s₁ B hml hv
  obtain ⟨rfl, hsz, hP, hK, hD0, hE⟩ := hv
  have hx := B.exec
  have hb := B.bytes
  have hr := B.returns
  have hts := atoms_spec (ws := (wG yX10_readClass cX10_readClass 4 (some .boolean))) B.pre
  have hown : s.vm.findClass RX10 = some m.cls := findClass_of_methodNamed B.named
  have hlocks := B.notSynchronized
  subst hsz
  have hD := hD0.self (sz := s.heap.size)
  obtain ⟨A, hAe⟩ : ∃ A : Nat → Prop, A = va_A (mw cs q v_thrown a_tape v_taped v_size v_to v_kind v_from v_letters v_letterMany v_digits v_isBeyond v_suffix v_steps v_fault v_hasProgram a_text a_act a_guess a_take a_begin a_finish a_to1 a_one a_two a_what a_ats a_atVar a_atNumber a_atomSort a_atomKind a_atomValue v_wrong v_wrongAt v_variable v_number v_numberKind v_takes a_out v_outed a_varSort a_varKind a_varValue a_creature v_creatures a_arrayClass a_arrayFrom a_arrayLong v_arrays v_cells a_cellSort a_cellKind a_cellValue a_asideSort a_asideKind a_asideValue a_outcome v_marks v_came v_guessed v_right v_taken a_markSort a_markKind a_markClass a_markValue v_sort v_kindAt v_value a_index v_reached v_looked) s.heap.size := ⟨_, rfl⟩
  rw [← hAe] at hD hE
  have hA : ∀ q : Nat, s.heap.size ≤ q → A q := fun q h => by rw [hAe]; exact Or.inr h
  have hS : va_S A s.heap s.heap [] := va_S.rf
  have hl := lv_entry ([.ref (q 0), .int s9]) (n := 4) (Nat.le_of_ble_eq_true rfl)
  rw [lg_entry_eq]
  generalize (lg_sl ([.ref (q 0), .int s9]) ++ List.replicate (4 - (lg_sl ([.ref (q 0), .int s9])).length) Slot.unset).toArray = ls at hl ⊢
  have hl : lv_has ls 4 [(0, .ref (q 0)), (1, .int s9)] := hl
  refine wq (fun Q hQ => ?_)
  have hin : ∀ w ∈ wsX100, w ∈ (wG yX10_readClass cX10_readClass 4 (some .boolean)) := fun w h => List.mem_cons_of_mem _ (inlX10 w h)
  have kc0 : (0 : Int32).toInt = 0 := by decide
  have kc1 : (1 : Int32).toInt = 1 := by decide
  have kc2 : (3 : Int32).toInt = 3 := by decide
  have kc3 : (4 : Int32).toInt = 4 := by decide
  have kc4 : (14 : Int32).toInt = 14 := by decide
  have kc5 : (17 : Int32).toInt = 17 := by decide
  have kc6 : (20 : Int32).toInt = 20 := by decide
  have kc7 : (91 : Int32).toInt = 91 := by decide
  have kc8 : (93 : Int32).toInt = 93 := by decide
  have k_23_0 := hts (.fieldLink RX10 270 "ArrayTrainerModel" "from" "I") (List.mem_cons_of_mem _ (wr23 _ (List.mem_of_getElem? (i := 0) rfl)))
  have k_5_17 := hts (.fieldLink RX10 40 "ArrayTrainerModel" "what" "[I") (List.mem_cons_of_mem _ (wr5 _ (List.mem_of_getElem? (i := 17) rfl)))
  have k_22_16 := hts (.fieldLink RX10 310 "ArrayTrainerModel" "wrong" "I") (List.mem_cons_of_mem _ (wr22 _ (List.mem_of_getElem? (i := 16) rfl)))
  have k_22_17 := hts (.fieldLink RX10 313 "ArrayTrainerModel" "wrongAt" "I") (List.mem_cons_of_mem _ (wr22 _ (List.mem_of_getElem? (i := 17) rfl)))
  obtain ⟨H, hH⟩ : ∃ H : Heap, H = s.heap := ⟨_, rfl⟩
  obtain ⟨locs, hlc⟩ : ∃ L : List Loc, L = [] := ⟨_, rfl⟩
  have hP : va_P D vwCl (mw cs q v_thrown a_tape v_taped v_size v_to v_kind v_from v_letters v_letterMany v_digits v_isBeyond v_suffix v_steps v_fault v_hasProgram a_text a_act a_guess a_take a_begin a_finish a_to1 a_one a_two a_what a_ats a_atVar a_atNumber a_atomSort a_atomKind a_atomValue v_wrong v_wrongAt v_variable v_number v_numberKind v_takes a_out v_outed a_varSort a_varKind a_varValue a_creature v_creatures a_arrayClass a_arrayFrom a_arrayLong v_arrays v_cells a_cellSort a_cellKind a_cellValue a_asideSort a_asideKind a_asideValue a_outcome v_marks v_came v_guessed v_right v_taken a_markSort a_markKind a_markClass a_markValue v_sort v_kindAt v_value a_index v_reached v_looked) H := by rw [hH]; exact hP
  have hS : va_S A s.heap H locs := by rw [hH, hlc]; exact hS
  refine wHL hH hlc ?_
  have b_s9 := iB s9
  refine lv_aload_n hx hb dX10_readClass_0 rfl (lv_at hl 0 rfl) ?_
  refine va_get (D := D) (ci := 9) (v := .int v_from) (C := RX10) (T := TX10) (N := 71) hx hb hts hin hown hK hP 0 rfl rfl 6 (by decide) k_23_0 (fun _ h9 => h9) rfl dX10_readClass_1 ?_
  refine lv_istore_n (lv' := [(2, .int v_from), (0, .ref (q 0)), (1, .int s9)]) hx hb dX10_readClass_4 rfl hl (by decide) rfl (fun ls hl => ?_)
  refine lv_aload_n hx hb dX10_readClass_5 rfl (lv_at hl 1 rfl) ?_
  refine lv_iload_n hx hb dX10_readClass_6 rfl (lv_at hl 2 rfl) ?_
  refine lv_bipush (v := 17) hx hb dX10_readClass_7 (by decide) ?_
  refine call_i (As := [.int s9, .int 17]) (rest := []) ⟨hx, hb, hml, hown, hts⟩ (tX10_readKind (l := l) s9 (17 : Int32) (by first | assumption | omega | (intros; omega) | decide) (by first | assumption | omega | (intros; omega) | decide) (by first | assumption | omega | (intros; omega) | decide)) (cwV 2 hts (gV (wr29 _ (List.mem_of_getElem? (i := 11) rfl)) (wr29 _ (List.mem_of_getElem? (i := 12) rfl)) (wr29 _ (List.mem_of_getElem? (i := 13) rfl)) (wr1 _ (List.mem_of_getElem? (i := 5) rfl)) (wr29 _ (List.mem_of_getElem? (i := 14) rfl))) rfl rfl rfl (by decide +kernel) ⟨Nat.le_of_ble_eq_true rfl, Nat.le_of_ble_eq_true rfl⟩) (va_recv hK hP (ci := 9) (q0 := 0) rfl rfl) hK hP hD hE hS hA rfl hl.1 rfl (Nat.le_of_ble_eq_true rfl) dX10_readClass_9 ⟨Nat.le_of_ble_eq_true rfl, Nat.le_of_ble_eq_true rfl⟩ (fun r9 w9 H locs hw9 hP hD hS => ?_)
  obtain ⟨v_to_9, v_kind_9, v_from_9, v_letters_9, v_letterMany_9, v_digits_9, v_isBeyond_9, v_suffix_9, a_what_9, v_wrong_9, v_wrongAt_9, rfl, hw9_0, hw9_1, hw9_2, hw9_3, hw9_4⟩ := hw9
  have b_v_to_9 := iB v_to_9
  have b_v_kind_9 := iB v_kind_9
  have b_v_from_9 := iB v_from_9
  have b_v_letters_9 := jB v_letters_9
  have b_v_letterMany_9 := iB v_letterMany_9
  have b_v_digits_9 := jB v_digits_9
  have b_v_isBeyond_9 := iB v_isBeyond_9
  have b_v_suffix_9 := iB v_suffix_9
  have b_v_wrong_9 := iB v_wrong_9
  have b_v_wrongAt_9 := iB v_wrongAt_9
  have b_r9 := iB r9
  refine m_if_ne (X := r9.toInt) (tgt := 17) hx hb dX10_readClass_12 (by decide) rfl (fun c12 => ?_) (fun c12 => ?_)
  · skip
    refine lv_iconst (v := 0) hx hb dX10_readClass_17 (by decide) ?_
    refine lv_istore_n (lv' := [(3, .int 0), (2, .int v_from), (0, .ref (q 0)), (1, .int s9)]) hx hb dX10_readClass_18 rfl hl (by decide) rfl (fun ls hl => ?_)
    have J19 : ∀ (n19 : Nat) (l3_19 : Int32) (v_to_19 : Int32) (v_digits_19 : Int64) (v_from_19 : Int32) (v_isBeyond_19 : Int32) (v_kind_19 : Int32) (v_letterMany_19 : Int32) (v_letters_19 : Int64) (v_suffix_19 : Int32) (v_wrong_19 : Int32) (v_wrongAt_19 : Int32) (H : Heap) (locs : List Loc) (ls : Array Slot), (0 ≤ l3_19.toInt) → (l3_19.toInt ≤ 3) → (LX a_tape v_size v_to_19 v_from_19 v_kind_19 v_letters_19 v_letterMany_19 v_isBeyond_19) → (v_to.toInt ≤ v_to_19.toInt) → ((ph a_tape v_to_19 : Int) ≤ ph a_tape v_to + 1 + 2 * l3_19.toInt) → (3 - l3_19.toInt < (n19 : Int)) → va_P D vwCl (mw cs q v_thrown a_tape v_taped v_size v_to_19 v_kind_19 v_from_19 v_letters_19 v_letterMany_19 v_digits_19 v_isBeyond_19 v_suffix_19 v_steps v_fault v_hasProgram a_text a_act a_guess a_take a_begin a_finish a_to1 a_one a_two a_what_9 a_ats a_atVar a_atNumber a_atomSort a_atomKind a_atomValue v_wrong_19 v_wrongAt_19 v_variable v_number v_numberKind v_takes a_out v_outed a_varSort a_varKind a_varValue a_creature v_creatures a_arrayClass a_arrayFrom a_arrayLong v_arrays v_cells a_cellSort a_cellKind a_cellValue a_asideSort a_asideKind a_asideValue a_outcome v_marks v_came v_guessed v_right v_taken a_markSort a_markKind a_markClass a_markValue v_sort v_kindAt v_value a_index v_reached v_looked) H → va_D A (mw cs q v_thrown a_tape v_taped v_size v_to_19 v_kind_19 v_from_19 v_letters_19 v_letterMany_19 v_digits_19 v_isBeyond_19 v_suffix_19 v_steps v_fault v_hasProgram a_text a_act a_guess a_take a_begin a_finish a_to1 a_one a_two a_what_9 a_ats a_atVar a_atNumber a_atomSort a_atomKind a_atomValue v_wrong_19 v_wrongAt_19 v_variable v_number v_numberKind v_takes a_out v_outed a_varSort a_varKind a_varValue a_creature v_creatures a_arrayClass a_arrayFrom a_arrayLong v_arrays v_cells a_cellSort a_cellKind a_cellValue a_asideSort a_asideKind a_asideValue a_outcome v_marks v_came v_guessed v_right v_taken a_markSort a_markKind a_markClass a_markValue v_sort v_kindAt v_value a_index v_reached v_looked) → va_S A s.heap H locs → lv_has ls 4 [(0, .ref (q 0)), (1, .int s9), (2, .int v_from), (3, .int l3_19)] → W p l e (headSpec (wG yX10_readClass cX10_readClass 4 (some .boolean)) rmX10_readClass).room s m ([.ref (q 0), .int s9] : List Value).toArray below meth c H locs 0 0 Q (F0 m 19 ls []) := by
      intro n19
      induction n19 with
      | zero =>
        intro l3_19 v_to_19 v_digits_19 v_from_19 v_isBeyond_19 v_kind_19 v_letterMany_19 v_letters_19 v_suffix_19 v_wrong_19 v_wrongAt_19 H locs ls f19_0 f19_1 f19_2 f19_3 f19_4 hm19
        exfalso
        omega
      | succ n19 ih19 =>
        intro l3_19 v_to_19 v_digits_19 v_from_19 v_isBeyond_19 v_kind_19 v_letterMany_19 v_letters_19 v_suffix_19 v_wrong_19 v_wrongAt_19 H locs ls f19_0 f19_1 f19_2 f19_3 f19_4 hm19 hP hD hS hl
        refine lv_aload_n hx hb dX10_readClass_19 rfl (lv_at hl 0 rfl) ?_
        refine lv_bipush (v := 91) hx hb dX10_readClass_20 (by decide) ?_
        refine call_i (As := [.int 91]) (rest := []) ⟨hx, hb, hml, hown, hts⟩ (tX10_isSign (l := l) (91 : Int32)) (cwV 1 hts (gV (wr26 _ (List.mem_of_getElem? (i := 3) rfl)) (wr26 _ (List.mem_of_getElem? (i := 4) rfl)) (wr26 _ (List.mem_of_getElem? (i := 5) rfl)) (wr1 _ (List.mem_of_getElem? (i := 5) rfl)) (wr26 _ (List.mem_of_getElem? (i := 6) rfl))) rfl rfl rfl (by decide +kernel) ⟨Nat.le_of_ble_eq_true rfl, Nat.le_of_ble_eq_true rfl⟩) (va_recv hK hP (ci := 9) (q0 := 0) rfl rfl) hK hP hD hE hS hA rfl hl.1 rfl (Nat.le_of_ble_eq_true rfl) dX10_readClass_22 ⟨Nat.le_of_ble_eq_true rfl, Nat.le_of_ble_eq_true rfl⟩ (fun r22 w9 H locs hw22 hP hD hS => ?_)
        obtain ⟨rfl, hw22_0⟩ := hw22
        have b_r22 := iB r22
        refine m_if_eq (X := r22.toInt) (tgt := 60) hx hb dX10_readClass_25 (by decide) rfl (fun c25 => ?_) (fun c25 => ?_)
        · skip
          refine lv_iload_n hx hb dX10_readClass_60 rfl (lv_at hl 3 rfl) ?_
          have J87 : ∀ (H : Heap) (locs : List Loc) (ls : Array Slot), va_P D vwCl (mw cs q v_thrown a_tape v_taped v_size v_to_19 v_kind_19 v_from_19 v_letters_19 v_letterMany_19 v_digits_19 v_isBeyond_19 v_suffix_19 v_steps v_fault v_hasProgram a_text a_act a_guess a_take a_begin a_finish a_to1 a_one a_two a_what_9 a_ats a_atVar a_atNumber a_atomSort a_atomKind a_atomValue v_wrong_19 v_wrongAt_19 v_variable v_number v_numberKind v_takes a_out v_outed a_varSort a_varKind a_varValue a_creature v_creatures a_arrayClass a_arrayFrom a_arrayLong v_arrays v_cells a_cellSort a_cellKind a_cellValue a_asideSort a_asideKind a_asideValue a_outcome v_marks v_came v_guessed v_right v_taken a_markSort a_markKind a_markClass a_markValue v_sort v_kindAt v_value a_index v_reached v_looked) H → va_D A (mw cs q v_thrown a_tape v_taped v_size v_to_19 v_kind_19 v_from_19 v_letters_19 v_letterMany_19 v_digits_19 v_isBeyond_19 v_suffix_19 v_steps v_fault v_hasProgram a_text a_act a_guess a_take a_begin a_finish a_to1 a_one a_two a_what_9 a_ats a_atVar a_atNumber a_atomSort a_atomKind a_atomValue v_wrong_19 v_wrongAt_19 v_variable v_number v_numberKind v_takes a_out v_outed a_varSort a_varKind a_varValue a_creature v_creatures a_arrayClass a_arrayFrom a_arrayLong v_arrays v_cells a_cellSort a_cellKind a_cellValue a_asideSort a_asideKind a_asideValue a_outcome v_marks v_came v_guessed v_right v_taken a_markSort a_markKind a_markClass a_markValue v_sort v_kindAt v_value a_index v_reached v_looked) → va_S A s.heap H locs → lv_has ls 4 [(0, .ref (q 0)), (1, .int s9), (3, .int l3_19)] → W p l e (headSpec (wG yX10_readClass cX10_readClass 4 (some .boolean)) rmX10_readClass).room s m ([.ref (q 0), .int s9] : List Value).toArray below meth c H locs 0 0 Q (F0 m 87 ls []) := by
            intro H locs ls hP hD hS hl
            refine lv_aload_n hx hb dX10_readClass_87 rfl (lv_at hl 0 rfl) ?_
            refine va_get (D := D) (ci := 9) (v := .ref (q 11)) (C := RX10) (T := TX10) (N := 71) hx hb hts hin hown hK hP 0 rfl rfl 24 (by decide) k_5_17 (fun _ h9 => h9) rfl dX10_readClass_88 ?_
            refine lv_iload_n hx hb dX10_readClass_91 rfl (lv_at hl 1 rfl) ?_
            refine lv_dup2_11 hx hb dX10_readClass_92 rfl rfl ?_
            refine m_iald hx hb hK hP 11 0 rfl rfl (ix (by omega) (by omega)) dX10_readClass_93 (fun x93 e_x93 => ?_)
            have b_x93 := iB x93
            refine lv_bipush (v := 20) hx hb dX10_readClass_94 (by decide) ?_
            refine lv_iload_n hx hb dX10_readClass_96 rfl (lv_at hl 2 rfl) ?_
            refine m_imul (X := 20) (Y := l3_19.toInt) hx hb dX10_readClass_97 (by decide) rfl (fun x97 e_x97 g9 => ?_)
            obtain ⟨k_x97, g_x97⟩ := g9
            have b_x97 := iB x97
            try (have q_x97 : x97.toInt = 20 * l3_19.toInt := (by omega); clear g_x97 k_x97)
            refine m_iadd (X := x93.toInt) (Y := x97.toInt) hx hb dX10_readClass_98 rfl rfl (fun x98 e_x98 g9 => ?_)
            obtain ⟨k_x98, g_x98⟩ := g9
            have b_x98 := iB x98
            try (have q_x98 : x98.toInt = x93.toInt + x97.toInt := (by omega); clear g_x98 k_x98)
            refine va_iast hx hb hK hP hD hS 11 0 rfl rfl (ix (by omega) (by omega)) dX10_readClass_99 (fun H locs hP hD hS => ?_)
            obtain ⟨a_what_99, e_a_what_99⟩ : ∃ g, g = upd a_what_9 s9.toNatClampNeg x98 := ⟨_, rfl⟩
            have hP : va_P D vwCl (mw cs q v_thrown a_tape v_taped v_size v_to_19 v_kind_19 v_from_19 v_letters_19 v_letterMany_19 v_digits_19 v_isBeyond_19 v_suffix_19 v_steps v_fault v_hasProgram a_text a_act a_guess a_take a_begin a_finish a_to1 a_one a_two a_what_99 a_ats a_atVar a_atNumber a_atomSort a_atomKind a_atomValue v_wrong_19 v_wrongAt_19 v_variable v_number v_numberKind v_takes a_out v_outed a_varSort a_varKind a_varValue a_creature v_creatures a_arrayClass a_arrayFrom a_arrayLong v_arrays v_cells a_cellSort a_cellKind a_cellValue a_asideSort a_asideKind a_asideValue a_outcome v_marks v_came v_guessed v_right v_taken a_markSort a_markKind a_markClass a_markValue v_sort v_kindAt v_value a_index v_reached v_looked) H := by rw [e_a_what_99]; exact hP
            have hD : va_D A (mw cs q v_thrown a_tape v_taped v_size v_to_19 v_kind_19 v_from_19 v_letters_19 v_letterMany_19 v_digits_19 v_isBeyond_19 v_suffix_19 v_steps v_fault v_hasProgram a_text a_act a_guess a_take a_begin a_finish a_to1 a_one a_two a_what_99 a_ats a_atVar a_atNumber a_atomSort a_atomKind a_atomValue v_wrong_19 v_wrongAt_19 v_variable v_number v_numberKind v_takes a_out v_outed a_varSort a_varKind a_varValue a_creature v_creatures a_arrayClass a_arrayFrom a_arrayLong v_arrays v_cells a_cellSort a_cellKind a_cellValue a_asideSort a_asideKind a_asideValue a_outcome v_marks v_came v_guessed v_right v_taken a_markSort a_markKind a_markClass a_markValue v_sort v_kindAt v_value a_index v_reached v_looked) := by rw [e_a_what_99]; exact hD
            have hs99 : SAME a_what_99 a_what s9.toNatClampNeg := SAME.upd e_a_what_99 hw9_4
            refine lv_iconst (v := 1) hx hb dX10_readClass_100 (by decide) ?_
            subst hAe
            rw [hQ]
            exact W.zret (v := 1) hx hb hr (by decide) (fun t ht hW => ⟨⟨1, _, rfl, ⟨v_to_19, v_kind_19, v_from_19, v_letters_19, v_letterMany_19, v_digits_19, v_isBeyond_19, v_suffix_19, a_what_99, v_wrong_19, v_wrongAt_19, rfl, by first | assumption | omega | (intros; omega) | decide, by first | assumption | omega | (intros; omega) | decide, by first | assumption | omega | (intros; omega) | decide, by first | assumption | omega | (intros; omega) | decide, by first | assumption | exact SAME.rf _ _ | exact SAME.trans (by assumption) (by assumption) | exact SAME.trans (by assumption) (SAME.trans (by assumption) (by assumption))⟩, by rw [ht]; exact hP, va_K.moved hW.alike hK, hD⟩, hS.F ht⟩) hS.2.2 dX10_readClass_101
          refine m_if_ne (X := l3_19.toInt) (tgt := 87) hx hb dX10_readClass_61 (by decide) rfl (fun c61 => ?_) (fun c61 => ?_)
          · skip
            exact J87 H locs ls hP hD hS (lv_sub hl [0, 1, 3] rfl)
          · skip
            refine lv_aload_n hx hb dX10_readClass_64 rfl (lv_at hl 0 rfl) ?_
            refine va_get (D := D) (ci := 9) (v := .ref (q 11)) (C := RX10) (T := TX10) (N := 71) hx hb hts hin hown hK hP 0 rfl rfl 24 (by decide) k_5_17 (fun _ h9 => h9) rfl dX10_readClass_65 ?_
            refine lv_iload_n hx hb dX10_readClass_68 rfl (lv_at hl 1 rfl) ?_
            refine m_iald hx hb hK hP 11 0 rfl rfl (ix (by omega) (by omega)) dX10_readClass_69 (fun x69 e_x69 => ?_)
            have b_x69 := iB x69
            refine lv_bipush (v := 14) hx hb dX10_readClass_70 (by decide) ?_
            refine m_icmp_le (X := x69.toInt) (Y := 14) (tgt := 87) hx hb dX10_readClass_72 (by decide) rfl (by decide) (fun c72 => ?_) (fun c72 => ?_)
            · skip
              exact J87 H locs ls hP hD hS (lv_sub hl [0, 1, 3] rfl)
            · skip
              refine lv_aload_n hx hb dX10_readClass_75 rfl (lv_at hl 0 rfl) ?_
              refine lv_iconst (v := 3) hx hb dX10_readClass_76 (by decide) ?_
              refine va_put (D := D) (ci := 9) (v := .int 3) (ty := .int) (C := RX10) (T := TX10) (N := 71) hx hb hts hin tyX10 tyX10_ok nmX10 hown hK hP hD hS 0 rfl rfl 31 (by decide) k_22_16 (fun _ h9 => h9) rfl (by decide +kernel) rfl rfl (Nat.le_of_ble_eq_true rfl) dX10_readClass_77 (fun H locs hP hD hS => ?_)
              have hP : va_P D vwCl (mw cs q v_thrown a_tape v_taped v_size v_to_19 v_kind_19 v_from_19 v_letters_19 v_letterMany_19 v_digits_19 v_isBeyond_19 v_suffix_19 v_steps v_fault v_hasProgram a_text a_act a_guess a_take a_begin a_finish a_to1 a_one a_two a_what_9 a_ats a_atVar a_atNumber a_atomSort a_atomKind a_atomValue (3 : Int32) v_wrongAt_19 v_variable v_number v_numberKind v_takes a_out v_outed a_varSort a_varKind a_varValue a_creature v_creatures a_arrayClass a_arrayFrom a_arrayLong v_arrays v_cells a_cellSort a_cellKind a_cellValue a_asideSort a_asideKind a_asideValue a_outcome v_marks v_came v_guessed v_right v_taken a_markSort a_markKind a_markClass a_markValue v_sort v_kindAt v_value a_index v_reached v_looked) H := hP
              have hD : va_D A (mw cs q v_thrown a_tape v_taped v_size v_to_19 v_kind_19 v_from_19 v_letters_19 v_letterMany_19 v_digits_19 v_isBeyond_19 v_suffix_19 v_steps v_fault v_hasProgram a_text a_act a_guess a_take a_begin a_finish a_to1 a_one a_two a_what_9 a_ats a_atVar a_atNumber a_atomSort a_atomKind a_atomValue (3 : Int32) v_wrongAt_19 v_variable v_number v_numberKind v_takes a_out v_outed a_varSort a_varKind a_varValue a_creature v_creatures a_arrayClass a_arrayFrom a_arrayLong v_arrays v_cells a_cellSort a_cellKind a_cellValue a_asideSort a_asideKind a_asideValue a_outcome v_marks v_came v_guessed v_right v_taken a_markSort a_markKind a_markClass a_markValue v_sort v_kindAt v_value a_index v_reached v_looked) := hD
              refine lv_aload_n hx hb dX10_readClass_80 rfl (lv_at hl 0 rfl) ?_
              refine lv_iload_n hx hb dX10_readClass_81 rfl (lv_at hl 2 rfl) ?_
              refine va_put (D := D) (ci := 9) (v := .int v_from) (ty := .int) (C := RX10) (T := TX10) (N := 71) hx hb hts hin tyX10 tyX10_ok nmX10 hown hK hP hD hS 0 rfl rfl 32 (by decide) k_22_17 (fun _ h9 => h9) rfl (by decide +kernel) rfl rfl (Nat.le_of_ble_eq_true rfl) dX10_readClass_82 (fun H locs hP hD hS => ?_)
              have hP : va_P D vwCl (mw cs q v_thrown a_tape v_taped v_size v_to_19 v_kind_19 v_from_19 v_letters_19 v_letterMany_19 v_digits_19 v_isBeyond_19 v_suffix_19 v_steps v_fault v_hasProgram a_text a_act a_guess a_take a_begin a_finish a_to1 a_one a_two a_what_9 a_ats a_atVar a_atNumber a_atomSort a_atomKind a_atomValue (3 : Int32) v_from v_variable v_number v_numberKind v_takes a_out v_outed a_varSort a_varKind a_varValue a_creature v_creatures a_arrayClass a_arrayFrom a_arrayLong v_arrays v_cells a_cellSort a_cellKind a_cellValue a_asideSort a_asideKind a_asideValue a_outcome v_marks v_came v_guessed v_right v_taken a_markSort a_markKind a_markClass a_markValue v_sort v_kindAt v_value a_index v_reached v_looked) H := hP
              have hD : va_D A (mw cs q v_thrown a_tape v_taped v_size v_to_19 v_kind_19 v_from_19 v_letters_19 v_letterMany_19 v_digits_19 v_isBeyond_19 v_suffix_19 v_steps v_fault v_hasProgram a_text a_act a_guess a_take a_begin a_finish a_to1 a_one a_two a_what_9 a_ats a_atVar a_atNumber a_atomSort a_atomKind a_atomValue (3 : Int32) v_from v_variable v_number v_numberKind v_takes a_out v_outed a_varSort a_varKind a_varValue a_creature v_creatures a_arrayClass a_arrayFrom a_arrayLong v_arrays v_cells a_cellSort a_cellKind a_cellValue a_asideSort a_asideKind a_asideValue a_outcome v_marks v_came v_guessed v_right v_taken a_markSort a_markKind a_markClass a_markValue v_sort v_kindAt v_value a_index v_reached v_looked) := hD
              refine lv_iconst (v := 0) hx hb dX10_readClass_85 (by decide) ?_
              subst hAe
              rw [hQ]
              exact W.zret (v := 0) hx hb hr (by decide) (fun t ht hW => ⟨⟨0, _, rfl, ⟨v_to_19, v_kind_19, v_from_19, v_letters_19, v_letterMany_19, v_digits_19, v_isBeyond_19, v_suffix_19, a_what_9, (3 : Int32), v_from, rfl, by first | assumption | omega | (intros; omega) | decide, by first | assumption | omega | (intros; omega) | decide, by first | assumption | omega | (intros; omega) | decide, by first | assumption | omega | (intros; omega) | decide, by first | assumption | exact SAME.rf _ _ | exact SAME.trans (by assumption) (by assumption) | exact SAME.trans (by assumption) (SAME.trans (by assumption) (by assumption))⟩, by rw [ht]; exact hP, va_K.moved hW.alike hK, hD⟩, hS.F ht⟩) hS.2.2 dX10_readClass_86
        · skip
          refine lv_iload_n hx hb dX10_readClass_28 rfl (lv_at hl 3 rfl) ?_
          refine lv_iconst (v := 3) hx hb dX10_readClass_29 (by decide) ?_
          refine m_icmp_ne (X := l3_19.toInt) (Y := 3) (tgt := 39) hx hb dX10_readClass_30 (by decide) rfl (by decide) (fun c30 => ?_) (fun c30 => ?_)
          · skip
            refine lv_aload_n hx hb dX10_readClass_39 rfl (lv_at hl 0 rfl) ?_
            refine call_v (As := []) (rest := []) ⟨hx, hb, hml, hown, hts⟩ (tX10_goB (l := l)  (by first | assumption | exact LX.z (by assumption))) (cwV 0 hts (gV (wr22 _ (List.mem_of_getElem? (i := 20) rfl)) (wr22 _ (List.mem_of_getElem? (i := 21) rfl)) (wr22 _ (List.mem_of_getElem? (i := 22) rfl)) (wr1 _ (List.mem_of_getElem? (i := 5) rfl)) (wr22 _ (List.mem_of_getElem? (i := 23) rfl))) rfl rfl rfl (by decide +kernel) ⟨Nat.le_of_ble_eq_true rfl, Nat.le_of_ble_eq_true rfl⟩) (va_recv hK hP (ci := 9) (q0 := 0) rfl rfl) hK hP hD hE hS hA rfl hl.1 rfl (Nat.le_of_ble_eq_true rfl) dX10_readClass_40 ⟨Nat.le_of_ble_eq_true rfl, Nat.le_of_ble_eq_true rfl⟩ (fun w9 H locs hw40 hP hD hS => ?_)
            obtain ⟨v_to_40, v_kind_40, v_from_40, v_letters_40, v_letterMany_40, v_digits_40, v_isBeyond_40, v_suffix_40, rfl, hw40_0, hw40_1, hw40_2⟩ := hw40
            have b_v_to_40 := iB v_to_40
            have b_v_kind_40 := iB v_kind_40
            have b_v_from_40 := iB v_from_40
            have b_v_letters_40 := jB v_letters_40
            have b_v_letterMany_40 := iB v_letterMany_40
            have b_v_digits_40 := jB v_digits_40
            have b_v_isBeyond_40 := iB v_isBeyond_40
            have b_v_suffix_40 := iB v_suffix_40
            refine lv_aload_n hx hb dX10_readClass_43 rfl (lv_at hl 0 rfl) ?_
            refine lv_bipush (v := 93) hx hb dX10_readClass_44 (by decide) ?_
            refine call_i (As := [.int 93]) (rest := []) ⟨hx, hb, hml, hown, hts⟩ (tX10_sign (l := l) (93 : Int32) (by first | assumption | omega | (intros; omega) | decide)) (cwV 1 hts (gV (wr26 _ (List.mem_of_getElem? (i := 15) rfl)) (wr26 _ (List.mem_of_getElem? (i := 16) rfl)) (wr26 _ (List.mem_of_getElem? (i := 17) rfl)) (wr1 _ (List.mem_of_getElem? (i := 5) rfl)) (wr26 _ (List.mem_of_getElem? (i := 18) rfl))) rfl rfl rfl (by decide +kernel) ⟨Nat.le_of_ble_eq_true rfl, Nat.le_of_ble_eq_true rfl⟩) (va_recv hK hP (ci := 9) (q0 := 0) rfl rfl) hK hP hD hE hS hA rfl hl.1 rfl (Nat.le_of_ble_eq_true rfl) dX10_readClass_46 ⟨Nat.le_of_ble_eq_true rfl, Nat.le_of_ble_eq_true rfl⟩ (fun r46 w9 H locs hw46 hP hD hS => ?_)
            obtain ⟨v_to_46, v_kind_46, v_from_46, v_letters_46, v_letterMany_46, v_digits_46, v_isBeyond_46, v_suffix_46, v_wrong_46, v_wrongAt_46, rfl, hw46_0, hw46_1, hw46_2, hw46_3⟩ := hw46
            have b_v_to_46 := iB v_to_46
            have b_v_kind_46 := iB v_kind_46
            have b_v_from_46 := iB v_from_46
            have b_v_letters_46 := jB v_letters_46
            have b_v_letterMany_46 := iB v_letterMany_46
            have b_v_digits_46 := jB v_digits_46
            have b_v_isBeyond_46 := iB v_isBeyond_46
            have b_v_suffix_46 := iB v_suffix_46
            have b_v_wrong_46 := iB v_wrong_46
            have b_v_wrongAt_46 := iB v_wrongAt_46
            have b_r46 := iB r46
            refine m_if_ne (X := r46.toInt) (tgt := 54) hx hb dX10_readClass_49 (by decide) rfl (fun c49 => ?_) (fun c49 => ?_)
            · skip
              obtain ⟨x54, e_x54⟩ : ∃ z : Int32, z = l3_19 + (1 : Int32) := ⟨_, rfl⟩
              obtain ⟨k_x54, g_x54⟩ : ∃ k : Int, x54.toInt = l3_19.toInt + (1) + k * 4294967296 := by rw [e_x54]; exact iAdd l3_19 (1)
              have b_x54 := iB x54
              try (have q_x54 : x54.toInt = l3_19.toInt + (1) := (by omega); clear g_x54 k_x54)
              refine lv_iinc (v := x54) (lv' := [(3, .int x54), (0, .ref (q 0)), (1, .int s9), (2, .int v_from)]) hx hb dX10_readClass_54 hl (k := 3) rfl (by rw [e_x54]; rfl) (by decide) rfl (fun ls hl => ?_)
              refine lv_goto (tgt := 19) hx hb dX10_readClass_57 (by decide) ?_
              exact ih19 x54 v_to_46 v_digits_46 v_from_46 v_isBeyond_46 v_kind_46 v_letterMany_46 v_letters_46 v_suffix_46 v_wrong_46 v_wrongAt_46 H locs ls (by first | assumption | omega | (intros; omega) | decide) (by first | assumption | omega | (intros; omega) | decide) (by first | assumption | omega | (intros; omega) | decide) (by first | assumption | omega | (intros; omega) | decide) (by first | assumption | omega | (intros; omega) | decide) (by omega) hP hD hS (lv_sub hl [1, 2, 3, 0] rfl)
            · skip
              refine lv_iconst (v := 0) hx hb dX10_readClass_52 (by decide) ?_
              subst hAe
              rw [hQ]
              exact W.zret (v := 0) hx hb hr (by decide) (fun t ht hW => ⟨⟨0, _, rfl, ⟨v_to_46, v_kind_46, v_from_46, v_letters_46, v_letterMany_46, v_digits_46, v_isBeyond_46, v_suffix_46, a_what_9, v_wrong_46, v_wrongAt_46, rfl, by first | assumption | omega | (intros; omega) | decide, by first | assumption | omega | (intros; omega) | decide, by first | assumption | omega | (intros; omega) | decide, by first | assumption | omega | (intros; omega) | decide, by first | assumption | exact SAME.rf _ _ | exact SAME.trans (by assumption) (by assumption) | exact SAME.trans (by assumption) (SAME.trans (by assumption) (by assumption))⟩, by rw [ht]; exact hP, va_K.moved hW.alike hK, hD⟩, hS.F ht⟩) hS.2.2 dX10_readClass_53
          · skip
            refine lv_aload_n hx hb dX10_readClass_33 rfl (lv_at hl 0 rfl) ?_
            refine lv_iconst (v := 4) hx hb dX10_readClass_34 (by decide) ?_
            refine call_i (As := [.int 4]) (rest := []) ⟨hx, hb, hml, hown, hts⟩ (tX10_bad (l := l) (4 : Int32)) (cwV 1 hts (gV (wr25 _ (List.mem_of_getElem? (i := 0) rfl)) (wr25 _ (List.mem_of_getElem? (i := 1) rfl)) (wr25 _ (List.mem_of_getElem? (i := 2) rfl)) (wr1 _ (List.mem_of_getElem? (i := 5) rfl)) (wr25 _ (List.mem_of_getElem? (i := 3) rfl))) rfl rfl rfl (by decide +kernel) ⟨Nat.le_of_ble_eq_true rfl, Nat.le_of_ble_eq_true rfl⟩) (va_recv hK hP (ci := 9) (q0 := 0) rfl rfl) hK hP hD hE hS hA rfl hl.1 rfl (Nat.le_of_ble_eq_true rfl) dX10_readClass_35 ⟨Nat.le_of_ble_eq_true rfl, Nat.le_of_ble_eq_true rfl⟩ (fun r35 w9 H locs hw35 hP hD hS => ?_)
            obtain ⟨v_wrong_35, v_wrongAt_35, rfl, hw35_0⟩ := hw35
            have b_v_wrong_35 := iB v_wrong_35
            have b_v_wrongAt_35 := iB v_wrongAt_35
            have b_r35 := iB r35
            subst hAe
            rw [hQ]
            exact W.zret (v := r35) hx hb hr (nbool (by first | omega | decide)) (fun t ht hW => ⟨⟨r35, _, rfl, ⟨v_to_19, v_kind_19, v_from_19, v_letters_19, v_letterMany_19, v_digits_19, v_isBeyond_19, v_suffix_19, a_what_9, v_wrong_35, v_wrongAt_35, rfl, by first | assumption | omega | (intros; omega) | decide, by first | assumption | omega | (intros; omega) | decide, by first | assumption | omega | (intros; omega) | decide, by first | assumption | omega | (intros; omega) | decide, by first | assumption | exact SAME.rf _ _ | exact SAME.trans (by assumption) (by assumption) | exact SAME.trans (by assumption) (SAME.trans (by assumption) (by assumption))⟩, by rw [ht]; exact hP, va_K.moved hW.alike hK, hD⟩, hS.F ht⟩) hS.2.2 dX10_readClass_38
    exact J19 ((3 - (0 : Int32).toInt).toNat + 1) (0 : Int32) v_to_9 v_digits_9 v_from_9 v_isBeyond_9 v_kind_9 v_letterMany_9 v_letters_9 v_suffix_9 v_wrong_9 v_wrongAt_9 H locs ls (by first | assumption | omega | (intros; omega) | decide) (by first | assumption | omega | (intros; omega) | decide) (by first | assumption | omega | (intros; omega) | decide) (by first | assumption | omega | (intros; omega) | decide) (by first | assumption | omega | (intros; omega) | decide) (by omega) hP hD hS (lv_sub hl [2, 3, 1, 0] rfl)
  · skip
    refine lv_iconst (v := 0) hx hb dX10_readClass_15 (by decide) ?_
    subst hAe
    rw [hQ]
    exact W.zret (v := 0) hx hb hr (by decide) (fun t ht hW => ⟨⟨0, _, rfl, ⟨v_to_9, v_kind_9, v_from_9, v_letters_9, v_letterMany_9, v_digits_9, v_isBeyond_9, v_suffix_9, a_what_9, v_wrong_9, v_wrongAt_9, rfl, by first | assumption | omega | (intros; omega) | decide, by first | assumption | omega | (intros; omega) | decide, by first | assumption | omega | (intros; omega) | decide, by first | assumption | omega | (intros; omega) | decide, by first | assumption | exact SAME.rf _ _ | exact SAME.trans (by assumption) (by assumption) | exact SAME.trans (by assumption) (SAME.trans (by assumption) (by assumption))⟩, by rw [ht]; exact hP, va_K.moved hW.alike hK, hD⟩, hS.F ht⟩) hS.2.2 dX10_readClass_16

def rmX10_readLengths : Room := { frames := 120, cells := 0, slots := 0, locals := 2400 }
set_option maxHeartbeats 4000000 in
set_option maxRecDepth 100000 in
theorem tX10_readLengths {l : Launch} {D : va_G} {K : Nat → Nat → Nat} {cs : Nat → ClassId} {q : Nat → Nat} {v_thrown v_taped v_size v_to v_kind v_from v_letterMany v_isBeyond v_suffix v_steps v_fault v_hasProgram v_wrong v_wrongAt v_variable v_numberKind v_takes v_outed v_creatures v_arrays v_cells v_marks v_came v_guessed v_right v_taken v_sort v_kindAt v_reached v_looked : Int32} {a_tape a_text a_act a_guess a_take a_begin a_finish a_to1 a_one a_two a_what a_ats a_atVar a_atNumber a_atomSort a_atomKind a_out a_varSort a_varKind a_creature a_arrayClass a_arrayFrom a_arrayLong a_cellSort a_cellKind a_asideSort a_asideKind a_outcome a_markSort a_markKind a_markClass a_index : Nat → Int32} {v_letters v_digits v_number v_value : Int64} {a_atomValue a_varValue a_cellValue a_asideValue a_markValue : Nat → Int64} (s9 : Int32) (p_0 : LX a_tape v_size v_to v_from v_kind v_letters v_letterMany v_isBeyond) (p_1 : 0 ≤ v_variable.toInt ∧ v_variable.toInt ≤ 25) (p_2 : NumOK v_numberKind v_number) (p_3 : Rm25 a_atVar) (p_4 : 0 ≤ s9.toInt) (p_5 : s9.toInt ≤ 201) (p_6 : R03 a_ats) (p_7 : 0 ≤ (a_what s9.toNatClampNeg).toInt) (p_8 : (a_what s9.toNatClampNeg).toInt ≤ 16) : CtI l yX10_readLengths (wG yX10_readLengths cX10_readLengths 5 (some .boolean)) rmX10_readLengths D (mwT cs) K [.ref (q 0), .int s9] (mw cs q v_thrown a_tape v_taped v_size v_to v_kind v_from v_letters v_letterMany v_digits v_isBeyond v_suffix v_steps v_fault v_hasProgram a_text a_act a_guess a_take a_begin a_finish a_to1 a_one a_two a_what a_ats a_atVar a_atNumber a_atomSort a_atomKind a_atomValue v_wrong v_wrongAt v_variable v_number v_numberKind v_takes a_out v_outed a_varSort a_varKind a_varValue a_creature v_creatures a_arrayClass a_arrayFrom a_arrayLong v_arrays v_cells a_cellSort a_cellKind a_cellValue a_asideSort a_asideKind a_asideValue a_outcome v_marks v_came v_guessed v_right v_taken a_markSort a_markKind a_markClass a_markValue v_sort v_kindAt v_value a_index v_reached v_looked) (fun r w1 => ∃ (v_to' : Int32) (v_kind' : Int32) (v_from' : Int32) (v_letters' : Int64) (v_letterMany' : Int32) (v_digits' : Int64) (v_isBeyond' : Int32) (v_suffix' : Int32) (a_what' : Nat → Int32) (a_ats' : Nat → Int32) (a_atVar' : Nat → Int32) (a_atNumber' : Nat → Int32) (v_wrong' : Int32) (v_wrongAt' : Int32) (v_variable' : Int32) (v_number' : Int64) (v_numberKind' : Int32), w1 = (mw cs q v_thrown a_tape v_taped v_size v_to' v_kind' v_from' v_letters' v_letterMany' v_digits' v_isBeyond' v_suffix' v_steps v_fault v_hasProgram a_text a_act a_guess a_take a_begin a_finish a_to1 a_one a_two a_what' a_ats' a_atVar' a_atNumber' a_atomSort a_atomKind a_atomValue v_wrong' v_wrongAt' v_variable' v_number' v_numberKind' v_takes a_out v_outed a_varSort a_varKind a_varValue a_creature v_creatures a_arrayClass a_arrayFrom a_arrayLong v_arrays v_cells a_cellSort a_cellKind a_cellValue a_asideSort a_asideKind a_asideValue a_outcome v_marks v_came v_guessed v_right v_taken a_markSort a_markKind a_markClass a_markValue v_sort v_kindAt v_value a_index v_reached v_looked) ∧ (LX a_tape v_size v_to' v_from' v_kind' v_letters' v_letterMany' v_isBeyond') ∧ (v_to.toInt ≤ v_to'.toInt) ∧ (ph a_tape v_to' ≤ ph a_tape v_to + 12) ∧ (0 ≤ v_variable'.toInt ∧ v_variable'.toInt ≤ 25) ∧ (NumOK v_numberKind' v_number') ∧ (Rm25 a_atVar') ∧ (R03 a_ats') ∧ (SAME a_ats' a_ats s9.toNatClampNeg) ∧ (SAME a_what' a_what s9.toNatClampNeg) ∧ ((r.toInt = 1 ∧ 1 ≤ (a_ats' s9.toNatClampNeg).toInt ∧ 20 * (a_ats' s9.toNatClampNeg).toInt ≤ (a_what' s9.toNatClampNeg).toInt ∧ (a_what' s9.toNatClampNeg).toInt ≤ 79) ∨ r.toInt = 0)) 0 0 := by
  intro sz
  refine Met.ofW (cc := cX10_readLengths) (maxL := 5) (ret := (some .boolean)) (by decide) rfl ?_
  intro p e s m args below meth c s₁ B hml hv
  obtain ⟨rfl, hsz, hP, hK, hD0, hE⟩ := hv
  have hx := B.exec
  have hb := B.bytes
  have hr := B.returns
  have hts := atoms_spec (ws := (wG yX10_readLengths cX10_readLengths 5 (some .boolean))) B.pre
  have hown : s.vm.findClass RX10 = some m.cls := findClass_of_methodNamed B.named
  have hlocks := B.notSynchronized
  subst hsz
  have hD := hD0.self (sz := s.heap.size)
  obtain ⟨A, hAe⟩ : ∃ A : Nat → Prop, A = va_A (mw cs q v_thrown a_tape v_taped v_size v_to v_kind v_from v_letters v_letterMany v_digits v_isBeyond v_suffix v_steps v_fault v_hasProgram a_text a_act a_guess a_take a_begin a_finish a_to1 a_one a_two a_what a_ats a_atVar a_atNumber a_atomSort a_atomKind a_atomValue v_wrong v_wrongAt v_variable v_number v_numberKind v_takes a_out v_outed a_varSort a_varKind a_varValue a_creature v_creatures a_arrayClass a_arrayFrom a_arrayLong v_arrays v_cells a_cellSort a_cellKind a_cellValue a_asideSort a_asideKind a_asideValue a_outcome v_marks v_came v_guessed v_right v_taken a_markSort a_markKind a_markClass a_markValue v_sort v_kindAt v_value a_index v_reached v_looked) s.heap.size := ⟨_, rfl⟩
  rw [← hAe] at hD hE
  have hA : ∀ q : Nat, s.heap.size ≤ q → A q := fun q h => by rw [hAe]; exact Or.inr h
  have hS : va_S A s.heap s.heap [] := va_S.rf
  have hl := lv_entry ([.ref (q 0), .int s9]) (n := 5) (Nat.le_of_ble_eq_true rfl)
  rw [lg_entry_eq]
  generalize (lg_sl ([.ref (q 0), .int s9]) ++ List.replicate (5 - (lg_sl ([.ref (q 0), .int s9])).length) Slot.unset).toArray = ls at hl ⊢
  have hl : lv_has ls 5 [(0, .ref (q 0)), (1, .int s9)] := hl
  refine wq (fun Q hQ => ?_)
  have hin : ∀ w ∈ wsX100, w ∈ (wG yX10_readLengths cX10_readLengths 5 (some .boolean)) := fun w h => List.mem_cons_of_mem _ (inlX10 w h)
  have kc0 : (0 : Int32).toInt = 0 := by decide
  have kc1 : (1 : Int32).toInt = 1 := by decide
  have kc2 : (2 : Int32).toInt = 2 := by decide
  have kc3 : (3 : Int32).toInt = 3 := by decide
  have kc4 : (4 : Int32).toInt = 4 := by decide
  have kc5 : (20 : Int32).toInt = 20 := by decide
  have kc6 : (91 : Int32).toInt = 91 := by decide
  have kc7 : (93 : Int32).toInt = 93 := by decide
  have k_5_18 := hts (.fieldLink RX10 43 "ArrayTrainerModel" "ats" "[I") (List.mem_cons_of_mem _ (wr5 _ (List.mem_of_getElem? (i := 18) rfl)))
  have k_5_17 := hts (.fieldLink RX10 40 "ArrayTrainerModel" "what" "[I") (List.mem_cons_of_mem _ (wr5 _ (List.mem_of_getElem? (i := 17) rfl)))
  obtain ⟨H, hH⟩ : ∃ H : Heap, H = s.heap := ⟨_, rfl⟩
  obtain ⟨locs, hlc⟩ : ∃ L : List Loc, L = [] := ⟨_, rfl⟩
  have hP : va_P D vwCl (mw cs q v_thrown a_tape v_taped v_size v_to v_kind v_from v_letters v_letterMany v_digits v_isBeyond v_suffix v_steps v_fault v_hasProgram a_text a_act a_guess a_take a_begin a_finish a_to1 a_one a_two a_what a_ats a_atVar a_atNumber a_atomSort a_atomKind a_atomValue v_wrong v_wrongAt v_variable v_number v_numberKind v_takes a_out v_outed a_varSort a_varKind a_varValue a_creature v_creatures a_arrayClass a_arrayFrom a_arrayLong v_arrays v_cells a_cellSort a_cellKind a_cellValue a_asideSort a_asideKind a_asideValue a_outcome v_marks v_came v_guessed v_right v_taken a_markSort a_markKind a_markClass a_markValue v_sort v_kindAt v_value a_index v_reached v_looked) H := by rw [hH]; exact hP
  have hS : va_S A s.heap H locs := by rw [hH, hlc]; exact hS
  refine wHL hH hlc ?_
  have b_s9 := iB s9
  refine lv_iconst (v := 0) hx hb dX10_readLengths_0 (by decide) ?_
  refine lv_istore_n (lv' := [(2, .int 0), (0, .ref (q 0)), (1, .int s9)]) hx hb dX10_readLengths_1 rfl hl (by decide) rfl (fun ls hl => ?_)
  refine lv_iconst (v := 0) hx hb dX10_readLengths_2 (by decide) ?_
  refine lv_istore_n (lv' := [(3, .int 0), (2, .int 0), (0, .ref (q 0)), (1, .int s9)]) hx hb dX10_readLengths_3 rfl hl (by decide) rfl (fun ls hl => ?_)
  refine lv_iconst (v := 1) hx hb dX10_readLengths_4 (by decide) ?_
  refine lv_istore (lv' := [(4, .int 1), (3, .int 0), (2, .int 0), (0, .ref (q 0)), (1, .int s9)]) hx hb dX10_readLengths_5 hl (by decide) rfl (fun ls hl => ?_)
  refine lv_aload_n hx hb dX10_readLengths_7 rfl (lv_at hl 3 rfl) ?_
  refine lv_bipush (v := 91) hx hb dX10_readLengths_8 (by decide) ?_
  refine call_i (As := [.int 91]) (rest := []) ⟨hx, hb, hml, hown, hts⟩ (tX10_isSign (l := l) (91 : Int32)) (cwV 1 hts (gV (wr26 _ (List.mem_of_getElem? (i := 3) rfl)) (wr26 _ (List.mem_of_getElem? (i := 4) rfl)) (wr26 _ (List.mem_of_getElem? (i := 5) rfl)) (wr1 _ (List.mem_of_getElem? (i := 5) rfl)) (wr26 _ (List.mem_of_getElem? (i := 6) rfl))) rfl rfl rfl (by decide +kernel) ⟨Nat.le_of_ble_eq_true rfl, Nat.le_of_ble_eq_true rfl⟩) (va_recv hK hP (ci := 9) (q0 := 0) rfl rfl) hK hP hD hE hS hA rfl hl.1 rfl (Nat.le_of_ble_eq_true rfl) dX10_readLengths_10 ⟨Nat.le_of_ble_eq_true rfl, Nat.le_of_ble_eq_true rfl⟩ (fun r10 w9 H locs hw10 hP hD hS => ?_)
  obtain ⟨rfl, hw10_0⟩ := hw10
  have b_r10 := iB r10
  have J22 : ∀ (n22 : Nat) (l2_22 : Int32) (l3_22 : Int32) (l4_22 : Int32) (v_to_22 : Int32) (a_atNumber_22 : Nat → Int32) (a_atVar_22 : Nat → Int32) (v_digits_22 : Int64) (v_from_22 : Int32) (v_isBeyond_22 : Int32) (v_kind_22 : Int32) (v_letterMany_22 : Int32) (v_letters_22 : Int64) (v_number_22 : Int64) (v_numberKind_22 : Int32) (v_suffix_22 : Int32) (v_variable_22 : Int32) (v_wrong_22 : Int32) (v_wrongAt_22 : Int32) (H : Heap) (locs : List Loc) (ls : Array Slot), (0 ≤ l2_22.toInt) → (l2_22.toInt ≤ 3) → (0 ≤ l3_22.toInt) → (l3_22.toInt ≤ l2_22.toInt) → (1 ≤ l2_22.toInt → 1 ≤ l3_22.toInt) → (l2_22.toInt = 0 → v_kind_22.toInt = 4 ∧ v_letters_22.toInt = 91) → (LX a_tape v_size v_to_22 v_from_22 v_kind_22 v_letters_22 v_letterMany_22 v_isBeyond_22) → (v_to.toInt ≤ v_to_22.toInt) → ((ph a_tape v_to_22 : Int) ≤ ph a_tape v_to + 4 * l2_22.toInt) → (0 ≤ v_variable_22.toInt ∧ v_variable_22.toInt ≤ 25) → (NumOK v_numberKind_22 v_number_22) → (Rm25 a_atVar_22) → (3 - l2_22.toInt < (n22 : Int)) → va_P D vwCl (mw cs q v_thrown a_tape v_taped v_size v_to_22 v_kind_22 v_from_22 v_letters_22 v_letterMany_22 v_digits_22 v_isBeyond_22 v_suffix_22 v_steps v_fault v_hasProgram a_text a_act a_guess a_take a_begin a_finish a_to1 a_one a_two a_what a_ats a_atVar_22 a_atNumber_22 a_atomSort a_atomKind a_atomValue v_wrong_22 v_wrongAt_22 v_variable_22 v_number_22 v_numberKind_22 v_takes a_out v_outed a_varSort a_varKind a_varValue a_creature v_creatures a_arrayClass a_arrayFrom a_arrayLong v_arrays v_cells a_cellSort a_cellKind a_cellValue a_asideSort a_asideKind a_asideValue a_outcome v_marks v_came v_guessed v_right v_taken a_markSort a_markKind a_markClass a_markValue v_sort v_kindAt v_value a_index v_reached v_looked) H → va_D A (mw cs q v_thrown a_tape v_taped v_size v_to_22 v_kind_22 v_from_22 v_letters_22 v_letterMany_22 v_digits_22 v_isBeyond_22 v_suffix_22 v_steps v_fault v_hasProgram a_text a_act a_guess a_take a_begin a_finish a_to1 a_one a_two a_what a_ats a_atVar_22 a_atNumber_22 a_atomSort a_atomKind a_atomValue v_wrong_22 v_wrongAt_22 v_variable_22 v_number_22 v_numberKind_22 v_takes a_out v_outed a_varSort a_varKind a_varValue a_creature v_creatures a_arrayClass a_arrayFrom a_arrayLong v_arrays v_cells a_cellSort a_cellKind a_cellValue a_asideSort a_asideKind a_asideValue a_outcome v_marks v_came v_guessed v_right v_taken a_markSort a_markKind a_markClass a_markValue v_sort v_kindAt v_value a_index v_reached v_looked) → va_S A s.heap H locs → lv_has ls 5 [(0, .ref (q 0)), (1, .int s9), (2, .int l2_22), (3, .int l3_22), (4, .int l4_22)] → W p l e (headSpec (wG yX10_readLengths cX10_readLengths 5 (some .boolean)) rmX10_readLengths).room s m ([.ref (q 0), .int s9] : List Value).toArray below meth c H locs 0 0 Q (F0 m 22 ls []) := by
    intro n22
    induction n22 with
    | zero =>
      intro l2_22 l3_22 l4_22 v_to_22 a_atNumber_22 a_atVar_22 v_digits_22 v_from_22 v_isBeyond_22 v_kind_22 v_letterMany_22 v_letters_22 v_number_22 v_numberKind_22 v_suffix_22 v_variable_22 v_wrong_22 v_wrongAt_22 H locs ls f22_0 f22_1 f22_2 f22_3 f22_4 f22_5 f22_6 f22_7 f22_8 f22_9 f22_10 f22_11 hm22
      exfalso
      omega
    | succ n22 ih22 =>
      intro l2_22 l3_22 l4_22 v_to_22 a_atNumber_22 a_atVar_22 v_digits_22 v_from_22 v_isBeyond_22 v_kind_22 v_letterMany_22 v_letters_22 v_number_22 v_numberKind_22 v_suffix_22 v_variable_22 v_wrong_22 v_wrongAt_22 H locs ls f22_0 f22_1 f22_2 f22_3 f22_4 f22_5 f22_6 f22_7 f22_8 f22_9 f22_10 f22_11 hm22 hP hD hS hl
      refine lv_aload_n hx hb dX10_readLengths_22 rfl (lv_at hl 0 rfl) ?_
      refine lv_bipush (v := 91) hx hb dX10_readLengths_23 (by decide) ?_
      refine call_i (As := [.int 91]) (rest := []) ⟨hx, hb, hml, hown, hts⟩ (tX10_isSign (l := l) (91 : Int32)) (cwV 1 hts (gV (wr26 _ (List.mem_of_getElem? (i := 3) rfl)) (wr26 _ (List.mem_of_getElem? (i := 4) rfl)) (wr26 _ (List.mem_of_getElem? (i := 5) rfl)) (wr1 _ (List.mem_of_getElem? (i := 5) rfl)) (wr26 _ (List.mem_of_getElem? (i := 6) rfl))) rfl rfl rfl (by decide +kernel) ⟨Nat.le_of_ble_eq_true rfl, Nat.le_of_ble_eq_true rfl⟩) (va_recv hK hP (ci := 9) (q0 := 0) rfl rfl) hK hP hD hE hS hA rfl hl.1 rfl (Nat.le_of_ble_eq_true rfl) dX10_readLengths_25 ⟨Nat.le_of_ble_eq_true rfl, Nat.le_of_ble_eq_true rfl⟩ (fun r25 w9 H locs hw25 hP hD hS => ?_)
      obtain ⟨rfl, hw25_0⟩ := hw25
      have b_r25 := iB r25
      refine m_if_eq (X := r25.toInt) (tgt := 107) hx hb dX10_readLengths_28 (by decide) rfl (fun c28 => ?_) (fun c28 => ?_)
      · skip
        refine lv_aload_n hx hb dX10_readLengths_107 rfl (lv_at hl 0 rfl) ?_
        refine va_get (D := D) (ci := 9) (v := .ref (q 12)) (C := RX10) (T := TX10) (N := 71) hx hb hts hin hown hK hP 0 rfl rfl 25 (by decide) k_5_18 (fun _ h9 => h9) rfl dX10_readLengths_108 ?_
        refine lv_iload_n hx hb dX10_readLengths_111 rfl (lv_at hl 1 rfl) ?_
        refine lv_iload_n hx hb dX10_readLengths_112 rfl (lv_at hl 3 rfl) ?_
        refine va_iast hx hb hK hP hD hS 12 0 rfl rfl (ix (by omega) (by omega)) dX10_readLengths_113 (fun H locs hP hD hS => ?_)
        obtain ⟨a_ats_113, e_a_ats_113⟩ : ∃ g, g = upd a_ats s9.toNatClampNeg l3_22 := ⟨_, rfl⟩
        have hP : va_P D vwCl (mw cs q v_thrown a_tape v_taped v_size v_to_22 v_kind_22 v_from_22 v_letters_22 v_letterMany_22 v_digits_22 v_isBeyond_22 v_suffix_22 v_steps v_fault v_hasProgram a_text a_act a_guess a_take a_begin a_finish a_to1 a_one a_two a_what a_ats_113 a_atVar_22 a_atNumber_22 a_atomSort a_atomKind a_atomValue v_wrong_22 v_wrongAt_22 v_variable_22 v_number_22 v_numberKind_22 v_takes a_out v_outed a_varSort a_varKind a_varValue a_creature v_creatures a_arrayClass a_arrayFrom a_arrayLong v_arrays v_cells a_cellSort a_cellKind a_cellValue a_asideSort a_asideKind a_asideValue a_outcome v_marks v_came v_guessed v_right v_taken a_markSort a_markKind a_markClass a_markValue v_sort v_kindAt v_value a_index v_reached v_looked) H := by rw [e_a_ats_113]; exact hP
        have hD : va_D A (mw cs q v_thrown a_tape v_taped v_size v_to_22 v_kind_22 v_from_22 v_letters_22 v_letterMany_22 v_digits_22 v_isBeyond_22 v_suffix_22 v_steps v_fault v_hasProgram a_text a_act a_guess a_take a_begin a_finish a_to1 a_one a_two a_what a_ats_113 a_atVar_22 a_atNumber_22 a_atomSort a_atomKind a_atomValue v_wrong_22 v_wrongAt_22 v_variable_22 v_number_22 v_numberKind_22 v_takes a_out v_outed a_varSort a_varKind a_varValue a_creature v_creatures a_arrayClass a_arrayFrom a_arrayLong v_arrays v_cells a_cellSort a_cellKind a_cellValue a_asideSort a_asideKind a_asideValue a_outcome v_marks v_came v_guessed v_right v_taken a_markSort a_markKind a_markClass a_markValue v_sort v_kindAt v_value a_index v_reached v_looked) := by rw [e_a_ats_113]; exact hD
        refine lv_aload_n hx hb dX10_readLengths_114 rfl (lv_at hl 0 rfl) ?_
        refine va_get (D := D) (ci := 9) (v := .ref (q 11)) (C := RX10) (T := TX10) (N := 71) hx hb hts hin hown hK hP 0 rfl rfl 24 (by decide) k_5_17 (fun _ h9 => h9) rfl dX10_readLengths_115 ?_
        refine lv_iload_n hx hb dX10_readLengths_118 rfl (lv_at hl 1 rfl) ?_
        refine lv_dup2_11 hx hb dX10_readLengths_119 rfl rfl ?_
        refine m_iald hx hb hK hP 11 0 rfl rfl (ix (by omega) (by omega)) dX10_readLengths_120 (fun x120 e_x120 => ?_)
        have b_x120 := iB x120
        have hx120 := congrArg Int32.toInt e_x120
        refine lv_bipush (v := 20) hx hb dX10_readLengths_121 (by decide) ?_
        refine lv_iload_n hx hb dX10_readLengths_123 rfl (lv_at hl 2 rfl) ?_
        refine m_imul (X := 20) (Y := l2_22.toInt) hx hb dX10_readLengths_124 (by decide) rfl (fun x124 e_x124 g9 => ?_)
        obtain ⟨k_x124, g_x124⟩ := g9
        have b_x124 := iB x124
        try (have q_x124 : x124.toInt = 20 * l2_22.toInt := (by omega); clear g_x124 k_x124)
        refine m_iadd (X := x120.toInt) (Y := x124.toInt) hx hb dX10_readLengths_125 rfl rfl (fun x125 e_x125 g9 => ?_)
        obtain ⟨k_x125, g_x125⟩ := g9
        have b_x125 := iB x125
        try (have q_x125 : x125.toInt = x120.toInt + x124.toInt := (by omega); clear g_x125 k_x125)
        refine va_iast hx hb hK hP hD hS 11 0 rfl rfl (ix (by omega) (by omega)) dX10_readLengths_126 (fun H locs hP hD hS => ?_)
        obtain ⟨a_what_126, e_a_what_126⟩ : ∃ g, g = upd a_what s9.toNatClampNeg x125 := ⟨_, rfl⟩
        have hP : va_P D vwCl (mw cs q v_thrown a_tape v_taped v_size v_to_22 v_kind_22 v_from_22 v_letters_22 v_letterMany_22 v_digits_22 v_isBeyond_22 v_suffix_22 v_steps v_fault v_hasProgram a_text a_act a_guess a_take a_begin a_finish a_to1 a_one a_two a_what_126 a_ats_113 a_atVar_22 a_atNumber_22 a_atomSort a_atomKind a_atomValue v_wrong_22 v_wrongAt_22 v_variable_22 v_number_22 v_numberKind_22 v_takes a_out v_outed a_varSort a_varKind a_varValue a_creature v_creatures a_arrayClass a_arrayFrom a_arrayLong v_arrays v_cells a_cellSort a_cellKind a_cellValue a_asideSort a_asideKind a_asideValue a_outcome v_marks v_came v_guessed v_right v_taken a_markSort a_markKind a_markClass a_markValue v_sort v_kindAt v_value a_index v_reached v_looked) H := by rw [e_a_what_126]; exact hP
        have hD : va_D A (mw cs q v_thrown a_tape v_taped v_size v_to_22 v_kind_22 v_from_22 v_letters_22 v_letterMany_22 v_digits_22 v_isBeyond_22 v_suffix_22 v_steps v_fault v_hasProgram a_text a_act a_guess a_take a_begin a_finish a_to1 a_one a_two a_what_126 a_ats_113 a_atVar_22 a_atNumber_22 a_atomSort a_atomKind a_atomValue v_wrong_22 v_wrongAt_22 v_variable_22 v_number_22 v_numberKind_22 v_takes a_out v_outed a_varSort a_varKind a_varValue a_creature v_creatures a_arrayClass a_arrayFrom a_arrayLong v_arrays v_cells a_cellSort a_cellKind a_cellValue a_asideSort a_asideKind a_asideValue a_outcome v_marks v_came v_guessed v_right v_taken a_markSort a_markKind a_markClass a_markValue v_sort v_kindAt v_value a_index v_reached v_looked) := by rw [e_a_what_126]; exact hD
        have hr113 : R03 a_ats_113 := R03.upd p_6 (by omega) (by omega) e_a_ats_113
        have hs113 : SAME a_ats_113 a_ats s9.toNatClampNeg := SAME.upd e_a_ats_113 (SAME.rf _ _)
        have hn113 := congrArg Int32.toInt (at_upd e_a_ats_113)
        have hs126 : SAME a_what_126 a_what s9.toNatClampNeg := SAME.upd e_a_what_126 (SAME.rf _ _)
        have hn126 := congrArg Int32.toInt (at_upd e_a_what_126)
        refine lv_iconst (v := 1) hx hb dX10_readLengths_127 (by decide) ?_
        subst hAe
        rw [hQ]
        exact W.zret (v := 1) hx hb hr (by decide) (fun t ht hW => ⟨⟨1, _, rfl, ⟨v_to_22, v_kind_22, v_from_22, v_letters_22, v_letterMany_22, v_digits_22, v_isBeyond_22, v_suffix_22, a_what_126, a_ats_113, a_atVar_22, a_atNumber_22, v_wrong_22, v_wrongAt_22, v_variable_22, v_number_22, v_numberKind_22, rfl, by first | assumption | omega | (intros; omega) | decide, by first | assumption | omega | (intros; omega) | decide, by first | assumption | omega | (intros; omega) | decide, by first | assumption | omega | (intros; omega) | decide, by first | assumption | omega | (intros; omega) | decide, by first | assumption | omega | (intros; omega) | decide, by first | assumption | omega | (intros; omega) | decide, by first | assumption | exact SAME.rf _ _ | exact SAME.trans (by assumption) (by assumption) | exact SAME.trans (by assumption) (SAME.trans (by assumption) (by assumption)), by first | assumption | exact SAME.rf _ _ | exact SAME.trans (by assumption) (by assumption) | exact SAME.trans (by assumption) (SAME.trans (by assumption) (by assumption)), by first | assumption | omega | (intros; omega) | decide⟩, by rw [ht]; exact hP, va_K.moved hW.alike hK, hD⟩, hS.F ht⟩) hS.2.2 dX10_readLengths_128
      · skip
        refine lv_iload_n hx hb dX10_readLengths_31 rfl (lv_at hl 2 rfl) ?_
        refine lv_iconst (v := 3) hx hb dX10_readLengths_32 (by decide) ?_
        refine m_icmp_ne (X := l2_22.toInt) (Y := 3) (tgt := 42) hx hb dX10_readLengths_33 (by decide) rfl (by decide) (fun c33 => ?_) (fun c33 => ?_)
        · skip
          refine lv_aload_n hx hb dX10_readLengths_42 rfl (lv_at hl 0 rfl) ?_
          refine call_v (As := []) (rest := []) ⟨hx, hb, hml, hown, hts⟩ (tX10_goB (l := l)  (by first | assumption | exact LX.z (by assumption))) (cwV 0 hts (gV (wr22 _ (List.mem_of_getElem? (i := 20) rfl)) (wr22 _ (List.mem_of_getElem? (i := 21) rfl)) (wr22 _ (List.mem_of_getElem? (i := 22) rfl)) (wr1 _ (List.mem_of_getElem? (i := 5) rfl)) (wr22 _ (List.mem_of_getElem? (i := 23) rfl))) rfl rfl rfl (by decide +kernel) ⟨Nat.le_of_ble_eq_true rfl, Nat.le_of_ble_eq_true rfl⟩) (va_recv hK hP (ci := 9) (q0 := 0) rfl rfl) hK hP hD hE hS hA rfl hl.1 rfl (Nat.le_of_ble_eq_true rfl) dX10_readLengths_43 ⟨Nat.le_of_ble_eq_true rfl, Nat.le_of_ble_eq_true rfl⟩ (fun w9 H locs hw43 hP hD hS => ?_)
          obtain ⟨v_to_43, v_kind_43, v_from_43, v_letters_43, v_letterMany_43, v_digits_43, v_isBeyond_43, v_suffix_43, rfl, hw43_0, hw43_1, hw43_2⟩ := hw43
          have b_v_to_43 := iB v_to_43
          have b_v_kind_43 := iB v_kind_43
          have b_v_from_43 := iB v_from_43
          have b_v_letters_43 := jB v_letters_43
          have b_v_letterMany_43 := iB v_letterMany_43
          have b_v_digits_43 := jB v_digits_43
          have b_v_isBeyond_43 := iB v_isBeyond_43
          have b_v_suffix_43 := iB v_suffix_43
          refine lv_aload_n hx hb dX10_readLengths_46 rfl (lv_at hl 0 rfl) ?_
          refine lv_bipush (v := 93) hx hb dX10_readLengths_47 (by decide) ?_
          refine call_i (As := [.int 93]) (rest := []) ⟨hx, hb, hml, hown, hts⟩ (tX10_isSign (l := l) (93 : Int32)) (cwV 1 hts (gV (wr26 _ (List.mem_of_getElem? (i := 3) rfl)) (wr26 _ (List.mem_of_getElem? (i := 4) rfl)) (wr26 _ (List.mem_of_getElem? (i := 5) rfl)) (wr1 _ (List.mem_of_getElem? (i := 5) rfl)) (wr26 _ (List.mem_of_getElem? (i := 6) rfl))) rfl rfl rfl (by decide +kernel) ⟨Nat.le_of_ble_eq_true rfl, Nat.le_of_ble_eq_true rfl⟩) (va_recv hK hP (ci := 9) (q0 := 0) rfl rfl) hK hP hD hE hS hA rfl hl.1 rfl (Nat.le_of_ble_eq_true rfl) dX10_readLengths_49 ⟨Nat.le_of_ble_eq_true rfl, Nat.le_of_ble_eq_true rfl⟩ (fun r49 w9 H locs hw49 hP hD hS => ?_)
          obtain ⟨rfl, hw49_0⟩ := hw49
          have b_r49 := iB r49
          have J90 : ∀ (l3_90 : Int32) (l4_90 : Int32) (v_to_90 : Int32) (a_atNumber_90 : Nat → Int32) (a_atVar_90 : Nat → Int32) (v_digits_90 : Int64) (v_from_90 : Int32) (v_isBeyond_90 : Int32) (v_kind_90 : Int32) (v_letterMany_90 : Int32) (v_letters_90 : Int64) (v_number_90 : Int64) (v_numberKind_90 : Int32) (v_suffix_90 : Int32) (v_variable_90 : Int32) (v_wrong_90 : Int32) (v_wrongAt_90 : Int32) (H : Heap) (locs : List Loc) (ls : Array Slot), (1 ≤ l3_90.toInt) → (l3_90.toInt ≤ l2_22.toInt + 1) → (LX a_tape v_size v_to_90 v_from_90 v_kind_90 v_letters_90 v_letterMany_90 v_isBeyond_90) → (v_to.toInt ≤ v_to_90.toInt) → ((ph a_tape v_to_90 : Int) ≤ ph a_tape v_to + 4 * l2_22.toInt + 3) → (0 ≤ v_variable_90.toInt ∧ v_variable_90.toInt ≤ 25) → (NumOK v_numberKind_90 v_number_90) → (Rm25 a_atVar_90) → va_P D vwCl (mw cs q v_thrown a_tape v_taped v_size v_to_90 v_kind_90 v_from_90 v_letters_90 v_letterMany_90 v_digits_90 v_isBeyond_90 v_suffix_90 v_steps v_fault v_hasProgram a_text a_act a_guess a_take a_begin a_finish a_to1 a_one a_two a_what a_ats a_atVar_90 a_atNumber_90 a_atomSort a_atomKind a_atomValue v_wrong_90 v_wrongAt_90 v_variable_90 v_number_90 v_numberKind_90 v_takes a_out v_outed a_varSort a_varKind a_varValue a_creature v_creatures a_arrayClass a_arrayFrom a_arrayLong v_arrays v_cells a_cellSort a_cellKind a_cellValue a_asideSort a_asideKind a_asideValue a_outcome v_marks v_came v_guessed v_right v_taken a_markSort a_markKind a_markClass a_markValue v_sort v_kindAt v_value a_index v_reached v_looked) H → va_D A (mw cs q v_thrown a_tape v_taped v_size v_to_90 v_kind_90 v_from_90 v_letters_90 v_letterMany_90 v_digits_90 v_isBeyond_90 v_suffix_90 v_steps v_fault v_hasProgram a_text a_act a_guess a_take a_begin a_finish a_to1 a_one a_two a_what a_ats a_atVar_90 a_atNumber_90 a_atomSort a_atomKind a_atomValue v_wrong_90 v_wrongAt_90 v_variable_90 v_number_90 v_numberKind_90 v_takes a_out v_outed a_varSort a_varKind a_varValue a_creature v_creatures a_arrayClass a_arrayFrom a_arrayLong v_arrays v_cells a_cellSort a_cellKind a_cellValue a_asideSort a_asideKind a_asideValue a_outcome v_marks v_came v_guessed v_right v_taken a_markSort a_markKind a_markClass a_markValue v_sort v_kindAt v_value a_index v_reached v_looked) → va_S A s.heap H locs → lv_has ls 5 [(0, .ref (q 0)), (1, .int s9), (2, .int l2_22), (3, .int l3_90), (4, .int l4_90)] → W p l e (headSpec (wG yX10_readLengths cX10_readLengths 5 (some .boolean)) rmX10_readLengths).room s m ([.ref (q 0), .int s9] : List Value).toArray below meth c H locs 0 0 Q (F0 m 90 ls []) := by
            intro l3_90 l4_90 v_to_90 a_atNumber_90 a_atVar_90 v_digits_90 v_from_90 v_isBeyond_90 v_kind_90 v_letterMany_90 v_letters_90 v_number_90 v_numberKind_90 v_suffix_90 v_variable_90 v_wrong_90 v_wrongAt_90 H locs ls f90_0 f90_1 f90_2 f90_3 f90_4 f90_5 f90_6 f90_7 hP hD hS hl
            refine lv_aload_n hx hb dX10_readLengths_90 rfl (lv_at hl 0 rfl) ?_
            refine lv_bipush (v := 93) hx hb dX10_readLengths_91 (by decide) ?_
            refine call_i (As := [.int 93]) (rest := []) ⟨hx, hb, hml, hown, hts⟩ (tX10_sign (l := l) (93 : Int32) (by first | assumption | omega | (intros; omega) | decide)) (cwV 1 hts (gV (wr26 _ (List.mem_of_getElem? (i := 15) rfl)) (wr26 _ (List.mem_of_getElem? (i := 16) rfl)) (wr26 _ (List.mem_of_getElem? (i := 17) rfl)) (wr1 _ (List.mem_of_getElem? (i := 5) rfl)) (wr26 _ (List.mem_of_getElem? (i := 18) rfl))) rfl rfl rfl (by decide +kernel) ⟨Nat.le_of_ble_eq_true rfl, Nat.le_of_ble_eq_true rfl⟩) (va_recv hK hP (ci := 9) (q0 := 0) rfl rfl) hK hP hD hE hS hA rfl hl.1 rfl (Nat.le_of_ble_eq_true rfl) dX10_readLengths_93 ⟨Nat.le_of_ble_eq_true rfl, Nat.le_of_ble_eq_true rfl⟩ (fun r93 w9 H locs hw93 hP hD hS => ?_)
            obtain ⟨v_to_93, v_kind_93, v_from_93, v_letters_93, v_letterMany_93, v_digits_93, v_isBeyond_93, v_suffix_93, v_wrong_93, v_wrongAt_93, rfl, hw93_0, hw93_1, hw93_2, hw93_3⟩ := hw93
            have b_v_to_93 := iB v_to_93
            have b_v_kind_93 := iB v_kind_93
            have b_v_from_93 := iB v_from_93
            have b_v_letters_93 := jB v_letters_93
            have b_v_letterMany_93 := iB v_letterMany_93
            have b_v_digits_93 := jB v_digits_93
            have b_v_isBeyond_93 := iB v_isBeyond_93
            have b_v_suffix_93 := iB v_suffix_93
            have b_v_wrong_93 := iB v_wrong_93
            have b_v_wrongAt_93 := iB v_wrongAt_93
            have b_r93 := iB r93
            refine m_if_ne (X := r93.toInt) (tgt := 101) hx hb dX10_readLengths_96 (by decide) rfl (fun c96 => ?_) (fun c96 => ?_)
            · skip
              obtain ⟨x101, e_x101⟩ : ∃ z : Int32, z = l2_22 + (1 : Int32) := ⟨_, rfl⟩
              obtain ⟨k_x101, g_x101⟩ : ∃ k : Int, x101.toInt = l2_22.toInt + (1) + k * 4294967296 := by rw [e_x101]; exact iAdd l2_22 (1)
              have b_x101 := iB x101
              try (have q_x101 : x101.toInt = l2_22.toInt + (1) := (by omega); clear g_x101 k_x101)
              refine lv_iinc (v := x101) (lv' := [(2, .int x101), (0, .ref (q 0)), (1, .int s9), (3, .int l3_90), (4, .int l4_90)]) hx hb dX10_readLengths_101 hl (k := 2) rfl (by rw [e_x101]; rfl) (by decide) rfl (fun ls hl => ?_)
              refine lv_goto (tgt := 22) hx hb dX10_readLengths_104 (by decide) ?_
              exact ih22 x101 l3_90 l4_90 v_to_93 a_atNumber_90 a_atVar_90 v_digits_93 v_from_93 v_isBeyond_93 v_kind_93 v_letterMany_93 v_letters_93 v_number_90 v_numberKind_90 v_suffix_93 v_variable_90 v_wrong_93 v_wrongAt_93 H locs ls (by first | assumption | omega | (intros; omega) | decide) (by first | assumption | omega | (intros; omega) | decide) (by first | assumption | omega | (intros; omega) | decide) (by first | assumption | omega | (intros; omega) | decide) (by first | assumption | omega | (intros; omega) | decide) (by first | assumption | omega | (intros; omega) | decide) (by first | assumption | omega | (intros; omega) | decide) (by first | assumption | omega | (intros; omega) | decide) (by first | assumption | omega | (intros; omega) | decide) (by first | assumption | omega | (intros; omega) | decide) (by first | assumption | omega | (intros; omega) | decide) (by first | assumption | omega | (intros; omega) | decide) (by omega) hP hD hS (lv_sub hl [1, 2, 0, 3, 4] rfl)
            · skip
              refine lv_iconst (v := 0) hx hb dX10_readLengths_99 (by decide) ?_
              subst hAe
              rw [hQ]
              exact W.zret (v := 0) hx hb hr (by decide) (fun t ht hW => ⟨⟨0, _, rfl, ⟨v_to_93, v_kind_93, v_from_93, v_letters_93, v_letterMany_93, v_digits_93, v_isBeyond_93, v_suffix_93, a_what, a_ats, a_atVar_90, a_atNumber_90, v_wrong_93, v_wrongAt_93, v_variable_90, v_number_90, v_numberKind_90, rfl, by first | assumption | omega | (intros; omega) | decide, by first | assumption | omega | (intros; omega) | decide, by first | assumption | omega | (intros; omega) | decide, by first | assumption | omega | (intros; omega) | decide, by first | assumption | omega | (intros; omega) | decide, by first | assumption | omega | (intros; omega) | decide, by first | assumption | omega | (intros; omega) | decide, by first | assumption | exact SAME.rf _ _ | exact SAME.trans (by assumption) (by assumption) | exact SAME.trans (by assumption) (SAME.trans (by assumption) (by assumption)), by first | assumption | exact SAME.rf _ _ | exact SAME.trans (by assumption) (by assumption) | exact SAME.trans (by assumption) (SAME.trans (by assumption) (by assumption)), by first | assumption | omega | (intros; omega) | decide⟩, by rw [ht]; exact hP, va_K.moved hW.alike hK, hD⟩, hS.F ht⟩) hS.2.2 dX10_readLengths_100
          have J65 : ∀ (H : Heap) (locs : List Loc) (ls : Array Slot), va_P D vwCl (mw cs q v_thrown a_tape v_taped v_size v_to_43 v_kind_43 v_from_43 v_letters_43 v_letterMany_43 v_digits_43 v_isBeyond_43 v_suffix_43 v_steps v_fault v_hasProgram a_text a_act a_guess a_take a_begin a_finish a_to1 a_one a_two a_what a_ats a_atVar_22 a_atNumber_22 a_atomSort a_atomKind a_atomValue v_wrong_22 v_wrongAt_22 v_variable_22 v_number_22 v_numberKind_22 v_takes a_out v_outed a_varSort a_varKind a_varValue a_creature v_creatures a_arrayClass a_arrayFrom a_arrayLong v_arrays v_cells a_cellSort a_cellKind a_cellValue a_asideSort a_asideKind a_asideValue a_outcome v_marks v_came v_guessed v_right v_taken a_markSort a_markKind a_markClass a_markValue v_sort v_kindAt v_value a_index v_reached v_looked) H → va_D A (mw cs q v_thrown a_tape v_taped v_size v_to_43 v_kind_43 v_from_43 v_letters_43 v_letterMany_43 v_digits_43 v_isBeyond_43 v_suffix_43 v_steps v_fault v_hasProgram a_text a_act a_guess a_take a_begin a_finish a_to1 a_one a_two a_what a_ats a_atVar_22 a_atNumber_22 a_atomSort a_atomKind a_atomValue v_wrong_22 v_wrongAt_22 v_variable_22 v_number_22 v_numberKind_22 v_takes a_out v_outed a_varSort a_varKind a_varValue a_creature v_creatures a_arrayClass a_arrayFrom a_arrayLong v_arrays v_cells a_cellSort a_cellKind a_cellValue a_asideSort a_asideKind a_asideValue a_outcome v_marks v_came v_guessed v_right v_taken a_markSort a_markKind a_markClass a_markValue v_sort v_kindAt v_value a_index v_reached v_looked) → va_S A s.heap H locs → lv_has ls 5 [(0, .ref (q 0)), (1, .int s9), (2, .int l2_22), (3, .int l3_22), (4, .int l4_22)] → W p l e (headSpec (wG yX10_readLengths cX10_readLengths 5 (some .boolean)) rmX10_readLengths).room s m ([.ref (q 0), .int s9] : List Value).toArray below meth c H locs 0 0 Q (F0 m 65 ls []) := by
            intro H locs ls hP hD hS hl
            refine lv_iload hx hb dX10_readLengths_65 (lv_at hl 4 rfl) ?_
            refine m_if_ne (X := l4_22.toInt) (tgt := 76) hx hb dX10_readLengths_67 (by decide) rfl (fun c67 => ?_) (fun c67 => ?_)
            · skip
              refine lv_aload_n hx hb dX10_readLengths_76 rfl (lv_at hl 0 rfl) ?_
              refine lv_iload_n hx hb dX10_readLengths_77 rfl (lv_at hl 1 rfl) ?_
              refine lv_iload_n hx hb dX10_readLengths_78 rfl (lv_at hl 2 rfl) ?_
              refine call_i (As := [.int s9, .int l2_22]) (rest := []) ⟨hx, hb, hml, hown, hts⟩ (tX10_readIndex (l := l) s9 l2_22 (by first | assumption | omega | (intros; omega) | decide) (by first | assumption | omega | (intros; omega) | decide) (by first | assumption | omega | (intros; omega) | decide) (by first | assumption | omega | (intros; omega) | decide) (by first | assumption | omega | (intros; omega) | decide) (by first | assumption | omega | (intros; omega) | decide) (by first | assumption | omega | (intros; omega) | decide) (by first | assumption | omega | (intros; omega) | decide)) (cwV 2 hts (gV (wr26 _ (List.mem_of_getElem? (i := 19) rfl)) (wr26 _ (List.mem_of_getElem? (i := 20) rfl)) (wr26 _ (List.mem_of_getElem? (i := 21) rfl)) (wr1 _ (List.mem_of_getElem? (i := 5) rfl)) (wr26 _ (List.mem_of_getElem? (i := 22) rfl))) rfl rfl rfl (by decide +kernel) ⟨Nat.le_of_ble_eq_true rfl, Nat.le_of_ble_eq_true rfl⟩) (va_recv hK hP (ci := 9) (q0 := 0) rfl rfl) hK hP hD hE hS hA rfl hl.1 rfl (Nat.le_of_ble_eq_true rfl) dX10_readLengths_79 ⟨Nat.le_of_ble_eq_true rfl, Nat.le_of_ble_eq_true rfl⟩ (fun r79 w9 H locs hw79 hP hD hS => ?_)
              obtain ⟨v_to_79, v_kind_79, v_from_79, v_letters_79, v_letterMany_79, v_digits_79, v_isBeyond_79, v_suffix_79, a_atVar_79, a_atNumber_79, v_wrong_79, v_wrongAt_79, v_variable_79, v_number_79, v_numberKind_79, rfl, hw79_0, hw79_1, hw79_2, hw79_3, hw79_4, hw79_5, hw79_6⟩ := hw79
              have b_v_to_79 := iB v_to_79
              have b_v_kind_79 := iB v_kind_79
              have b_v_from_79 := iB v_from_79
              have b_v_letters_79 := jB v_letters_79
              have b_v_letterMany_79 := iB v_letterMany_79
              have b_v_digits_79 := jB v_digits_79
              have b_v_isBeyond_79 := iB v_isBeyond_79
              have b_v_suffix_79 := iB v_suffix_79
              have b_v_wrong_79 := iB v_wrong_79
              have b_v_wrongAt_79 := iB v_wrongAt_79
              have b_v_variable_79 := iB v_variable_79
              have b_v_number_79 := jB v_number_79
              have b_v_numberKind_79 := iB v_numberKind_79
              have b_r79 := iB r79
              refine m_if_ne (X := r79.toInt) (tgt := 87) hx hb dX10_readLengths_82 (by decide) rfl (fun c82 => ?_) (fun c82 => ?_)
              · skip
                obtain ⟨x87, e_x87⟩ : ∃ z : Int32, z = l3_22 + (1 : Int32) := ⟨_, rfl⟩
                obtain ⟨k_x87, g_x87⟩ : ∃ k : Int, x87.toInt = l3_22.toInt + (1) + k * 4294967296 := by rw [e_x87]; exact iAdd l3_22 (1)
                have b_x87 := iB x87
                try (have q_x87 : x87.toInt = l3_22.toInt + (1) := (by omega); clear g_x87 k_x87)
                refine lv_iinc (v := x87) (lv' := [(3, .int x87), (0, .ref (q 0)), (1, .int s9), (2, .int l2_22), (4, .int l4_22)]) hx hb dX10_readLengths_87 hl (k := 3) rfl (by rw [e_x87]; rfl) (by decide) rfl (fun ls hl => ?_)
                exact J90 x87 l4_22 v_to_79 a_atNumber_79 a_atVar_79 v_digits_79 v_from_79 v_isBeyond_79 v_kind_79 v_letterMany_79 v_letters_79 v_number_79 v_numberKind_79 v_suffix_79 v_variable_79 v_wrong_79 v_wrongAt_79 H locs ls (by first | assumption | omega | (intros; omega) | decide) (by first | assumption | omega | (intros; omega) | decide) (by first | assumption | omega | (intros; omega) | decide) (by first | assumption | omega | (intros; omega) | decide) (by first | assumption | omega | (intros; omega) | decide) (by first | assumption | omega | (intros; omega) | decide) (by first | assumption | omega | (intros; omega) | decide) (by first | assumption | omega | (intros; omega) | decide) hP hD hS (lv_sub hl [1, 2, 3, 0, 4] rfl)
              · skip
                refine lv_iconst (v := 0) hx hb dX10_readLengths_85 (by decide) ?_
                subst hAe
                rw [hQ]
                exact W.zret (v := 0) hx hb hr (by decide) (fun t ht hW => ⟨⟨0, _, rfl, ⟨v_to_79, v_kind_79, v_from_79, v_letters_79, v_letterMany_79, v_digits_79, v_isBeyond_79, v_suffix_79, a_what, a_ats, a_atVar_79, a_atNumber_79, v_wrong_79, v_wrongAt_79, v_variable_79, v_number_79, v_numberKind_79, rfl, by first | assumption | omega | (intros; omega) | decide, by first | assumption | omega | (intros; omega) | decide, by first | assumption | omega | (intros; omega) | decide, by first | assumption | omega | (intros; omega) | decide, by first | assumption | omega | (intros; omega) | decide, by first | assumption | omega | (intros; omega) | decide, by first | assumption | omega | (intros; omega) | decide, by first | assumption | exact SAME.rf _ _ | exact SAME.trans (by assumption) (by assumption) | exact SAME.trans (by assumption) (SAME.trans (by assumption) (by assumption)), by first | assumption | exact SAME.rf _ _ | exact SAME.trans (by assumption) (by assumption) | exact SAME.trans (by assumption) (SAME.trans (by assumption) (by assumption)), by first | assumption | omega | (intros; omega) | decide⟩, by rw [ht]; exact hP, va_K.moved hW.alike hK, hD⟩, hS.F ht⟩) hS.2.2 dX10_readLengths_86
            · skip
              refine lv_aload_n hx hb dX10_readLengths_70 rfl (lv_at hl 0 rfl) ?_
              refine lv_iconst (v := 2) hx hb dX10_readLengths_71 (by decide) ?_
              refine call_i (As := [.int 2]) (rest := []) ⟨hx, hb, hml, hown, hts⟩ (tX10_bad (l := l) (2 : Int32)) (cwV 1 hts (gV (wr25 _ (List.mem_of_getElem? (i := 0) rfl)) (wr25 _ (List.mem_of_getElem? (i := 1) rfl)) (wr25 _ (List.mem_of_getElem? (i := 2) rfl)) (wr1 _ (List.mem_of_getElem? (i := 5) rfl)) (wr25 _ (List.mem_of_getElem? (i := 3) rfl))) rfl rfl rfl (by decide +kernel) ⟨Nat.le_of_ble_eq_true rfl, Nat.le_of_ble_eq_true rfl⟩) (va_recv hK hP (ci := 9) (q0 := 0) rfl rfl) hK hP hD hE hS hA rfl hl.1 rfl (Nat.le_of_ble_eq_true rfl) dX10_readLengths_72 ⟨Nat.le_of_ble_eq_true rfl, Nat.le_of_ble_eq_true rfl⟩ (fun r72 w9 H locs hw72 hP hD hS => ?_)
              obtain ⟨v_wrong_72, v_wrongAt_72, rfl, hw72_0⟩ := hw72
              have b_v_wrong_72 := iB v_wrong_72
              have b_v_wrongAt_72 := iB v_wrongAt_72
              have b_r72 := iB r72
              subst hAe
              rw [hQ]
              exact W.zret (v := r72) hx hb hr (nbool (by first | omega | decide)) (fun t ht hW => ⟨⟨r72, _, rfl, ⟨v_to_43, v_kind_43, v_from_43, v_letters_43, v_letterMany_43, v_digits_43, v_isBeyond_43, v_suffix_43, a_what, a_ats, a_atVar_22, a_atNumber_22, v_wrong_72, v_wrongAt_72, v_variable_22, v_number_22, v_numberKind_22, rfl, by first | assumption | omega | (intros; omega) | decide, by first | assumption | omega | (intros; omega) | decide, by first | assumption | omega | (intros; omega) | decide, by first | assumption | omega | (intros; omega) | decide, by first | assumption | omega | (intros; omega) | decide, by first | assumption | omega | (intros; omega) | decide, by first | assumption | omega | (intros; omega) | decide, by first | assumption | exact SAME.rf _ _ | exact SAME.trans (by assumption) (by assumption) | exact SAME.trans (by assumption) (SAME.trans (by assumption) (by assumption)), by first | assumption | exact SAME.rf _ _ | exact SAME.trans (by assumption) (by assumption) | exact SAME.trans (by assumption) (SAME.trans (by assumption) (by assumption)), by first | assumption | omega | (intros; omega) | decide⟩, by rw [ht]; exact hP, va_K.moved hW.alike hK, hD⟩, hS.F ht⟩) hS.2.2 dX10_readLengths_75
          refine m_if_eq (X := r49.toInt) (tgt := 65) hx hb dX10_readLengths_52 (by decide) rfl (fun c52 => ?_) (fun c52 => ?_)
          · skip
            exact J65 H locs ls hP hD hS (lv_sub hl [0, 1, 2, 3, 4] rfl)
          · skip
            refine lv_iload_n hx hb dX10_readLengths_55 rfl (lv_at hl 2 rfl) ?_
            refine m_if_le (X := l2_22.toInt) (tgt := 65) hx hb dX10_readLengths_56 (by decide) rfl (fun c56 => ?_) (fun c56 => ?_)
            · skip
              exact J65 H locs ls hP hD hS (lv_sub hl [0, 1, 2, 3, 4] rfl)
            · skip
              refine lv_iconst (v := 0) hx hb dX10_readLengths_59 (by decide) ?_
              refine lv_istore (lv' := [(4, .int 0), (0, .ref (q 0)), (1, .int s9), (2, .int l2_22), (3, .int l3_22)]) hx hb dX10_readLengths_60 hl (by decide) rfl (fun ls hl => ?_)
              refine lv_goto (tgt := 90) hx hb dX10_readLengths_62 (by decide) ?_
              exact J90 l3_22 (0 : Int32) v_to_43 a_atNumber_22 a_atVar_22 v_digits_43 v_from_43 v_isBeyond_43 v_kind_43 v_letterMany_43 v_letters_43 v_number_22 v_numberKind_22 v_suffix_43 v_variable_22 v_wrong_22 v_wrongAt_22 H locs ls (by first | assumption | omega | (intros; omega) | decide) (by first | assumption | omega | (intros; omega) | decide) (by first | assumption | omega | (intros; omega) | decide) (by first | assumption | omega | (intros; omega) | decide) (by first | assumption | omega | (intros; omega) | decide) (by first | assumption | omega | (intros; omega) | decide) (by first | assumption | omega | (intros; omega) | decide) (by first | assumption | omega | (intros; omega) | decide) hP hD hS (lv_sub hl [1, 2, 3, 4, 0] rfl)
        · skip
          refine lv_aload_n hx hb dX10_readLengths_36 rfl (lv_at hl 0 rfl) ?_
          refine lv_iconst (v := 4) hx hb dX10_readLengths_37 (by decide) ?_
          refine call_i (As := [.int 4]) (rest := []) ⟨hx, hb, hml, hown, hts⟩ (tX10_bad (l := l) (4 : Int32)) (cwV 1 hts (gV (wr25 _ (List.mem_of_getElem? (i := 0) rfl)) (wr25 _ (List.mem_of_getElem? (i := 1) rfl)) (wr25 _ (List.mem_of_getElem? (i := 2) rfl)) (wr1 _ (List.mem_of_getElem? (i := 5) rfl)) (wr25 _ (List.mem_of_getElem? (i := 3) rfl))) rfl rfl rfl (by decide +kernel) ⟨Nat.le_of_ble_eq_true rfl, Nat.le_of_ble_eq_true rfl⟩) (va_recv hK hP (ci := 9) (q0 := 0) rfl rfl) hK hP hD hE hS hA rfl hl.1 rfl (Nat.le_of_ble_eq_true rfl) dX10_readLengths_38 ⟨Nat.le_of_ble_eq_true rfl, Nat.le_of_ble_eq_true rfl⟩ (fun r38 w9 H locs hw38 hP hD hS => ?_)
          obtain ⟨v_wrong_38, v_wrongAt_38, rfl, hw38_0⟩ := hw38
          have b_v_wrong_38 := iB v_wrong_38
          have b_v_wrongAt_38 := iB v_wrongAt_38
          have b_r38 := iB r38
          subst hAe
          rw [hQ]
          exact W.zret (v := r38) hx hb hr (nbool (by first | omega | decide)) (fun t ht hW => ⟨⟨r38, _, rfl, ⟨v_to_22, v_kind_22, v_from_22, v_letters_22, v_letterMany_22, v_digits_22, v_isBeyond_22, v_suffix_22, a_what, a_ats, a_atVar_22, a_atNumber_22, v_wrong_38, v_wrongAt_38, v_variable_22, v_number_22, v_numberKind_22, rfl, by first | assumption | omega | (intros; omega) | decide, by first | assumption | omega | (intros; omega) | decide, by first | assumption | omega | (intros; omega) | decide, by first | assumption | omega | (intros; omega) | decide, by first | assumption | omega | (intros; omega) | decide, by first | assumption | omega | (intros; omega) | decide, by first | assumption | omega | (intros; omega) | decide, by first | assumption | exact SAME.rf _ _ | exact SAME.trans (by assumption) (by assumption) | exact SAME.trans (by assumption) (SAME.trans (by assumption) (by assumption)), by first | assumption | exact SAME.rf _ _ | exact SAME.trans (by assumption) (by assumption) | exact SAME.trans (by assumption) (SAME.trans (by assumption) (by assumption)), by first | assumption | omega | (intros; omega) | decide⟩, by rw [ht]; exact hP, va_K.moved hW.alike hK, hD⟩, hS.F ht⟩) hS.2.2 dX10_readLengths_41
  refine m_if_ne (X := r10.toInt) (tgt := 22) hx hb dX10_readLengths_13 (by decide) rfl (fun c13 => ?_) (fun c13 => ?_)
  · skip
    exact J22 ((3 - (0 : Int32).toInt).toNat + 1) (0 : Int32) (0 : Int32) (1 : Int32) v_to a_atNumber a_atVar v_digits v_from v_isBeyond v_kind v_letterMany v_letters v_number v_numberKind v_suffix v_variable v_wrong v_wrongAt H locs ls (by first | assumption | omega | (intros; omega) | decide) (by first | assumption | omega | (intros; omega) | decide) (by first | assumption | omega | (intros; omega) | decide) (by first | assumption | omega | (intros; omega) | decide) (by first | assumption | omega | (intros; omega) | decide) (by first | assumption | omega | (intros; omega) | decide) (by first | assumption | omega | (intros; omega) | decide) (by first | assumption | omega | (intros; omega) | decide) (by first | assumption | omega | (intros; omega) | decide) (by first | assumption | omega | (intros; omega) | decide) (by first | assumption | omega | (intros; omega) | decide) (by first | assumption | omega | (intros; omega) | decide) (by omega) hP hD hS (lv_sub hl [3, 4, 2, 1, 0] rfl)
  · skip
    refine lv_aload_n hx hb dX10_readLengths_16 rfl (lv_at hl 3 rfl) ?_
    refine lv_iconst (v := 2) hx hb dX10_readLengths_17 (by decide) ?_
    refine call_i (As := [.int 2]) (rest := []) ⟨hx, hb, hml, hown, hts⟩ (tX10_bad (l := l) (2 : Int32)) (cwV 1 hts (gV (wr25 _ (List.mem_of_getElem? (i := 0) rfl)) (wr25 _ (List.mem_of_getElem? (i := 1) rfl)) (wr25 _ (List.mem_of_getElem? (i := 2) rfl)) (wr1 _ (List.mem_of_getElem? (i := 5) rfl)) (wr25 _ (List.mem_of_getElem? (i := 3) rfl))) rfl rfl rfl (by decide +kernel) ⟨Nat.le_of_ble_eq_true rfl, Nat.le_of_ble_eq_true rfl⟩) (va_recv hK hP (ci := 9) (q0 := 0) rfl rfl) hK hP hD hE hS hA rfl hl.1 rfl (Nat.le_of_ble_eq_true rfl) dX10_readLengths_18 ⟨Nat.le_of_ble_eq_true rfl, Nat.le_of_ble_eq_true rfl⟩ (fun r18 w9 H locs hw18 hP hD hS => ?_)
    obtain ⟨v_wrong_18, v_wrongAt_18, rfl, hw18_0⟩ := hw18
    have b_v_wrong_18 := iB v_wrong_18
    have b_v_wrongAt_18 := iB v_wrongAt_18
    have b_r18 := iB r18
    subst hAe
    rw [hQ]
    exact W.zret (v := r18) hx hb hr (nbool (by first | omega | decide)) (fun t ht hW => ⟨⟨r18, _, rfl, ⟨v_to, v_kind, v_from, v_letters, v_letterMany, v_digits, v_isBeyond, v_suffix, a_what, a_ats, a_atVar, a_atNumber, v_wrong_18, v_wrongAt_18, v_variable, v_number, v_numberKind, rfl, by first | assumption | omega | (intros; omega) | decide, by first | assumption | omega | (intros; omega) | decide, by first | assumption | omega | (intros; omega) | decide, by first | assumption | omega | (intros; omega) | decide, by first | assumption | omega | (intros; omega) | decide, by first | assumption | omega | (intros; omega) | decide, by first | assumption | omega | (intros; omega) | decide, by first | assumption | exact SAME.rf _ _ | exact SAME.trans (by assumption) (by assumption) | exact SAME.trans (by assumption) (SAME.trans (by assumption) (by assumption)), by first | assumption | exact SAME.rf _ _ | exact SAME.trans (by assumption) (by assumption) | exact SAME.trans (by assumption) (SAME.trans (by assumption) (by assumption)), by first | assumption | omega | (intros; omega) | decide⟩, by rw [ht]; exact hP, va_K.moved hW.alike hK, hD⟩, hS.F ht⟩) hS.2.2 dX10_readLengths_21

def rmX10_readRefusal : Room := { frames := 140, cells := 0, slots := 0, locals := 2800 }
set_option maxHeartbeats 4000000 in
set_option maxRecDepth 100000 in
theorem tX10_readRefusal {l : Launch} {D : va_G} {K : Nat → Nat → Nat} {cs : Nat → ClassId} {q : Nat → Nat} {v_thrown v_taped v_size v_to v_kind v_from v_letterMany v_isBeyond v_suffix v_steps v_fault v_hasProgram v_wrong v_wrongAt v_variable v_numberKind v_takes v_outed v_creatures v_arrays v_cells v_marks v_came v_guessed v_right v_taken v_sort v_kindAt v_reached v_looked : Int32} {a_tape a_text a_act a_guess a_take a_begin a_finish a_to1 a_one a_two a_what a_ats a_atVar a_atNumber a_atomSort a_atomKind a_out a_varSort a_varKind a_creature a_arrayClass a_arrayFrom a_arrayLong a_cellSort a_cellKind a_asideSort a_asideKind a_outcome a_markSort a_markKind a_markClass a_index : Nat → Int32} {v_letters v_digits v_number v_value : Int64} {a_atomValue a_varValue a_cellValue a_asideValue a_markValue : Nat → Int64} : CtI l yX10_readRefusal (wG yX10_readRefusal cX10_readRefusal 1 (some .boolean)) rmX10_readRefusal D (mwT cs) K [.ref (q 0)] (mw cs q v_thrown a_tape v_taped v_size v_to v_kind v_from v_letters v_letterMany v_digits v_isBeyond v_suffix v_steps v_fault v_hasProgram a_text a_act a_guess a_take a_begin a_finish a_to1 a_one a_two a_what a_ats a_atVar a_atNumber a_atomSort a_atomKind a_atomValue v_wrong v_wrongAt v_variable v_number v_numberKind v_takes a_out v_outed a_varSort a_varKind a_varValue a_creature v_creatures a_arrayClass a_arrayFrom a_arrayLong v_arrays v_cells a_cellSort a_cellKind a_cellValue a_asideSort a_asideKind a_asideValue a_outcome v_marks v_came v_guessed v_right v_taken a_markSort a_markKind a_markClass a_markValue v_sort v_kindAt v_value a_index v_reached v_looked) (fun r w1 => ∃ (v_wrong' : Int32) (v_wrongAt' : Int32), w1 = (mw cs q v_thrown a_tape v_taped v_size v_to v_kind v_from v_letters v_letterMany v_digits v_isBeyond v_suffix v_steps v_fault v_hasProgram a_text a_act a_guess a_take a_begin a_finish a_to1 a_one a_two a_what a_ats a_atVar a_atNumber a_atomSort a_atomKind a_atomValue v_wrong' v_wrongAt' v_variable v_number v_numberKind v_takes a_out v_outed a_varSort a_varKind a_varValue a_creature v_creatures a_arrayClass a_arrayFrom a_arrayLong v_arrays v_cells a_cellSort a_cellKind a_cellValue a_asideSort a_asideKind a_asideValue a_outcome v_marks v_came v_guessed v_right v_taken a_markSort a_markKind a_markClass a_markValue v_sort v_kindAt v_value a_index v_reached v_looked) ∧ (r.toInt = 0 ∨ r.toInt = 1)) 0 0 := by
  intro sz
  refine Met.ofW (cc := cX10_readRefusal) (maxL := 1) (ret := (some .boolean)) (by decide) rfl ?_
  intro p e s m args below meth c s₁ B hml hv
  obtain ⟨rfl, hsz, hP, hK, hD0, hE⟩ := hv
  have hx := B.exec
  have hb := B.bytes
  have hr := B.returns
  have hts := atoms_spec (ws := (wG yX10_readRefusal cX10_readRefusal 1 (some .boolean))) B.pre
  have hown : s.vm.findClass RX10 = some m.cls := findClass_of_methodNamed B.named
  have hlocks := B.notSynchronized
  subst hsz
  have hD := hD0.self (sz := s.heap.size)
  obtain ⟨A, hAe⟩ : ∃ A : Nat → Prop, A = va_A (mw cs q v_thrown a_tape v_taped v_size v_to v_kind v_from v_letters v_letterMany v_digits v_isBeyond v_suffix v_steps v_fault v_hasProgram a_text a_act a_guess a_take a_begin a_finish a_to1 a_one a_two a_what a_ats a_atVar a_atNumber a_atomSort a_atomKind a_atomValue v_wrong v_wrongAt v_variable v_number v_numberKind v_takes a_out v_outed a_varSort a_varKind a_varValue a_creature v_creatures a_arrayClass a_arrayFrom a_arrayLong v_arrays v_cells a_cellSort a_cellKind a_cellValue a_asideSort a_asideKind a_asideValue a_outcome v_marks v_came v_guessed v_right v_taken a_markSort a_markKind a_markClass a_markValue v_sort v_kindAt v_value a_index v_reached v_looked) s.heap.size := ⟨_, rfl⟩
  rw [← hAe] at hD hE
  have hA : ∀ q : Nat, s.heap.size ≤ q → A q := fun q h => by rw [hAe]; exact Or.inr h
  have hS : va_S A s.heap s.heap [] := va_S.rf
  have hl := lv_entry ([.ref (q 0)]) (n := 1) (Nat.le_of_ble_eq_true rfl)
  rw [lg_entry_eq]
  generalize (lg_sl ([.ref (q 0)]) ++ List.replicate (1 - (lg_sl ([.ref (q 0)])).length) Slot.unset).toArray = ls at hl ⊢
  have hl : lv_has ls 1 [(0, .ref (q 0))] := hl
  refine wq (fun Q hQ => ?_)
  have hin : ∀ w ∈ wsX100, w ∈ (wG yX10_readRefusal cX10_readRefusal 1 (some .boolean)) := fun w h => List.mem_cons_of_mem _ (inlX10 w h)
  have kc0 : (1 : Int32).toInt = 1 := by decide
  have kc1 : (2 : Int32).toInt = 2 := by decide
  have k_22_15 := hts (.fieldLink RX10 273 "ArrayTrainerModel" "kind" "I") (List.mem_cons_of_mem _ (wr22 _ (List.mem_of_getElem? (i := 15) rfl)))
  have k_23_1 := hts (.fieldLink RX10 289 "ArrayTrainerModel" "letters" "J") (List.mem_cons_of_mem _ (wr23 _ (List.mem_of_getElem? (i := 1) rfl)))
  obtain ⟨H, hH⟩ : ∃ H : Heap, H = s.heap := ⟨_, rfl⟩
  obtain ⟨locs, hlc⟩ : ∃ L : List Loc, L = [] := ⟨_, rfl⟩
  have hP : va_P D vwCl (mw cs q v_thrown a_tape v_taped v_size v_to v_kind v_from v_letters v_letterMany v_digits v_isBeyond v_suffix v_steps v_fault v_hasProgram a_text a_act a_guess a_take a_begin a_finish a_to1 a_one a_two a_what a_ats a_atVar a_atNumber a_atomSort a_atomKind a_atomValue v_wrong v_wrongAt v_variable v_number v_numberKind v_takes a_out v_outed a_varSort a_varKind a_varValue a_creature v_creatures a_arrayClass a_arrayFrom a_arrayLong v_arrays v_cells a_cellSort a_cellKind a_cellValue a_asideSort a_asideKind a_asideValue a_outcome v_marks v_came v_guessed v_right v_taken a_markSort a_markKind a_markClass a_markValue v_sort v_kindAt v_value a_index v_reached v_looked) H := by rw [hH]; exact hP
  have hS : va_S A s.heap H locs := by rw [hH, hlc]; exact hS
  refine wHL hH hlc ?_
  refine lv_aload_n hx hb dX10_readRefusal_0 rfl (lv_at hl 0 rfl) ?_
  refine va_get (D := D) (ci := 9) (v := .int v_kind) (C := RX10) (T := TX10) (N := 71) hx hb hts hin hown hK hP 0 rfl rfl 5 (by decide) k_22_15 (fun _ h9 => h9) rfl dX10_readRefusal_1 ?_
  refine lv_iconst (v := 2) hx hb dX10_readRefusal_4 (by decide) ?_
  have J18 : ∀ (H : Heap) (locs : List Loc) (ls : Array Slot), va_P D vwCl (mw cs q v_thrown a_tape v_taped v_size v_to v_kind v_from v_letters v_letterMany v_digits v_isBeyond v_suffix v_steps v_fault v_hasProgram a_text a_act a_guess a_take a_begin a_finish a_to1 a_one a_two a_what a_ats a_atVar a_atNumber a_atomSort a_atomKind a_atomValue v_wrong v_wrongAt v_variable v_number v_numberKind v_takes a_out v_outed a_varSort a_varKind a_varValue a_creature v_creatures a_arrayClass a_arrayFrom a_arrayLong v_arrays v_cells a_cellSort a_cellKind a_cellValue a_asideSort a_asideKind a_asideValue a_outcome v_marks v_came v_guessed v_right v_taken a_markSort a_markKind a_markClass a_markValue v_sort v_kindAt v_value a_index v_reached v_looked) H → va_D A (mw cs q v_thrown a_tape v_taped v_size v_to v_kind v_from v_letters v_letterMany v_digits v_isBeyond v_suffix v_steps v_fault v_hasProgram a_text a_act a_guess a_take a_begin a_finish a_to1 a_one a_two a_what a_ats a_atVar a_atNumber a_atomSort a_atomKind a_atomValue v_wrong v_wrongAt v_variable v_number v_numberKind v_takes a_out v_outed a_varSort a_varKind a_varValue a_creature v_creatures a_arrayClass a_arrayFrom a_arrayLong v_arrays v_cells a_cellSort a_cellKind a_cellValue a_asideSort a_asideKind a_asideValue a_outcome v_marks v_came v_guessed v_right v_taken a_markSort a_markKind a_markClass a_markValue v_sort v_kindAt v_value a_index v_reached v_looked) → va_S A s.heap H locs → lv_has ls 1 [(0, .ref (q 0))] → W p l e (headSpec (wG yX10_readRefusal cX10_readRefusal 1 (some .boolean)) rmX10_readRefusal).room s m ([.ref (q 0)] : List Value).toArray below meth c H locs 0 0 Q (F0 m 18 ls []) := by
    intro H locs ls hP hD hS hl
    refine lv_aload_n hx hb dX10_readRefusal_18 rfl (lv_at hl 0 rfl) ?_
    refine lv_iconst (v := 2) hx hb dX10_readRefusal_19 (by decide) ?_
    refine call_i (As := [.int 2]) (rest := []) ⟨hx, hb, hml, hown, hts⟩ (tX10_bad (l := l) (2 : Int32)) (cwV 1 hts (gV (wr25 _ (List.mem_of_getElem? (i := 0) rfl)) (wr25 _ (List.mem_of_getElem? (i := 1) rfl)) (wr25 _ (List.mem_of_getElem? (i := 2) rfl)) (wr1 _ (List.mem_of_getElem? (i := 5) rfl)) (wr25 _ (List.mem_of_getElem? (i := 3) rfl))) rfl rfl rfl (by decide +kernel) ⟨Nat.le_of_ble_eq_true rfl, Nat.le_of_ble_eq_true rfl⟩) (va_recv hK hP (ci := 9) (q0 := 0) rfl rfl) hK hP hD hE hS hA rfl hl.1 rfl (Nat.le_of_ble_eq_true rfl) dX10_readRefusal_20 ⟨Nat.le_of_ble_eq_true rfl, Nat.le_of_ble_eq_true rfl⟩ (fun r20 w9 H locs hw20 hP hD hS => ?_)
    obtain ⟨v_wrong_20, v_wrongAt_20, rfl, hw20_0⟩ := hw20
    have b_v_wrong_20 := iB v_wrong_20
    have b_v_wrongAt_20 := iB v_wrongAt_20
    have b_r20 := iB r20
    subst hAe
    rw [hQ]
    exact W.zret (v := r20) hx hb hr (nbool (by first | omega | decide)) (fun t ht hW => ⟨⟨r20, _, rfl, ⟨v_wrong_20, v_wrongAt_20, rfl, by first | assumption | omega | (intros; omega) | decide⟩, by rw [ht]; exact hP, va_K.moved hW.alike hK, hD⟩, hS.F ht⟩) hS.2.2 dX10_readRefusal_23
  refine m_icmp_ne (X := v_kind.toInt) (Y := 2) (tgt := 18) hx hb dX10_readRefusal_5 (by decide) rfl (by decide) (fun c5 => ?_) (fun c5 => ?_)
  · skip
    exact J18 H locs ls hP hD hS (lv_sub hl [0] rfl)
  · skip
    refine lv_aload_n hx hb dX10_readRefusal_8 rfl (lv_at hl 0 rfl) ?_
    refine va_get (D := D) (ci := 9) (v := .long v_letters) (C := RX10) (T := TX10) (N := 71) hx hb hts hin hown hK hP 0 rfl rfl 7 (by decide) k_23_1 (fun _ h9 => h9) rfl dX10_readRefusal_9 ?_
    refine call_iSP (As := [.long v_letters]) (rest := []) ⟨hx, hb, hml, hown, hts⟩ (tX10_refusalOf (l := l) v_letters) (va_cwS 1 hts (gS (wr25 _ (List.mem_of_getElem? (i := 12) rfl)) (wr25 _ (List.mem_of_getElem? (i := 13) rfl)) (wr1 _ (List.mem_of_getElem? (i := 5) rfl)) (wr25 _ (List.mem_of_getElem? (i := 14) rfl))) rfl rfl rfl (by decide +kernel) ⟨Nat.le_of_ble_eq_true rfl, Nat.le_of_ble_eq_true rfl⟩) (hK.sub [] rfl) hP hD hE hS hA rfl hl.1 rfl (Nat.le_of_ble_eq_true rfl) dX10_readRefusal_12 ⟨Nat.le_of_ble_eq_true rfl, Nat.le_of_ble_eq_true rfl⟩ (fun r12 w9 H locs hw12 hP hD hS => ?_)
    obtain ⟨rfl, hw12_0, hw12_1⟩ := hw12
    have b_r12 := iB r12
    refine m_if_ne (X := r12.toInt) (tgt := 24) hx hb dX10_readRefusal_15 (by decide) rfl (fun c15 => ?_) (fun c15 => ?_)
    · skip
      refine lv_iconst (v := 1) hx hb dX10_readRefusal_24 (by decide) ?_
      subst hAe
      rw [hQ]
      exact W.zret (v := 1) hx hb hr (by decide) (fun t ht hW => ⟨⟨1, _, rfl, ⟨v_wrong, v_wrongAt, rfl, by first | assumption | omega | (intros; omega) | decide⟩, by rw [ht]; exact hP, va_K.moved hW.alike hK, hD⟩, hS.F ht⟩) hS.2.2 dX10_readRefusal_25
    · skip
      exact J18 H locs ls hP hD hS (lv_sub hl [0] rfl)

def rmX10_canBegin : Room := { frames := 140, cells := 0, slots := 0, locals := 2800 }
set_option maxHeartbeats 4000000 in
set_option maxRecDepth 100000 in
theorem tX10_canBegin {l : Launch} {D : va_G} {K : Nat → Nat → Nat} {cs : Nat → ClassId} {q : Nat → Nat} {v_thrown v_taped v_size v_to v_kind v_from v_letterMany v_isBeyond v_suffix v_steps v_fault v_hasProgram v_wrong v_wrongAt v_variable v_numberKind v_takes v_outed v_creatures v_arrays v_cells v_marks v_came v_guessed v_right v_taken v_sort v_kindAt v_reached v_looked : Int32} {a_tape a_text a_act a_guess a_take a_begin a_finish a_to1 a_one a_two a_what a_ats a_atVar a_atNumber a_atomSort a_atomKind a_out a_varSort a_varKind a_creature a_arrayClass a_arrayFrom a_arrayLong a_cellSort a_cellKind a_asideSort a_asideKind a_outcome a_markSort a_markKind a_markClass a_index : Nat → Int32} {v_letters v_digits v_number v_value : Int64} {a_atomValue a_varValue a_cellValue a_asideValue a_markValue : Nat → Int64} : CtI l yX10_canBegin (wG yX10_canBegin cX10_canBegin 1 (some .boolean)) rmX10_canBegin D (mwT cs) K [.ref (q 0)] (mw cs q v_thrown a_tape v_taped v_size v_to v_kind v_from v_letters v_letterMany v_digits v_isBeyond v_suffix v_steps v_fault v_hasProgram a_text a_act a_guess a_take a_begin a_finish a_to1 a_one a_two a_what a_ats a_atVar a_atNumber a_atomSort a_atomKind a_atomValue v_wrong v_wrongAt v_variable v_number v_numberKind v_takes a_out v_outed a_varSort a_varKind a_varValue a_creature v_creatures a_arrayClass a_arrayFrom a_arrayLong v_arrays v_cells a_cellSort a_cellKind a_cellValue a_asideSort a_asideKind a_asideValue a_outcome v_marks v_came v_guessed v_right v_taken a_markSort a_markKind a_markClass a_markValue v_sort v_kindAt v_value a_index v_reached v_looked) (fun r w1 => w1 = (mw cs q v_thrown a_tape v_taped v_size v_to v_kind v_from v_letters v_letterMany v_digits v_isBeyond v_suffix v_steps v_fault v_hasProgram a_text a_act a_guess a_take a_begin a_finish a_to1 a_one a_two a_what a_ats a_atVar a_atNumber a_atomSort a_atomKind a_atomValue v_wrong v_wrongAt v_variable v_number v_numberKind v_takes a_out v_outed a_varSort a_varKind a_varValue a_creature v_creatures a_arrayClass a_arrayFrom a_arrayLong v_arrays v_cells a_cellSort a_cellKind a_cellValue a_asideSort a_asideKind a_asideValue a_outcome v_marks v_came v_guessed v_right v_taken a_markSort a_markKind a_markClass a_markValue v_sort v_kindAt v_value a_index v_reached v_looked) ∧ ((r.toInt = 1 ∧ v_kind.toInt = 2) ∨ r.toInt = 0)) 0 0 := by
  intro sz
  refine Met.ofW (cc := cX10_canBegin) (maxL := 1) (ret := (some .boolean)) (by decide) rfl ?_
  intro p e s m args below meth c s₁ B hml hv
  obtain ⟨rfl, hsz, hP, hK, hD0, hE⟩ := hv
  have hx := B.exec
  have hb := B.bytes
  have hr := B.returns
  have hts := atoms_spec (ws := (wG yX10_canBegin cX10_canBegin 1 (some .boolean))) B.pre
  have hown : s.vm.findClass RX10 = some m.cls := findClass_of_methodNamed B.named
  have hlocks := B.notSynchronized
  subst hsz
  have hD := hD0.self (sz := s.heap.size)
  obtain ⟨A, hAe⟩ : ∃ A : Nat → Prop, A = va_A (mw cs q v_thrown a_tape v_taped v_size v_to v_kind v_from v_letters v_letterMany v_digits v_isBeyond v_suffix v_steps v_fault v_hasProgram a_text a_act a_guess a_take a_begin a_finish a_to1 a_one a_two a_what a_ats a_atVar a_atNumber a_atomSort a_atomKind a_atomValue v_wrong v_wrongAt v_variable v_number v_numberKind v_takes a_out v_outed a_varSort a_varKind a_varValue a_creature v_creatures a_arrayClass a_arrayFrom a_arrayLong v_arrays v_cells a_cellSort a_cellKind a_cellValue a_asideSort a_asideKind a_asideValue a_outcome v_marks v_came v_guessed v_right v_taken a_markSort a_markKind a_markClass a_markValue v_sort v_kindAt v_value a_index v_reached v_looked) s.heap.size := ⟨_, rfl⟩
  rw [← hAe] at hD hE
  have hA : ∀ q : Nat, s.heap.size ≤ q → A q := fun q h => by rw [hAe]; exact Or.inr h
  have hS : va_S A s.heap s.heap [] := va_S.rf
  have hl := lv_entry ([.ref (q 0)]) (n := 1) (Nat.le_of_ble_eq_true rfl)
  rw [lg_entry_eq]
  generalize (lg_sl ([.ref (q 0)]) ++ List.replicate (1 - (lg_sl ([.ref (q 0)])).length) Slot.unset).toArray = ls at hl ⊢
  have hl : lv_has ls 1 [(0, .ref (q 0))] := hl
  refine wq (fun Q hQ => ?_)
  have hin : ∀ w ∈ wsX100, w ∈ (wG yX10_canBegin cX10_canBegin 1 (some .boolean)) := fun w h => List.mem_cons_of_mem _ (inlX10 w h)
  have kc0 : (0 : Int32).toInt = 0 := by decide
  have kc1 : (1 : Int32).toInt = 1 := by decide
  have kc2 : (2 : Int32).toInt = 2 := by decide
  have k_22_15 := hts (.fieldLink RX10 273 "ArrayTrainerModel" "kind" "I") (List.mem_cons_of_mem _ (wr22 _ (List.mem_of_getElem? (i := 15) rfl)))
  have k_23_1 := hts (.fieldLink RX10 289 "ArrayTrainerModel" "letters" "J") (List.mem_cons_of_mem _ (wr23 _ (List.mem_of_getElem? (i := 1) rfl)))
  obtain ⟨H, hH⟩ : ∃ H : Heap, H = s.heap := ⟨_, rfl⟩
  obtain ⟨locs, hlc⟩ : ∃ L : List Loc, L = [] := ⟨_, rfl⟩
  have hP : va_P D vwCl (mw cs q v_thrown a_tape v_taped v_size v_to v_kind v_from v_letters v_letterMany v_digits v_isBeyond v_suffix v_steps v_fault v_hasProgram a_text a_act a_guess a_take a_begin a_finish a_to1 a_one a_two a_what a_ats a_atVar a_atNumber a_atomSort a_atomKind a_atomValue v_wrong v_wrongAt v_variable v_number v_numberKind v_takes a_out v_outed a_varSort a_varKind a_varValue a_creature v_creatures a_arrayClass a_arrayFrom a_arrayLong v_arrays v_cells a_cellSort a_cellKind a_cellValue a_asideSort a_asideKind a_asideValue a_outcome v_marks v_came v_guessed v_right v_taken a_markSort a_markKind a_markClass a_markValue v_sort v_kindAt v_value a_index v_reached v_looked) H := by rw [hH]; exact hP
  have hS : va_S A s.heap H locs := by rw [hH, hlc]; exact hS
  refine wHL hH hlc ?_
  refine lv_aload_n hx hb dX10_canBegin_0 rfl (lv_at hl 0 rfl) ?_
  refine m_ldcSw hx hb hown (ld_29 hE) dX10_canBegin_1 ?_
  refine call_i (As := [.ref (K 0 29)]) (rest := []) ⟨hx, hb, hml, hown, hts⟩ (tX10_is (l := l) 29 so_29) (cwV 1 hts (gV (wr24 _ (List.mem_of_getElem? (i := 8) rfl)) (wr24 _ (List.mem_of_getElem? (i := 9) rfl)) (wr24 _ (List.mem_of_getElem? (i := 10) rfl)) (wr1 _ (List.mem_of_getElem? (i := 5) rfl)) (wr24 _ (List.mem_of_getElem? (i := 11) rfl))) rfl rfl rfl (by decide +kernel) ⟨Nat.le_of_ble_eq_true rfl, Nat.le_of_ble_eq_true rfl⟩) (va_recv hK hP (ci := 9) (q0 := 0) rfl rfl) hK hP hD hE hS hA rfl hl.1 rfl (Nat.le_of_ble_eq_true rfl) dX10_canBegin_4 ⟨Nat.le_of_ble_eq_true rfl, Nat.le_of_ble_eq_true rfl⟩ (fun r4 w9 H locs hw4 hP hD hS => ?_)
  obtain ⟨rfl, hw4_0⟩ := hw4
  have b_r4 := iB r4
  refine m_if_ne (X := r4.toInt) (tgt := 45) hx hb dX10_canBegin_7 (by decide) rfl (fun c7 => ?_) (fun c7 => ?_)
  · skip
    refine lv_iconst (v := 1) hx hb dX10_canBegin_45 (by decide) ?_
    refine lv_goto (tgt := 50) hx hb dX10_canBegin_46 (by decide) ?_
    subst hAe
    rw [hQ]
    exact W.zret (v := 1) hx hb hr (by decide) (fun t ht hW => ⟨⟨1, _, rfl, ⟨rfl, by first | assumption | omega | (intros; omega) | decide⟩, by rw [ht]; exact hP, va_K.moved hW.alike hK, hD⟩, hS.F ht⟩) hS.2.2 dX10_canBegin_50
  · skip
    refine lv_aload_n hx hb dX10_canBegin_10 rfl (lv_at hl 0 rfl) ?_
    refine m_ldcSw hx hb hown (ld_30 hE) dX10_canBegin_11 ?_
    refine call_i (As := [.ref (K 0 30)]) (rest := []) ⟨hx, hb, hml, hown, hts⟩ (tX10_is (l := l) 30 so_30) (cwV 1 hts (gV (wr24 _ (List.mem_of_getElem? (i := 8) rfl)) (wr24 _ (List.mem_of_getElem? (i := 9) rfl)) (wr24 _ (List.mem_of_getElem? (i := 10) rfl)) (wr1 _ (List.mem_of_getElem? (i := 5) rfl)) (wr24 _ (List.mem_of_getElem? (i := 11) rfl))) rfl rfl rfl (by decide +kernel) ⟨Nat.le_of_ble_eq_true rfl, Nat.le_of_ble_eq_true rfl⟩) (va_recv hK hP (ci := 9) (q0 := 0) rfl rfl) hK hP hD hE hS hA rfl hl.1 rfl (Nat.le_of_ble_eq_true rfl) dX10_canBegin_14 ⟨Nat.le_of_ble_eq_true rfl, Nat.le_of_ble_eq_true rfl⟩ (fun r14 w9 H locs hw14 hP hD hS => ?_)
    obtain ⟨rfl, hw14_0⟩ := hw14
    have b_r14 := iB r14
    refine m_if_ne (X := r14.toInt) (tgt := 45) hx hb dX10_canBegin_17 (by decide) rfl (fun c17 => ?_) (fun c17 => ?_)
    · skip
      refine lv_iconst (v := 1) hx hb dX10_canBegin_45 (by decide) ?_
      refine lv_goto (tgt := 50) hx hb dX10_canBegin_46 (by decide) ?_
      subst hAe
      rw [hQ]
      exact W.zret (v := 1) hx hb hr (by decide) (fun t ht hW => ⟨⟨1, _, rfl, ⟨rfl, by first | assumption | omega | (intros; omega) | decide⟩, by rw [ht]; exact hP, va_K.moved hW.alike hK, hD⟩, hS.F ht⟩) hS.2.2 dX10_canBegin_50
    · skip
      refine lv_aload_n hx hb dX10_canBegin_20 rfl (lv_at hl 0 rfl) ?_
      refine call_i (As := []) (rest := []) ⟨hx, hb, hml, hown, hts⟩ (tX10_isVar (l := l) ) (cwV 0 hts (gV (wr24 _ (List.mem_of_getElem? (i := 17) rfl)) (wr24 _ (List.mem_of_getElem? (i := 18) rfl)) (wr24 _ (List.mem_of_getElem? (i := 19) rfl)) (wr1 _ (List.mem_of_getElem? (i := 5) rfl)) (wr24 _ (List.mem_of_getElem? (i := 20) rfl))) rfl rfl rfl (by decide +kernel) ⟨Nat.le_of_ble_eq_true rfl, Nat.le_of_ble_eq_true rfl⟩) (va_recv hK hP (ci := 9) (q0 := 0) rfl rfl) hK hP hD hE hS hA rfl hl.1 rfl (Nat.le_of_ble_eq_true rfl) dX10_canBegin_21 ⟨Nat.le_of_ble_eq_true rfl, Nat.le_of_ble_eq_true rfl⟩ (fun r21 w9 H locs hw21 hP hD hS => ?_)
      obtain ⟨rfl, hw21_0⟩ := hw21
      have b_r21 := iB r21
      refine m_if_ne (X := r21.toInt) (tgt := 45) hx hb dX10_canBegin_24 (by decide) rfl (fun c24 => ?_) (fun c24 => ?_)
      · skip
        refine lv_iconst (v := 1) hx hb dX10_canBegin_45 (by decide) ?_
        refine lv_goto (tgt := 50) hx hb dX10_canBegin_46 (by decide) ?_
        subst hAe
        rw [hQ]
        exact W.zret (v := 1) hx hb hr (by decide) (fun t ht hW => ⟨⟨1, _, rfl, ⟨rfl, by first | assumption | omega | (intros; omega) | decide⟩, by rw [ht]; exact hP, va_K.moved hW.alike hK, hD⟩, hS.F ht⟩) hS.2.2 dX10_canBegin_50
      · skip
        refine lv_aload_n hx hb dX10_canBegin_27 rfl (lv_at hl 0 rfl) ?_
        refine va_get (D := D) (ci := 9) (v := .int v_kind) (C := RX10) (T := TX10) (N := 71) hx hb hts hin hown hK hP 0 rfl rfl 5 (by decide) k_22_15 (fun _ h9 => h9) rfl dX10_canBegin_28 ?_
        refine lv_iconst (v := 2) hx hb dX10_canBegin_31 (by decide) ?_
        refine m_icmp_ne (X := v_kind.toInt) (Y := 2) (tgt := 49) hx hb dX10_canBegin_32 (by decide) rfl (by decide) (fun c32 => ?_) (fun c32 => ?_)
        · skip
          refine lv_iconst (v := 0) hx hb dX10_canBegin_49 (by decide) ?_
          subst hAe
          rw [hQ]
          exact W.zret (v := 0) hx hb hr (by decide) (fun t ht hW => ⟨⟨0, _, rfl, ⟨rfl, by first | assumption | omega | (intros; omega) | decide⟩, by rw [ht]; exact hP, va_K.moved hW.alike hK, hD⟩, hS.F ht⟩) hS.2.2 dX10_canBegin_50
        · skip
          refine lv_aload_n hx hb dX10_canBegin_35 rfl (lv_at hl 0 rfl) ?_
          refine va_get (D := D) (ci := 9) (v := .long v_letters) (C := RX10) (T := TX10) (N := 71) hx hb hts hin hown hK hP 0 rfl rfl 7 (by decide) k_23_1 (fun _ h9 => h9) rfl dX10_canBegin_36 ?_
          refine call_iSP (As := [.long v_letters]) (rest := []) ⟨hx, hb, hml, hown, hts⟩ (tX10_firstOf (l := l) v_letters) (va_cwS 1 hts (gS (wr24 _ (List.mem_of_getElem? (i := 21) rfl)) (wr24 _ (List.mem_of_getElem? (i := 22) rfl)) (wr1 _ (List.mem_of_getElem? (i := 5) rfl)) (wr24 _ (List.mem_of_getElem? (i := 23) rfl))) rfl rfl rfl (by decide +kernel) ⟨Nat.le_of_ble_eq_true rfl, Nat.le_of_ble_eq_true rfl⟩) (hK.sub [] rfl) hP hD hE hS hA rfl hl.1 rfl (Nat.le_of_ble_eq_true rfl) dX10_canBegin_39 ⟨Nat.le_of_ble_eq_true rfl, Nat.le_of_ble_eq_true rfl⟩ (fun r39 w9 H locs hw39 hP hD hS => ?_)
          obtain ⟨rfl, hw39_0⟩ := hw39
          have b_r39 := iB r39
          refine m_if_le (X := r39.toInt) (tgt := 49) hx hb dX10_canBegin_42 (by decide) rfl (fun c42 => ?_) (fun c42 => ?_)
          · skip
            refine lv_iconst (v := 0) hx hb dX10_canBegin_49 (by decide) ?_
            subst hAe
            rw [hQ]
            exact W.zret (v := 0) hx hb hr (by decide) (fun t ht hW => ⟨⟨0, _, rfl, ⟨rfl, by first | assumption | omega | (intros; omega) | decide⟩, by rw [ht]; exact hP, va_K.moved hW.alike hK, hD⟩, hS.F ht⟩) hS.2.2 dX10_canBegin_50
          · skip
            refine lv_iconst (v := 1) hx hb dX10_canBegin_45 (by decide) ?_
            refine lv_goto (tgt := 50) hx hb dX10_canBegin_46 (by decide) ?_
            subst hAe
            rw [hQ]
            exact W.zret (v := 1) hx hb hr (by decide) (fun t ht hW => ⟨⟨1, _, rfl, ⟨rfl, by first | assumption | omega | (intros; omega) | decide⟩, by rw [ht]; exact hP, va_K.moved hW.alike hK, hD⟩, hS.F ht⟩) hS.2.2 dX10_canBegin_50

def rmX10_manyAts : Room := { frames := 20, cells := 0, slots := 0, locals := 400 }
set_option maxHeartbeats 4000000 in
set_option maxRecDepth 100000 in
theorem tX10_manyAts {l : Launch} {D : va_G} {K : Nat → Nat → Nat} {cs : Nat → ClassId} {q : Nat → Nat} {v_thrown v_taped v_size v_to v_kind v_from v_letterMany v_isBeyond v_suffix v_steps v_fault v_hasProgram v_wrong v_wrongAt v_variable v_numberKind v_takes v_outed v_creatures v_arrays v_cells v_marks v_came v_guessed v_right v_taken v_sort v_kindAt v_reached v_looked : Int32} {a_tape a_text a_act a_guess a_take a_begin a_finish a_to1 a_one a_two a_what a_ats a_atVar a_atNumber a_atomSort a_atomKind a_out a_varSort a_varKind a_creature a_arrayClass a_arrayFrom a_arrayLong a_cellSort a_cellKind a_asideSort a_asideKind a_outcome a_markSort a_markKind a_markClass a_index : Nat → Int32} {v_letters v_digits v_number v_value : Int64} {a_atomValue a_varValue a_cellValue a_asideValue a_markValue : Nat → Int64} (s9 : Int32) (n9 : Int32) (p_0 : 0 ≤ s9.toInt) (p_1 : s9.toInt ≤ 201) (p_2 : R03 a_ats) (p_3 : 1 ≤ n9.toInt) (p_4 : n9.toInt ≤ 3) : CtI l yX10_manyAts (wG yX10_manyAts cX10_manyAts 3 (some .boolean)) rmX10_manyAts D (mwT cs) K [.ref (q 0), .int s9, .int n9] (mw cs q v_thrown a_tape v_taped v_size v_to v_kind v_from v_letters v_letterMany v_digits v_isBeyond v_suffix v_steps v_fault v_hasProgram a_text a_act a_guess a_take a_begin a_finish a_to1 a_one a_two a_what a_ats a_atVar a_atNumber a_atomSort a_atomKind a_atomValue v_wrong v_wrongAt v_variable v_number v_numberKind v_takes a_out v_outed a_varSort a_varKind a_varValue a_creature v_creatures a_arrayClass a_arrayFrom a_arrayLong v_arrays v_cells a_cellSort a_cellKind a_cellValue a_asideSort a_asideKind a_asideValue a_outcome v_marks v_came v_guessed v_right v_taken a_markSort a_markKind a_markClass a_markValue v_sort v_kindAt v_value a_index v_reached v_looked) (fun r w1 => ∃ (a_ats' : Nat → Int32), w1 = (mw cs q v_thrown a_tape v_taped v_size v_to v_kind v_from v_letters v_letterMany v_digits v_isBeyond v_suffix v_steps v_fault v_hasProgram a_text a_act a_guess a_take a_begin a_finish a_to1 a_one a_two a_what a_ats' a_atVar a_atNumber a_atomSort a_atomKind a_atomValue v_wrong v_wrongAt v_variable v_number v_numberKind v_takes a_out v_outed a_varSort a_varKind a_varValue a_creature v_creatures a_arrayClass a_arrayFrom a_arrayLong v_arrays v_cells a_cellSort a_cellKind a_cellValue a_asideSort a_asideKind a_asideValue a_outcome v_marks v_came v_guessed v_right v_taken a_markSort a_markKind a_markClass a_markValue v_sort v_kindAt v_value a_index v_reached v_looked) ∧ (r.toInt = 1) ∧ (R03 a_ats') ∧ (SAME a_ats' a_ats s9.toNatClampNeg) ∧ ((a_ats' s9.toNatClampNeg).toInt = n9.toInt)) 0 0 := by
  intro sz
  refine Met.ofW (cc := cX10_manyAts) (maxL := 3) (ret := (some .boolean)) (by decide) rfl ?_
  intro p e s m args below meth c s₁ B hml hv
  obtain ⟨rfl, hsz, hP, hK, hD0, hE⟩ := hv
  have hx := B.exec
  have hb := B.bytes
  have hr := B.returns
  have hts := atoms_spec (ws := (wG yX10_manyAts cX10_manyAts 3 (some .boolean))) B.pre
  have hown : s.vm.findClass RX10 = some m.cls := findClass_of_methodNamed B.named
  have hlocks := B.notSynchronized
  subst hsz
  have hD := hD0.self (sz := s.heap.size)
  obtain ⟨A, hAe⟩ : ∃ A : Nat → Prop, A = va_A (mw cs q v_thrown a_tape v_taped v_size v_to v_kind v_from v_letters v_letterMany v_digits v_isBeyond v_suffix v_steps v_fault v_hasProgram a_text a_act a_guess a_take a_begin a_finish a_to1 a_one a_two a_what a_ats a_atVar a_atNumber a_atomSort a_atomKind a_atomValue v_wrong v_wrongAt v_variable v_number v_numberKind v_takes a_out v_outed a_varSort a_varKind a_varValue a_creature v_creatures a_arrayClass a_arrayFrom a_arrayLong v_arrays v_cells a_cellSort a_cellKind a_cellValue a_asideSort a_asideKind a_asideValue a_outcome v_marks v_came v_guessed v_right v_taken a_markSort a_markKind a_markClass a_markValue v_sort v_kindAt v_value a_index v_reached v_looked) s.heap.size := ⟨_, rfl⟩
  rw [← hAe] at hD hE
  have hA : ∀ q : Nat, s.heap.size ≤ q → A q := fun q h => by rw [hAe]; exact Or.inr h
  have hS : va_S A s.heap s.heap [] := va_S.rf
  have hl := lv_entry ([.ref (q 0), .int s9, .int n9]) (n := 3) (Nat.le_of_ble_eq_true rfl)
  rw [lg_entry_eq]
  generalize (lg_sl ([.ref (q 0), .int s9, .int n9]) ++ List.replicate (3 - (lg_sl ([.ref (q 0), .int s9, .int n9])).length) Slot.unset).toArray = ls at hl ⊢
  have hl : lv_has ls 3 [(0, .ref (q 0)), (1, .int s9), (2, .int n9)] := hl
  refine wq (fun Q hQ => ?_)
  have hin : ∀ w ∈ wsX100, w ∈ (wG yX10_manyAts cX10_manyAts 3 (some .boolean)) := fun w h => List.mem_cons_of_mem _ (inlX10 w h)
  have kc0 : (1 : Int32).toInt = 1 := by decide
  have k_5_18 := hts (.fieldLink RX10 43 "ArrayTrainerModel" "ats" "[I") (List.mem_cons_of_mem _ (wr5 _ (List.mem_of_getElem? (i := 18) rfl)))
  obtain ⟨H, hH⟩ : ∃ H : Heap, H = s.heap := ⟨_, rfl⟩
  obtain ⟨locs, hlc⟩ : ∃ L : List Loc, L = [] := ⟨_, rfl⟩
  have hP : va_P D vwCl (mw cs q v_thrown a_tape v_taped v_size v_to v_kind v_from v_letters v_letterMany v_digits v_isBeyond v_suffix v_steps v_fault v_hasProgram a_text a_act a_guess a_take a_begin a_finish a_to1 a_one a_two a_what a_ats a_atVar a_atNumber a_atomSort a_atomKind a_atomValue v_wrong v_wrongAt v_variable v_number v_numberKind v_takes a_out v_outed a_varSort a_varKind a_varValue a_creature v_creatures a_arrayClass a_arrayFrom a_arrayLong v_arrays v_cells a_cellSort a_cellKind a_cellValue a_asideSort a_asideKind a_asideValue a_outcome v_marks v_came v_guessed v_right v_taken a_markSort a_markKind a_markClass a_markValue v_sort v_kindAt v_value a_index v_reached v_looked) H := by rw [hH]; exact hP
  have hS : va_S A s.heap H locs := by rw [hH, hlc]; exact hS
  refine wHL hH hlc ?_
  have b_s9 := iB s9
  have b_n9 := iB n9
  refine lv_aload_n hx hb dX10_manyAts_0 rfl (lv_at hl 0 rfl) ?_
  refine va_get (D := D) (ci := 9) (v := .ref (q 12)) (C := RX10) (T := TX10) (N := 71) hx hb hts hin hown hK hP 0 rfl rfl 25 (by decide) k_5_18 (fun _ h9 => h9) rfl dX10_manyAts_1 ?_
  refine lv_iload_n hx hb dX10_manyAts_4 rfl (lv_at hl 1 rfl) ?_
  refine lv_iload_n hx hb dX10_manyAts_5 rfl (lv_at hl 2 rfl) ?_
  refine va_iast hx hb hK hP hD hS 12 0 rfl rfl (ix (by omega) (by omega)) dX10_manyAts_6 (fun H locs hP hD hS => ?_)
  obtain ⟨a_ats_6, e_a_ats_6⟩ : ∃ g, g = upd a_ats s9.toNatClampNeg n9 := ⟨_, rfl⟩
  have hP : va_P D vwCl (mw cs q v_thrown a_tape v_taped v_size v_to v_kind v_from v_letters v_letterMany v_digits v_isBeyond v_suffix v_steps v_fault v_hasProgram a_text a_act a_guess a_take a_begin a_finish a_to1 a_one a_two a_what a_ats_6 a_atVar a_atNumber a_atomSort a_atomKind a_atomValue v_wrong v_wrongAt v_variable v_number v_numberKind v_takes a_out v_outed a_varSort a_varKind a_varValue a_creature v_creatures a_arrayClass a_arrayFrom a_arrayLong v_arrays v_cells a_cellSort a_cellKind a_cellValue a_asideSort a_asideKind a_asideValue a_outcome v_marks v_came v_guessed v_right v_taken a_markSort a_markKind a_markClass a_markValue v_sort v_kindAt v_value a_index v_reached v_looked) H := by rw [e_a_ats_6]; exact hP
  have hD : va_D A (mw cs q v_thrown a_tape v_taped v_size v_to v_kind v_from v_letters v_letterMany v_digits v_isBeyond v_suffix v_steps v_fault v_hasProgram a_text a_act a_guess a_take a_begin a_finish a_to1 a_one a_two a_what a_ats_6 a_atVar a_atNumber a_atomSort a_atomKind a_atomValue v_wrong v_wrongAt v_variable v_number v_numberKind v_takes a_out v_outed a_varSort a_varKind a_varValue a_creature v_creatures a_arrayClass a_arrayFrom a_arrayLong v_arrays v_cells a_cellSort a_cellKind a_cellValue a_asideSort a_asideKind a_asideValue a_outcome v_marks v_came v_guessed v_right v_taken a_markSort a_markKind a_markClass a_markValue v_sort v_kindAt v_value a_index v_reached v_looked) := by rw [e_a_ats_6]; exact hD
  have hr6 : R03 a_ats_6 := R03.upd p_2 (by omega) (by omega) e_a_ats_6
  have hs6 : SAME a_ats_6 a_ats s9.toNatClampNeg := SAME.upd e_a_ats_6 (SAME.rf _ _)
  have hn6 := congrArg Int32.toInt (at_upd e_a_ats_6)
  refine lv_iconst (v := 1) hx hb dX10_manyAts_7 (by decide) ?_
  subst hAe
  rw [hQ]
  exact W.zret (v := 1) hx hb hr (by decide) (fun t ht hW => ⟨⟨1, _, rfl, ⟨a_ats_6, rfl, by first | assumption | omega | (intros; omega) | decide, by first | assumption | omega | (intros; omega) | decide, by first | assumption | omega | (intros; omega) | decide, by first | assumption | omega | (intros; omega) | decide⟩, by rw [ht]; exact hP, va_K.moved hW.alike hK, hD⟩, hS.F ht⟩) hS.2.2 dX10_manyAts_8

def rmX10_readOne : Room := { frames := 100, cells := 0, slots := 0, locals := 2000 }
set_option maxHeartbeats 4000000 in
set_option maxRecDepth 100000 in
theorem tX10_readOne {l : Launch} {D : va_G} {K : Nat → Nat → Nat} {cs : Nat → ClassId} {q : Nat → Nat} {v_thrown v_taped v_size v_to v_kind v_from v_letterMany v_isBeyond v_suffix v_steps v_fault v_hasProgram v_wrong v_wrongAt v_variable v_numberKind v_takes v_outed v_creatures v_arrays v_cells v_marks v_came v_guessed v_right v_taken v_sort v_kindAt v_reached v_looked : Int32} {a_tape a_text a_act a_guess a_take a_begin a_finish a_to1 a_one a_two a_what a_ats a_atVar a_atNumber a_atomSort a_atomKind a_out a_varSort a_varKind a_creature a_arrayClass a_arrayFrom a_arrayLong a_cellSort a_cellKind a_asideSort a_asideKind a_outcome a_markSort a_markKind a_markClass a_index : Nat → Int32} {v_letters v_digits v_number v_value : Int64} {a_atomValue a_varValue a_cellValue a_asideValue a_markValue : Nat → Int64} (s9 : Int32) (p_0 : LX a_tape v_size v_to v_from v_kind v_letters v_letterMany v_isBeyond) (p_1 : 0 ≤ v_variable.toInt ∧ v_variable.toInt ≤ 25) (p_2 : 0 ≤ s9.toInt) (p_3 : s9.toInt ≤ 201) (p_4 : R25 a_one) : CtI l yX10_readOne (wG yX10_readOne cX10_readOne 2 (some .boolean)) rmX10_readOne D (mwT cs) K [.ref (q 0), .int s9] (mw cs q v_thrown a_tape v_taped v_size v_to v_kind v_from v_letters v_letterMany v_digits v_isBeyond v_suffix v_steps v_fault v_hasProgram a_text a_act a_guess a_take a_begin a_finish a_to1 a_one a_two a_what a_ats a_atVar a_atNumber a_atomSort a_atomKind a_atomValue v_wrong v_wrongAt v_variable v_number v_numberKind v_takes a_out v_outed a_varSort a_varKind a_varValue a_creature v_creatures a_arrayClass a_arrayFrom a_arrayLong v_arrays v_cells a_cellSort a_cellKind a_cellValue a_asideSort a_asideKind a_asideValue a_outcome v_marks v_came v_guessed v_right v_taken a_markSort a_markKind a_markClass a_markValue v_sort v_kindAt v_value a_index v_reached v_looked) (fun r w1 => ∃ (v_to' : Int32) (v_kind' : Int32) (v_from' : Int32) (v_letters' : Int64) (v_letterMany' : Int32) (v_digits' : Int64) (v_isBeyond' : Int32) (v_suffix' : Int32) (a_one' : Nat → Int32) (v_wrong' : Int32) (v_wrongAt' : Int32) (v_variable' : Int32), w1 = (mw cs q v_thrown a_tape v_taped v_size v_to' v_kind' v_from' v_letters' v_letterMany' v_digits' v_isBeyond' v_suffix' v_steps v_fault v_hasProgram a_text a_act a_guess a_take a_begin a_finish a_to1 a_one' a_two a_what a_ats a_atVar a_atNumber a_atomSort a_atomKind a_atomValue v_wrong' v_wrongAt' v_variable' v_number v_numberKind v_takes a_out v_outed a_varSort a_varKind a_varValue a_creature v_creatures a_arrayClass a_arrayFrom a_arrayLong v_arrays v_cells a_cellSort a_cellKind a_cellValue a_asideSort a_asideKind a_asideValue a_outcome v_marks v_came v_guessed v_right v_taken a_markSort a_markKind a_markClass a_markValue v_sort v_kindAt v_value a_index v_reached v_looked) ∧ (LX a_tape v_size v_to' v_from' v_kind' v_letters' v_letterMany' v_isBeyond') ∧ (v_to.toInt ≤ v_to'.toInt) ∧ (ph a_tape v_to' ≤ ph a_tape v_to + 1) ∧ (0 ≤ v_variable'.toInt ∧ v_variable'.toInt ≤ 25) ∧ (r.toInt = 0 ∨ r.toInt = 1) ∧ (R25 a_one')) 0 0 := by
  intro sz
  refine Met.ofW (cc := cX10_readOne) (maxL := 2) (ret := (some .boolean)) (by decide) rfl ?_
  intro p e s m args below meth c s₁ B hml hv
  obtain ⟨rfl, hsz, hP, hK, hD0, hE⟩ := hv
  have hx := B.exec
  have hb := B.bytes
  have hr := B.returns
  have hts := atoms_spec (ws := (wG yX10_readOne cX10_readOne 2 (some .boolean))) B.pre
  have hown : s.vm.findClass RX10 = some m.cls := findClass_of_methodNamed B.named
  have hlocks := B.notSynchronized
  subst hsz
  have hD := hD0.self (sz := s.heap.size)
  obtain ⟨A, hAe⟩ : ∃ A : Nat → Prop, A = va_A (mw cs q v_thrown a_tape v_taped v_size v_to v_kind v_from v_letters v_letterMany v_digits v_isBeyond v_suffix v_steps v_fault v_hasProgram a_text a_act a_guess a_take a_begin a_finish a_to1 a_one a_two a_what a_ats a_atVar a_atNumber a_atomSort a_atomKind a_atomValue v_wrong v_wrongAt v_variable v_number v_numberKind v_takes a_out v_outed a_varSort a_varKind a_varValue a_creature v_creatures a_arrayClass a_arrayFrom a_arrayLong v_arrays v_cells a_cellSort a_cellKind a_cellValue a_asideSort a_asideKind a_asideValue a_outcome v_marks v_came v_guessed v_right v_taken a_markSort a_markKind a_markClass a_markValue v_sort v_kindAt v_value a_index v_reached v_looked) s.heap.size := ⟨_, rfl⟩
  rw [← hAe] at hD hE
  have hA : ∀ q : Nat, s.heap.size ≤ q → A q := fun q h => by rw [hAe]; exact Or.inr h
  have hS : va_S A s.heap s.heap [] := va_S.rf
  have hl := lv_entry ([.ref (q 0), .int s9]) (n := 2) (Nat.le_of_ble_eq_true rfl)
  rw [lg_entry_eq]
  generalize (lg_sl ([.ref (q 0), .int s9]) ++ List.replicate (2 - (lg_sl ([.ref (q 0), .int s9])).length) Slot.unset).toArray = ls at hl ⊢
  have hl : lv_has ls 2 [(0, .ref (q 0)), (1, .int s9)] := hl
  refine wq (fun Q hQ => ?_)
  have hin : ∀ w ∈ wsX100, w ∈ (wG yX10_readOne cX10_readOne 2 (some .boolean)) := fun w h => List.mem_cons_of_mem _ (inlX10 w h)
  have kc0 : (0 : Int32).toInt = 0 := by decide
  have kc1 : (1 : Int32).toInt = 1 := by decide
  have k_5_15 := hts (.fieldLink RX10 34 "ArrayTrainerModel" "one" "[I") (List.mem_cons_of_mem _ (wr5 _ (List.mem_of_getElem? (i := 15) rfl)))
  have k_25_22 := hts (.fieldLink RX10 332 "ArrayTrainerModel" "variable" "I") (List.mem_cons_of_mem _ (wr25 _ (List.mem_of_getElem? (i := 22) rfl)))
  obtain ⟨H, hH⟩ : ∃ H : Heap, H = s.heap := ⟨_, rfl⟩
  obtain ⟨locs, hlc⟩ : ∃ L : List Loc, L = [] := ⟨_, rfl⟩
  have hP : va_P D vwCl (mw cs q v_thrown a_tape v_taped v_size v_to v_kind v_from v_letters v_letterMany v_digits v_isBeyond v_suffix v_steps v_fault v_hasProgram a_text a_act a_guess a_take a_begin a_finish a_to1 a_one a_two a_what a_ats a_atVar a_atNumber a_atomSort a_atomKind a_atomValue v_wrong v_wrongAt v_variable v_number v_numberKind v_takes a_out v_outed a_varSort a_varKind a_varValue a_creature v_creatures a_arrayClass a_arrayFrom a_arrayLong v_arrays v_cells a_cellSort a_cellKind a_cellValue a_asideSort a_asideKind a_asideValue a_outcome v_marks v_came v_guessed v_right v_taken a_markSort a_markKind a_markClass a_markValue v_sort v_kindAt v_value a_index v_reached v_looked) H := by rw [hH]; exact hP
  have hS : va_S A s.heap H locs := by rw [hH, hlc]; exact hS
  refine wHL hH hlc ?_
  have b_s9 := iB s9
  refine lv_aload_n hx hb dX10_readOne_0 rfl (lv_at hl 0 rfl) ?_
  refine call_i (As := []) (rest := []) ⟨hx, hb, hml, hown, hts⟩ (tX10_readVar (l := l)  (by first | assumption | omega | (intros; omega) | decide) (by first | assumption | omega | (intros; omega) | decide)) (cwV 0 hts (gV (wr25 _ (List.mem_of_getElem? (i := 23) rfl)) (wr26 _ (List.mem_of_getElem? (i := 0) rfl)) (wr26 _ (List.mem_of_getElem? (i := 1) rfl)) (wr1 _ (List.mem_of_getElem? (i := 5) rfl)) (wr26 _ (List.mem_of_getElem? (i := 2) rfl))) rfl rfl rfl (by decide +kernel) ⟨Nat.le_of_ble_eq_true rfl, Nat.le_of_ble_eq_true rfl⟩) (va_recv hK hP (ci := 9) (q0 := 0) rfl rfl) hK hP hD hE hS hA rfl hl.1 rfl (Nat.le_of_ble_eq_true rfl) dX10_readOne_1 ⟨Nat.le_of_ble_eq_true rfl, Nat.le_of_ble_eq_true rfl⟩ (fun r1 w9 H locs hw1 hP hD hS => ?_)
  obtain ⟨v_to_1, v_kind_1, v_from_1, v_letters_1, v_letterMany_1, v_digits_1, v_isBeyond_1, v_suffix_1, v_wrong_1, v_wrongAt_1, v_variable_1, rfl, hw1_0, hw1_1, hw1_2, hw1_3, hw1_4⟩ := hw1
  have b_v_to_1 := iB v_to_1
  have b_v_kind_1 := iB v_kind_1
  have b_v_from_1 := iB v_from_1
  have b_v_letters_1 := jB v_letters_1
  have b_v_letterMany_1 := iB v_letterMany_1
  have b_v_digits_1 := jB v_digits_1
  have b_v_isBeyond_1 := iB v_isBeyond_1
  have b_v_suffix_1 := iB v_suffix_1
  have b_v_wrong_1 := iB v_wrong_1
  have b_v_wrongAt_1 := iB v_wrongAt_1
  have b_v_variable_1 := iB v_variable_1
  have b_r1 := iB r1
  refine m_if_ne (X := r1.toInt) (tgt := 9) hx hb dX10_readOne_4 (by decide) rfl (fun c4 => ?_) (fun c4 => ?_)
  · skip
    refine lv_aload_n hx hb dX10_readOne_9 rfl (lv_at hl 0 rfl) ?_
    refine va_get (D := D) (ci := 9) (v := .ref (q 9)) (C := RX10) (T := TX10) (N := 71) hx hb hts hin hown hK hP 0 rfl rfl 22 (by decide) k_5_15 (fun _ h9 => h9) rfl dX10_readOne_10 ?_
    refine lv_iload_n hx hb dX10_readOne_13 rfl (lv_at hl 1 rfl) ?_
    refine lv_aload_n hx hb dX10_readOne_14 rfl (lv_at hl 0 rfl) ?_
    refine va_get (D := D) (ci := 9) (v := .int v_variable_1) (C := RX10) (T := TX10) (N := 71) hx hb hts hin hown hK hP 0 rfl rfl 33 (by decide) k_25_22 (fun _ h9 => h9) rfl dX10_readOne_15 ?_
    refine va_iast hx hb hK hP hD hS 9 0 rfl rfl (ix (by omega) (by omega)) dX10_readOne_18 (fun H locs hP hD hS => ?_)
    obtain ⟨a_one_18, e_a_one_18⟩ : ∃ g, g = upd a_one s9.toNatClampNeg v_variable_1 := ⟨_, rfl⟩
    have hP : va_P D vwCl (mw cs q v_thrown a_tape v_taped v_size v_to_1 v_kind_1 v_from_1 v_letters_1 v_letterMany_1 v_digits_1 v_isBeyond_1 v_suffix_1 v_steps v_fault v_hasProgram a_text a_act a_guess a_take a_begin a_finish a_to1 a_one_18 a_two a_what a_ats a_atVar a_atNumber a_atomSort a_atomKind a_atomValue v_wrong_1 v_wrongAt_1 v_variable_1 v_number v_numberKind v_takes a_out v_outed a_varSort a_varKind a_varValue a_creature v_creatures a_arrayClass a_arrayFrom a_arrayLong v_arrays v_cells a_cellSort a_cellKind a_cellValue a_asideSort a_asideKind a_asideValue a_outcome v_marks v_came v_guessed v_right v_taken a_markSort a_markKind a_markClass a_markValue v_sort v_kindAt v_value a_index v_reached v_looked) H := by rw [e_a_one_18]; exact hP
    have hD : va_D A (mw cs q v_thrown a_tape v_taped v_size v_to_1 v_kind_1 v_from_1 v_letters_1 v_letterMany_1 v_digits_1 v_isBeyond_1 v_suffix_1 v_steps v_fault v_hasProgram a_text a_act a_guess a_take a_begin a_finish a_to1 a_one_18 a_two a_what a_ats a_atVar a_atNumber a_atomSort a_atomKind a_atomValue v_wrong_1 v_wrongAt_1 v_variable_1 v_number v_numberKind v_takes a_out v_outed a_varSort a_varKind a_varValue a_creature v_creatures a_arrayClass a_arrayFrom a_arrayLong v_arrays v_cells a_cellSort a_cellKind a_cellValue a_asideSort a_asideKind a_asideValue a_outcome v_marks v_came v_guessed v_right v_taken a_markSort a_markKind a_markClass a_markValue v_sort v_kindAt v_value a_index v_reached v_looked) := by rw [e_a_one_18]; exact hD
    have ho18 : R25 a_one_18 := R25.upd p_4 (by omega) (by omega) e_a_one_18
    refine lv_iconst (v := 1) hx hb dX10_readOne_19 (by decide) ?_
    subst hAe
    rw [hQ]
    exact W.zret (v := 1) hx hb hr (by decide) (fun t ht hW => ⟨⟨1, _, rfl, ⟨v_to_1, v_kind_1, v_from_1, v_letters_1, v_letterMany_1, v_digits_1, v_isBeyond_1, v_suffix_1, a_one_18, v_wrong_1, v_wrongAt_1, v_variable_1, rfl, by first | assumption | omega | (intros; omega) | decide, by first | assumption | omega | (intros; omega) | decide, by first | assumption | omega | (intros; omega) | decide, by first | assumption | omega | (intros; omega) | decide, by first | assumption | omega | (intros; omega) | decide, by first | assumption | omega | (intros; omega) | decide⟩, by rw [ht]; exact hP, va_K.moved hW.alike hK, hD⟩, hS.F ht⟩) hS.2.2 dX10_readOne_20
  · skip
    refine lv_iconst (v := 0) hx hb dX10_readOne_7 (by decide) ?_
    subst hAe
    rw [hQ]
    exact W.zret (v := 0) hx hb hr (by decide) (fun t ht hW => ⟨⟨0, _, rfl, ⟨v_to_1, v_kind_1, v_from_1, v_letters_1, v_letterMany_1, v_digits_1, v_isBeyond_1, v_suffix_1, a_one, v_wrong_1, v_wrongAt_1, v_variable_1, rfl, by first | assumption | omega | (intros; omega) | decide, by first | assumption | omega | (intros; omega) | decide, by first | assumption | omega | (intros; omega) | decide, by first | assumption | omega | (intros; omega) | decide, by first | assumption | omega | (intros; omega) | decide, by first | assumption | omega | (intros; omega) | decide⟩, by rw [ht]; exact hP, va_K.moved hW.alike hK, hD⟩, hS.F ht⟩) hS.2.2 dX10_readOne_8

def rmX10_readTwo : Room := { frames := 100, cells := 0, slots := 0, locals := 2000 }
set_option maxHeartbeats 4000000 in
set_option maxRecDepth 100000 in
theorem tX10_readTwo {l : Launch} {D : va_G} {K : Nat → Nat → Nat} {cs : Nat → ClassId} {q : Nat → Nat} {v_thrown v_taped v_size v_to v_kind v_from v_letterMany v_isBeyond v_suffix v_steps v_fault v_hasProgram v_wrong v_wrongAt v_variable v_numberKind v_takes v_outed v_creatures v_arrays v_cells v_marks v_came v_guessed v_right v_taken v_sort v_kindAt v_reached v_looked : Int32} {a_tape a_text a_act a_guess a_take a_begin a_finish a_to1 a_one a_two a_what a_ats a_atVar a_atNumber a_atomSort a_atomKind a_out a_varSort a_varKind a_creature a_arrayClass a_arrayFrom a_arrayLong a_cellSort a_cellKind a_asideSort a_asideKind a_outcome a_markSort a_markKind a_markClass a_index : Nat → Int32} {v_letters v_digits v_number v_value : Int64} {a_atomValue a_varValue a_cellValue a_asideValue a_markValue : Nat → Int64} (s9 : Int32) (p_0 : LX a_tape v_size v_to v_from v_kind v_letters v_letterMany v_isBeyond) (p_1 : 0 ≤ v_variable.toInt ∧ v_variable.toInt ≤ 25) (p_2 : 0 ≤ s9.toInt) (p_3 : s9.toInt ≤ 201) (p_4 : R25 a_two) : CtI l yX10_readTwo (wG yX10_readTwo cX10_readTwo 2 (some .boolean)) rmX10_readTwo D (mwT cs) K [.ref (q 0), .int s9] (mw cs q v_thrown a_tape v_taped v_size v_to v_kind v_from v_letters v_letterMany v_digits v_isBeyond v_suffix v_steps v_fault v_hasProgram a_text a_act a_guess a_take a_begin a_finish a_to1 a_one a_two a_what a_ats a_atVar a_atNumber a_atomSort a_atomKind a_atomValue v_wrong v_wrongAt v_variable v_number v_numberKind v_takes a_out v_outed a_varSort a_varKind a_varValue a_creature v_creatures a_arrayClass a_arrayFrom a_arrayLong v_arrays v_cells a_cellSort a_cellKind a_cellValue a_asideSort a_asideKind a_asideValue a_outcome v_marks v_came v_guessed v_right v_taken a_markSort a_markKind a_markClass a_markValue v_sort v_kindAt v_value a_index v_reached v_looked) (fun r w1 => ∃ (v_to' : Int32) (v_kind' : Int32) (v_from' : Int32) (v_letters' : Int64) (v_letterMany' : Int32) (v_digits' : Int64) (v_isBeyond' : Int32) (v_suffix' : Int32) (a_two' : Nat → Int32) (v_wrong' : Int32) (v_wrongAt' : Int32) (v_variable' : Int32), w1 = (mw cs q v_thrown a_tape v_taped v_size v_to' v_kind' v_from' v_letters' v_letterMany' v_digits' v_isBeyond' v_suffix' v_steps v_fault v_hasProgram a_text a_act a_guess a_take a_begin a_finish a_to1 a_one a_two' a_what a_ats a_atVar a_atNumber a_atomSort a_atomKind a_atomValue v_wrong' v_wrongAt' v_variable' v_number v_numberKind v_takes a_out v_outed a_varSort a_varKind a_varValue a_creature v_creatures a_arrayClass a_arrayFrom a_arrayLong v_arrays v_cells a_cellSort a_cellKind a_cellValue a_asideSort a_asideKind a_asideValue a_outcome v_marks v_came v_guessed v_right v_taken a_markSort a_markKind a_markClass a_markValue v_sort v_kindAt v_value a_index v_reached v_looked) ∧ (LX a_tape v_size v_to' v_from' v_kind' v_letters' v_letterMany' v_isBeyond') ∧ (v_to.toInt ≤ v_to'.toInt) ∧ (ph a_tape v_to' ≤ ph a_tape v_to + 1) ∧ (0 ≤ v_variable'.toInt ∧ v_variable'.toInt ≤ 25) ∧ (r.toInt = 0 ∨ r.toInt = 1) ∧ (R25 a_two')) 0 0 := by
  intro sz
  refine Met.ofW (cc := cX10_readTwo) (maxL := 2) (ret := (some .boolean)) (by decide) rfl ?_
  intro p e s m args below meth c s₁ B hml hv
  obtain ⟨rfl, hsz, hP, hK, hD0, hE⟩ := hv
  have hx := B.exec
  have hb := B.bytes
  have hr := B.returns
  have hts := atoms_spec (ws := (wG yX10_readTwo cX10_readTwo 2 (some .boolean))) B.pre
  have hown : s.vm.findClass RX10 = some m.cls := findClass_of_methodNamed B.named
  have hlocks := B.notSynchronized
  subst hsz
  have hD := hD0.self (sz := s.heap.size)
  obtain ⟨A, hAe⟩ : ∃ A : Nat → Prop, A = va_A (mw cs q v_thrown a_tape v_taped v_size v_to v_kind v_from v_letters v_letterMany v_digits v_isBeyond v_suffix v_steps v_fault v_hasProgram a_text a_act a_guess a_take a_begin a_finish a_to1 a_one a_two a_what a_ats a_atVar a_atNumber a_atomSort a_atomKind a_atomValue v_wrong v_wrongAt v_variable v_number v_numberKind v_takes a_out v_outed a_varSort a_varKind a_varValue a_creature v_creatures a_arrayClass a_arrayFrom a_arrayLong v_arrays v_cells a_cellSort a_cellKind a_cellValue a_asideSort a_asideKind a_asideValue a_outcome v_marks v_came v_guessed v_right v_taken a_markSort a_markKind a_markClass a_markValue v_sort v_kindAt v_value a_index v_reached v_looked) s.heap.size := ⟨_, rfl⟩
  rw [← hAe] at hD hE
  have hA : ∀ q : Nat, s.heap.size ≤ q → A q := fun q h => by rw [hAe]; exact Or.inr h
  have hS : va_S A s.heap s.heap [] := va_S.rf
  have hl := lv_entry ([.ref (q 0), .int s9]) (n := 2) (Nat.le_of_ble_eq_true rfl)
  rw [lg_entry_eq]
  generalize (lg_sl ([.ref (q 0), .int s9]) ++ List.replicate (2 - (lg_sl ([.ref (q 0), .int s9])).length) Slot.unset).toArray = ls at hl ⊢
  have hl : lv_has ls 2 [(0, .ref (q 0)), (1, .int s9)] := hl
  refine wq (fun Q hQ => ?_)
  have hin : ∀ w ∈ wsX100, w ∈ (wG yX10_readTwo cX10_readTwo 2 (some .boolean)) := fun w h => List.mem_cons_of_mem _ (inlX10 w h)
  have kc0 : (0 : Int32).toInt = 0 := by decide
  have kc1 : (1 : Int32).toInt = 1 := by decide
  have k_5_16 := hts (.fieldLink RX10 37 "ArrayTrainerModel" "two" "[I") (List.mem_cons_of_mem _ (wr5 _ (List.mem_of_getElem? (i := 16) rfl)))
  have k_25_22 := hts (.fieldLink RX10 332 "ArrayTrainerModel" "variable" "I") (List.mem_cons_of_mem _ (wr25 _ (List.mem_of_getElem? (i := 22) rfl)))
  obtain ⟨H, hH⟩ : ∃ H : Heap, H = s.heap := ⟨_, rfl⟩
  obtain ⟨locs, hlc⟩ : ∃ L : List Loc, L = [] := ⟨_, rfl⟩
  have hP : va_P D vwCl (mw cs q v_thrown a_tape v_taped v_size v_to v_kind v_from v_letters v_letterMany v_digits v_isBeyond v_suffix v_steps v_fault v_hasProgram a_text a_act a_guess a_take a_begin a_finish a_to1 a_one a_two a_what a_ats a_atVar a_atNumber a_atomSort a_atomKind a_atomValue v_wrong v_wrongAt v_variable v_number v_numberKind v_takes a_out v_outed a_varSort a_varKind a_varValue a_creature v_creatures a_arrayClass a_arrayFrom a_arrayLong v_arrays v_cells a_cellSort a_cellKind a_cellValue a_asideSort a_asideKind a_asideValue a_outcome v_marks v_came v_guessed v_right v_taken a_markSort a_markKind a_markClass a_markValue v_sort v_kindAt v_value a_index v_reached v_looked) H := by rw [hH]; exact hP
  have hS : va_S A s.heap H locs := by rw [hH, hlc]; exact hS
  refine wHL hH hlc ?_
  have b_s9 := iB s9
  refine lv_aload_n hx hb dX10_readTwo_0 rfl (lv_at hl 0 rfl) ?_
  refine call_i (As := []) (rest := []) ⟨hx, hb, hml, hown, hts⟩ (tX10_readVar (l := l)  (by first | assumption | omega | (intros; omega) | decide) (by first | assumption | omega | (intros; omega) | decide)) (cwV 0 hts (gV (wr25 _ (List.mem_of_getElem? (i := 23) rfl)) (wr26 _ (List.mem_of_getElem? (i := 0) rfl)) (wr26 _ (List.mem_of_getElem? (i := 1) rfl)) (wr1 _ (List.mem_of_getElem? (i := 5) rfl)) (wr26 _ (List.mem_of_getElem? (i := 2) rfl))) rfl rfl rfl (by decide +kernel) ⟨Nat.le_of_ble_eq_true rfl, Nat.le_of_ble_eq_true rfl⟩) (va_recv hK hP (ci := 9) (q0 := 0) rfl rfl) hK hP hD hE hS hA rfl hl.1 rfl (Nat.le_of_ble_eq_true rfl) dX10_readTwo_1 ⟨Nat.le_of_ble_eq_true rfl, Nat.le_of_ble_eq_true rfl⟩ (fun r1 w9 H locs hw1 hP hD hS => ?_)
  obtain ⟨v_to_1, v_kind_1, v_from_1, v_letters_1, v_letterMany_1, v_digits_1, v_isBeyond_1, v_suffix_1, v_wrong_1, v_wrongAt_1, v_variable_1, rfl, hw1_0, hw1_1, hw1_2, hw1_3, hw1_4⟩ := hw1
  have b_v_to_1 := iB v_to_1
  have b_v_kind_1 := iB v_kind_1
  have b_v_from_1 := iB v_from_1
  have b_v_letters_1 := jB v_letters_1
  have b_v_letterMany_1 := iB v_letterMany_1
  have b_v_digits_1 := jB v_digits_1
  have b_v_isBeyond_1 := iB v_isBeyond_1
  have b_v_suffix_1 := iB v_suffix_1
  have b_v_wrong_1 := iB v_wrong_1
  have b_v_wrongAt_1 := iB v_wrongAt_1
  have b_v_variable_1 := iB v_variable_1
  have b_r1 := iB r1
  refine m_if_ne (X := r1.toInt) (tgt := 9) hx hb dX10_readTwo_4 (by decide) rfl (fun c4 => ?_) (fun c4 => ?_)
  · skip
    refine lv_aload_n hx hb dX10_readTwo_9 rfl (lv_at hl 0 rfl) ?_
    refine va_get (D := D) (ci := 9) (v := .ref (q 10)) (C := RX10) (T := TX10) (N := 71) hx hb hts hin hown hK hP 0 rfl rfl 23 (by decide) k_5_16 (fun _ h9 => h9) rfl dX10_readTwo_10 ?_
    refine lv_iload_n hx hb dX10_readTwo_13 rfl (lv_at hl 1 rfl) ?_
    refine lv_aload_n hx hb dX10_readTwo_14 rfl (lv_at hl 0 rfl) ?_
    refine va_get (D := D) (ci := 9) (v := .int v_variable_1) (C := RX10) (T := TX10) (N := 71) hx hb hts hin hown hK hP 0 rfl rfl 33 (by decide) k_25_22 (fun _ h9 => h9) rfl dX10_readTwo_15 ?_
    refine va_iast hx hb hK hP hD hS 10 0 rfl rfl (ix (by omega) (by omega)) dX10_readTwo_18 (fun H locs hP hD hS => ?_)
    obtain ⟨a_two_18, e_a_two_18⟩ : ∃ g, g = upd a_two s9.toNatClampNeg v_variable_1 := ⟨_, rfl⟩
    have hP : va_P D vwCl (mw cs q v_thrown a_tape v_taped v_size v_to_1 v_kind_1 v_from_1 v_letters_1 v_letterMany_1 v_digits_1 v_isBeyond_1 v_suffix_1 v_steps v_fault v_hasProgram a_text a_act a_guess a_take a_begin a_finish a_to1 a_one a_two_18 a_what a_ats a_atVar a_atNumber a_atomSort a_atomKind a_atomValue v_wrong_1 v_wrongAt_1 v_variable_1 v_number v_numberKind v_takes a_out v_outed a_varSort a_varKind a_varValue a_creature v_creatures a_arrayClass a_arrayFrom a_arrayLong v_arrays v_cells a_cellSort a_cellKind a_cellValue a_asideSort a_asideKind a_asideValue a_outcome v_marks v_came v_guessed v_right v_taken a_markSort a_markKind a_markClass a_markValue v_sort v_kindAt v_value a_index v_reached v_looked) H := by rw [e_a_two_18]; exact hP
    have hD : va_D A (mw cs q v_thrown a_tape v_taped v_size v_to_1 v_kind_1 v_from_1 v_letters_1 v_letterMany_1 v_digits_1 v_isBeyond_1 v_suffix_1 v_steps v_fault v_hasProgram a_text a_act a_guess a_take a_begin a_finish a_to1 a_one a_two_18 a_what a_ats a_atVar a_atNumber a_atomSort a_atomKind a_atomValue v_wrong_1 v_wrongAt_1 v_variable_1 v_number v_numberKind v_takes a_out v_outed a_varSort a_varKind a_varValue a_creature v_creatures a_arrayClass a_arrayFrom a_arrayLong v_arrays v_cells a_cellSort a_cellKind a_cellValue a_asideSort a_asideKind a_asideValue a_outcome v_marks v_came v_guessed v_right v_taken a_markSort a_markKind a_markClass a_markValue v_sort v_kindAt v_value a_index v_reached v_looked) := by rw [e_a_two_18]; exact hD
    have ho18 : R25 a_two_18 := R25.upd p_4 (by omega) (by omega) e_a_two_18
    refine lv_iconst (v := 1) hx hb dX10_readTwo_19 (by decide) ?_
    subst hAe
    rw [hQ]
    exact W.zret (v := 1) hx hb hr (by decide) (fun t ht hW => ⟨⟨1, _, rfl, ⟨v_to_1, v_kind_1, v_from_1, v_letters_1, v_letterMany_1, v_digits_1, v_isBeyond_1, v_suffix_1, a_two_18, v_wrong_1, v_wrongAt_1, v_variable_1, rfl, by first | assumption | omega | (intros; omega) | decide, by first | assumption | omega | (intros; omega) | decide, by first | assumption | omega | (intros; omega) | decide, by first | assumption | omega | (intros; omega) | decide, by first | assumption | omega | (intros; omega) | decide, by first | assumption | omega | (intros; omega) | decide⟩, by rw [ht]; exact hP, va_K.moved hW.alike hK, hD⟩, hS.F ht⟩) hS.2.2 dX10_readTwo_20
  · skip
    refine lv_iconst (v := 0) hx hb dX10_readTwo_7 (by decide) ?_
    subst hAe
    rw [hQ]
    exact W.zret (v := 0) hx hb hr (by decide) (fun t ht hW => ⟨⟨0, _, rfl, ⟨v_to_1, v_kind_1, v_from_1, v_letters_1, v_letterMany_1, v_digits_1, v_isBeyond_1, v_suffix_1, a_two, v_wrong_1, v_wrongAt_1, v_variable_1, rfl, by first | assumption | omega | (intros; omega) | decide, by first | assumption | omega | (intros; omega) | decide, by first | assumption | omega | (intros; omega) | decide, by first | assumption | omega | (intros; omega) | decide, by first | assumption | omega | (intros; omega) | decide, by first | assumption | omega | (intros; omega) | decide⟩, by rw [ht]; exact hP, va_K.moved hW.alike hK, hD⟩, hS.F ht⟩) hS.2.2 dX10_readTwo_8

def rmX10_readGiven : Room := { frames := 180, cells := 0, slots := 0, locals := 3600 }
set_option maxHeartbeats 4000000 in
set_option maxRecDepth 100000 in
theorem tX10_readGiven {l : Launch} {D : va_G} {K : Nat → Nat → Nat} {cs : Nat → ClassId} {q : Nat → Nat} {v_thrown v_taped v_size v_to v_kind v_from v_letterMany v_isBeyond v_suffix v_steps v_fault v_hasProgram v_wrong v_wrongAt v_variable v_numberKind v_takes v_outed v_creatures v_arrays v_cells v_marks v_came v_guessed v_right v_taken v_sort v_kindAt v_reached v_looked : Int32} {a_tape a_text a_act a_guess a_take a_begin a_finish a_to1 a_one a_two a_what a_ats a_atVar a_atNumber a_atomSort a_atomKind a_out a_varSort a_varKind a_creature a_arrayClass a_arrayFrom a_arrayLong a_cellSort a_cellKind a_asideSort a_asideKind a_outcome a_markSort a_markKind a_markClass a_index : Nat → Int32} {v_letters v_digits v_number v_value : Int64} {a_atomValue a_varValue a_cellValue a_asideValue a_markValue : Nat → Int64} (s9 : Int32) (a9 : Int32) (p_0 : LX a_tape v_size v_to v_from v_kind v_letters v_letterMany v_isBeyond) (p_1 : 0 ≤ v_variable.toInt ∧ v_variable.toInt ≤ 25) (p_2 : NumOK v_numberKind v_number) (p_3 : Rm25 a_atVar) (p_4 : 0 ≤ s9.toInt) (p_5 : s9.toInt ≤ 201) (p_6 : R03 a_ats) (p_7 : R25 a_one) (p_8 : R25 a_two) : CtI l yX10_readGiven (wG yX10_readGiven cX10_readGiven 3 (some .boolean)) rmX10_readGiven D (mwT cs) K [.ref (q 0), .int s9, .int a9] (mw cs q v_thrown a_tape v_taped v_size v_to v_kind v_from v_letters v_letterMany v_digits v_isBeyond v_suffix v_steps v_fault v_hasProgram a_text a_act a_guess a_take a_begin a_finish a_to1 a_one a_two a_what a_ats a_atVar a_atNumber a_atomSort a_atomKind a_atomValue v_wrong v_wrongAt v_variable v_number v_numberKind v_takes a_out v_outed a_varSort a_varKind a_varValue a_creature v_creatures a_arrayClass a_arrayFrom a_arrayLong v_arrays v_cells a_cellSort a_cellKind a_cellValue a_asideSort a_asideKind a_asideValue a_outcome v_marks v_came v_guessed v_right v_taken a_markSort a_markKind a_markClass a_markValue v_sort v_kindAt v_value a_index v_reached v_looked) (fun r w1 => ∃ (v_to' : Int32) (v_kind' : Int32) (v_from' : Int32) (v_letters' : Int64) (v_letterMany' : Int32) (v_digits' : Int64) (v_isBeyond' : Int32) (v_suffix' : Int32) (a_one' : Nat → Int32) (a_two' : Nat → Int32) (a_what' : Nat → Int32) (a_ats' : Nat → Int32) (a_atVar' : Nat → Int32) (a_atNumber' : Nat → Int32) (v_wrong' : Int32) (v_wrongAt' : Int32) (v_variable' : Int32) (v_number' : Int64) (v_numberKind' : Int32), w1 = (mw cs q v_thrown a_tape v_taped v_size v_to' v_kind' v_from' v_letters' v_letterMany' v_digits' v_isBeyond' v_suffix' v_steps v_fault v_hasProgram a_text a_act a_guess a_take a_begin a_finish a_to1 a_one' a_two' a_what' a_ats' a_atVar' a_atNumber' a_atomSort a_atomKind a_atomValue v_wrong' v_wrongAt' v_variable' v_number' v_numberKind' v_takes a_out v_outed a_varSort a_varKind a_varValue a_creature v_creatures a_arrayClass a_arrayFrom a_arrayLong v_arrays v_cells a_cellSort a_cellKind a_cellValue a_asideSort a_asideKind a_asideValue a_outcome v_marks v_came v_guessed v_right v_taken a_markSort a_markKind a_markClass a_markValue v_sort v_kindAt v_value a_index v_reached v_looked) ∧ (LX a_tape v_size v_to' v_from' v_kind' v_letters' v_letterMany' v_isBeyond') ∧ (v_to.toInt ≤ v_to'.toInt) ∧ (ph a_tape v_to' ≤ ph a_tape v_to + 14) ∧ (0 ≤ v_variable'.toInt ∧ v_variable'.toInt ≤ 25) ∧ (NumOK v_numberKind' v_number') ∧ (Rm25 a_atVar') ∧ (R03 a_ats') ∧ (R25 a_one') ∧ (R25 a_two') ∧ (SAME a_ats' a_ats s9.toNatClampNeg) ∧ (SAME a_what' a_what s9.toNatClampNeg) ∧ (r.toInt = 0 ∨ (r.toInt = 1 ∧ ((a9.toInt = 4 ∨ a9.toInt = 6) → 1 ≤ (a_ats' s9.toNatClampNeg).toInt) ∧ (a9.toInt = 8 → 1 ≤ (a_ats' s9.toNatClampNeg).toInt ∧ 20 * (a_ats' s9.toNatClampNeg).toInt ≤ (a_what' s9.toNatClampNeg).toInt ∧ (a_what' s9.toNatClampNeg).toInt ≤ 79)))) 0 0 := by
  intro sz
  refine Met.ofW (cc := cX10_readGiven) (maxL := 3) (ret := (some .boolean)) (by decide) rfl ?_
  intro p e s m args below meth c s₁ B hml hv
  obtain ⟨rfl, hsz, hP, hK, hD0, hE⟩ := hv
  have hx := B.exec
  have hb := B.bytes
  have hr := B.returns
  have hts := atoms_spec (ws := (wG yX10_readGiven cX10_readGiven 3 (some .boolean))) B.pre
  have hown : s.vm.findClass RX10 = some m.cls := findClass_of_methodNamed B.named
  have hlocks := B.notSynchronized
  subst hsz
  have hD := hD0.self (sz := s.heap.size)
  obtain ⟨A, hAe⟩ : ∃ A : Nat → Prop, A = va_A (mw cs q v_thrown a_tape v_taped v_size v_to v_kind v_from v_letters v_letterMany v_digits v_isBeyond v_suffix v_steps v_fault v_hasProgram a_text a_act a_guess a_take a_begin a_finish a_to1 a_one a_two a_what a_ats a_atVar a_atNumber a_atomSort a_atomKind a_atomValue v_wrong v_wrongAt v_variable v_number v_numberKind v_takes a_out v_outed a_varSort a_varKind a_varValue a_creature v_creatures a_arrayClass a_arrayFrom a_arrayLong v_arrays v_cells a_cellSort a_cellKind a_cellValue a_asideSort a_asideKind a_asideValue a_outcome v_marks v_came v_guessed v_right v_taken a_markSort a_markKind a_markClass a_markValue v_sort v_kindAt v_value a_index v_reached v_looked) s.heap.size := ⟨_, rfl⟩
  rw [← hAe] at hD hE
  have hA : ∀ q : Nat, s.heap.size ≤ q → A q := fun q h => by rw [hAe]; exact Or.inr h
  have hS : va_S A s.heap s.heap [] := va_S.rf
  have hl := lv_entry ([.ref (q 0), .int s9, .int a9]) (n := 3) (Nat.le_of_ble_eq_true rfl)
  rw [lg_entry_eq]
  generalize (lg_sl ([.ref (q 0), .int s9, .int a9]) ++ List.replicate (3 - (lg_sl ([.ref (q 0), .int s9, .int a9])).length) Slot.unset).toArray = ls at hl ⊢
  have hl : lv_has ls 3 [(0, .ref (q 0)), (1, .int s9), (2, .int a9)] := hl
  refine wq (fun Q hQ => ?_)
  have hin : ∀ w ∈ wsX100, w ∈ (wG yX10_readGiven cX10_readGiven 3 (some .boolean)) := fun w h => List.mem_cons_of_mem _ (inlX10 w h)
  have kc0 : (0 : Int32).toInt = 0 := by decide
  have kc1 : (1 : Int32).toInt = 1 := by decide
  have kc2 : (8 : Int32).toInt = 8 := by decide
  have kc3 : (17 : Int32).toInt = 17 := by decide
  obtain ⟨H, hH⟩ : ∃ H : Heap, H = s.heap := ⟨_, rfl⟩
  obtain ⟨locs, hlc⟩ : ∃ L : List Loc, L = [] := ⟨_, rfl⟩
  have hP : va_P D vwCl (mw cs q v_thrown a_tape v_taped v_size v_to v_kind v_from v_letters v_letterMany v_digits v_isBeyond v_suffix v_steps v_fault v_hasProgram a_text a_act a_guess a_take a_begin a_finish a_to1 a_one a_two a_what a_ats a_atVar a_atNumber a_atomSort a_atomKind a_atomValue v_wrong v_wrongAt v_variable v_number v_numberKind v_takes a_out v_outed a_varSort a_varKind a_varValue a_creature v_creatures a_arrayClass a_arrayFrom a_arrayLong v_arrays v_cells a_cellSort a_cellKind a_cellValue a_asideSort a_asideKind a_asideValue a_outcome v_marks v_came v_guessed v_right v_taken a_markSort a_markKind a_markClass a_markValue v_sort v_kindAt v_value a_index v_reached v_looked) H := by rw [hH]; exact hP
  have hS : va_S A s.heap H locs := by rw [hH, hlc]; exact hS
  refine wHL hH hlc ?_
  have b_s9 := iB s9
  have b_a9 := iB a9
  refine lv_iload_n hx hb dX10_readGiven_0 rfl (lv_at hl 2 rfl) ?_
  have J166 : ∀ (H : Heap) (locs : List Loc) (ls : Array Slot), (¬ a9.toInt = 4) → (¬ a9.toInt = 6) → (¬ a9.toInt = 8) → va_P D vwCl (mw cs q v_thrown a_tape v_taped v_size v_to v_kind v_from v_letters v_letterMany v_digits v_isBeyond v_suffix v_steps v_fault v_hasProgram a_text a_act a_guess a_take a_begin a_finish a_to1 a_one a_two a_what a_ats a_atVar a_atNumber a_atomSort a_atomKind a_atomValue v_wrong v_wrongAt v_variable v_number v_numberKind v_takes a_out v_outed a_varSort a_varKind a_varValue a_creature v_creatures a_arrayClass a_arrayFrom a_arrayLong v_arrays v_cells a_cellSort a_cellKind a_cellValue a_asideSort a_asideKind a_asideValue a_outcome v_marks v_came v_guessed v_right v_taken a_markSort a_markKind a_markClass a_markValue v_sort v_kindAt v_value a_index v_reached v_looked) H → va_D A (mw cs q v_thrown a_tape v_taped v_size v_to v_kind v_from v_letters v_letterMany v_digits v_isBeyond v_suffix v_steps v_fault v_hasProgram a_text a_act a_guess a_take a_begin a_finish a_to1 a_one a_two a_what a_ats a_atVar a_atNumber a_atomSort a_atomKind a_atomValue v_wrong v_wrongAt v_variable v_number v_numberKind v_takes a_out v_outed a_varSort a_varKind a_varValue a_creature v_creatures a_arrayClass a_arrayFrom a_arrayLong v_arrays v_cells a_cellSort a_cellKind a_cellValue a_asideSort a_asideKind a_asideValue a_outcome v_marks v_came v_guessed v_right v_taken a_markSort a_markKind a_markClass a_markValue v_sort v_kindAt v_value a_index v_reached v_looked) → va_S A s.heap H locs → lv_has ls 3 [(0, .ref (q 0)), (1, .int s9)] → W p l e (headSpec (wG yX10_readGiven cX10_readGiven 3 (some .boolean)) rmX10_readGiven).room s m ([.ref (q 0), .int s9, .int a9] : List Value).toArray below meth c H locs 0 0 Q (F0 m 166 ls []) := by
    intro H locs ls f166_0 f166_1 f166_2 hP hD hS hl
    refine lv_aload_n hx hb dX10_readGiven_166 rfl (lv_at hl 0 rfl) ?_
    refine lv_iload_n hx hb dX10_readGiven_167 rfl (lv_at hl 1 rfl) ?_
    refine call_i (As := [.int s9]) (rest := []) ⟨hx, hb, hml, hown, hts⟩ (tX10_readOne (l := l) s9 (by first | assumption | omega | (intros; omega) | decide) (by first | assumption | omega | (intros; omega) | decide) (by first | assumption | omega | (intros; omega) | decide) (by first | assumption | omega | (intros; omega) | decide) (by first | assumption | omega | (intros; omega) | decide)) (cwV 1 hts (gV (wr29 _ (List.mem_of_getElem? (i := 23) rfl)) (wr30 _ (List.mem_of_getElem? (i := 0) rfl)) (wr30 _ (List.mem_of_getElem? (i := 1) rfl)) (wr1 _ (List.mem_of_getElem? (i := 5) rfl)) (wr30 _ (List.mem_of_getElem? (i := 2) rfl))) rfl rfl rfl (by decide +kernel) ⟨Nat.le_of_ble_eq_true rfl, Nat.le_of_ble_eq_true rfl⟩) (va_recv hK hP (ci := 9) (q0 := 0) rfl rfl) hK hP hD hE hS hA rfl hl.1 rfl (Nat.le_of_ble_eq_true rfl) dX10_readGiven_168 ⟨Nat.le_of_ble_eq_true rfl, Nat.le_of_ble_eq_true rfl⟩ (fun r168 w9 H locs hw168 hP hD hS => ?_)
    obtain ⟨v_to_168, v_kind_168, v_from_168, v_letters_168, v_letterMany_168, v_digits_168, v_isBeyond_168, v_suffix_168, a_one_168, v_wrong_168, v_wrongAt_168, v_variable_168, rfl, hw168_0, hw168_1, hw168_2, hw168_3, hw168_4, hw168_5⟩ := hw168
    have b_v_to_168 := iB v_to_168
    have b_v_kind_168 := iB v_kind_168
    have b_v_from_168 := iB v_from_168
    have b_v_letters_168 := jB v_letters_168
    have b_v_letterMany_168 := iB v_letterMany_168
    have b_v_digits_168 := jB v_digits_168
    have b_v_isBeyond_168 := iB v_isBeyond_168
    have b_v_suffix_168 := iB v_suffix_168
    have b_v_wrong_168 := iB v_wrong_168
    have b_v_wrongAt_168 := iB v_wrongAt_168
    have b_v_variable_168 := iB v_variable_168
    have b_r168 := iB r168
    subst hAe
    rw [hQ]
    exact W.zret (v := r168) hx hb hr (nbool (by first | omega | decide)) (fun t ht hW => ⟨⟨r168, _, rfl, ⟨v_to_168, v_kind_168, v_from_168, v_letters_168, v_letterMany_168, v_digits_168, v_isBeyond_168, v_suffix_168, a_one_168, a_two, a_what, a_ats, a_atVar, a_atNumber, v_wrong_168, v_wrongAt_168, v_variable_168, v_number, v_numberKind, rfl, by first | assumption | omega | (intros; omega) | decide, by first | assumption | omega | (intros; omega) | decide, by first | assumption | omega | (intros; omega) | decide, by first | assumption | omega | (intros; omega) | decide, by first | assumption | omega | (intros; omega) | decide, by first | assumption | omega | (intros; omega) | decide, by first | assumption | omega | (intros; omega) | decide, by first | assumption | omega | (intros; omega) | decide, by first | assumption | omega | (intros; omega) | decide, by first | assumption | exact SAME.rf _ _ | exact SAME.trans (by assumption) (by assumption) | exact SAME.trans (by assumption) (SAME.trans (by assumption) (by assumption)), by first | assumption | exact SAME.rf _ _ | exact SAME.trans (by assumption) (by assumption) | exact SAME.trans (by assumption) (SAME.trans (by assumption) (by assumption)), by first | assumption | omega | (intros; omega) | decide⟩, by rw [ht]; exact hP, va_K.moved hW.alike hK, hD⟩, hS.F ht⟩) hS.2.2 dX10_readGiven_171
  have J144 : ∀ (H : Heap) (locs : List Loc) (ls : Array Slot), (a9.toInt = 12 ∨ a9.toInt = 16) → va_P D vwCl (mw cs q v_thrown a_tape v_taped v_size v_to v_kind v_from v_letters v_letterMany v_digits v_isBeyond v_suffix v_steps v_fault v_hasProgram a_text a_act a_guess a_take a_begin a_finish a_to1 a_one a_two a_what a_ats a_atVar a_atNumber a_atomSort a_atomKind a_atomValue v_wrong v_wrongAt v_variable v_number v_numberKind v_takes a_out v_outed a_varSort a_varKind a_varValue a_creature v_creatures a_arrayClass a_arrayFrom a_arrayLong v_arrays v_cells a_cellSort a_cellKind a_cellValue a_asideSort a_asideKind a_asideValue a_outcome v_marks v_came v_guessed v_right v_taken a_markSort a_markKind a_markClass a_markValue v_sort v_kindAt v_value a_index v_reached v_looked) H → va_D A (mw cs q v_thrown a_tape v_taped v_size v_to v_kind v_from v_letters v_letterMany v_digits v_isBeyond v_suffix v_steps v_fault v_hasProgram a_text a_act a_guess a_take a_begin a_finish a_to1 a_one a_two a_what a_ats a_atVar a_atNumber a_atomSort a_atomKind a_atomValue v_wrong v_wrongAt v_variable v_number v_numberKind v_takes a_out v_outed a_varSort a_varKind a_varValue a_creature v_creatures a_arrayClass a_arrayFrom a_arrayLong v_arrays v_cells a_cellSort a_cellKind a_cellValue a_asideSort a_asideKind a_asideValue a_outcome v_marks v_came v_guessed v_right v_taken a_markSort a_markKind a_markClass a_markValue v_sort v_kindAt v_value a_index v_reached v_looked) → va_S A s.heap H locs → lv_has ls 3 [(0, .ref (q 0)), (1, .int s9)] → W p l e (headSpec (wG yX10_readGiven cX10_readGiven 3 (some .boolean)) rmX10_readGiven).room s m ([.ref (q 0), .int s9, .int a9] : List Value).toArray below meth c H locs 0 0 Q (F0 m 144 ls []) := by
    intro H locs ls f144_0 hP hD hS hl
    refine lv_aload_n hx hb dX10_readGiven_144 rfl (lv_at hl 0 rfl) ?_
    refine lv_iload_n hx hb dX10_readGiven_145 rfl (lv_at hl 1 rfl) ?_
    refine call_i (As := [.int s9]) (rest := []) ⟨hx, hb, hml, hown, hts⟩ (tX10_readOne (l := l) s9 (by first | assumption | omega | (intros; omega) | decide) (by first | assumption | omega | (intros; omega) | decide) (by first | assumption | omega | (intros; omega) | decide) (by first | assumption | omega | (intros; omega) | decide) (by first | assumption | omega | (intros; omega) | decide)) (cwV 1 hts (gV (wr29 _ (List.mem_of_getElem? (i := 23) rfl)) (wr30 _ (List.mem_of_getElem? (i := 0) rfl)) (wr30 _ (List.mem_of_getElem? (i := 1) rfl)) (wr1 _ (List.mem_of_getElem? (i := 5) rfl)) (wr30 _ (List.mem_of_getElem? (i := 2) rfl))) rfl rfl rfl (by decide +kernel) ⟨Nat.le_of_ble_eq_true rfl, Nat.le_of_ble_eq_true rfl⟩) (va_recv hK hP (ci := 9) (q0 := 0) rfl rfl) hK hP hD hE hS hA rfl hl.1 rfl (Nat.le_of_ble_eq_true rfl) dX10_readGiven_146 ⟨Nat.le_of_ble_eq_true rfl, Nat.le_of_ble_eq_true rfl⟩ (fun r146 w9 H locs hw146 hP hD hS => ?_)
    obtain ⟨v_to_146, v_kind_146, v_from_146, v_letters_146, v_letterMany_146, v_digits_146, v_isBeyond_146, v_suffix_146, a_one_146, v_wrong_146, v_wrongAt_146, v_variable_146, rfl, hw146_0, hw146_1, hw146_2, hw146_3, hw146_4, hw146_5⟩ := hw146
    have b_v_to_146 := iB v_to_146
    have b_v_kind_146 := iB v_kind_146
    have b_v_from_146 := iB v_from_146
    have b_v_letters_146 := jB v_letters_146
    have b_v_letterMany_146 := iB v_letterMany_146
    have b_v_digits_146 := jB v_digits_146
    have b_v_isBeyond_146 := iB v_isBeyond_146
    have b_v_suffix_146 := iB v_suffix_146
    have b_v_wrong_146 := iB v_wrong_146
    have b_v_wrongAt_146 := iB v_wrongAt_146
    have b_v_variable_146 := iB v_variable_146
    have b_r146 := iB r146
    refine m_if_eq (X := r146.toInt) (tgt := 164) hx hb dX10_readGiven_149 (by decide) rfl (fun c149 => ?_) (fun c149 => ?_)
    · skip
      refine lv_iconst (v := 0) hx hb dX10_readGiven_164 (by decide) ?_
      subst hAe
      rw [hQ]
      exact W.zret (v := 0) hx hb hr (by decide) (fun t ht hW => ⟨⟨0, _, rfl, ⟨v_to_146, v_kind_146, v_from_146, v_letters_146, v_letterMany_146, v_digits_146, v_isBeyond_146, v_suffix_146, a_one_146, a_two, a_what, a_ats, a_atVar, a_atNumber, v_wrong_146, v_wrongAt_146, v_variable_146, v_number, v_numberKind, rfl, by first | assumption | omega | (intros; omega) | decide, by first | assumption | omega | (intros; omega) | decide, by first | assumption | omega | (intros; omega) | decide, by first | assumption | omega | (intros; omega) | decide, by first | assumption | omega | (intros; omega) | decide, by first | assumption | omega | (intros; omega) | decide, by first | assumption | omega | (intros; omega) | decide, by first | assumption | omega | (intros; omega) | decide, by first | assumption | omega | (intros; omega) | decide, by first | assumption | exact SAME.rf _ _ | exact SAME.trans (by assumption) (by assumption) | exact SAME.trans (by assumption) (SAME.trans (by assumption) (by assumption)), by first | assumption | exact SAME.rf _ _ | exact SAME.trans (by assumption) (by assumption) | exact SAME.trans (by assumption) (SAME.trans (by assumption) (by assumption)), by first | assumption | omega | (intros; omega) | decide⟩, by rw [ht]; exact hP, va_K.moved hW.alike hK, hD⟩, hS.F ht⟩) hS.2.2 dX10_readGiven_165
    · skip
      refine lv_aload_n hx hb dX10_readGiven_152 rfl (lv_at hl 0 rfl) ?_
      refine lv_iload_n hx hb dX10_readGiven_153 rfl (lv_at hl 1 rfl) ?_
      refine call_i (As := [.int s9]) (rest := []) ⟨hx, hb, hml, hown, hts⟩ (tX10_readTwo (l := l) s9 (by first | assumption | omega | (intros; omega) | decide) (by first | assumption | omega | (intros; omega) | decide) (by first | assumption | omega | (intros; omega) | decide) (by first | assumption | omega | (intros; omega) | decide) (by first | assumption | omega | (intros; omega) | decide)) (cwV 1 hts (gV (wr30 _ (List.mem_of_getElem? (i := 7) rfl)) (wr30 _ (List.mem_of_getElem? (i := 8) rfl)) (wr30 _ (List.mem_of_getElem? (i := 9) rfl)) (wr1 _ (List.mem_of_getElem? (i := 5) rfl)) (wr30 _ (List.mem_of_getElem? (i := 10) rfl))) rfl rfl rfl (by decide +kernel) ⟨Nat.le_of_ble_eq_true rfl, Nat.le_of_ble_eq_true rfl⟩) (va_recv hK hP (ci := 9) (q0 := 0) rfl rfl) hK hP hD hE hS hA rfl hl.1 rfl (Nat.le_of_ble_eq_true rfl) dX10_readGiven_154 ⟨Nat.le_of_ble_eq_true rfl, Nat.le_of_ble_eq_true rfl⟩ (fun r154 w9 H locs hw154 hP hD hS => ?_)
      obtain ⟨v_to_154, v_kind_154, v_from_154, v_letters_154, v_letterMany_154, v_digits_154, v_isBeyond_154, v_suffix_154, a_two_154, v_wrong_154, v_wrongAt_154, v_variable_154, rfl, hw154_0, hw154_1, hw154_2, hw154_3, hw154_4, hw154_5⟩ := hw154
      have b_v_to_154 := iB v_to_154
      have b_v_kind_154 := iB v_kind_154
      have b_v_from_154 := iB v_from_154
      have b_v_letters_154 := jB v_letters_154
      have b_v_letterMany_154 := iB v_letterMany_154
      have b_v_digits_154 := jB v_digits_154
      have b_v_isBeyond_154 := iB v_isBeyond_154
      have b_v_suffix_154 := iB v_suffix_154
      have b_v_wrong_154 := iB v_wrong_154
      have b_v_wrongAt_154 := iB v_wrongAt_154
      have b_v_variable_154 := iB v_variable_154
      have b_r154 := iB r154
      refine m_if_eq (X := r154.toInt) (tgt := 164) hx hb dX10_readGiven_157 (by decide) rfl (fun c157 => ?_) (fun c157 => ?_)
      · skip
        refine lv_iconst (v := 0) hx hb dX10_readGiven_164 (by decide) ?_
        subst hAe
        rw [hQ]
        exact W.zret (v := 0) hx hb hr (by decide) (fun t ht hW => ⟨⟨0, _, rfl, ⟨v_to_154, v_kind_154, v_from_154, v_letters_154, v_letterMany_154, v_digits_154, v_isBeyond_154, v_suffix_154, a_one_146, a_two_154, a_what, a_ats, a_atVar, a_atNumber, v_wrong_154, v_wrongAt_154, v_variable_154, v_number, v_numberKind, rfl, by first | assumption | omega | (intros; omega) | decide, by first | assumption | omega | (intros; omega) | decide, by first | assumption | omega | (intros; omega) | decide, by first | assumption | omega | (intros; omega) | decide, by first | assumption | omega | (intros; omega) | decide, by first | assumption | omega | (intros; omega) | decide, by first | assumption | omega | (intros; omega) | decide, by first | assumption | omega | (intros; omega) | decide, by first | assumption | omega | (intros; omega) | decide, by first | assumption | exact SAME.rf _ _ | exact SAME.trans (by assumption) (by assumption) | exact SAME.trans (by assumption) (SAME.trans (by assumption) (by assumption)), by first | assumption | exact SAME.rf _ _ | exact SAME.trans (by assumption) (by assumption) | exact SAME.trans (by assumption) (SAME.trans (by assumption) (by assumption)), by first | assumption | omega | (intros; omega) | decide⟩, by rw [ht]; exact hP, va_K.moved hW.alike hK, hD⟩, hS.F ht⟩) hS.2.2 dX10_readGiven_165
      · skip
        refine lv_iconst (v := 1) hx hb dX10_readGiven_160 (by decide) ?_
        refine lv_goto (tgt := 165) hx hb dX10_readGiven_161 (by decide) ?_
        subst hAe
        rw [hQ]
        exact W.zret (v := 1) hx hb hr (by decide) (fun t ht hW => ⟨⟨1, _, rfl, ⟨v_to_154, v_kind_154, v_from_154, v_letters_154, v_letterMany_154, v_digits_154, v_isBeyond_154, v_suffix_154, a_one_146, a_two_154, a_what, a_ats, a_atVar, a_atNumber, v_wrong_154, v_wrongAt_154, v_variable_154, v_number, v_numberKind, rfl, by first | assumption | omega | (intros; omega) | decide, by first | assumption | omega | (intros; omega) | decide, by first | assumption | omega | (intros; omega) | decide, by first | assumption | omega | (intros; omega) | decide, by first | assumption | omega | (intros; omega) | decide, by first | assumption | omega | (intros; omega) | decide, by first | assumption | omega | (intros; omega) | decide, by first | assumption | omega | (intros; omega) | decide, by first | assumption | omega | (intros; omega) | decide, by first | assumption | exact SAME.rf _ _ | exact SAME.trans (by assumption) (by assumption) | exact SAME.trans (by assumption) (SAME.trans (by assumption) (by assumption)), by first | assumption | exact SAME.rf _ _ | exact SAME.trans (by assumption) (by assumption) | exact SAME.trans (by assumption) (SAME.trans (by assumption) (by assumption)), by first | assumption | omega | (intros; omega) | decide⟩, by rw [ht]; exact hP, va_K.moved hW.alike hK, hD⟩, hS.F ht⟩) hS.2.2 dX10_readGiven_165
  have J122 : ∀ (H : Heap) (locs : List Loc) (ls : Array Slot), (a9.toInt = 10 ∨ a9.toInt = 11) → va_P D vwCl (mw cs q v_thrown a_tape v_taped v_size v_to v_kind v_from v_letters v_letterMany v_digits v_isBeyond v_suffix v_steps v_fault v_hasProgram a_text a_act a_guess a_take a_begin a_finish a_to1 a_one a_two a_what a_ats a_atVar a_atNumber a_atomSort a_atomKind a_atomValue v_wrong v_wrongAt v_variable v_number v_numberKind v_takes a_out v_outed a_varSort a_varKind a_varValue a_creature v_creatures a_arrayClass a_arrayFrom a_arrayLong v_arrays v_cells a_cellSort a_cellKind a_cellValue a_asideSort a_asideKind a_asideValue a_outcome v_marks v_came v_guessed v_right v_taken a_markSort a_markKind a_markClass a_markValue v_sort v_kindAt v_value a_index v_reached v_looked) H → va_D A (mw cs q v_thrown a_tape v_taped v_size v_to v_kind v_from v_letters v_letterMany v_digits v_isBeyond v_suffix v_steps v_fault v_hasProgram a_text a_act a_guess a_take a_begin a_finish a_to1 a_one a_two a_what a_ats a_atVar a_atNumber a_atomSort a_atomKind a_atomValue v_wrong v_wrongAt v_variable v_number v_numberKind v_takes a_out v_outed a_varSort a_varKind a_varValue a_creature v_creatures a_arrayClass a_arrayFrom a_arrayLong v_arrays v_cells a_cellSort a_cellKind a_cellValue a_asideSort a_asideKind a_asideValue a_outcome v_marks v_came v_guessed v_right v_taken a_markSort a_markKind a_markClass a_markValue v_sort v_kindAt v_value a_index v_reached v_looked) → va_S A s.heap H locs → lv_has ls 3 [(0, .ref (q 0)), (1, .int s9)] → W p l e (headSpec (wG yX10_readGiven cX10_readGiven 3 (some .boolean)) rmX10_readGiven).room s m ([.ref (q 0), .int s9, .int a9] : List Value).toArray below meth c H locs 0 0 Q (F0 m 122 ls []) := by
    intro H locs ls f122_0 hP hD hS hl
    refine lv_aload_n hx hb dX10_readGiven_122 rfl (lv_at hl 0 rfl) ?_
    refine lv_iload_n hx hb dX10_readGiven_123 rfl (lv_at hl 1 rfl) ?_
    refine call_i (As := [.int s9]) (rest := []) ⟨hx, hb, hml, hown, hts⟩ (tX10_readOne (l := l) s9 (by first | assumption | omega | (intros; omega) | decide) (by first | assumption | omega | (intros; omega) | decide) (by first | assumption | omega | (intros; omega) | decide) (by first | assumption | omega | (intros; omega) | decide) (by first | assumption | omega | (intros; omega) | decide)) (cwV 1 hts (gV (wr29 _ (List.mem_of_getElem? (i := 23) rfl)) (wr30 _ (List.mem_of_getElem? (i := 0) rfl)) (wr30 _ (List.mem_of_getElem? (i := 1) rfl)) (wr1 _ (List.mem_of_getElem? (i := 5) rfl)) (wr30 _ (List.mem_of_getElem? (i := 2) rfl))) rfl rfl rfl (by decide +kernel) ⟨Nat.le_of_ble_eq_true rfl, Nat.le_of_ble_eq_true rfl⟩) (va_recv hK hP (ci := 9) (q0 := 0) rfl rfl) hK hP hD hE hS hA rfl hl.1 rfl (Nat.le_of_ble_eq_true rfl) dX10_readGiven_124 ⟨Nat.le_of_ble_eq_true rfl, Nat.le_of_ble_eq_true rfl⟩ (fun r124 w9 H locs hw124 hP hD hS => ?_)
    obtain ⟨v_to_124, v_kind_124, v_from_124, v_letters_124, v_letterMany_124, v_digits_124, v_isBeyond_124, v_suffix_124, a_one_124, v_wrong_124, v_wrongAt_124, v_variable_124, rfl, hw124_0, hw124_1, hw124_2, hw124_3, hw124_4, hw124_5⟩ := hw124
    have b_v_to_124 := iB v_to_124
    have b_v_kind_124 := iB v_kind_124
    have b_v_from_124 := iB v_from_124
    have b_v_letters_124 := jB v_letters_124
    have b_v_letterMany_124 := iB v_letterMany_124
    have b_v_digits_124 := jB v_digits_124
    have b_v_isBeyond_124 := iB v_isBeyond_124
    have b_v_suffix_124 := iB v_suffix_124
    have b_v_wrong_124 := iB v_wrong_124
    have b_v_wrongAt_124 := iB v_wrongAt_124
    have b_v_variable_124 := iB v_variable_124
    have b_r124 := iB r124
    refine m_if_eq (X := r124.toInt) (tgt := 142) hx hb dX10_readGiven_127 (by decide) rfl (fun c127 => ?_) (fun c127 => ?_)
    · skip
      refine lv_iconst (v := 0) hx hb dX10_readGiven_142 (by decide) ?_
      subst hAe
      rw [hQ]
      exact W.zret (v := 0) hx hb hr (by decide) (fun t ht hW => ⟨⟨0, _, rfl, ⟨v_to_124, v_kind_124, v_from_124, v_letters_124, v_letterMany_124, v_digits_124, v_isBeyond_124, v_suffix_124, a_one_124, a_two, a_what, a_ats, a_atVar, a_atNumber, v_wrong_124, v_wrongAt_124, v_variable_124, v_number, v_numberKind, rfl, by first | assumption | omega | (intros; omega) | decide, by first | assumption | omega | (intros; omega) | decide, by first | assumption | omega | (intros; omega) | decide, by first | assumption | omega | (intros; omega) | decide, by first | assumption | omega | (intros; omega) | decide, by first | assumption | omega | (intros; omega) | decide, by first | assumption | omega | (intros; omega) | decide, by first | assumption | omega | (intros; omega) | decide, by first | assumption | omega | (intros; omega) | decide, by first | assumption | exact SAME.rf _ _ | exact SAME.trans (by assumption) (by assumption) | exact SAME.trans (by assumption) (SAME.trans (by assumption) (by assumption)), by first | assumption | exact SAME.rf _ _ | exact SAME.trans (by assumption) (by assumption) | exact SAME.trans (by assumption) (SAME.trans (by assumption) (by assumption)), by first | assumption | omega | (intros; omega) | decide⟩, by rw [ht]; exact hP, va_K.moved hW.alike hK, hD⟩, hS.F ht⟩) hS.2.2 dX10_readGiven_143
    · skip
      refine lv_aload_n hx hb dX10_readGiven_130 rfl (lv_at hl 0 rfl) ?_
      refine lv_iload_n hx hb dX10_readGiven_131 rfl (lv_at hl 1 rfl) ?_
      refine call_i (As := [.int s9]) (rest := []) ⟨hx, hb, hml, hown, hts⟩ (tX10_readClass (l := l) s9 (by first | assumption | omega | (intros; omega) | decide) (by first | assumption | omega | (intros; omega) | decide) (by first | assumption | omega | (intros; omega) | decide)) (cwV 1 hts (gV (wr30 _ (List.mem_of_getElem? (i := 3) rfl)) (wr30 _ (List.mem_of_getElem? (i := 4) rfl)) (wr30 _ (List.mem_of_getElem? (i := 5) rfl)) (wr1 _ (List.mem_of_getElem? (i := 5) rfl)) (wr30 _ (List.mem_of_getElem? (i := 6) rfl))) rfl rfl rfl (by decide +kernel) ⟨Nat.le_of_ble_eq_true rfl, Nat.le_of_ble_eq_true rfl⟩) (va_recv hK hP (ci := 9) (q0 := 0) rfl rfl) hK hP hD hE hS hA rfl hl.1 rfl (Nat.le_of_ble_eq_true rfl) dX10_readGiven_132 ⟨Nat.le_of_ble_eq_true rfl, Nat.le_of_ble_eq_true rfl⟩ (fun r132 w9 H locs hw132 hP hD hS => ?_)
      obtain ⟨v_to_132, v_kind_132, v_from_132, v_letters_132, v_letterMany_132, v_digits_132, v_isBeyond_132, v_suffix_132, a_what_132, v_wrong_132, v_wrongAt_132, rfl, hw132_0, hw132_1, hw132_2, hw132_3, hw132_4⟩ := hw132
      have b_v_to_132 := iB v_to_132
      have b_v_kind_132 := iB v_kind_132
      have b_v_from_132 := iB v_from_132
      have b_v_letters_132 := jB v_letters_132
      have b_v_letterMany_132 := iB v_letterMany_132
      have b_v_digits_132 := jB v_digits_132
      have b_v_isBeyond_132 := iB v_isBeyond_132
      have b_v_suffix_132 := iB v_suffix_132
      have b_v_wrong_132 := iB v_wrong_132
      have b_v_wrongAt_132 := iB v_wrongAt_132
      have b_r132 := iB r132
      refine m_if_eq (X := r132.toInt) (tgt := 142) hx hb dX10_readGiven_135 (by decide) rfl (fun c135 => ?_) (fun c135 => ?_)
      · skip
        refine lv_iconst (v := 0) hx hb dX10_readGiven_142 (by decide) ?_
        subst hAe
        rw [hQ]
        exact W.zret (v := 0) hx hb hr (by decide) (fun t ht hW => ⟨⟨0, _, rfl, ⟨v_to_132, v_kind_132, v_from_132, v_letters_132, v_letterMany_132, v_digits_132, v_isBeyond_132, v_suffix_132, a_one_124, a_two, a_what_132, a_ats, a_atVar, a_atNumber, v_wrong_132, v_wrongAt_132, v_variable_124, v_number, v_numberKind, rfl, by first | assumption | omega | (intros; omega) | decide, by first | assumption | omega | (intros; omega) | decide, by first | assumption | omega | (intros; omega) | decide, by first | assumption | omega | (intros; omega) | decide, by first | assumption | omega | (intros; omega) | decide, by first | assumption | omega | (intros; omega) | decide, by first | assumption | omega | (intros; omega) | decide, by first | assumption | omega | (intros; omega) | decide, by first | assumption | omega | (intros; omega) | decide, by first | assumption | exact SAME.rf _ _ | exact SAME.trans (by assumption) (by assumption) | exact SAME.trans (by assumption) (SAME.trans (by assumption) (by assumption)), by first | assumption | exact SAME.rf _ _ | exact SAME.trans (by assumption) (by assumption) | exact SAME.trans (by assumption) (SAME.trans (by assumption) (by assumption)), by first | assumption | omega | (intros; omega) | decide⟩, by rw [ht]; exact hP, va_K.moved hW.alike hK, hD⟩, hS.F ht⟩) hS.2.2 dX10_readGiven_143
      · skip
        refine lv_iconst (v := 1) hx hb dX10_readGiven_138 (by decide) ?_
        refine lv_goto (tgt := 143) hx hb dX10_readGiven_139 (by decide) ?_
        subst hAe
        rw [hQ]
        exact W.zret (v := 1) hx hb hr (by decide) (fun t ht hW => ⟨⟨1, _, rfl, ⟨v_to_132, v_kind_132, v_from_132, v_letters_132, v_letterMany_132, v_digits_132, v_isBeyond_132, v_suffix_132, a_one_124, a_two, a_what_132, a_ats, a_atVar, a_atNumber, v_wrong_132, v_wrongAt_132, v_variable_124, v_number, v_numberKind, rfl, by first | assumption | omega | (intros; omega) | decide, by first | assumption | omega | (intros; omega) | decide, by first | assumption | omega | (intros; omega) | decide, by first | assumption | omega | (intros; omega) | decide, by first | assumption | omega | (intros; omega) | decide, by first | assumption | omega | (intros; omega) | decide, by first | assumption | omega | (intros; omega) | decide, by first | assumption | omega | (intros; omega) | decide, by first | assumption | omega | (intros; omega) | decide, by first | assumption | exact SAME.rf _ _ | exact SAME.trans (by assumption) (by assumption) | exact SAME.trans (by assumption) (SAME.trans (by assumption) (by assumption)), by first | assumption | exact SAME.rf _ _ | exact SAME.trans (by assumption) (by assumption) | exact SAME.trans (by assumption) (SAME.trans (by assumption) (by assumption)), by first | assumption | omega | (intros; omega) | decide⟩, by rw [ht]; exact hP, va_K.moved hW.alike hK, hD⟩, hS.F ht⟩) hS.2.2 dX10_readGiven_143
  rcases (show (a9.toInt < 4 ∨ 16 < a9.toInt) ∨ a9.toInt = 4 ∨ a9.toInt = 5 ∨ a9.toInt = 6 ∨ a9.toInt = 7 ∨ a9.toInt = 8 ∨ a9.toInt = 9 ∨ a9.toInt = 10 ∨ a9.toInt = 11 ∨ a9.toInt = 12 ∨ a9.toInt = 13 ∨ a9.toInt = 14 ∨ a9.toInt = 15 ∨ a9.toInt = 16 by omega) with c1 | c1 | c1 | c1 | c1 | c1 | c1 | c1 | c1 | c1 | c1 | c1 | c1 | c1
  · skip
    refine lv_tableOut (tgt := 166) hx hb dX10_readGiven_1 c1 (by decide) ?_
    exact J166 H locs ls (by first | assumption | omega | (intros; omega) | decide) (by first | assumption | omega | (intros; omega) | decide) (by first | assumption | omega | (intros; omega) | decide) hP hD hS (lv_sub hl [0, 1] rfl)
  · skip
    refine lv_tableIn (tgt := 68) (off := 67) hx hb dX10_readGiven_1 (by omega) (by omega) (by rw [c1]; rfl) (by decide) ?_
    refine lv_aload_n hx hb dX10_readGiven_68 rfl (lv_at hl 0 rfl) ?_
    refine lv_iload_n hx hb dX10_readGiven_69 rfl (lv_at hl 1 rfl) ?_
    refine lv_bipush (v := 8) hx hb dX10_readGiven_70 (by decide) ?_
    refine call_i (As := [.int s9, .int 8]) (rest := []) ⟨hx, hb, hml, hown, hts⟩ (tX10_readKind (l := l) s9 (8 : Int32) (by first | assumption | omega | (intros; omega) | decide) (by first | assumption | omega | (intros; omega) | decide) (by first | assumption | omega | (intros; omega) | decide)) (cwV 2 hts (gV (wr29 _ (List.mem_of_getElem? (i := 11) rfl)) (wr29 _ (List.mem_of_getElem? (i := 12) rfl)) (wr29 _ (List.mem_of_getElem? (i := 13) rfl)) (wr1 _ (List.mem_of_getElem? (i := 5) rfl)) (wr29 _ (List.mem_of_getElem? (i := 14) rfl))) rfl rfl rfl (by decide +kernel) ⟨Nat.le_of_ble_eq_true rfl, Nat.le_of_ble_eq_true rfl⟩) (va_recv hK hP (ci := 9) (q0 := 0) rfl rfl) hK hP hD hE hS hA rfl hl.1 rfl (Nat.le_of_ble_eq_true rfl) dX10_readGiven_72 ⟨Nat.le_of_ble_eq_true rfl, Nat.le_of_ble_eq_true rfl⟩ (fun r72 w9 H locs hw72 hP hD hS => ?_)
    obtain ⟨v_to_72, v_kind_72, v_from_72, v_letters_72, v_letterMany_72, v_digits_72, v_isBeyond_72, v_suffix_72, a_what_72, v_wrong_72, v_wrongAt_72, rfl, hw72_0, hw72_1, hw72_2, hw72_3, hw72_4⟩ := hw72
    have b_v_to_72 := iB v_to_72
    have b_v_kind_72 := iB v_kind_72
    have b_v_from_72 := iB v_from_72
    have b_v_letters_72 := jB v_letters_72
    have b_v_letterMany_72 := iB v_letterMany_72
    have b_v_digits_72 := jB v_digits_72
    have b_v_isBeyond_72 := iB v_isBeyond_72
    have b_v_suffix_72 := iB v_suffix_72
    have b_v_wrong_72 := iB v_wrong_72
    have b_v_wrongAt_72 := iB v_wrongAt_72
    have b_r72 := iB r72
    refine m_if_eq (X := r72.toInt) (tgt := 90) hx hb dX10_readGiven_75 (by decide) rfl (fun c75 => ?_) (fun c75 => ?_)
    · skip
      refine lv_iconst (v := 0) hx hb dX10_readGiven_90 (by decide) ?_
      subst hAe
      rw [hQ]
      exact W.zret (v := 0) hx hb hr (by decide) (fun t ht hW => ⟨⟨0, _, rfl, ⟨v_to_72, v_kind_72, v_from_72, v_letters_72, v_letterMany_72, v_digits_72, v_isBeyond_72, v_suffix_72, a_one, a_two, a_what_72, a_ats, a_atVar, a_atNumber, v_wrong_72, v_wrongAt_72, v_variable, v_number, v_numberKind, rfl, by first | assumption | omega | (intros; omega) | decide, by first | assumption | omega | (intros; omega) | decide, by first | assumption | omega | (intros; omega) | decide, by first | assumption | omega | (intros; omega) | decide, by first | assumption | omega | (intros; omega) | decide, by first | assumption | omega | (intros; omega) | decide, by first | assumption | omega | (intros; omega) | decide, by first | assumption | omega | (intros; omega) | decide, by first | assumption | omega | (intros; omega) | decide, by first | assumption | exact SAME.rf _ _ | exact SAME.trans (by assumption) (by assumption) | exact SAME.trans (by assumption) (SAME.trans (by assumption) (by assumption)), by first | assumption | exact SAME.rf _ _ | exact SAME.trans (by assumption) (by assumption) | exact SAME.trans (by assumption) (SAME.trans (by assumption) (by assumption)), by first | assumption | omega | (intros; omega) | decide⟩, by rw [ht]; exact hP, va_K.moved hW.alike hK, hD⟩, hS.F ht⟩) hS.2.2 dX10_readGiven_91
    · skip
      refine lv_aload_n hx hb dX10_readGiven_78 rfl (lv_at hl 0 rfl) ?_
      refine lv_iload_n hx hb dX10_readGiven_79 rfl (lv_at hl 1 rfl) ?_
      refine call_i (As := [.int s9]) (rest := []) ⟨hx, hb, hml, hown, hts⟩ (tX10_readPlace (l := l) s9 (by first | assumption | omega | (intros; omega) | decide) (by first | assumption | omega | (intros; omega) | decide) (by first | assumption | omega | (intros; omega) | decide) (by first | assumption | omega | (intros; omega) | decide) (by first | assumption | omega | (intros; omega) | decide) (by first | assumption | omega | (intros; omega) | decide) (by first | assumption | omega | (intros; omega) | decide) (by first | assumption | omega | (intros; omega) | decide)) (cwV 1 hts (gV (wr29 _ (List.mem_of_getElem? (i := 15) rfl)) (wr29 _ (List.mem_of_getElem? (i := 16) rfl)) (wr29 _ (List.mem_of_getElem? (i := 17) rfl)) (wr1 _ (List.mem_of_getElem? (i := 5) rfl)) (wr29 _ (List.mem_of_getElem? (i := 18) rfl))) rfl rfl rfl (by decide +kernel) ⟨Nat.le_of_ble_eq_true rfl, Nat.le_of_ble_eq_true rfl⟩) (va_recv hK hP (ci := 9) (q0 := 0) rfl rfl) hK hP hD hE hS hA rfl hl.1 rfl (Nat.le_of_ble_eq_true rfl) dX10_readGiven_80 ⟨Nat.le_of_ble_eq_true rfl, Nat.le_of_ble_eq_true rfl⟩ (fun r80 w9 H locs hw80 hP hD hS => ?_)
      obtain ⟨v_to_80, v_kind_80, v_from_80, v_letters_80, v_letterMany_80, v_digits_80, v_isBeyond_80, v_suffix_80, a_one_80, a_ats_80, a_atVar_80, a_atNumber_80, v_wrong_80, v_wrongAt_80, v_variable_80, v_number_80, v_numberKind_80, rfl, hw80_0, hw80_1, hw80_2, hw80_3, hw80_4, hw80_5, hw80_6, hw80_7, hw80_8, hw80_9⟩ := hw80
      have b_v_to_80 := iB v_to_80
      have b_v_kind_80 := iB v_kind_80
      have b_v_from_80 := iB v_from_80
      have b_v_letters_80 := jB v_letters_80
      have b_v_letterMany_80 := iB v_letterMany_80
      have b_v_digits_80 := jB v_digits_80
      have b_v_isBeyond_80 := iB v_isBeyond_80
      have b_v_suffix_80 := iB v_suffix_80
      have b_v_wrong_80 := iB v_wrong_80
      have b_v_wrongAt_80 := iB v_wrongAt_80
      have b_v_variable_80 := iB v_variable_80
      have b_v_number_80 := jB v_number_80
      have b_v_numberKind_80 := iB v_numberKind_80
      have b_r80 := iB r80
      refine m_if_eq (X := r80.toInt) (tgt := 90) hx hb dX10_readGiven_83 (by decide) rfl (fun c83 => ?_) (fun c83 => ?_)
      · skip
        refine lv_iconst (v := 0) hx hb dX10_readGiven_90 (by decide) ?_
        subst hAe
        rw [hQ]
        exact W.zret (v := 0) hx hb hr (by decide) (fun t ht hW => ⟨⟨0, _, rfl, ⟨v_to_80, v_kind_80, v_from_80, v_letters_80, v_letterMany_80, v_digits_80, v_isBeyond_80, v_suffix_80, a_one_80, a_two, a_what_72, a_ats_80, a_atVar_80, a_atNumber_80, v_wrong_80, v_wrongAt_80, v_variable_80, v_number_80, v_numberKind_80, rfl, by first | assumption | omega | (intros; omega) | decide, by first | assumption | omega | (intros; omega) | decide, by first | assumption | omega | (intros; omega) | decide, by first | assumption | omega | (intros; omega) | decide, by first | assumption | omega | (intros; omega) | decide, by first | assumption | omega | (intros; omega) | decide, by first | assumption | omega | (intros; omega) | decide, by first | assumption | omega | (intros; omega) | decide, by first | assumption | omega | (intros; omega) | decide, by first | assumption | exact SAME.rf _ _ | exact SAME.trans (by assumption) (by assumption) | exact SAME.trans (by assumption) (SAME.trans (by assumption) (by assumption)), by first | assumption | exact SAME.rf _ _ | exact SAME.trans (by assumption) (by assumption) | exact SAME.trans (by assumption) (SAME.trans (by assumption) (by assumption)), by first | assumption | omega | (intros; omega) | decide⟩, by rw [ht]; exact hP, va_K.moved hW.alike hK, hD⟩, hS.F ht⟩) hS.2.2 dX10_readGiven_91
      · skip
        refine lv_iconst (v := 1) hx hb dX10_readGiven_86 (by decide) ?_
        refine lv_goto (tgt := 91) hx hb dX10_readGiven_87 (by decide) ?_
        subst hAe
        rw [hQ]
        exact W.zret (v := 1) hx hb hr (by decide) (fun t ht hW => ⟨⟨1, _, rfl, ⟨v_to_80, v_kind_80, v_from_80, v_letters_80, v_letterMany_80, v_digits_80, v_isBeyond_80, v_suffix_80, a_one_80, a_two, a_what_72, a_ats_80, a_atVar_80, a_atNumber_80, v_wrong_80, v_wrongAt_80, v_variable_80, v_number_80, v_numberKind_80, rfl, by first | assumption | omega | (intros; omega) | decide, by first | assumption | omega | (intros; omega) | decide, by first | assumption | omega | (intros; omega) | decide, by first | assumption | omega | (intros; omega) | decide, by first | assumption | omega | (intros; omega) | decide, by first | assumption | omega | (intros; omega) | decide, by first | assumption | omega | (intros; omega) | decide, by first | assumption | omega | (intros; omega) | decide, by first | assumption | omega | (intros; omega) | decide, by first | assumption | exact SAME.rf _ _ | exact SAME.trans (by assumption) (by assumption) | exact SAME.trans (by assumption) (SAME.trans (by assumption) (by assumption)), by first | assumption | exact SAME.rf _ _ | exact SAME.trans (by assumption) (by assumption) | exact SAME.trans (by assumption) (SAME.trans (by assumption) (by assumption)), by first | assumption | omega | (intros; omega) | decide⟩, by rw [ht]; exact hP, va_K.moved hW.alike hK, hD⟩, hS.F ht⟩) hS.2.2 dX10_readGiven_91
  · skip
    refine lv_tableIn (tgt := 166) (off := 165) hx hb dX10_readGiven_1 (by omega) (by omega) (by rw [c1]; rfl) (by decide) ?_
    exact J166 H locs ls (by first | assumption | omega | (intros; omega) | decide) (by first | assumption | omega | (intros; omega) | decide) (by first | assumption | omega | (intros; omega) | decide) hP hD hS (lv_sub hl [0, 1] rfl)
  · skip
    refine lv_tableIn (tgt := 92) (off := 91) hx hb dX10_readGiven_1 (by omega) (by omega) (by rw [c1]; rfl) (by decide) ?_
    refine lv_aload_n hx hb dX10_readGiven_92 rfl (lv_at hl 0 rfl) ?_
    refine lv_iload_n hx hb dX10_readGiven_93 rfl (lv_at hl 1 rfl) ?_
    refine call_i (As := [.int s9]) (rest := []) ⟨hx, hb, hml, hown, hts⟩ (tX10_readPlace (l := l) s9 (by first | assumption | omega | (intros; omega) | decide) (by first | assumption | omega | (intros; omega) | decide) (by first | assumption | omega | (intros; omega) | decide) (by first | assumption | omega | (intros; omega) | decide) (by first | assumption | omega | (intros; omega) | decide) (by first | assumption | omega | (intros; omega) | decide) (by first | assumption | omega | (intros; omega) | decide) (by first | assumption | omega | (intros; omega) | decide)) (cwV 1 hts (gV (wr29 _ (List.mem_of_getElem? (i := 15) rfl)) (wr29 _ (List.mem_of_getElem? (i := 16) rfl)) (wr29 _ (List.mem_of_getElem? (i := 17) rfl)) (wr1 _ (List.mem_of_getElem? (i := 5) rfl)) (wr29 _ (List.mem_of_getElem? (i := 18) rfl))) rfl rfl rfl (by decide +kernel) ⟨Nat.le_of_ble_eq_true rfl, Nat.le_of_ble_eq_true rfl⟩) (va_recv hK hP (ci := 9) (q0 := 0) rfl rfl) hK hP hD hE hS hA rfl hl.1 rfl (Nat.le_of_ble_eq_true rfl) dX10_readGiven_94 ⟨Nat.le_of_ble_eq_true rfl, Nat.le_of_ble_eq_true rfl⟩ (fun r94 w9 H locs hw94 hP hD hS => ?_)
    obtain ⟨v_to_94, v_kind_94, v_from_94, v_letters_94, v_letterMany_94, v_digits_94, v_isBeyond_94, v_suffix_94, a_one_94, a_ats_94, a_atVar_94, a_atNumber_94, v_wrong_94, v_wrongAt_94, v_variable_94, v_number_94, v_numberKind_94, rfl, hw94_0, hw94_1, hw94_2, hw94_3, hw94_4, hw94_5, hw94_6, hw94_7, hw94_8, hw94_9⟩ := hw94
    have b_v_to_94 := iB v_to_94
    have b_v_kind_94 := iB v_kind_94
    have b_v_from_94 := iB v_from_94
    have b_v_letters_94 := jB v_letters_94
    have b_v_letterMany_94 := iB v_letterMany_94
    have b_v_digits_94 := jB v_digits_94
    have b_v_isBeyond_94 := iB v_isBeyond_94
    have b_v_suffix_94 := iB v_suffix_94
    have b_v_wrong_94 := iB v_wrong_94
    have b_v_wrongAt_94 := iB v_wrongAt_94
    have b_v_variable_94 := iB v_variable_94
    have b_v_number_94 := jB v_number_94
    have b_v_numberKind_94 := iB v_numberKind_94
    have b_r94 := iB r94
    subst hAe
    rw [hQ]
    exact W.zret (v := r94) hx hb hr (nbool (by first | omega | decide)) (fun t ht hW => ⟨⟨r94, _, rfl, ⟨v_to_94, v_kind_94, v_from_94, v_letters_94, v_letterMany_94, v_digits_94, v_isBeyond_94, v_suffix_94, a_one_94, a_two, a_what, a_ats_94, a_atVar_94, a_atNumber_94, v_wrong_94, v_wrongAt_94, v_variable_94, v_number_94, v_numberKind_94, rfl, by first | assumption | omega | (intros; omega) | decide, by first | assumption | omega | (intros; omega) | decide, by first | assumption | omega | (intros; omega) | decide, by first | assumption | omega | (intros; omega) | decide, by first | assumption | omega | (intros; omega) | decide, by first | assumption | omega | (intros; omega) | decide, by first | assumption | omega | (intros; omega) | decide, by first | assumption | omega | (intros; omega) | decide, by first | assumption | omega | (intros; omega) | decide, by first | assumption | exact SAME.rf _ _ | exact SAME.trans (by assumption) (by assumption) | exact SAME.trans (by assumption) (SAME.trans (by assumption) (by assumption)), by first | assumption | exact SAME.rf _ _ | exact SAME.trans (by assumption) (by assumption) | exact SAME.trans (by assumption) (SAME.trans (by assumption) (by assumption)), by first | assumption | omega | (intros; omega) | decide⟩, by rw [ht]; exact hP, va_K.moved hW.alike hK, hD⟩, hS.F ht⟩) hS.2.2 dX10_readGiven_97
  · skip
    refine lv_tableIn (tgt := 166) (off := 165) hx hb dX10_readGiven_1 (by omega) (by omega) (by rw [c1]; rfl) (by decide) ?_
    exact J166 H locs ls (by first | assumption | omega | (intros; omega) | decide) (by first | assumption | omega | (intros; omega) | decide) (by first | assumption | omega | (intros; omega) | decide) hP hD hS (lv_sub hl [0, 1] rfl)
  · skip
    refine lv_tableIn (tgt := 98) (off := 97) hx hb dX10_readGiven_1 (by omega) (by omega) (by rw [c1]; rfl) (by decide) ?_
    refine lv_aload_n hx hb dX10_readGiven_98 rfl (lv_at hl 0 rfl) ?_
    refine lv_iload_n hx hb dX10_readGiven_99 rfl (lv_at hl 1 rfl) ?_
    refine lv_bipush (v := 17) hx hb dX10_readGiven_100 (by decide) ?_
    refine call_i (As := [.int s9, .int 17]) (rest := []) ⟨hx, hb, hml, hown, hts⟩ (tX10_readKind (l := l) s9 (17 : Int32) (by first | assumption | omega | (intros; omega) | decide) (by first | assumption | omega | (intros; omega) | decide) (by first | assumption | omega | (intros; omega) | decide)) (cwV 2 hts (gV (wr29 _ (List.mem_of_getElem? (i := 11) rfl)) (wr29 _ (List.mem_of_getElem? (i := 12) rfl)) (wr29 _ (List.mem_of_getElem? (i := 13) rfl)) (wr1 _ (List.mem_of_getElem? (i := 5) rfl)) (wr29 _ (List.mem_of_getElem? (i := 14) rfl))) rfl rfl rfl (by decide +kernel) ⟨Nat.le_of_ble_eq_true rfl, Nat.le_of_ble_eq_true rfl⟩) (va_recv hK hP (ci := 9) (q0 := 0) rfl rfl) hK hP hD hE hS hA rfl hl.1 rfl (Nat.le_of_ble_eq_true rfl) dX10_readGiven_102 ⟨Nat.le_of_ble_eq_true rfl, Nat.le_of_ble_eq_true rfl⟩ (fun r102 w9 H locs hw102 hP hD hS => ?_)
    obtain ⟨v_to_102, v_kind_102, v_from_102, v_letters_102, v_letterMany_102, v_digits_102, v_isBeyond_102, v_suffix_102, a_what_102, v_wrong_102, v_wrongAt_102, rfl, hw102_0, hw102_1, hw102_2, hw102_3, hw102_4⟩ := hw102
    have b_v_to_102 := iB v_to_102
    have b_v_kind_102 := iB v_kind_102
    have b_v_from_102 := iB v_from_102
    have b_v_letters_102 := jB v_letters_102
    have b_v_letterMany_102 := iB v_letterMany_102
    have b_v_digits_102 := jB v_digits_102
    have b_v_isBeyond_102 := iB v_isBeyond_102
    have b_v_suffix_102 := iB v_suffix_102
    have b_v_wrong_102 := iB v_wrong_102
    have b_v_wrongAt_102 := iB v_wrongAt_102
    have b_r102 := iB r102
    refine m_if_eq (X := r102.toInt) (tgt := 120) hx hb dX10_readGiven_105 (by decide) rfl (fun c105 => ?_) (fun c105 => ?_)
    · skip
      refine lv_iconst (v := 0) hx hb dX10_readGiven_120 (by decide) ?_
      subst hAe
      rw [hQ]
      exact W.zret (v := 0) hx hb hr (by decide) (fun t ht hW => ⟨⟨0, _, rfl, ⟨v_to_102, v_kind_102, v_from_102, v_letters_102, v_letterMany_102, v_digits_102, v_isBeyond_102, v_suffix_102, a_one, a_two, a_what_102, a_ats, a_atVar, a_atNumber, v_wrong_102, v_wrongAt_102, v_variable, v_number, v_numberKind, rfl, by first | assumption | omega | (intros; omega) | decide, by first | assumption | omega | (intros; omega) | decide, by first | assumption | omega | (intros; omega) | decide, by first | assumption | omega | (intros; omega) | decide, by first | assumption | omega | (intros; omega) | decide, by first | assumption | omega | (intros; omega) | decide, by first | assumption | omega | (intros; omega) | decide, by first | assumption | omega | (intros; omega) | decide, by first | assumption | omega | (intros; omega) | decide, by first | assumption | exact SAME.rf _ _ | exact SAME.trans (by assumption) (by assumption) | exact SAME.trans (by assumption) (SAME.trans (by assumption) (by assumption)), by first | assumption | exact SAME.rf _ _ | exact SAME.trans (by assumption) (by assumption) | exact SAME.trans (by assumption) (SAME.trans (by assumption) (by assumption)), by first | assumption | omega | (intros; omega) | decide⟩, by rw [ht]; exact hP, va_K.moved hW.alike hK, hD⟩, hS.F ht⟩) hS.2.2 dX10_readGiven_121
    · skip
      refine lv_aload_n hx hb dX10_readGiven_108 rfl (lv_at hl 0 rfl) ?_
      refine lv_iload_n hx hb dX10_readGiven_109 rfl (lv_at hl 1 rfl) ?_
      refine call_i (As := [.int s9]) (rest := []) ⟨hx, hb, hml, hown, hts⟩ (tX10_readLengths (l := l) s9 (by first | assumption | omega | (intros; omega) | decide) (by first | assumption | omega | (intros; omega) | decide) (by first | assumption | omega | (intros; omega) | decide) (by first | assumption | omega | (intros; omega) | decide) (by first | assumption | omega | (intros; omega) | decide) (by first | assumption | omega | (intros; omega) | decide) (by first | assumption | omega | (intros; omega) | decide) (by first | assumption | omega | (intros; omega) | decide) (by first | assumption | omega | (intros; omega) | decide)) (cwV 1 hts (gV (wr29 _ (List.mem_of_getElem? (i := 19) rfl)) (wr29 _ (List.mem_of_getElem? (i := 20) rfl)) (wr29 _ (List.mem_of_getElem? (i := 21) rfl)) (wr1 _ (List.mem_of_getElem? (i := 5) rfl)) (wr29 _ (List.mem_of_getElem? (i := 22) rfl))) rfl rfl rfl (by decide +kernel) ⟨Nat.le_of_ble_eq_true rfl, Nat.le_of_ble_eq_true rfl⟩) (va_recv hK hP (ci := 9) (q0 := 0) rfl rfl) hK hP hD hE hS hA rfl hl.1 rfl (Nat.le_of_ble_eq_true rfl) dX10_readGiven_110 ⟨Nat.le_of_ble_eq_true rfl, Nat.le_of_ble_eq_true rfl⟩ (fun r110 w9 H locs hw110 hP hD hS => ?_)
      obtain ⟨v_to_110, v_kind_110, v_from_110, v_letters_110, v_letterMany_110, v_digits_110, v_isBeyond_110, v_suffix_110, a_what_110, a_ats_110, a_atVar_110, a_atNumber_110, v_wrong_110, v_wrongAt_110, v_variable_110, v_number_110, v_numberKind_110, rfl, hw110_0, hw110_1, hw110_2, hw110_3, hw110_4, hw110_5, hw110_6, hw110_7, hw110_8, hw110_9⟩ := hw110
      have b_v_to_110 := iB v_to_110
      have b_v_kind_110 := iB v_kind_110
      have b_v_from_110 := iB v_from_110
      have b_v_letters_110 := jB v_letters_110
      have b_v_letterMany_110 := iB v_letterMany_110
      have b_v_digits_110 := jB v_digits_110
      have b_v_isBeyond_110 := iB v_isBeyond_110
      have b_v_suffix_110 := iB v_suffix_110
      have b_v_wrong_110 := iB v_wrong_110
      have b_v_wrongAt_110 := iB v_wrongAt_110
      have b_v_variable_110 := iB v_variable_110
      have b_v_number_110 := jB v_number_110
      have b_v_numberKind_110 := iB v_numberKind_110
      have b_r110 := iB r110
      refine m_if_eq (X := r110.toInt) (tgt := 120) hx hb dX10_readGiven_113 (by decide) rfl (fun c113 => ?_) (fun c113 => ?_)
      · skip
        refine lv_iconst (v := 0) hx hb dX10_readGiven_120 (by decide) ?_
        subst hAe
        rw [hQ]
        exact W.zret (v := 0) hx hb hr (by decide) (fun t ht hW => ⟨⟨0, _, rfl, ⟨v_to_110, v_kind_110, v_from_110, v_letters_110, v_letterMany_110, v_digits_110, v_isBeyond_110, v_suffix_110, a_one, a_two, a_what_110, a_ats_110, a_atVar_110, a_atNumber_110, v_wrong_110, v_wrongAt_110, v_variable_110, v_number_110, v_numberKind_110, rfl, by first | assumption | omega | (intros; omega) | decide, by first | assumption | omega | (intros; omega) | decide, by first | assumption | omega | (intros; omega) | decide, by first | assumption | omega | (intros; omega) | decide, by first | assumption | omega | (intros; omega) | decide, by first | assumption | omega | (intros; omega) | decide, by first | assumption | omega | (intros; omega) | decide, by first | assumption | omega | (intros; omega) | decide, by first | assumption | omega | (intros; omega) | decide, by first | assumption | exact SAME.rf _ _ | exact SAME.trans (by assumption) (by assumption) | exact SAME.trans (by assumption) (SAME.trans (by assumption) (by assumption)), by first | assumption | exact SAME.rf _ _ | exact SAME.trans (by assumption) (by assumption) | exact SAME.trans (by assumption) (SAME.trans (by assumption) (by assumption)), by first | assumption | omega | (intros; omega) | decide⟩, by rw [ht]; exact hP, va_K.moved hW.alike hK, hD⟩, hS.F ht⟩) hS.2.2 dX10_readGiven_121
      · skip
        refine lv_iconst (v := 1) hx hb dX10_readGiven_116 (by decide) ?_
        refine lv_goto (tgt := 121) hx hb dX10_readGiven_117 (by decide) ?_
        subst hAe
        rw [hQ]
        exact W.zret (v := 1) hx hb hr (by decide) (fun t ht hW => ⟨⟨1, _, rfl, ⟨v_to_110, v_kind_110, v_from_110, v_letters_110, v_letterMany_110, v_digits_110, v_isBeyond_110, v_suffix_110, a_one, a_two, a_what_110, a_ats_110, a_atVar_110, a_atNumber_110, v_wrong_110, v_wrongAt_110, v_variable_110, v_number_110, v_numberKind_110, rfl, by first | assumption | omega | (intros; omega) | decide, by first | assumption | omega | (intros; omega) | decide, by first | assumption | omega | (intros; omega) | decide, by first | assumption | omega | (intros; omega) | decide, by first | assumption | omega | (intros; omega) | decide, by first | assumption | omega | (intros; omega) | decide, by first | assumption | omega | (intros; omega) | decide, by first | assumption | omega | (intros; omega) | decide, by first | assumption | omega | (intros; omega) | decide, by first | assumption | exact SAME.rf _ _ | exact SAME.trans (by assumption) (by assumption) | exact SAME.trans (by assumption) (SAME.trans (by assumption) (by assumption)), by first | assumption | exact SAME.rf _ _ | exact SAME.trans (by assumption) (by assumption) | exact SAME.trans (by assumption) (SAME.trans (by assumption) (by assumption)), by first | assumption | omega | (intros; omega) | decide⟩, by rw [ht]; exact hP, va_K.moved hW.alike hK, hD⟩, hS.F ht⟩) hS.2.2 dX10_readGiven_121
  · skip
    refine lv_tableIn (tgt := 166) (off := 165) hx hb dX10_readGiven_1 (by omega) (by omega) (by rw [c1]; rfl) (by decide) ?_
    exact J166 H locs ls (by first | assumption | omega | (intros; omega) | decide) (by first | assumption | omega | (intros; omega) | decide) (by first | assumption | omega | (intros; omega) | decide) hP hD hS (lv_sub hl [0, 1] rfl)
  · skip
    refine lv_tableIn (tgt := 122) (off := 121) hx hb dX10_readGiven_1 (by omega) (by omega) (by rw [c1]; rfl) (by decide) ?_
    exact J122 H locs ls (by first | assumption | omega | (intros; omega) | decide) hP hD hS (lv_sub hl [0, 1] rfl)
  · skip
    refine lv_tableIn (tgt := 122) (off := 121) hx hb dX10_readGiven_1 (by omega) (by omega) (by rw [c1]; rfl) (by decide) ?_
    exact J122 H locs ls (by first | assumption | omega | (intros; omega) | decide) hP hD hS (lv_sub hl [0, 1] rfl)
  · skip
    refine lv_tableIn (tgt := 144) (off := 143) hx hb dX10_readGiven_1 (by omega) (by omega) (by rw [c1]; rfl) (by decide) ?_
    exact J144 H locs ls (by first | assumption | omega | (intros; omega) | decide) hP hD hS (lv_sub hl [0, 1] rfl)
  · skip
    refine lv_tableIn (tgt := 166) (off := 165) hx hb dX10_readGiven_1 (by omega) (by omega) (by rw [c1]; rfl) (by decide) ?_
    exact J166 H locs ls (by first | assumption | omega | (intros; omega) | decide) (by first | assumption | omega | (intros; omega) | decide) (by first | assumption | omega | (intros; omega) | decide) hP hD hS (lv_sub hl [0, 1] rfl)
  · skip
    refine lv_tableIn (tgt := 166) (off := 165) hx hb dX10_readGiven_1 (by omega) (by omega) (by rw [c1]; rfl) (by decide) ?_
    exact J166 H locs ls (by first | assumption | omega | (intros; omega) | decide) (by first | assumption | omega | (intros; omega) | decide) (by first | assumption | omega | (intros; omega) | decide) hP hD hS (lv_sub hl [0, 1] rfl)
  · skip
    refine lv_tableIn (tgt := 166) (off := 165) hx hb dX10_readGiven_1 (by omega) (by omega) (by rw [c1]; rfl) (by decide) ?_
    exact J166 H locs ls (by first | assumption | omega | (intros; omega) | decide) (by first | assumption | omega | (intros; omega) | decide) (by first | assumption | omega | (intros; omega) | decide) hP hD hS (lv_sub hl [0, 1] rfl)
  · skip
    refine lv_tableIn (tgt := 144) (off := 143) hx hb dX10_readGiven_1 (by omega) (by omega) (by rw [c1]; rfl) (by decide) ?_
    exact J144 H locs ls (by first | assumption | omega | (intros; omega) | decide) hP hD hS (lv_sub hl [0, 1] rfl)

def rmX10_readAct : Room := { frames := 200, cells := 0, slots := 0, locals := 4000 }
set_option maxHeartbeats 4000000 in
set_option maxRecDepth 100000 in
theorem tX10_readAct {l : Launch} {D : va_G} {K : Nat → Nat → Nat} {cs : Nat → ClassId} {q : Nat → Nat} {v_thrown v_taped v_size v_to v_kind v_from v_letterMany v_isBeyond v_suffix v_steps v_fault v_hasProgram v_wrong v_wrongAt v_variable v_numberKind v_takes v_outed v_creatures v_arrays v_cells v_marks v_came v_guessed v_right v_taken v_sort v_kindAt v_reached v_looked : Int32} {a_tape a_text a_act a_guess a_take a_begin a_finish a_to1 a_one a_two a_what a_ats a_atVar a_atNumber a_atomSort a_atomKind a_out a_varSort a_varKind a_creature a_arrayClass a_arrayFrom a_arrayLong a_cellSort a_cellKind a_asideSort a_asideKind a_outcome a_markSort a_markKind a_markClass a_index : Nat → Int32} {v_letters v_digits v_number v_value : Int64} {a_atomValue a_varValue a_cellValue a_asideValue a_markValue : Nat → Int64} (s9 : Int32) (p_0 : LX a_tape v_size v_to v_from v_kind v_letters v_letterMany v_isBeyond) (p_1 : 0 ≤ v_variable.toInt ∧ v_variable.toInt ≤ 25) (p_2 : NumOK v_numberKind v_number) (p_3 : Rm25 a_atVar) (p_4 : 0 ≤ s9.toInt) (p_5 : s9.toInt ≤ 201) (p_6 : R03 a_ats) (p_7 : R25 a_one) (p_8 : R25 a_two) (p_9 : R25 a_to1) (p_10 : ATM a_atomSort a_atomKind a_atomValue) : CtI l yX10_readAct (wG yX10_readAct cX10_readAct 4 (some .boolean)) rmX10_readAct D (mwT cs) K [.ref (q 0), .int s9] (mw cs q v_thrown a_tape v_taped v_size v_to v_kind v_from v_letters v_letterMany v_digits v_isBeyond v_suffix v_steps v_fault v_hasProgram a_text a_act a_guess a_take a_begin a_finish a_to1 a_one a_two a_what a_ats a_atVar a_atNumber a_atomSort a_atomKind a_atomValue v_wrong v_wrongAt v_variable v_number v_numberKind v_takes a_out v_outed a_varSort a_varKind a_varValue a_creature v_creatures a_arrayClass a_arrayFrom a_arrayLong v_arrays v_cells a_cellSort a_cellKind a_cellValue a_asideSort a_asideKind a_asideValue a_outcome v_marks v_came v_guessed v_right v_taken a_markSort a_markKind a_markClass a_markValue v_sort v_kindAt v_value a_index v_reached v_looked) (fun r w1 => ∃ (v_to' : Int32) (v_kind' : Int32) (v_from' : Int32) (v_letters' : Int64) (v_letterMany' : Int32) (v_digits' : Int64) (v_isBeyond' : Int32) (v_suffix' : Int32) (a_act' : Nat → Int32) (a_to1' : Nat → Int32) (a_one' : Nat → Int32) (a_two' : Nat → Int32) (a_what' : Nat → Int32) (a_ats' : Nat → Int32) (a_atVar' : Nat → Int32) (a_atNumber' : Nat → Int32) (a_atomSort' : Nat → Int32) (a_atomKind' : Nat → Int32) (a_atomValue' : Nat → Int64) (v_wrong' : Int32) (v_wrongAt' : Int32) (v_variable' : Int32) (v_number' : Int64) (v_numberKind' : Int32), w1 = (mw cs q v_thrown a_tape v_taped v_size v_to' v_kind' v_from' v_letters' v_letterMany' v_digits' v_isBeyond' v_suffix' v_steps v_fault v_hasProgram a_text a_act' a_guess a_take a_begin a_finish a_to1' a_one' a_two' a_what' a_ats' a_atVar' a_atNumber' a_atomSort' a_atomKind' a_atomValue' v_wrong' v_wrongAt' v_variable' v_number' v_numberKind' v_takes a_out v_outed a_varSort a_varKind a_varValue a_creature v_creatures a_arrayClass a_arrayFrom a_arrayLong v_arrays v_cells a_cellSort a_cellKind a_cellValue a_asideSort a_asideKind a_asideValue a_outcome v_marks v_came v_guessed v_right v_taken a_markSort a_markKind a_markClass a_markValue v_sort v_kindAt v_value a_index v_reached v_looked) ∧ (LX a_tape v_size v_to' v_from' v_kind' v_letters' v_letterMany' v_isBeyond') ∧ (v_to.toInt ≤ v_to'.toInt) ∧ (ph a_tape v_to' ≤ ph a_tape v_to + 20) ∧ (0 ≤ v_variable'.toInt ∧ v_variable'.toInt ≤ 25) ∧ (NumOK v_numberKind' v_number') ∧ (Rm25 a_atVar') ∧ (R03 a_ats') ∧ (R25 a_one') ∧ (R25 a_two') ∧ (R25 a_to1') ∧ (ATM a_atomSort' a_atomKind' a_atomValue') ∧ (SAME a_ats' a_ats s9.toNatClampNeg) ∧ (SAME a_what' a_what s9.toNatClampNeg) ∧ (SAME a_act' a_act s9.toNatClampNeg) ∧ (r.toInt = 0 ∨ (r.toInt = 1 ∧ ((2 ≤ (a_act' s9.toNatClampNeg).toInt ∧ (a_act' s9.toNatClampNeg).toInt ≤ 7) → 1 ≤ (a_ats' s9.toNatClampNeg).toInt) ∧ ((a_act' s9.toNatClampNeg).toInt = 8 → 1 ≤ (a_ats' s9.toNatClampNeg).toInt ∧ 20 * (a_ats' s9.toNatClampNeg).toInt ≤ (a_what' s9.toNatClampNeg).toInt ∧ (a_what' s9.toNatClampNeg).toInt ≤ 79)))) 0 0 := by
  intro sz
  refine Met.ofW (cc := cX10_readAct) (maxL := 4) (ret := (some .boolean)) (by decide) rfl ?_
  intro p e s m args below meth c s₁ B hml hv
  obtain ⟨rfl, hsz, hP, hK, hD0, hE⟩ := hv
  have hx := B.exec
  have hb := B.bytes
  have hr := B.returns
  have hts := atoms_spec (ws := (wG yX10_readAct cX10_readAct 4 (some .boolean))) B.pre
  have hown : s.vm.findClass RX10 = some m.cls := findClass_of_methodNamed B.named
  have hlocks := B.notSynchronized
  subst hsz
  have hD := hD0.self (sz := s.heap.size)
  obtain ⟨A, hAe⟩ : ∃ A : Nat → Prop, A = va_A (mw cs q v_thrown a_tape v_taped v_size v_to v_kind v_from v_letters v_letterMany v_digits v_isBeyond v_suffix v_steps v_fault v_hasProgram a_text a_act a_guess a_take a_begin a_finish a_to1 a_one a_two a_what a_ats a_atVar a_atNumber a_atomSort a_atomKind a_atomValue v_wrong v_wrongAt v_variable v_number v_numberKind v_takes a_out v_outed a_varSort a_varKind a_varValue a_creature v_creatures a_arrayClass a_arrayFrom a_arrayLong v_arrays v_cells a_cellSort a_cellKind a_cellValue a_asideSort a_asideKind a_asideValue a_outcome v_marks v_came v_guessed v_right v_taken a_markSort a_markKind a_markClass a_markValue v_sort v_kindAt v_value a_index v_reached v_looked) s.heap.size := ⟨_, rfl⟩
  rw [← hAe] at hD hE
  have hA : ∀ q : Nat, s.heap.size ≤ q → A q := fun q h => by rw [hAe]; exact Or.inr h
  have hS : va_S A s.heap s.heap [] := va_S.rf
  have hl := lv_entry ([.ref (q 0), .int s9]) (n := 4) (Nat.le_of_ble_eq_true rfl)
  rw [lg_entry_eq]
  generalize (lg_sl ([.ref (q 0), .int s9]) ++ List.replicate (4 - (lg_sl ([.ref (q 0), .int s9])).length) Slot.unset).toArray = ls at hl ⊢
  have hl : lv_has ls 4 [(0, .ref (q 0)), (1, .int s9)] := hl
  refine wq (fun Q hQ => ?_)
  have hin : ∀ w ∈ wsX100, w ∈ (wG yX10_readAct cX10_readAct 4 (some .boolean)) := fun w h => List.mem_cons_of_mem _ (inlX10 w h)
  have kc0 : (0 : Int32).toInt = 0 := by decide
  have kc1 : (1 : Int32).toInt = 1 := by decide
  have kc2 : (2 : Int32).toInt = 2 := by decide
  have kc3 : (3 : Int32).toInt = 3 := by decide
  have kc4 : (8 : Int32).toInt = 8 := by decide
  have kc5 : (61 : Int32).toInt = 61 := by decide
  have kc6 : (91 : Int32).toInt = 91 := by decide
  have k_5_18 := hts (.fieldLink RX10 43 "ArrayTrainerModel" "ats" "[I") (List.mem_cons_of_mem _ (wr5 _ (List.mem_of_getElem? (i := 18) rfl)))
  have k_22_15 := hts (.fieldLink RX10 273 "ArrayTrainerModel" "kind" "I") (List.mem_cons_of_mem _ (wr22 _ (List.mem_of_getElem? (i := 15) rfl)))
  have k_5_9 := hts (.fieldLink RX10 16 "ArrayTrainerModel" "act" "[I") (List.mem_cons_of_mem _ (wr5 _ (List.mem_of_getElem? (i := 9) rfl)))
  have k_23_1 := hts (.fieldLink RX10 289 "ArrayTrainerModel" "letters" "J") (List.mem_cons_of_mem _ (wr23 _ (List.mem_of_getElem? (i := 1) rfl)))
  have k_25_22 := hts (.fieldLink RX10 332 "ArrayTrainerModel" "variable" "I") (List.mem_cons_of_mem _ (wr25 _ (List.mem_of_getElem? (i := 22) rfl)))
  have k_5_14 := hts (.fieldLink RX10 31 "ArrayTrainerModel" "to1" "[I") (List.mem_cons_of_mem _ (wr5 _ (List.mem_of_getElem? (i := 14) rfl)))
  have k_5_21 := hts (.fieldLink RX10 52 "ArrayTrainerModel" "atomSort" "[I") (List.mem_cons_of_mem _ (wr5 _ (List.mem_of_getElem? (i := 21) rfl)))
  have k_5_23 := hts (.fieldLink RX10 58 "ArrayTrainerModel" "atomValue" "[J") (List.mem_cons_of_mem _ (wr5 _ (List.mem_of_getElem? (i := 23) rfl)))
  have k_5_15 := hts (.fieldLink RX10 34 "ArrayTrainerModel" "one" "[I") (List.mem_cons_of_mem _ (wr5 _ (List.mem_of_getElem? (i := 15) rfl)))
  obtain ⟨H, hH⟩ : ∃ H : Heap, H = s.heap := ⟨_, rfl⟩
  obtain ⟨locs, hlc⟩ : ∃ L : List Loc, L = [] := ⟨_, rfl⟩
  have hP : va_P D vwCl (mw cs q v_thrown a_tape v_taped v_size v_to v_kind v_from v_letters v_letterMany v_digits v_isBeyond v_suffix v_steps v_fault v_hasProgram a_text a_act a_guess a_take a_begin a_finish a_to1 a_one a_two a_what a_ats a_atVar a_atNumber a_atomSort a_atomKind a_atomValue v_wrong v_wrongAt v_variable v_number v_numberKind v_takes a_out v_outed a_varSort a_varKind a_varValue a_creature v_creatures a_arrayClass a_arrayFrom a_arrayLong v_arrays v_cells a_cellSort a_cellKind a_cellValue a_asideSort a_asideKind a_asideValue a_outcome v_marks v_came v_guessed v_right v_taken a_markSort a_markKind a_markClass a_markValue v_sort v_kindAt v_value a_index v_reached v_looked) H := by rw [hH]; exact hP
  have hS : va_S A s.heap H locs := by rw [hH, hlc]; exact hS
  refine wHL hH hlc ?_
  have b_s9 := iB s9
  refine lv_aload_n hx hb dX10_readAct_0 rfl (lv_at hl 0 rfl) ?_
  refine va_get (D := D) (ci := 9) (v := .ref (q 12)) (C := RX10) (T := TX10) (N := 71) hx hb hts hin hown hK hP 0 rfl rfl 25 (by decide) k_5_18 (fun _ h9 => h9) rfl dX10_readAct_1 ?_
  refine lv_iload_n hx hb dX10_readAct_4 rfl (lv_at hl 1 rfl) ?_
  refine lv_iconst (v := 0) hx hb dX10_readAct_5 (by decide) ?_
  refine va_iast hx hb hK hP hD hS 12 0 rfl rfl (ix (by omega) (by omega)) dX10_readAct_6 (fun H locs hP hD hS => ?_)
  obtain ⟨a_ats_6, e_a_ats_6⟩ : ∃ g, g = upd a_ats s9.toNatClampNeg (0 : Int32) := ⟨_, rfl⟩
  have hP : va_P D vwCl (mw cs q v_thrown a_tape v_taped v_size v_to v_kind v_from v_letters v_letterMany v_digits v_isBeyond v_suffix v_steps v_fault v_hasProgram a_text a_act a_guess a_take a_begin a_finish a_to1 a_one a_two a_what a_ats_6 a_atVar a_atNumber a_atomSort a_atomKind a_atomValue v_wrong v_wrongAt v_variable v_number v_numberKind v_takes a_out v_outed a_varSort a_varKind a_varValue a_creature v_creatures a_arrayClass a_arrayFrom a_arrayLong v_arrays v_cells a_cellSort a_cellKind a_cellValue a_asideSort a_asideKind a_asideValue a_outcome v_marks v_came v_guessed v_right v_taken a_markSort a_markKind a_markClass a_markValue v_sort v_kindAt v_value a_index v_reached v_looked) H := by rw [e_a_ats_6]; exact hP
  have hD : va_D A (mw cs q v_thrown a_tape v_taped v_size v_to v_kind v_from v_letters v_letterMany v_digits v_isBeyond v_suffix v_steps v_fault v_hasProgram a_text a_act a_guess a_take a_begin a_finish a_to1 a_one a_two a_what a_ats_6 a_atVar a_atNumber a_atomSort a_atomKind a_atomValue v_wrong v_wrongAt v_variable v_number v_numberKind v_takes a_out v_outed a_varSort a_varKind a_varValue a_creature v_creatures a_arrayClass a_arrayFrom a_arrayLong v_arrays v_cells a_cellSort a_cellKind a_cellValue a_asideSort a_asideKind a_asideValue a_outcome v_marks v_came v_guessed v_right v_taken a_markSort a_markKind a_markClass a_markValue v_sort v_kindAt v_value a_index v_reached v_looked) := by rw [e_a_ats_6]; exact hD
  have hr6 : R03 a_ats_6 := R03.upd p_6 (by decide) (by decide) e_a_ats_6
  have hs6 : SAME a_ats_6 a_ats s9.toNatClampNeg := SAME.upd e_a_ats_6 (SAME.rf _ _)
  refine lv_aload_n hx hb dX10_readAct_7 rfl (lv_at hl 0 rfl) ?_
  refine call_i (As := []) (rest := []) ⟨hx, hb, hml, hown, hts⟩ (tX10_isVar (l := l) ) (cwV 0 hts (gV (wr24 _ (List.mem_of_getElem? (i := 17) rfl)) (wr24 _ (List.mem_of_getElem? (i := 18) rfl)) (wr24 _ (List.mem_of_getElem? (i := 19) rfl)) (wr1 _ (List.mem_of_getElem? (i := 5) rfl)) (wr24 _ (List.mem_of_getElem? (i := 20) rfl))) rfl rfl rfl (by decide +kernel) ⟨Nat.le_of_ble_eq_true rfl, Nat.le_of_ble_eq_true rfl⟩) (va_recv hK hP (ci := 9) (q0 := 0) rfl rfl) hK hP hD hE hS hA rfl hl.1 rfl (Nat.le_of_ble_eq_true rfl) dX10_readAct_8 ⟨Nat.le_of_ble_eq_true rfl, Nat.le_of_ble_eq_true rfl⟩ (fun r8 w9 H locs hw8 hP hD hS => ?_)
  obtain ⟨rfl, hw8_0⟩ := hw8
  have b_r8 := iB r8
  refine m_if_eq (X := r8.toInt) (tgt := 222) hx hb dX10_readAct_11 (by decide) rfl (fun c11 => ?_) (fun c11 => ?_)
  · skip
    refine lv_aload_n hx hb dX10_readAct_222 rfl (lv_at hl 0 rfl) ?_
    refine va_get (D := D) (ci := 9) (v := .int v_kind) (C := RX10) (T := TX10) (N := 71) hx hb hts hin hown hK hP 0 rfl rfl 5 (by decide) k_22_15 (fun _ h9 => h9) rfl dX10_readAct_223 ?_
    refine lv_iconst (v := 2) hx hb dX10_readAct_226 (by decide) ?_
    have J241 : ∀ (s0_241 : Int32) (H : Heap) (locs : List Loc) (ls : Array Slot), (s0_241.toInt = 0 ∨ s0_241.toInt = 5 ∨ s0_241.toInt = 7 ∨ (17 ≤ s0_241.toInt ∧ s0_241.toInt ≤ 21)) → va_P D vwCl (mw cs q v_thrown a_tape v_taped v_size v_to v_kind v_from v_letters v_letterMany v_digits v_isBeyond v_suffix v_steps v_fault v_hasProgram a_text a_act a_guess a_take a_begin a_finish a_to1 a_one a_two a_what a_ats_6 a_atVar a_atNumber a_atomSort a_atomKind a_atomValue v_wrong v_wrongAt v_variable v_number v_numberKind v_takes a_out v_outed a_varSort a_varKind a_varValue a_creature v_creatures a_arrayClass a_arrayFrom a_arrayLong v_arrays v_cells a_cellSort a_cellKind a_cellValue a_asideSort a_asideKind a_asideValue a_outcome v_marks v_came v_guessed v_right v_taken a_markSort a_markKind a_markClass a_markValue v_sort v_kindAt v_value a_index v_reached v_looked) H → va_D A (mw cs q v_thrown a_tape v_taped v_size v_to v_kind v_from v_letters v_letterMany v_digits v_isBeyond v_suffix v_steps v_fault v_hasProgram a_text a_act a_guess a_take a_begin a_finish a_to1 a_one a_two a_what a_ats_6 a_atVar a_atNumber a_atomSort a_atomKind a_atomValue v_wrong v_wrongAt v_variable v_number v_numberKind v_takes a_out v_outed a_varSort a_varKind a_varValue a_creature v_creatures a_arrayClass a_arrayFrom a_arrayLong v_arrays v_cells a_cellSort a_cellKind a_cellValue a_asideSort a_asideKind a_asideValue a_outcome v_marks v_came v_guessed v_right v_taken a_markSort a_markKind a_markClass a_markValue v_sort v_kindAt v_value a_index v_reached v_looked) → va_S A s.heap H locs → lv_has ls 4 [(0, .ref (q 0)), (1, .int s9)] → W p l e (headSpec (wG yX10_readAct cX10_readAct 4 (some .boolean)) rmX10_readAct).room s m ([.ref (q 0), .int s9] : List Value).toArray below meth c H locs 0 0 Q (F0 m 241 ls [.int s0_241]) := by
      intro s0_241 H locs ls f241_0 hP hD hS hl
      refine lv_istore_n (lv' := [(2, .int s0_241), (0, .ref (q 0)), (1, .int s9)]) hx hb dX10_readAct_241 rfl hl (by decide) rfl (fun ls hl => ?_)
      refine lv_iload_n hx hb dX10_readAct_242 rfl (lv_at hl 0 rfl) ?_
      refine m_if_ne (X := s0_241.toInt) (tgt := 252) hx hb dX10_readAct_243 (by decide) rfl (fun c243 => ?_) (fun c243 => ?_)
      · skip
        refine lv_aload_n hx hb dX10_readAct_252 rfl (lv_at hl 1 rfl) ?_
        refine va_get (D := D) (ci := 9) (v := .ref (q 3)) (C := RX10) (T := TX10) (N := 71) hx hb hts hin hown hK hP 0 rfl rfl 16 (by decide) k_5_9 (fun _ h9 => h9) rfl dX10_readAct_253 ?_
        refine lv_iload_n hx hb dX10_readAct_256 rfl (lv_at hl 2 rfl) ?_
        refine lv_iload_n hx hb dX10_readAct_257 rfl (lv_at hl 0 rfl) ?_
        refine va_iast hx hb hK hP hD hS 3 0 rfl rfl (ix (by omega) (by omega)) dX10_readAct_258 (fun H locs hP hD hS => ?_)
        obtain ⟨a_act_258, e_a_act_258⟩ : ∃ g, g = upd a_act s9.toNatClampNeg s0_241 := ⟨_, rfl⟩
        have hP : va_P D vwCl (mw cs q v_thrown a_tape v_taped v_size v_to v_kind v_from v_letters v_letterMany v_digits v_isBeyond v_suffix v_steps v_fault v_hasProgram a_text a_act_258 a_guess a_take a_begin a_finish a_to1 a_one a_two a_what a_ats_6 a_atVar a_atNumber a_atomSort a_atomKind a_atomValue v_wrong v_wrongAt v_variable v_number v_numberKind v_takes a_out v_outed a_varSort a_varKind a_varValue a_creature v_creatures a_arrayClass a_arrayFrom a_arrayLong v_arrays v_cells a_cellSort a_cellKind a_cellValue a_asideSort a_asideKind a_asideValue a_outcome v_marks v_came v_guessed v_right v_taken a_markSort a_markKind a_markClass a_markValue v_sort v_kindAt v_value a_index v_reached v_looked) H := by rw [e_a_act_258]; exact hP
        have hD : va_D A (mw cs q v_thrown a_tape v_taped v_size v_to v_kind v_from v_letters v_letterMany v_digits v_isBeyond v_suffix v_steps v_fault v_hasProgram a_text a_act_258 a_guess a_take a_begin a_finish a_to1 a_one a_two a_what a_ats_6 a_atVar a_atNumber a_atomSort a_atomKind a_atomValue v_wrong v_wrongAt v_variable v_number v_numberKind v_takes a_out v_outed a_varSort a_varKind a_varValue a_creature v_creatures a_arrayClass a_arrayFrom a_arrayLong v_arrays v_cells a_cellSort a_cellKind a_cellValue a_asideSort a_asideKind a_asideValue a_outcome v_marks v_came v_guessed v_right v_taken a_markSort a_markKind a_markClass a_markValue v_sort v_kindAt v_value a_index v_reached v_looked) := by rw [e_a_act_258]; exact hD
        have ha258 := congrArg Int32.toInt (at_upd e_a_act_258)
        have hsa258 : SAME a_act_258 a_act s9.toNatClampNeg := SAME.upd e_a_act_258 (SAME.rf _ _)
        refine lv_aload_n hx hb dX10_readAct_259 rfl (lv_at hl 1 rfl) ?_
        refine call_v (As := []) (rest := []) ⟨hx, hb, hml, hown, hts⟩ (tX10_goB (l := l)  (by first | assumption | exact LX.z (by assumption))) (cwV 0 hts (gV (wr22 _ (List.mem_of_getElem? (i := 20) rfl)) (wr22 _ (List.mem_of_getElem? (i := 21) rfl)) (wr22 _ (List.mem_of_getElem? (i := 22) rfl)) (wr1 _ (List.mem_of_getElem? (i := 5) rfl)) (wr22 _ (List.mem_of_getElem? (i := 23) rfl))) rfl rfl rfl (by decide +kernel) ⟨Nat.le_of_ble_eq_true rfl, Nat.le_of_ble_eq_true rfl⟩) (va_recv hK hP (ci := 9) (q0 := 0) rfl rfl) hK hP hD hE hS hA rfl hl.1 rfl (Nat.le_of_ble_eq_true rfl) dX10_readAct_260 ⟨Nat.le_of_ble_eq_true rfl, Nat.le_of_ble_eq_true rfl⟩ (fun w9 H locs hw260 hP hD hS => ?_)
        obtain ⟨v_to_260, v_kind_260, v_from_260, v_letters_260, v_letterMany_260, v_digits_260, v_isBeyond_260, v_suffix_260, rfl, hw260_0, hw260_1, hw260_2⟩ := hw260
        have b_v_to_260 := iB v_to_260
        have b_v_kind_260 := iB v_kind_260
        have b_v_from_260 := iB v_from_260
        have b_v_letters_260 := jB v_letters_260
        have b_v_letterMany_260 := iB v_letterMany_260
        have b_v_digits_260 := jB v_digits_260
        have b_v_isBeyond_260 := iB v_isBeyond_260
        have b_v_suffix_260 := iB v_suffix_260
        refine lv_iload_n hx hb dX10_readAct_263 rfl (lv_at hl 0 rfl) ?_
        have J573 : ∀ (H : Heap) (locs : List Loc) (ls : Array Slot), (s0_241.toInt = 21) → va_P D vwCl (mw cs q v_thrown a_tape v_taped v_size v_to_260 v_kind_260 v_from_260 v_letters_260 v_letterMany_260 v_digits_260 v_isBeyond_260 v_suffix_260 v_steps v_fault v_hasProgram a_text a_act_258 a_guess a_take a_begin a_finish a_to1 a_one a_two a_what a_ats_6 a_atVar a_atNumber a_atomSort a_atomKind a_atomValue v_wrong v_wrongAt v_variable v_number v_numberKind v_takes a_out v_outed a_varSort a_varKind a_varValue a_creature v_creatures a_arrayClass a_arrayFrom a_arrayLong v_arrays v_cells a_cellSort a_cellKind a_cellValue a_asideSort a_asideKind a_asideValue a_outcome v_marks v_came v_guessed v_right v_taken a_markSort a_markKind a_markClass a_markValue v_sort v_kindAt v_value a_index v_reached v_looked) H → va_D A (mw cs q v_thrown a_tape v_taped v_size v_to_260 v_kind_260 v_from_260 v_letters_260 v_letterMany_260 v_digits_260 v_isBeyond_260 v_suffix_260 v_steps v_fault v_hasProgram a_text a_act_258 a_guess a_take a_begin a_finish a_to1 a_one a_two a_what a_ats_6 a_atVar a_atNumber a_atomSort a_atomKind a_atomValue v_wrong v_wrongAt v_variable v_number v_numberKind v_takes a_out v_outed a_varSort a_varKind a_varValue a_creature v_creatures a_arrayClass a_arrayFrom a_arrayLong v_arrays v_cells a_cellSort a_cellKind a_cellValue a_asideSort a_asideKind a_asideValue a_outcome v_marks v_came v_guessed v_right v_taken a_markSort a_markKind a_markClass a_markValue v_sort v_kindAt v_value a_index v_reached v_looked) → va_S A s.heap H locs → lv_has ls 4 [(0, .ref (q 0)), (1, .int s9)] → W p l e (headSpec (wG yX10_readAct cX10_readAct 4 (some .boolean)) rmX10_readAct).room s m ([.ref (q 0), .int s9] : List Value).toArray below meth c H locs 0 0 Q (F0 m 573 ls []) := by
          intro H locs ls f573_0 hP hD hS hl
          refine lv_aload_n hx hb dX10_readAct_573 rfl (lv_at hl 0 rfl) ?_
          refine lv_iload_n hx hb dX10_readAct_574 rfl (lv_at hl 1 rfl) ?_
          refine call_i (As := [.int s9]) (rest := []) ⟨hx, hb, hml, hown, hts⟩ (tX10_readAtom (l := l) s9 (by first | assumption | omega | (intros; omega) | decide) (by first | assumption | omega | (intros; omega) | decide) (by first | assumption | omega | (intros; omega) | decide) (by first | assumption | omega | (intros; omega) | decide) (by first | assumption | omega | (intros; omega) | decide) (by first | assumption | omega | (intros; omega) | decide)) (cwV 1 hts (gV (wr28 _ (List.mem_of_getElem? (i := 18) rfl)) (wr28 _ (List.mem_of_getElem? (i := 19) rfl)) (wr28 _ (List.mem_of_getElem? (i := 20) rfl)) (wr1 _ (List.mem_of_getElem? (i := 5) rfl)) (wr28 _ (List.mem_of_getElem? (i := 21) rfl))) rfl rfl rfl (by decide +kernel) ⟨Nat.le_of_ble_eq_true rfl, Nat.le_of_ble_eq_true rfl⟩) (va_recv hK hP (ci := 9) (q0 := 0) rfl rfl) hK hP hD hE hS hA rfl hl.1 rfl (Nat.le_of_ble_eq_true rfl) dX10_readAct_575 ⟨Nat.le_of_ble_eq_true rfl, Nat.le_of_ble_eq_true rfl⟩ (fun r575 w9 H locs hw575 hP hD hS => ?_)
          obtain ⟨v_to_575, v_kind_575, v_from_575, v_letters_575, v_letterMany_575, v_digits_575, v_isBeyond_575, v_suffix_575, a_atomSort_575, a_atomKind_575, a_atomValue_575, v_wrong_575, v_wrongAt_575, v_variable_575, v_number_575, v_numberKind_575, rfl, hw575_0, hw575_1, hw575_2, hw575_3, hw575_4, hw575_5, hw575_6⟩ := hw575
          have b_v_to_575 := iB v_to_575
          have b_v_kind_575 := iB v_kind_575
          have b_v_from_575 := iB v_from_575
          have b_v_letters_575 := jB v_letters_575
          have b_v_letterMany_575 := iB v_letterMany_575
          have b_v_digits_575 := jB v_digits_575
          have b_v_isBeyond_575 := iB v_isBeyond_575
          have b_v_suffix_575 := iB v_suffix_575
          have b_v_wrong_575 := iB v_wrong_575
          have b_v_wrongAt_575 := iB v_wrongAt_575
          have b_v_variable_575 := iB v_variable_575
          have b_v_number_575 := jB v_number_575
          have b_v_numberKind_575 := iB v_numberKind_575
          have b_r575 := iB r575
          subst hAe
          rw [hQ]
          exact W.zret (v := r575) hx hb hr (nbool (by first | omega | decide)) (fun t ht hW => ⟨⟨r575, _, rfl, ⟨v_to_575, v_kind_575, v_from_575, v_letters_575, v_letterMany_575, v_digits_575, v_isBeyond_575, v_suffix_575, a_act_258, a_to1, a_one, a_two, a_what, a_ats_6, a_atVar, a_atNumber, a_atomSort_575, a_atomKind_575, a_atomValue_575, v_wrong_575, v_wrongAt_575, v_variable_575, v_number_575, v_numberKind_575, rfl, by first | assumption | omega | (intros; omega) | decide, by first | assumption | omega | (intros; omega) | decide, by first | assumption | omega | (intros; omega) | decide, by first | assumption | omega | (intros; omega) | decide, by first | assumption | omega | (intros; omega) | decide, by first | assumption | omega | (intros; omega) | decide, by first | assumption | omega | (intros; omega) | decide, by first | assumption | omega | (intros; omega) | decide, by first | assumption | omega | (intros; omega) | decide, by first | assumption | omega | (intros; omega) | decide, by first | assumption | omega | (intros; omega) | decide, by first | assumption | exact SAME.rf _ _ | exact SAME.trans (by assumption) (by assumption) | exact SAME.trans (by assumption) (SAME.trans (by assumption) (by assumption)), by first | assumption | exact SAME.rf _ _ | exact SAME.trans (by assumption) (by assumption) | exact SAME.trans (by assumption) (SAME.trans (by assumption) (by assumption)), by first | assumption | exact SAME.rf _ _ | exact SAME.trans (by assumption) (by assumption) | exact SAME.trans (by assumption) (SAME.trans (by assumption) (by assumption)), by first | assumption | omega | (intros; omega) | decide⟩, by rw [ht]; exact hP, va_K.moved hW.alike hK, hD⟩, hS.F ht⟩) hS.2.2 dX10_readAct_578
        rcases (show (s0_241.toInt < 5 ∨ 20 < s0_241.toInt) ∨ s0_241.toInt = 5 ∨ s0_241.toInt = 6 ∨ s0_241.toInt = 7 ∨ s0_241.toInt = 8 ∨ s0_241.toInt = 9 ∨ s0_241.toInt = 10 ∨ s0_241.toInt = 11 ∨ s0_241.toInt = 12 ∨ s0_241.toInt = 13 ∨ s0_241.toInt = 14 ∨ s0_241.toInt = 15 ∨ s0_241.toInt = 16 ∨ s0_241.toInt = 17 ∨ s0_241.toInt = 18 ∨ s0_241.toInt = 19 ∨ s0_241.toInt = 20 by omega) with c264 | c264 | c264 | c264 | c264 | c264 | c264 | c264 | c264 | c264 | c264 | c264 | c264 | c264 | c264 | c264 | c264
        · skip
          refine lv_tableOut (tgt := 573) hx hb dX10_readAct_264 c264 (by decide) ?_
          exact J573 H locs ls (by first | assumption | omega | (intros; omega) | decide) hP hD hS (lv_sub hl [1, 2] rfl)
        · skip
          refine lv_tableIn (tgt := 344) (off := 80) hx hb dX10_readAct_264 (by omega) (by omega) (by rw [c264]; rfl) (by decide) ?_
          refine lv_aload_n hx hb dX10_readAct_344 rfl (lv_at hl 1 rfl) ?_
          refine lv_iload_n hx hb dX10_readAct_345 rfl (lv_at hl 2 rfl) ?_
          refine lv_bipush (v := 8) hx hb dX10_readAct_346 (by decide) ?_
          refine call_i (As := [.int s9, .int 8]) (rest := []) ⟨hx, hb, hml, hown, hts⟩ (tX10_readKind (l := l) s9 (8 : Int32) (by first | assumption | omega | (intros; omega) | decide) (by first | assumption | omega | (intros; omega) | decide) (by first | assumption | omega | (intros; omega) | decide)) (cwV 2 hts (gV (wr29 _ (List.mem_of_getElem? (i := 11) rfl)) (wr29 _ (List.mem_of_getElem? (i := 12) rfl)) (wr29 _ (List.mem_of_getElem? (i := 13) rfl)) (wr1 _ (List.mem_of_getElem? (i := 5) rfl)) (wr29 _ (List.mem_of_getElem? (i := 14) rfl))) rfl rfl rfl (by decide +kernel) ⟨Nat.le_of_ble_eq_true rfl, Nat.le_of_ble_eq_true rfl⟩) (va_recv hK hP (ci := 9) (q0 := 0) rfl rfl) hK hP hD hE hS hA rfl hl.1 rfl (Nat.le_of_ble_eq_true rfl) dX10_readAct_348 ⟨Nat.le_of_ble_eq_true rfl, Nat.le_of_ble_eq_true rfl⟩ (fun r348 w9 H locs hw348 hP hD hS => ?_)
          obtain ⟨v_to_348, v_kind_348, v_from_348, v_letters_348, v_letterMany_348, v_digits_348, v_isBeyond_348, v_suffix_348, a_what_348, v_wrong_348, v_wrongAt_348, rfl, hw348_0, hw348_1, hw348_2, hw348_3, hw348_4⟩ := hw348
          have b_v_to_348 := iB v_to_348
          have b_v_kind_348 := iB v_kind_348
          have b_v_from_348 := iB v_from_348
          have b_v_letters_348 := jB v_letters_348
          have b_v_letterMany_348 := iB v_letterMany_348
          have b_v_digits_348 := jB v_digits_348
          have b_v_isBeyond_348 := iB v_isBeyond_348
          have b_v_suffix_348 := iB v_suffix_348
          have b_v_wrong_348 := iB v_wrong_348
          have b_v_wrongAt_348 := iB v_wrongAt_348
          have b_r348 := iB r348
          refine m_if_eq (X := r348.toInt) (tgt := 383) hx hb dX10_readAct_351 (by decide) rfl (fun c351 => ?_) (fun c351 => ?_)
          · skip
            refine lv_iconst (v := 0) hx hb dX10_readAct_383 (by decide) ?_
            subst hAe
            rw [hQ]
            exact W.zret (v := 0) hx hb hr (by decide) (fun t ht hW => ⟨⟨0, _, rfl, ⟨v_to_348, v_kind_348, v_from_348, v_letters_348, v_letterMany_348, v_digits_348, v_isBeyond_348, v_suffix_348, a_act_258, a_to1, a_one, a_two, a_what_348, a_ats_6, a_atVar, a_atNumber, a_atomSort, a_atomKind, a_atomValue, v_wrong_348, v_wrongAt_348, v_variable, v_number, v_numberKind, rfl, by first | assumption | omega | (intros; omega) | decide, by first | assumption | omega | (intros; omega) | decide, by first | assumption | omega | (intros; omega) | decide, by first | assumption | omega | (intros; omega) | decide, by first | assumption | omega | (intros; omega) | decide, by first | assumption | omega | (intros; omega) | decide, by first | assumption | omega | (intros; omega) | decide, by first | assumption | omega | (intros; omega) | decide, by first | assumption | omega | (intros; omega) | decide, by first | assumption | omega | (intros; omega) | decide, by first | assumption | omega | (intros; omega) | decide, by first | assumption | exact SAME.rf _ _ | exact SAME.trans (by assumption) (by assumption) | exact SAME.trans (by assumption) (SAME.trans (by assumption) (by assumption)), by first | assumption | exact SAME.rf _ _ | exact SAME.trans (by assumption) (by assumption) | exact SAME.trans (by assumption) (SAME.trans (by assumption) (by assumption)), by first | assumption | exact SAME.rf _ _ | exact SAME.trans (by assumption) (by assumption) | exact SAME.trans (by assumption) (SAME.trans (by assumption) (by assumption)), by first | assumption | omega | (intros; omega) | decide⟩, by rw [ht]; exact hP, va_K.moved hW.alike hK, hD⟩, hS.F ht⟩) hS.2.2 dX10_readAct_384
          · skip
            refine lv_aload_n hx hb dX10_readAct_354 rfl (lv_at hl 1 rfl) ?_
            refine lv_iload_n hx hb dX10_readAct_355 rfl (lv_at hl 2 rfl) ?_
            refine call_i (As := [.int s9]) (rest := []) ⟨hx, hb, hml, hown, hts⟩ (tX10_readPlace (l := l) s9 (by first | assumption | omega | (intros; omega) | decide) (by first | assumption | omega | (intros; omega) | decide) (by first | assumption | omega | (intros; omega) | decide) (by first | assumption | omega | (intros; omega) | decide) (by first | assumption | omega | (intros; omega) | decide) (by first | assumption | omega | (intros; omega) | decide) (by first | assumption | omega | (intros; omega) | decide) (by first | assumption | omega | (intros; omega) | decide)) (cwV 1 hts (gV (wr29 _ (List.mem_of_getElem? (i := 15) rfl)) (wr29 _ (List.mem_of_getElem? (i := 16) rfl)) (wr29 _ (List.mem_of_getElem? (i := 17) rfl)) (wr1 _ (List.mem_of_getElem? (i := 5) rfl)) (wr29 _ (List.mem_of_getElem? (i := 18) rfl))) rfl rfl rfl (by decide +kernel) ⟨Nat.le_of_ble_eq_true rfl, Nat.le_of_ble_eq_true rfl⟩) (va_recv hK hP (ci := 9) (q0 := 0) rfl rfl) hK hP hD hE hS hA rfl hl.1 rfl (Nat.le_of_ble_eq_true rfl) dX10_readAct_356 ⟨Nat.le_of_ble_eq_true rfl, Nat.le_of_ble_eq_true rfl⟩ (fun r356 w9 H locs hw356 hP hD hS => ?_)
            obtain ⟨v_to_356, v_kind_356, v_from_356, v_letters_356, v_letterMany_356, v_digits_356, v_isBeyond_356, v_suffix_356, a_one_356, a_ats_356, a_atVar_356, a_atNumber_356, v_wrong_356, v_wrongAt_356, v_variable_356, v_number_356, v_numberKind_356, rfl, hw356_0, hw356_1, hw356_2, hw356_3, hw356_4, hw356_5, hw356_6, hw356_7, hw356_8, hw356_9⟩ := hw356
            have b_v_to_356 := iB v_to_356
            have b_v_kind_356 := iB v_kind_356
            have b_v_from_356 := iB v_from_356
            have b_v_letters_356 := jB v_letters_356
            have b_v_letterMany_356 := iB v_letterMany_356
            have b_v_digits_356 := jB v_digits_356
            have b_v_isBeyond_356 := iB v_isBeyond_356
            have b_v_suffix_356 := iB v_suffix_356
            have b_v_wrong_356 := iB v_wrong_356
            have b_v_wrongAt_356 := iB v_wrongAt_356
            have b_v_variable_356 := iB v_variable_356
            have b_v_number_356 := jB v_number_356
            have b_v_numberKind_356 := iB v_numberKind_356
            have b_r356 := iB r356
            refine m_if_eq (X := r356.toInt) (tgt := 383) hx hb dX10_readAct_359 (by decide) rfl (fun c359 => ?_) (fun c359 => ?_)
            · skip
              refine lv_iconst (v := 0) hx hb dX10_readAct_383 (by decide) ?_
              subst hAe
              rw [hQ]
              exact W.zret (v := 0) hx hb hr (by decide) (fun t ht hW => ⟨⟨0, _, rfl, ⟨v_to_356, v_kind_356, v_from_356, v_letters_356, v_letterMany_356, v_digits_356, v_isBeyond_356, v_suffix_356, a_act_258, a_to1, a_one_356, a_two, a_what_348, a_ats_356, a_atVar_356, a_atNumber_356, a_atomSort, a_atomKind, a_atomValue, v_wrong_356, v_wrongAt_356, v_variable_356, v_number_356, v_numberKind_356, rfl, by first | assumption | omega | (intros; omega) | decide, by first | assumption | omega | (intros; omega) | decide, by first | assumption | omega | (intros; omega) | decide, by first | assumption | omega | (intros; omega) | decide, by first | assumption | omega | (intros; omega) | decide, by first | assumption | omega | (intros; omega) | decide, by first | assumption | omega | (intros; omega) | decide, by first | assumption | omega | (intros; omega) | decide, by first | assumption | omega | (intros; omega) | decide, by first | assumption | omega | (intros; omega) | decide, by first | assumption | omega | (intros; omega) | decide, by first | assumption | exact SAME.rf _ _ | exact SAME.trans (by assumption) (by assumption) | exact SAME.trans (by assumption) (SAME.trans (by assumption) (by assumption)), by first | assumption | exact SAME.rf _ _ | exact SAME.trans (by assumption) (by assumption) | exact SAME.trans (by assumption) (SAME.trans (by assumption) (by assumption)), by first | assumption | exact SAME.rf _ _ | exact SAME.trans (by assumption) (by assumption) | exact SAME.trans (by assumption) (SAME.trans (by assumption) (by assumption)), by first | assumption | omega | (intros; omega) | decide⟩, by rw [ht]; exact hP, va_K.moved hW.alike hK, hD⟩, hS.F ht⟩) hS.2.2 dX10_readAct_384
            · skip
              refine lv_aload_n hx hb dX10_readAct_362 rfl (lv_at hl 1 rfl) ?_
              refine lv_bipush (v := 61) hx hb dX10_readAct_363 (by decide) ?_
              refine call_i (As := [.int 61]) (rest := []) ⟨hx, hb, hml, hown, hts⟩ (tX10_sign (l := l) (61 : Int32) (by first | assumption | omega | (intros; omega) | decide)) (cwV 1 hts (gV (wr26 _ (List.mem_of_getElem? (i := 15) rfl)) (wr26 _ (List.mem_of_getElem? (i := 16) rfl)) (wr26 _ (List.mem_of_getElem? (i := 17) rfl)) (wr1 _ (List.mem_of_getElem? (i := 5) rfl)) (wr26 _ (List.mem_of_getElem? (i := 18) rfl))) rfl rfl rfl (by decide +kernel) ⟨Nat.le_of_ble_eq_true rfl, Nat.le_of_ble_eq_true rfl⟩) (va_recv hK hP (ci := 9) (q0 := 0) rfl rfl) hK hP hD hE hS hA rfl hl.1 rfl (Nat.le_of_ble_eq_true rfl) dX10_readAct_365 ⟨Nat.le_of_ble_eq_true rfl, Nat.le_of_ble_eq_true rfl⟩ (fun r365 w9 H locs hw365 hP hD hS => ?_)
              obtain ⟨v_to_365, v_kind_365, v_from_365, v_letters_365, v_letterMany_365, v_digits_365, v_isBeyond_365, v_suffix_365, v_wrong_365, v_wrongAt_365, rfl, hw365_0, hw365_1, hw365_2, hw365_3⟩ := hw365
              have b_v_to_365 := iB v_to_365
              have b_v_kind_365 := iB v_kind_365
              have b_v_from_365 := iB v_from_365
              have b_v_letters_365 := jB v_letters_365
              have b_v_letterMany_365 := iB v_letterMany_365
              have b_v_digits_365 := jB v_digits_365
              have b_v_isBeyond_365 := iB v_isBeyond_365
              have b_v_suffix_365 := iB v_suffix_365
              have b_v_wrong_365 := iB v_wrong_365
              have b_v_wrongAt_365 := iB v_wrongAt_365
              have b_r365 := iB r365
              refine m_if_eq (X := r365.toInt) (tgt := 383) hx hb dX10_readAct_368 (by decide) rfl (fun c368 => ?_) (fun c368 => ?_)
              · skip
                refine lv_iconst (v := 0) hx hb dX10_readAct_383 (by decide) ?_
                subst hAe
                rw [hQ]
                exact W.zret (v := 0) hx hb hr (by decide) (fun t ht hW => ⟨⟨0, _, rfl, ⟨v_to_365, v_kind_365, v_from_365, v_letters_365, v_letterMany_365, v_digits_365, v_isBeyond_365, v_suffix_365, a_act_258, a_to1, a_one_356, a_two, a_what_348, a_ats_356, a_atVar_356, a_atNumber_356, a_atomSort, a_atomKind, a_atomValue, v_wrong_365, v_wrongAt_365, v_variable_356, v_number_356, v_numberKind_356, rfl, by first | assumption | omega | (intros; omega) | decide, by first | assumption | omega | (intros; omega) | decide, by first | assumption | omega | (intros; omega) | decide, by first | assumption | omega | (intros; omega) | decide, by first | assumption | omega | (intros; omega) | decide, by first | assumption | omega | (intros; omega) | decide, by first | assumption | omega | (intros; omega) | decide, by first | assumption | omega | (intros; omega) | decide, by first | assumption | omega | (intros; omega) | decide, by first | assumption | omega | (intros; omega) | decide, by first | assumption | omega | (intros; omega) | decide, by first | assumption | exact SAME.rf _ _ | exact SAME.trans (by assumption) (by assumption) | exact SAME.trans (by assumption) (SAME.trans (by assumption) (by assumption)), by first | assumption | exact SAME.rf _ _ | exact SAME.trans (by assumption) (by assumption) | exact SAME.trans (by assumption) (SAME.trans (by assumption) (by assumption)), by first | assumption | exact SAME.rf _ _ | exact SAME.trans (by assumption) (by assumption) | exact SAME.trans (by assumption) (SAME.trans (by assumption) (by assumption)), by first | assumption | omega | (intros; omega) | decide⟩, by rw [ht]; exact hP, va_K.moved hW.alike hK, hD⟩, hS.F ht⟩) hS.2.2 dX10_readAct_384
              · skip
                refine lv_aload_n hx hb dX10_readAct_371 rfl (lv_at hl 1 rfl) ?_
                refine lv_iload_n hx hb dX10_readAct_372 rfl (lv_at hl 2 rfl) ?_
                refine call_i (As := [.int s9]) (rest := []) ⟨hx, hb, hml, hown, hts⟩ (tX10_readAtom (l := l) s9 (by first | assumption | omega | (intros; omega) | decide) (by first | assumption | omega | (intros; omega) | decide) (by first | assumption | omega | (intros; omega) | decide) (by first | assumption | omega | (intros; omega) | decide) (by first | assumption | omega | (intros; omega) | decide) (by first | assumption | omega | (intros; omega) | decide)) (cwV 1 hts (gV (wr28 _ (List.mem_of_getElem? (i := 18) rfl)) (wr28 _ (List.mem_of_getElem? (i := 19) rfl)) (wr28 _ (List.mem_of_getElem? (i := 20) rfl)) (wr1 _ (List.mem_of_getElem? (i := 5) rfl)) (wr28 _ (List.mem_of_getElem? (i := 21) rfl))) rfl rfl rfl (by decide +kernel) ⟨Nat.le_of_ble_eq_true rfl, Nat.le_of_ble_eq_true rfl⟩) (va_recv hK hP (ci := 9) (q0 := 0) rfl rfl) hK hP hD hE hS hA rfl hl.1 rfl (Nat.le_of_ble_eq_true rfl) dX10_readAct_373 ⟨Nat.le_of_ble_eq_true rfl, Nat.le_of_ble_eq_true rfl⟩ (fun r373 w9 H locs hw373 hP hD hS => ?_)
                obtain ⟨v_to_373, v_kind_373, v_from_373, v_letters_373, v_letterMany_373, v_digits_373, v_isBeyond_373, v_suffix_373, a_atomSort_373, a_atomKind_373, a_atomValue_373, v_wrong_373, v_wrongAt_373, v_variable_373, v_number_373, v_numberKind_373, rfl, hw373_0, hw373_1, hw373_2, hw373_3, hw373_4, hw373_5, hw373_6⟩ := hw373
                have b_v_to_373 := iB v_to_373
                have b_v_kind_373 := iB v_kind_373
                have b_v_from_373 := iB v_from_373
                have b_v_letters_373 := jB v_letters_373
                have b_v_letterMany_373 := iB v_letterMany_373
                have b_v_digits_373 := jB v_digits_373
                have b_v_isBeyond_373 := iB v_isBeyond_373
                have b_v_suffix_373 := iB v_suffix_373
                have b_v_wrong_373 := iB v_wrong_373
                have b_v_wrongAt_373 := iB v_wrongAt_373
                have b_v_variable_373 := iB v_variable_373
                have b_v_number_373 := jB v_number_373
                have b_v_numberKind_373 := iB v_numberKind_373
                have b_r373 := iB r373
                refine m_if_eq (X := r373.toInt) (tgt := 383) hx hb dX10_readAct_376 (by decide) rfl (fun c376 => ?_) (fun c376 => ?_)
                · skip
                  refine lv_iconst (v := 0) hx hb dX10_readAct_383 (by decide) ?_
                  subst hAe
                  rw [hQ]
                  exact W.zret (v := 0) hx hb hr (by decide) (fun t ht hW => ⟨⟨0, _, rfl, ⟨v_to_373, v_kind_373, v_from_373, v_letters_373, v_letterMany_373, v_digits_373, v_isBeyond_373, v_suffix_373, a_act_258, a_to1, a_one_356, a_two, a_what_348, a_ats_356, a_atVar_356, a_atNumber_356, a_atomSort_373, a_atomKind_373, a_atomValue_373, v_wrong_373, v_wrongAt_373, v_variable_373, v_number_373, v_numberKind_373, rfl, by first | assumption | omega | (intros; omega) | decide, by first | assumption | omega | (intros; omega) | decide, by first | assumption | omega | (intros; omega) | decide, by first | assumption | omega | (intros; omega) | decide, by first | assumption | omega | (intros; omega) | decide, by first | assumption | omega | (intros; omega) | decide, by first | assumption | omega | (intros; omega) | decide, by first | assumption | omega | (intros; omega) | decide, by first | assumption | omega | (intros; omega) | decide, by first | assumption | omega | (intros; omega) | decide, by first | assumption | omega | (intros; omega) | decide, by first | assumption | exact SAME.rf _ _ | exact SAME.trans (by assumption) (by assumption) | exact SAME.trans (by assumption) (SAME.trans (by assumption) (by assumption)), by first | assumption | exact SAME.rf _ _ | exact SAME.trans (by assumption) (by assumption) | exact SAME.trans (by assumption) (SAME.trans (by assumption) (by assumption)), by first | assumption | exact SAME.rf _ _ | exact SAME.trans (by assumption) (by assumption) | exact SAME.trans (by assumption) (SAME.trans (by assumption) (by assumption)), by first | assumption | omega | (intros; omega) | decide⟩, by rw [ht]; exact hP, va_K.moved hW.alike hK, hD⟩, hS.F ht⟩) hS.2.2 dX10_readAct_384
                · skip
                  refine lv_iconst (v := 1) hx hb dX10_readAct_379 (by decide) ?_
                  refine lv_goto (tgt := 384) hx hb dX10_readAct_380 (by decide) ?_
                  subst hAe
                  rw [hQ]
                  exact W.zret (v := 1) hx hb hr (by decide) (fun t ht hW => ⟨⟨1, _, rfl, ⟨v_to_373, v_kind_373, v_from_373, v_letters_373, v_letterMany_373, v_digits_373, v_isBeyond_373, v_suffix_373, a_act_258, a_to1, a_one_356, a_two, a_what_348, a_ats_356, a_atVar_356, a_atNumber_356, a_atomSort_373, a_atomKind_373, a_atomValue_373, v_wrong_373, v_wrongAt_373, v_variable_373, v_number_373, v_numberKind_373, rfl, by first | assumption | omega | (intros; omega) | decide, by first | assumption | omega | (intros; omega) | decide, by first | assumption | omega | (intros; omega) | decide, by first | assumption | omega | (intros; omega) | decide, by first | assumption | omega | (intros; omega) | decide, by first | assumption | omega | (intros; omega) | decide, by first | assumption | omega | (intros; omega) | decide, by first | assumption | omega | (intros; omega) | decide, by first | assumption | omega | (intros; omega) | decide, by first | assumption | omega | (intros; omega) | decide, by first | assumption | omega | (intros; omega) | decide, by first | assumption | exact SAME.rf _ _ | exact SAME.trans (by assumption) (by assumption) | exact SAME.trans (by assumption) (SAME.trans (by assumption) (by assumption)), by first | assumption | exact SAME.rf _ _ | exact SAME.trans (by assumption) (by assumption) | exact SAME.trans (by assumption) (SAME.trans (by assumption) (by assumption)), by first | assumption | exact SAME.rf _ _ | exact SAME.trans (by assumption) (by assumption) | exact SAME.trans (by assumption) (SAME.trans (by assumption) (by assumption)), by first | assumption | omega | (intros; omega) | decide⟩, by rw [ht]; exact hP, va_K.moved hW.alike hK, hD⟩, hS.F ht⟩) hS.2.2 dX10_readAct_384
        · skip
          refine lv_tableIn (tgt := 573) (off := 309) hx hb dX10_readAct_264 (by omega) (by omega) (by rw [c264]; rfl) (by decide) ?_
          exact J573 H locs ls (by first | assumption | omega | (intros; omega) | decide) hP hD hS (lv_sub hl [1, 2] rfl)
        · skip
          refine lv_tableIn (tgt := 385) (off := 121) hx hb dX10_readAct_264 (by omega) (by omega) (by rw [c264]; rfl) (by decide) ?_
          refine lv_aload_n hx hb dX10_readAct_385 rfl (lv_at hl 1 rfl) ?_
          refine lv_iload_n hx hb dX10_readAct_386 rfl (lv_at hl 2 rfl) ?_
          refine call_i (As := [.int s9]) (rest := []) ⟨hx, hb, hml, hown, hts⟩ (tX10_readPlace (l := l) s9 (by first | assumption | omega | (intros; omega) | decide) (by first | assumption | omega | (intros; omega) | decide) (by first | assumption | omega | (intros; omega) | decide) (by first | assumption | omega | (intros; omega) | decide) (by first | assumption | omega | (intros; omega) | decide) (by first | assumption | omega | (intros; omega) | decide) (by first | assumption | omega | (intros; omega) | decide) (by first | assumption | omega | (intros; omega) | decide)) (cwV 1 hts (gV (wr29 _ (List.mem_of_getElem? (i := 15) rfl)) (wr29 _ (List.mem_of_getElem? (i := 16) rfl)) (wr29 _ (List.mem_of_getElem? (i := 17) rfl)) (wr1 _ (List.mem_of_getElem? (i := 5) rfl)) (wr29 _ (List.mem_of_getElem? (i := 18) rfl))) rfl rfl rfl (by decide +kernel) ⟨Nat.le_of_ble_eq_true rfl, Nat.le_of_ble_eq_true rfl⟩) (va_recv hK hP (ci := 9) (q0 := 0) rfl rfl) hK hP hD hE hS hA rfl hl.1 rfl (Nat.le_of_ble_eq_true rfl) dX10_readAct_387 ⟨Nat.le_of_ble_eq_true rfl, Nat.le_of_ble_eq_true rfl⟩ (fun r387 w9 H locs hw387 hP hD hS => ?_)
          obtain ⟨v_to_387, v_kind_387, v_from_387, v_letters_387, v_letterMany_387, v_digits_387, v_isBeyond_387, v_suffix_387, a_one_387, a_ats_387, a_atVar_387, a_atNumber_387, v_wrong_387, v_wrongAt_387, v_variable_387, v_number_387, v_numberKind_387, rfl, hw387_0, hw387_1, hw387_2, hw387_3, hw387_4, hw387_5, hw387_6, hw387_7, hw387_8, hw387_9⟩ := hw387
          have b_v_to_387 := iB v_to_387
          have b_v_kind_387 := iB v_kind_387
          have b_v_from_387 := iB v_from_387
          have b_v_letters_387 := jB v_letters_387
          have b_v_letterMany_387 := iB v_letterMany_387
          have b_v_digits_387 := jB v_digits_387
          have b_v_isBeyond_387 := iB v_isBeyond_387
          have b_v_suffix_387 := iB v_suffix_387
          have b_v_wrong_387 := iB v_wrong_387
          have b_v_wrongAt_387 := iB v_wrongAt_387
          have b_v_variable_387 := iB v_variable_387
          have b_v_number_387 := jB v_number_387
          have b_v_numberKind_387 := iB v_numberKind_387
          have b_r387 := iB r387
          refine m_if_eq (X := r387.toInt) (tgt := 414) hx hb dX10_readAct_390 (by decide) rfl (fun c390 => ?_) (fun c390 => ?_)
          · skip
            refine lv_iconst (v := 0) hx hb dX10_readAct_414 (by decide) ?_
            subst hAe
            rw [hQ]
            exact W.zret (v := 0) hx hb hr (by decide) (fun t ht hW => ⟨⟨0, _, rfl, ⟨v_to_387, v_kind_387, v_from_387, v_letters_387, v_letterMany_387, v_digits_387, v_isBeyond_387, v_suffix_387, a_act_258, a_to1, a_one_387, a_two, a_what, a_ats_387, a_atVar_387, a_atNumber_387, a_atomSort, a_atomKind, a_atomValue, v_wrong_387, v_wrongAt_387, v_variable_387, v_number_387, v_numberKind_387, rfl, by first | assumption | omega | (intros; omega) | decide, by first | assumption | omega | (intros; omega) | decide, by first | assumption | omega | (intros; omega) | decide, by first | assumption | omega | (intros; omega) | decide, by first | assumption | omega | (intros; omega) | decide, by first | assumption | omega | (intros; omega) | decide, by first | assumption | omega | (intros; omega) | decide, by first | assumption | omega | (intros; omega) | decide, by first | assumption | omega | (intros; omega) | decide, by first | assumption | omega | (intros; omega) | decide, by first | assumption | omega | (intros; omega) | decide, by first | assumption | exact SAME.rf _ _ | exact SAME.trans (by assumption) (by assumption) | exact SAME.trans (by assumption) (SAME.trans (by assumption) (by assumption)), by first | assumption | exact SAME.rf _ _ | exact SAME.trans (by assumption) (by assumption) | exact SAME.trans (by assumption) (SAME.trans (by assumption) (by assumption)), by first | assumption | exact SAME.rf _ _ | exact SAME.trans (by assumption) (by assumption) | exact SAME.trans (by assumption) (SAME.trans (by assumption) (by assumption)), by first | assumption | omega | (intros; omega) | decide⟩, by rw [ht]; exact hP, va_K.moved hW.alike hK, hD⟩, hS.F ht⟩) hS.2.2 dX10_readAct_415
          · skip
            refine lv_aload_n hx hb dX10_readAct_393 rfl (lv_at hl 1 rfl) ?_
            refine lv_bipush (v := 61) hx hb dX10_readAct_394 (by decide) ?_
            refine call_i (As := [.int 61]) (rest := []) ⟨hx, hb, hml, hown, hts⟩ (tX10_sign (l := l) (61 : Int32) (by first | assumption | omega | (intros; omega) | decide)) (cwV 1 hts (gV (wr26 _ (List.mem_of_getElem? (i := 15) rfl)) (wr26 _ (List.mem_of_getElem? (i := 16) rfl)) (wr26 _ (List.mem_of_getElem? (i := 17) rfl)) (wr1 _ (List.mem_of_getElem? (i := 5) rfl)) (wr26 _ (List.mem_of_getElem? (i := 18) rfl))) rfl rfl rfl (by decide +kernel) ⟨Nat.le_of_ble_eq_true rfl, Nat.le_of_ble_eq_true rfl⟩) (va_recv hK hP (ci := 9) (q0 := 0) rfl rfl) hK hP hD hE hS hA rfl hl.1 rfl (Nat.le_of_ble_eq_true rfl) dX10_readAct_396 ⟨Nat.le_of_ble_eq_true rfl, Nat.le_of_ble_eq_true rfl⟩ (fun r396 w9 H locs hw396 hP hD hS => ?_)
            obtain ⟨v_to_396, v_kind_396, v_from_396, v_letters_396, v_letterMany_396, v_digits_396, v_isBeyond_396, v_suffix_396, v_wrong_396, v_wrongAt_396, rfl, hw396_0, hw396_1, hw396_2, hw396_3⟩ := hw396
            have b_v_to_396 := iB v_to_396
            have b_v_kind_396 := iB v_kind_396
            have b_v_from_396 := iB v_from_396
            have b_v_letters_396 := jB v_letters_396
            have b_v_letterMany_396 := iB v_letterMany_396
            have b_v_digits_396 := jB v_digits_396
            have b_v_isBeyond_396 := iB v_isBeyond_396
            have b_v_suffix_396 := iB v_suffix_396
            have b_v_wrong_396 := iB v_wrong_396
            have b_v_wrongAt_396 := iB v_wrongAt_396
            have b_r396 := iB r396
            refine m_if_eq (X := r396.toInt) (tgt := 414) hx hb dX10_readAct_399 (by decide) rfl (fun c399 => ?_) (fun c399 => ?_)
            · skip
              refine lv_iconst (v := 0) hx hb dX10_readAct_414 (by decide) ?_
              subst hAe
              rw [hQ]
              exact W.zret (v := 0) hx hb hr (by decide) (fun t ht hW => ⟨⟨0, _, rfl, ⟨v_to_396, v_kind_396, v_from_396, v_letters_396, v_letterMany_396, v_digits_396, v_isBeyond_396, v_suffix_396, a_act_258, a_to1, a_one_387, a_two, a_what, a_ats_387, a_atVar_387, a_atNumber_387, a_atomSort, a_atomKind, a_atomValue, v_wrong_396, v_wrongAt_396, v_variable_387, v_number_387, v_numberKind_387, rfl, by first | assumption | omega | (intros; omega) | decide, by first | assumption | omega | (intros; omega) | decide, by first | assumption | omega | (intros; omega) | decide, by first | assumption | omega | (intros; omega) | decide, by first | assumption | omega | (intros; omega) | decide, by first | assumption | omega | (intros; omega) | decide, by first | assumption | omega | (intros; omega) | decide, by first | assumption | omega | (intros; omega) | decide, by first | assumption | omega | (intros; omega) | decide, by first | assumption | omega | (intros; omega) | decide, by first | assumption | omega | (intros; omega) | decide, by first | assumption | exact SAME.rf _ _ | exact SAME.trans (by assumption) (by assumption) | exact SAME.trans (by assumption) (SAME.trans (by assumption) (by assumption)), by first | assumption | exact SAME.rf _ _ | exact SAME.trans (by assumption) (by assumption) | exact SAME.trans (by assumption) (SAME.trans (by assumption) (by assumption)), by first | assumption | exact SAME.rf _ _ | exact SAME.trans (by assumption) (by assumption) | exact SAME.trans (by assumption) (SAME.trans (by assumption) (by assumption)), by first | assumption | omega | (intros; omega) | decide⟩, by rw [ht]; exact hP, va_K.moved hW.alike hK, hD⟩, hS.F ht⟩) hS.2.2 dX10_readAct_415
            · skip
              refine lv_aload_n hx hb dX10_readAct_402 rfl (lv_at hl 1 rfl) ?_
              refine lv_iload_n hx hb dX10_readAct_403 rfl (lv_at hl 2 rfl) ?_
              refine call_i (As := [.int s9]) (rest := []) ⟨hx, hb, hml, hown, hts⟩ (tX10_readAtom (l := l) s9 (by first | assumption | omega | (intros; omega) | decide) (by first | assumption | omega | (intros; omega) | decide) (by first | assumption | omega | (intros; omega) | decide) (by first | assumption | omega | (intros; omega) | decide) (by first | assumption | omega | (intros; omega) | decide) (by first | assumption | omega | (intros; omega) | decide)) (cwV 1 hts (gV (wr28 _ (List.mem_of_getElem? (i := 18) rfl)) (wr28 _ (List.mem_of_getElem? (i := 19) rfl)) (wr28 _ (List.mem_of_getElem? (i := 20) rfl)) (wr1 _ (List.mem_of_getElem? (i := 5) rfl)) (wr28 _ (List.mem_of_getElem? (i := 21) rfl))) rfl rfl rfl (by decide +kernel) ⟨Nat.le_of_ble_eq_true rfl, Nat.le_of_ble_eq_true rfl⟩) (va_recv hK hP (ci := 9) (q0 := 0) rfl rfl) hK hP hD hE hS hA rfl hl.1 rfl (Nat.le_of_ble_eq_true rfl) dX10_readAct_404 ⟨Nat.le_of_ble_eq_true rfl, Nat.le_of_ble_eq_true rfl⟩ (fun r404 w9 H locs hw404 hP hD hS => ?_)
              obtain ⟨v_to_404, v_kind_404, v_from_404, v_letters_404, v_letterMany_404, v_digits_404, v_isBeyond_404, v_suffix_404, a_atomSort_404, a_atomKind_404, a_atomValue_404, v_wrong_404, v_wrongAt_404, v_variable_404, v_number_404, v_numberKind_404, rfl, hw404_0, hw404_1, hw404_2, hw404_3, hw404_4, hw404_5, hw404_6⟩ := hw404
              have b_v_to_404 := iB v_to_404
              have b_v_kind_404 := iB v_kind_404
              have b_v_from_404 := iB v_from_404
              have b_v_letters_404 := jB v_letters_404
              have b_v_letterMany_404 := iB v_letterMany_404
              have b_v_digits_404 := jB v_digits_404
              have b_v_isBeyond_404 := iB v_isBeyond_404
              have b_v_suffix_404 := iB v_suffix_404
              have b_v_wrong_404 := iB v_wrong_404
              have b_v_wrongAt_404 := iB v_wrongAt_404
              have b_v_variable_404 := iB v_variable_404
              have b_v_number_404 := jB v_number_404
              have b_v_numberKind_404 := iB v_numberKind_404
              have b_r404 := iB r404
              refine m_if_eq (X := r404.toInt) (tgt := 414) hx hb dX10_readAct_407 (by decide) rfl (fun c407 => ?_) (fun c407 => ?_)
              · skip
                refine lv_iconst (v := 0) hx hb dX10_readAct_414 (by decide) ?_
                subst hAe
                rw [hQ]
                exact W.zret (v := 0) hx hb hr (by decide) (fun t ht hW => ⟨⟨0, _, rfl, ⟨v_to_404, v_kind_404, v_from_404, v_letters_404, v_letterMany_404, v_digits_404, v_isBeyond_404, v_suffix_404, a_act_258, a_to1, a_one_387, a_two, a_what, a_ats_387, a_atVar_387, a_atNumber_387, a_atomSort_404, a_atomKind_404, a_atomValue_404, v_wrong_404, v_wrongAt_404, v_variable_404, v_number_404, v_numberKind_404, rfl, by first | assumption | omega | (intros; omega) | decide, by first | assumption | omega | (intros; omega) | decide, by first | assumption | omega | (intros; omega) | decide, by first | assumption | omega | (intros; omega) | decide, by first | assumption | omega | (intros; omega) | decide, by first | assumption | omega | (intros; omega) | decide, by first | assumption | omega | (intros; omega) | decide, by first | assumption | omega | (intros; omega) | decide, by first | assumption | omega | (intros; omega) | decide, by first | assumption | omega | (intros; omega) | decide, by first | assumption | omega | (intros; omega) | decide, by first | assumption | exact SAME.rf _ _ | exact SAME.trans (by assumption) (by assumption) | exact SAME.trans (by assumption) (SAME.trans (by assumption) (by assumption)), by first | assumption | exact SAME.rf _ _ | exact SAME.trans (by assumption) (by assumption) | exact SAME.trans (by assumption) (SAME.trans (by assumption) (by assumption)), by first | assumption | exact SAME.rf _ _ | exact SAME.trans (by assumption) (by assumption) | exact SAME.trans (by assumption) (SAME.trans (by assumption) (by assumption)), by first | assumption | omega | (intros; omega) | decide⟩, by rw [ht]; exact hP, va_K.moved hW.alike hK, hD⟩, hS.F ht⟩) hS.2.2 dX10_readAct_415
              · skip
                refine lv_iconst (v := 1) hx hb dX10_readAct_410 (by decide) ?_
                refine lv_goto (tgt := 415) hx hb dX10_readAct_411 (by decide) ?_
                subst hAe
                rw [hQ]
                exact W.zret (v := 1) hx hb hr (by decide) (fun t ht hW => ⟨⟨1, _, rfl, ⟨v_to_404, v_kind_404, v_from_404, v_letters_404, v_letterMany_404, v_digits_404, v_isBeyond_404, v_suffix_404, a_act_258, a_to1, a_one_387, a_two, a_what, a_ats_387, a_atVar_387, a_atNumber_387, a_atomSort_404, a_atomKind_404, a_atomValue_404, v_wrong_404, v_wrongAt_404, v_variable_404, v_number_404, v_numberKind_404, rfl, by first | assumption | omega | (intros; omega) | decide, by first | assumption | omega | (intros; omega) | decide, by first | assumption | omega | (intros; omega) | decide, by first | assumption | omega | (intros; omega) | decide, by first | assumption | omega | (intros; omega) | decide, by first | assumption | omega | (intros; omega) | decide, by first | assumption | omega | (intros; omega) | decide, by first | assumption | omega | (intros; omega) | decide, by first | assumption | omega | (intros; omega) | decide, by first | assumption | omega | (intros; omega) | decide, by first | assumption | omega | (intros; omega) | decide, by first | assumption | exact SAME.rf _ _ | exact SAME.trans (by assumption) (by assumption) | exact SAME.trans (by assumption) (SAME.trans (by assumption) (by assumption)), by first | assumption | exact SAME.rf _ _ | exact SAME.trans (by assumption) (by assumption) | exact SAME.trans (by assumption) (SAME.trans (by assumption) (by assumption)), by first | assumption | exact SAME.rf _ _ | exact SAME.trans (by assumption) (by assumption) | exact SAME.trans (by assumption) (SAME.trans (by assumption) (by assumption)), by first | assumption | omega | (intros; omega) | decide⟩, by rw [ht]; exact hP, va_K.moved hW.alike hK, hD⟩, hS.F ht⟩) hS.2.2 dX10_readAct_415
        · skip
          refine lv_tableIn (tgt := 573) (off := 309) hx hb dX10_readAct_264 (by omega) (by omega) (by rw [c264]; rfl) (by decide) ?_
          exact J573 H locs ls (by first | assumption | omega | (intros; omega) | decide) hP hD hS (lv_sub hl [1, 2] rfl)
        · skip
          refine lv_tableIn (tgt := 573) (off := 309) hx hb dX10_readAct_264 (by omega) (by omega) (by rw [c264]; rfl) (by decide) ?_
          exact J573 H locs ls (by first | assumption | omega | (intros; omega) | decide) hP hD hS (lv_sub hl [1, 2] rfl)
        · skip
          refine lv_tableIn (tgt := 573) (off := 309) hx hb dX10_readAct_264 (by omega) (by omega) (by rw [c264]; rfl) (by decide) ?_
          exact J573 H locs ls (by first | assumption | omega | (intros; omega) | decide) hP hD hS (lv_sub hl [1, 2] rfl)
        · skip
          refine lv_tableIn (tgt := 573) (off := 309) hx hb dX10_readAct_264 (by omega) (by omega) (by rw [c264]; rfl) (by decide) ?_
          exact J573 H locs ls (by first | assumption | omega | (intros; omega) | decide) hP hD hS (lv_sub hl [1, 2] rfl)
        · skip
          refine lv_tableIn (tgt := 573) (off := 309) hx hb dX10_readAct_264 (by omega) (by omega) (by rw [c264]; rfl) (by decide) ?_
          exact J573 H locs ls (by first | assumption | omega | (intros; omega) | decide) hP hD hS (lv_sub hl [1, 2] rfl)
        · skip
          refine lv_tableIn (tgt := 573) (off := 309) hx hb dX10_readAct_264 (by omega) (by omega) (by rw [c264]; rfl) (by decide) ?_
          exact J573 H locs ls (by first | assumption | omega | (intros; omega) | decide) hP hD hS (lv_sub hl [1, 2] rfl)
        · skip
          refine lv_tableIn (tgt := 573) (off := 309) hx hb dX10_readAct_264 (by omega) (by omega) (by rw [c264]; rfl) (by decide) ?_
          exact J573 H locs ls (by first | assumption | omega | (intros; omega) | decide) hP hD hS (lv_sub hl [1, 2] rfl)
        · skip
          refine lv_tableIn (tgt := 573) (off := 309) hx hb dX10_readAct_264 (by omega) (by omega) (by rw [c264]; rfl) (by decide) ?_
          exact J573 H locs ls (by first | assumption | omega | (intros; omega) | decide) hP hD hS (lv_sub hl [1, 2] rfl)
        · skip
          refine lv_tableIn (tgt := 573) (off := 309) hx hb dX10_readAct_264 (by omega) (by omega) (by rw [c264]; rfl) (by decide) ?_
          exact J573 H locs ls (by first | assumption | omega | (intros; omega) | decide) hP hD hS (lv_sub hl [1, 2] rfl)
        · skip
          refine lv_tableIn (tgt := 416) (off := 152) hx hb dX10_readAct_264 (by omega) (by omega) (by rw [c264]; rfl) (by decide) ?_
          refine lv_aload_n hx hb dX10_readAct_416 rfl (lv_at hl 1 rfl) ?_
          refine lv_iload_n hx hb dX10_readAct_417 rfl (lv_at hl 2 rfl) ?_
          refine call_i (As := [.int s9]) (rest := []) ⟨hx, hb, hml, hown, hts⟩ (tX10_readOne (l := l) s9 (by first | assumption | omega | (intros; omega) | decide) (by first | assumption | omega | (intros; omega) | decide) (by first | assumption | omega | (intros; omega) | decide) (by first | assumption | omega | (intros; omega) | decide) (by first | assumption | omega | (intros; omega) | decide)) (cwV 1 hts (gV (wr29 _ (List.mem_of_getElem? (i := 23) rfl)) (wr30 _ (List.mem_of_getElem? (i := 0) rfl)) (wr30 _ (List.mem_of_getElem? (i := 1) rfl)) (wr1 _ (List.mem_of_getElem? (i := 5) rfl)) (wr30 _ (List.mem_of_getElem? (i := 2) rfl))) rfl rfl rfl (by decide +kernel) ⟨Nat.le_of_ble_eq_true rfl, Nat.le_of_ble_eq_true rfl⟩) (va_recv hK hP (ci := 9) (q0 := 0) rfl rfl) hK hP hD hE hS hA rfl hl.1 rfl (Nat.le_of_ble_eq_true rfl) dX10_readAct_418 ⟨Nat.le_of_ble_eq_true rfl, Nat.le_of_ble_eq_true rfl⟩ (fun r418 w9 H locs hw418 hP hD hS => ?_)
          obtain ⟨v_to_418, v_kind_418, v_from_418, v_letters_418, v_letterMany_418, v_digits_418, v_isBeyond_418, v_suffix_418, a_one_418, v_wrong_418, v_wrongAt_418, v_variable_418, rfl, hw418_0, hw418_1, hw418_2, hw418_3, hw418_4, hw418_5⟩ := hw418
          have b_v_to_418 := iB v_to_418
          have b_v_kind_418 := iB v_kind_418
          have b_v_from_418 := iB v_from_418
          have b_v_letters_418 := jB v_letters_418
          have b_v_letterMany_418 := iB v_letterMany_418
          have b_v_digits_418 := jB v_digits_418
          have b_v_isBeyond_418 := iB v_isBeyond_418
          have b_v_suffix_418 := iB v_suffix_418
          have b_v_wrong_418 := iB v_wrong_418
          have b_v_wrongAt_418 := iB v_wrongAt_418
          have b_v_variable_418 := iB v_variable_418
          have b_r418 := iB r418
          refine m_if_eq (X := r418.toInt) (tgt := 492) hx hb dX10_readAct_421 (by decide) rfl (fun c421 => ?_) (fun c421 => ?_)
          · skip
            refine lv_iconst (v := 0) hx hb dX10_readAct_492 (by decide) ?_
            subst hAe
            rw [hQ]
            exact W.zret (v := 0) hx hb hr (by decide) (fun t ht hW => ⟨⟨0, _, rfl, ⟨v_to_418, v_kind_418, v_from_418, v_letters_418, v_letterMany_418, v_digits_418, v_isBeyond_418, v_suffix_418, a_act_258, a_to1, a_one_418, a_two, a_what, a_ats_6, a_atVar, a_atNumber, a_atomSort, a_atomKind, a_atomValue, v_wrong_418, v_wrongAt_418, v_variable_418, v_number, v_numberKind, rfl, by first | assumption | omega | (intros; omega) | decide, by first | assumption | omega | (intros; omega) | decide, by first | assumption | omega | (intros; omega) | decide, by first | assumption | omega | (intros; omega) | decide, by first | assumption | omega | (intros; omega) | decide, by first | assumption | omega | (intros; omega) | decide, by first | assumption | omega | (intros; omega) | decide, by first | assumption | omega | (intros; omega) | decide, by first | assumption | omega | (intros; omega) | decide, by first | assumption | omega | (intros; omega) | decide, by first | assumption | omega | (intros; omega) | decide, by first | assumption | exact SAME.rf _ _ | exact SAME.trans (by assumption) (by assumption) | exact SAME.trans (by assumption) (SAME.trans (by assumption) (by assumption)), by first | assumption | exact SAME.rf _ _ | exact SAME.trans (by assumption) (by assumption) | exact SAME.trans (by assumption) (SAME.trans (by assumption) (by assumption)), by first | assumption | exact SAME.rf _ _ | exact SAME.trans (by assumption) (by assumption) | exact SAME.trans (by assumption) (SAME.trans (by assumption) (by assumption)), by first | assumption | omega | (intros; omega) | decide⟩, by rw [ht]; exact hP, va_K.moved hW.alike hK, hD⟩, hS.F ht⟩) hS.2.2 dX10_readAct_493
          · skip
            refine lv_aload_n hx hb dX10_readAct_424 rfl (lv_at hl 1 rfl) ?_
            refine lv_iload_n hx hb dX10_readAct_425 rfl (lv_at hl 2 rfl) ?_
            refine lv_iconst (v := 0) hx hb dX10_readAct_426 (by decide) ?_
            refine call_i (As := [.int s9, .int 0]) (rest := []) ⟨hx, hb, hml, hown, hts⟩ (tX10_readAt (l := l) s9 (0 : Int32) (by first | assumption | omega | (intros; omega) | decide) (by first | assumption | omega | (intros; omega) | decide) (by first | assumption | omega | (intros; omega) | decide) (by first | assumption | omega | (intros; omega) | decide) (by first | assumption | omega | (intros; omega) | decide) (by first | assumption | omega | (intros; omega) | decide) (by first | assumption | omega | (intros; omega) | decide) (by first | assumption | omega | (intros; omega) | decide)) (cwV 2 hts (gV (wr26 _ (List.mem_of_getElem? (i := 11) rfl)) (wr26 _ (List.mem_of_getElem? (i := 12) rfl)) (wr26 _ (List.mem_of_getElem? (i := 13) rfl)) (wr1 _ (List.mem_of_getElem? (i := 5) rfl)) (wr26 _ (List.mem_of_getElem? (i := 14) rfl))) rfl rfl rfl (by decide +kernel) ⟨Nat.le_of_ble_eq_true rfl, Nat.le_of_ble_eq_true rfl⟩) (va_recv hK hP (ci := 9) (q0 := 0) rfl rfl) hK hP hD hE hS hA rfl hl.1 rfl (Nat.le_of_ble_eq_true rfl) dX10_readAct_427 ⟨Nat.le_of_ble_eq_true rfl, Nat.le_of_ble_eq_true rfl⟩ (fun r427 w9 H locs hw427 hP hD hS => ?_)
            obtain ⟨v_to_427, v_kind_427, v_from_427, v_letters_427, v_letterMany_427, v_digits_427, v_isBeyond_427, v_suffix_427, a_atVar_427, a_atNumber_427, v_wrong_427, v_wrongAt_427, v_variable_427, v_number_427, v_numberKind_427, rfl, hw427_0, hw427_1, hw427_2, hw427_3, hw427_4, hw427_5, hw427_6⟩ := hw427
            have b_v_to_427 := iB v_to_427
            have b_v_kind_427 := iB v_kind_427
            have b_v_from_427 := iB v_from_427
            have b_v_letters_427 := jB v_letters_427
            have b_v_letterMany_427 := iB v_letterMany_427
            have b_v_digits_427 := jB v_digits_427
            have b_v_isBeyond_427 := iB v_isBeyond_427
            have b_v_suffix_427 := iB v_suffix_427
            have b_v_wrong_427 := iB v_wrong_427
            have b_v_wrongAt_427 := iB v_wrongAt_427
            have b_v_variable_427 := iB v_variable_427
            have b_v_number_427 := jB v_number_427
            have b_v_numberKind_427 := iB v_numberKind_427
            have b_r427 := iB r427
            refine m_if_eq (X := r427.toInt) (tgt := 492) hx hb dX10_readAct_430 (by decide) rfl (fun c430 => ?_) (fun c430 => ?_)
            · skip
              refine lv_iconst (v := 0) hx hb dX10_readAct_492 (by decide) ?_
              subst hAe
              rw [hQ]
              exact W.zret (v := 0) hx hb hr (by decide) (fun t ht hW => ⟨⟨0, _, rfl, ⟨v_to_427, v_kind_427, v_from_427, v_letters_427, v_letterMany_427, v_digits_427, v_isBeyond_427, v_suffix_427, a_act_258, a_to1, a_one_418, a_two, a_what, a_ats_6, a_atVar_427, a_atNumber_427, a_atomSort, a_atomKind, a_atomValue, v_wrong_427, v_wrongAt_427, v_variable_427, v_number_427, v_numberKind_427, rfl, by first | assumption | omega | (intros; omega) | decide, by first | assumption | omega | (intros; omega) | decide, by first | assumption | omega | (intros; omega) | decide, by first | assumption | omega | (intros; omega) | decide, by first | assumption | omega | (intros; omega) | decide, by first | assumption | omega | (intros; omega) | decide, by first | assumption | omega | (intros; omega) | decide, by first | assumption | omega | (intros; omega) | decide, by first | assumption | omega | (intros; omega) | decide, by first | assumption | omega | (intros; omega) | decide, by first | assumption | omega | (intros; omega) | decide, by first | assumption | exact SAME.rf _ _ | exact SAME.trans (by assumption) (by assumption) | exact SAME.trans (by assumption) (SAME.trans (by assumption) (by assumption)), by first | assumption | exact SAME.rf _ _ | exact SAME.trans (by assumption) (by assumption) | exact SAME.trans (by assumption) (SAME.trans (by assumption) (by assumption)), by first | assumption | exact SAME.rf _ _ | exact SAME.trans (by assumption) (by assumption) | exact SAME.trans (by assumption) (SAME.trans (by assumption) (by assumption)), by first | assumption | omega | (intros; omega) | decide⟩, by rw [ht]; exact hP, va_K.moved hW.alike hK, hD⟩, hS.F ht⟩) hS.2.2 dX10_readAct_493
            · skip
              refine lv_aload_n hx hb dX10_readAct_433 rfl (lv_at hl 1 rfl) ?_
              refine m_ldcSw hx hb hown (ld_74 hE) dX10_readAct_434 ?_
              refine call_i (As := [.ref (K 0 74)]) (rest := []) ⟨hx, hb, hml, hown, hts⟩ (tX10_key (l := l) 74 so_74 (by first | assumption | omega | (intros; omega) | decide)) (cwV 1 hts (gV (wr30 _ (List.mem_of_getElem? (i := 11) rfl)) (wr30 _ (List.mem_of_getElem? (i := 12) rfl)) (wr30 _ (List.mem_of_getElem? (i := 13) rfl)) (wr1 _ (List.mem_of_getElem? (i := 5) rfl)) (wr30 _ (List.mem_of_getElem? (i := 14) rfl))) rfl rfl rfl (by decide +kernel) ⟨Nat.le_of_ble_eq_true rfl, Nat.le_of_ble_eq_true rfl⟩) (va_recv hK hP (ci := 9) (q0 := 0) rfl rfl) hK hP hD hE hS hA rfl hl.1 rfl (Nat.le_of_ble_eq_true rfl) dX10_readAct_437 ⟨Nat.le_of_ble_eq_true rfl, Nat.le_of_ble_eq_true rfl⟩ (fun r437 w9 H locs hw437 hP hD hS => ?_)
              obtain ⟨v_to_437, v_kind_437, v_from_437, v_letters_437, v_letterMany_437, v_digits_437, v_isBeyond_437, v_suffix_437, v_wrong_437, v_wrongAt_437, rfl, hw437_0, hw437_1, hw437_2, hw437_3⟩ := hw437
              have b_v_to_437 := iB v_to_437
              have b_v_kind_437 := iB v_kind_437
              have b_v_from_437 := iB v_from_437
              have b_v_letters_437 := jB v_letters_437
              have b_v_letterMany_437 := iB v_letterMany_437
              have b_v_digits_437 := jB v_digits_437
              have b_v_isBeyond_437 := iB v_isBeyond_437
              have b_v_suffix_437 := iB v_suffix_437
              have b_v_wrong_437 := iB v_wrong_437
              have b_v_wrongAt_437 := iB v_wrongAt_437
              have b_r437 := iB r437
              refine m_if_eq (X := r437.toInt) (tgt := 492) hx hb dX10_readAct_440 (by decide) rfl (fun c440 => ?_) (fun c440 => ?_)
              · skip
                refine lv_iconst (v := 0) hx hb dX10_readAct_492 (by decide) ?_
                subst hAe
                rw [hQ]
                exact W.zret (v := 0) hx hb hr (by decide) (fun t ht hW => ⟨⟨0, _, rfl, ⟨v_to_437, v_kind_437, v_from_437, v_letters_437, v_letterMany_437, v_digits_437, v_isBeyond_437, v_suffix_437, a_act_258, a_to1, a_one_418, a_two, a_what, a_ats_6, a_atVar_427, a_atNumber_427, a_atomSort, a_atomKind, a_atomValue, v_wrong_437, v_wrongAt_437, v_variable_427, v_number_427, v_numberKind_427, rfl, by first | assumption | omega | (intros; omega) | decide, by first | assumption | omega | (intros; omega) | decide, by first | assumption | omega | (intros; omega) | decide, by first | assumption | omega | (intros; omega) | decide, by first | assumption | omega | (intros; omega) | decide, by first | assumption | omega | (intros; omega) | decide, by first | assumption | omega | (intros; omega) | decide, by first | assumption | omega | (intros; omega) | decide, by first | assumption | omega | (intros; omega) | decide, by first | assumption | omega | (intros; omega) | decide, by first | assumption | omega | (intros; omega) | decide, by first | assumption | exact SAME.rf _ _ | exact SAME.trans (by assumption) (by assumption) | exact SAME.trans (by assumption) (SAME.trans (by assumption) (by assumption)), by first | assumption | exact SAME.rf _ _ | exact SAME.trans (by assumption) (by assumption) | exact SAME.trans (by assumption) (SAME.trans (by assumption) (by assumption)), by first | assumption | exact SAME.rf _ _ | exact SAME.trans (by assumption) (by assumption) | exact SAME.trans (by assumption) (SAME.trans (by assumption) (by assumption)), by first | assumption | omega | (intros; omega) | decide⟩, by rw [ht]; exact hP, va_K.moved hW.alike hK, hD⟩, hS.F ht⟩) hS.2.2 dX10_readAct_493
              · skip
                refine lv_aload_n hx hb dX10_readAct_443 rfl (lv_at hl 1 rfl) ?_
                refine lv_iload_n hx hb dX10_readAct_444 rfl (lv_at hl 2 rfl) ?_
                refine call_i (As := [.int s9]) (rest := []) ⟨hx, hb, hml, hown, hts⟩ (tX10_readTwo (l := l) s9 (by first | assumption | omega | (intros; omega) | decide) (by first | assumption | omega | (intros; omega) | decide) (by first | assumption | omega | (intros; omega) | decide) (by first | assumption | omega | (intros; omega) | decide) (by first | assumption | omega | (intros; omega) | decide)) (cwV 1 hts (gV (wr30 _ (List.mem_of_getElem? (i := 7) rfl)) (wr30 _ (List.mem_of_getElem? (i := 8) rfl)) (wr30 _ (List.mem_of_getElem? (i := 9) rfl)) (wr1 _ (List.mem_of_getElem? (i := 5) rfl)) (wr30 _ (List.mem_of_getElem? (i := 10) rfl))) rfl rfl rfl (by decide +kernel) ⟨Nat.le_of_ble_eq_true rfl, Nat.le_of_ble_eq_true rfl⟩) (va_recv hK hP (ci := 9) (q0 := 0) rfl rfl) hK hP hD hE hS hA rfl hl.1 rfl (Nat.le_of_ble_eq_true rfl) dX10_readAct_445 ⟨Nat.le_of_ble_eq_true rfl, Nat.le_of_ble_eq_true rfl⟩ (fun r445 w9 H locs hw445 hP hD hS => ?_)
                obtain ⟨v_to_445, v_kind_445, v_from_445, v_letters_445, v_letterMany_445, v_digits_445, v_isBeyond_445, v_suffix_445, a_two_445, v_wrong_445, v_wrongAt_445, v_variable_445, rfl, hw445_0, hw445_1, hw445_2, hw445_3, hw445_4, hw445_5⟩ := hw445
                have b_v_to_445 := iB v_to_445
                have b_v_kind_445 := iB v_kind_445
                have b_v_from_445 := iB v_from_445
                have b_v_letters_445 := jB v_letters_445
                have b_v_letterMany_445 := iB v_letterMany_445
                have b_v_digits_445 := jB v_digits_445
                have b_v_isBeyond_445 := iB v_isBeyond_445
                have b_v_suffix_445 := iB v_suffix_445
                have b_v_wrong_445 := iB v_wrong_445
                have b_v_wrongAt_445 := iB v_wrongAt_445
                have b_v_variable_445 := iB v_variable_445
                have b_r445 := iB r445
                refine m_if_eq (X := r445.toInt) (tgt := 492) hx hb dX10_readAct_448 (by decide) rfl (fun c448 => ?_) (fun c448 => ?_)
                · skip
                  refine lv_iconst (v := 0) hx hb dX10_readAct_492 (by decide) ?_
                  subst hAe
                  rw [hQ]
                  exact W.zret (v := 0) hx hb hr (by decide) (fun t ht hW => ⟨⟨0, _, rfl, ⟨v_to_445, v_kind_445, v_from_445, v_letters_445, v_letterMany_445, v_digits_445, v_isBeyond_445, v_suffix_445, a_act_258, a_to1, a_one_418, a_two_445, a_what, a_ats_6, a_atVar_427, a_atNumber_427, a_atomSort, a_atomKind, a_atomValue, v_wrong_445, v_wrongAt_445, v_variable_445, v_number_427, v_numberKind_427, rfl, by first | assumption | omega | (intros; omega) | decide, by first | assumption | omega | (intros; omega) | decide, by first | assumption | omega | (intros; omega) | decide, by first | assumption | omega | (intros; omega) | decide, by first | assumption | omega | (intros; omega) | decide, by first | assumption | omega | (intros; omega) | decide, by first | assumption | omega | (intros; omega) | decide, by first | assumption | omega | (intros; omega) | decide, by first | assumption | omega | (intros; omega) | decide, by first | assumption | omega | (intros; omega) | decide, by first | assumption | omega | (intros; omega) | decide, by first | assumption | exact SAME.rf _ _ | exact SAME.trans (by assumption) (by assumption) | exact SAME.trans (by assumption) (SAME.trans (by assumption) (by assumption)), by first | assumption | exact SAME.rf _ _ | exact SAME.trans (by assumption) (by assumption) | exact SAME.trans (by assumption) (SAME.trans (by assumption) (by assumption)), by first | assumption | exact SAME.rf _ _ | exact SAME.trans (by assumption) (by assumption) | exact SAME.trans (by assumption) (SAME.trans (by assumption) (by assumption)), by first | assumption | omega | (intros; omega) | decide⟩, by rw [ht]; exact hP, va_K.moved hW.alike hK, hD⟩, hS.F ht⟩) hS.2.2 dX10_readAct_493
                · skip
                  refine lv_aload_n hx hb dX10_readAct_451 rfl (lv_at hl 1 rfl) ?_
                  refine lv_iload_n hx hb dX10_readAct_452 rfl (lv_at hl 2 rfl) ?_
                  refine lv_iconst (v := 1) hx hb dX10_readAct_453 (by decide) ?_
                  refine call_i (As := [.int s9, .int 1]) (rest := []) ⟨hx, hb, hml, hown, hts⟩ (tX10_readAt (l := l) s9 (1 : Int32) (by first | assumption | omega | (intros; omega) | decide) (by first | assumption | omega | (intros; omega) | decide) (by first | assumption | omega | (intros; omega) | decide) (by first | assumption | omega | (intros; omega) | decide) (by first | assumption | omega | (intros; omega) | decide) (by first | assumption | omega | (intros; omega) | decide) (by first | assumption | omega | (intros; omega) | decide) (by first | assumption | omega | (intros; omega) | decide)) (cwV 2 hts (gV (wr26 _ (List.mem_of_getElem? (i := 11) rfl)) (wr26 _ (List.mem_of_getElem? (i := 12) rfl)) (wr26 _ (List.mem_of_getElem? (i := 13) rfl)) (wr1 _ (List.mem_of_getElem? (i := 5) rfl)) (wr26 _ (List.mem_of_getElem? (i := 14) rfl))) rfl rfl rfl (by decide +kernel) ⟨Nat.le_of_ble_eq_true rfl, Nat.le_of_ble_eq_true rfl⟩) (va_recv hK hP (ci := 9) (q0 := 0) rfl rfl) hK hP hD hE hS hA rfl hl.1 rfl (Nat.le_of_ble_eq_true rfl) dX10_readAct_454 ⟨Nat.le_of_ble_eq_true rfl, Nat.le_of_ble_eq_true rfl⟩ (fun r454 w9 H locs hw454 hP hD hS => ?_)
                  obtain ⟨v_to_454, v_kind_454, v_from_454, v_letters_454, v_letterMany_454, v_digits_454, v_isBeyond_454, v_suffix_454, a_atVar_454, a_atNumber_454, v_wrong_454, v_wrongAt_454, v_variable_454, v_number_454, v_numberKind_454, rfl, hw454_0, hw454_1, hw454_2, hw454_3, hw454_4, hw454_5, hw454_6⟩ := hw454
                  have b_v_to_454 := iB v_to_454
                  have b_v_kind_454 := iB v_kind_454
                  have b_v_from_454 := iB v_from_454
                  have b_v_letters_454 := jB v_letters_454
                  have b_v_letterMany_454 := iB v_letterMany_454
                  have b_v_digits_454 := jB v_digits_454
                  have b_v_isBeyond_454 := iB v_isBeyond_454
                  have b_v_suffix_454 := iB v_suffix_454
                  have b_v_wrong_454 := iB v_wrong_454
                  have b_v_wrongAt_454 := iB v_wrongAt_454
                  have b_v_variable_454 := iB v_variable_454
                  have b_v_number_454 := jB v_number_454
                  have b_v_numberKind_454 := iB v_numberKind_454
                  have b_r454 := iB r454
                  refine m_if_eq (X := r454.toInt) (tgt := 492) hx hb dX10_readAct_457 (by decide) rfl (fun c457 => ?_) (fun c457 => ?_)
                  · skip
                    refine lv_iconst (v := 0) hx hb dX10_readAct_492 (by decide) ?_
                    subst hAe
                    rw [hQ]
                    exact W.zret (v := 0) hx hb hr (by decide) (fun t ht hW => ⟨⟨0, _, rfl, ⟨v_to_454, v_kind_454, v_from_454, v_letters_454, v_letterMany_454, v_digits_454, v_isBeyond_454, v_suffix_454, a_act_258, a_to1, a_one_418, a_two_445, a_what, a_ats_6, a_atVar_454, a_atNumber_454, a_atomSort, a_atomKind, a_atomValue, v_wrong_454, v_wrongAt_454, v_variable_454, v_number_454, v_numberKind_454, rfl, by first | assumption | omega | (intros; omega) | decide, by first | assumption | omega | (intros; omega) | decide, by first | assumption | omega | (intros; omega) | decide, by first | assumption | omega | (intros; omega) | decide, by first | assumption | omega | (intros; omega) | decide, by first | assumption | omega | (intros; omega) | decide, by first | assumption | omega | (intros; omega) | decide, by first | assumption | omega | (intros; omega) | decide, by first | assumption | omega | (intros; omega) | decide, by first | assumption | omega | (intros; omega) | decide, by first | assumption | omega | (intros; omega) | decide, by first | assumption | exact SAME.rf _ _ | exact SAME.trans (by assumption) (by assumption) | exact SAME.trans (by assumption) (SAME.trans (by assumption) (by assumption)), by first | assumption | exact SAME.rf _ _ | exact SAME.trans (by assumption) (by assumption) | exact SAME.trans (by assumption) (SAME.trans (by assumption) (by assumption)), by first | assumption | exact SAME.rf _ _ | exact SAME.trans (by assumption) (by assumption) | exact SAME.trans (by assumption) (SAME.trans (by assumption) (by assumption)), by first | assumption | omega | (intros; omega) | decide⟩, by rw [ht]; exact hP, va_K.moved hW.alike hK, hD⟩, hS.F ht⟩) hS.2.2 dX10_readAct_493
                  · skip
                    refine lv_aload_n hx hb dX10_readAct_460 rfl (lv_at hl 1 rfl) ?_
                    refine m_ldcSw hx hb hown (ld_75 hE) dX10_readAct_461 ?_
                    refine call_i (As := [.ref (K 0 75)]) (rest := []) ⟨hx, hb, hml, hown, hts⟩ (tX10_key (l := l) 75 so_75 (by first | assumption | omega | (intros; omega) | decide)) (cwV 1 hts (gV (wr30 _ (List.mem_of_getElem? (i := 11) rfl)) (wr30 _ (List.mem_of_getElem? (i := 12) rfl)) (wr30 _ (List.mem_of_getElem? (i := 13) rfl)) (wr1 _ (List.mem_of_getElem? (i := 5) rfl)) (wr30 _ (List.mem_of_getElem? (i := 14) rfl))) rfl rfl rfl (by decide +kernel) ⟨Nat.le_of_ble_eq_true rfl, Nat.le_of_ble_eq_true rfl⟩) (va_recv hK hP (ci := 9) (q0 := 0) rfl rfl) hK hP hD hE hS hA rfl hl.1 rfl (Nat.le_of_ble_eq_true rfl) dX10_readAct_464 ⟨Nat.le_of_ble_eq_true rfl, Nat.le_of_ble_eq_true rfl⟩ (fun r464 w9 H locs hw464 hP hD hS => ?_)
                    obtain ⟨v_to_464, v_kind_464, v_from_464, v_letters_464, v_letterMany_464, v_digits_464, v_isBeyond_464, v_suffix_464, v_wrong_464, v_wrongAt_464, rfl, hw464_0, hw464_1, hw464_2, hw464_3⟩ := hw464
                    have b_v_to_464 := iB v_to_464
                    have b_v_kind_464 := iB v_kind_464
                    have b_v_from_464 := iB v_from_464
                    have b_v_letters_464 := jB v_letters_464
                    have b_v_letterMany_464 := iB v_letterMany_464
                    have b_v_digits_464 := jB v_digits_464
                    have b_v_isBeyond_464 := iB v_isBeyond_464
                    have b_v_suffix_464 := iB v_suffix_464
                    have b_v_wrong_464 := iB v_wrong_464
                    have b_v_wrongAt_464 := iB v_wrongAt_464
                    have b_r464 := iB r464
                    refine m_if_eq (X := r464.toInt) (tgt := 492) hx hb dX10_readAct_467 (by decide) rfl (fun c467 => ?_) (fun c467 => ?_)
                    · skip
                      refine lv_iconst (v := 0) hx hb dX10_readAct_492 (by decide) ?_
                      subst hAe
                      rw [hQ]
                      exact W.zret (v := 0) hx hb hr (by decide) (fun t ht hW => ⟨⟨0, _, rfl, ⟨v_to_464, v_kind_464, v_from_464, v_letters_464, v_letterMany_464, v_digits_464, v_isBeyond_464, v_suffix_464, a_act_258, a_to1, a_one_418, a_two_445, a_what, a_ats_6, a_atVar_454, a_atNumber_454, a_atomSort, a_atomKind, a_atomValue, v_wrong_464, v_wrongAt_464, v_variable_454, v_number_454, v_numberKind_454, rfl, by first | assumption | omega | (intros; omega) | decide, by first | assumption | omega | (intros; omega) | decide, by first | assumption | omega | (intros; omega) | decide, by first | assumption | omega | (intros; omega) | decide, by first | assumption | omega | (intros; omega) | decide, by first | assumption | omega | (intros; omega) | decide, by first | assumption | omega | (intros; omega) | decide, by first | assumption | omega | (intros; omega) | decide, by first | assumption | omega | (intros; omega) | decide, by first | assumption | omega | (intros; omega) | decide, by first | assumption | omega | (intros; omega) | decide, by first | assumption | exact SAME.rf _ _ | exact SAME.trans (by assumption) (by assumption) | exact SAME.trans (by assumption) (SAME.trans (by assumption) (by assumption)), by first | assumption | exact SAME.rf _ _ | exact SAME.trans (by assumption) (by assumption) | exact SAME.trans (by assumption) (SAME.trans (by assumption) (by assumption)), by first | assumption | exact SAME.rf _ _ | exact SAME.trans (by assumption) (by assumption) | exact SAME.trans (by assumption) (SAME.trans (by assumption) (by assumption)), by first | assumption | omega | (intros; omega) | decide⟩, by rw [ht]; exact hP, va_K.moved hW.alike hK, hD⟩, hS.F ht⟩) hS.2.2 dX10_readAct_493
                    · skip
                      refine lv_aload_n hx hb dX10_readAct_470 rfl (lv_at hl 1 rfl) ?_
                      refine lv_iload_n hx hb dX10_readAct_471 rfl (lv_at hl 2 rfl) ?_
                      refine lv_iconst (v := 2) hx hb dX10_readAct_472 (by decide) ?_
                      refine call_i (As := [.int s9, .int 2]) (rest := []) ⟨hx, hb, hml, hown, hts⟩ (tX10_readIndex (l := l) s9 (2 : Int32) (by first | assumption | omega | (intros; omega) | decide) (by first | assumption | omega | (intros; omega) | decide) (by first | assumption | omega | (intros; omega) | decide) (by first | assumption | omega | (intros; omega) | decide) (by first | assumption | omega | (intros; omega) | decide) (by first | assumption | omega | (intros; omega) | decide) (by first | assumption | omega | (intros; omega) | decide) (by first | assumption | omega | (intros; omega) | decide)) (cwV 2 hts (gV (wr26 _ (List.mem_of_getElem? (i := 19) rfl)) (wr26 _ (List.mem_of_getElem? (i := 20) rfl)) (wr26 _ (List.mem_of_getElem? (i := 21) rfl)) (wr1 _ (List.mem_of_getElem? (i := 5) rfl)) (wr26 _ (List.mem_of_getElem? (i := 22) rfl))) rfl rfl rfl (by decide +kernel) ⟨Nat.le_of_ble_eq_true rfl, Nat.le_of_ble_eq_true rfl⟩) (va_recv hK hP (ci := 9) (q0 := 0) rfl rfl) hK hP hD hE hS hA rfl hl.1 rfl (Nat.le_of_ble_eq_true rfl) dX10_readAct_473 ⟨Nat.le_of_ble_eq_true rfl, Nat.le_of_ble_eq_true rfl⟩ (fun r473 w9 H locs hw473 hP hD hS => ?_)
                      obtain ⟨v_to_473, v_kind_473, v_from_473, v_letters_473, v_letterMany_473, v_digits_473, v_isBeyond_473, v_suffix_473, a_atVar_473, a_atNumber_473, v_wrong_473, v_wrongAt_473, v_variable_473, v_number_473, v_numberKind_473, rfl, hw473_0, hw473_1, hw473_2, hw473_3, hw473_4, hw473_5, hw473_6⟩ := hw473
                      have b_v_to_473 := iB v_to_473
                      have b_v_kind_473 := iB v_kind_473
                      have b_v_from_473 := iB v_from_473
                      have b_v_letters_473 := jB v_letters_473
                      have b_v_letterMany_473 := iB v_letterMany_473
                      have b_v_digits_473 := jB v_digits_473
                      have b_v_isBeyond_473 := iB v_isBeyond_473
                      have b_v_suffix_473 := iB v_suffix_473
                      have b_v_wrong_473 := iB v_wrong_473
                      have b_v_wrongAt_473 := iB v_wrongAt_473
                      have b_v_variable_473 := iB v_variable_473
                      have b_v_number_473 := jB v_number_473
                      have b_v_numberKind_473 := iB v_numberKind_473
                      have b_r473 := iB r473
                      refine m_if_eq (X := r473.toInt) (tgt := 492) hx hb dX10_readAct_476 (by decide) rfl (fun c476 => ?_) (fun c476 => ?_)
                      · skip
                        refine lv_iconst (v := 0) hx hb dX10_readAct_492 (by decide) ?_
                        subst hAe
                        rw [hQ]
                        exact W.zret (v := 0) hx hb hr (by decide) (fun t ht hW => ⟨⟨0, _, rfl, ⟨v_to_473, v_kind_473, v_from_473, v_letters_473, v_letterMany_473, v_digits_473, v_isBeyond_473, v_suffix_473, a_act_258, a_to1, a_one_418, a_two_445, a_what, a_ats_6, a_atVar_473, a_atNumber_473, a_atomSort, a_atomKind, a_atomValue, v_wrong_473, v_wrongAt_473, v_variable_473, v_number_473, v_numberKind_473, rfl, by first | assumption | omega | (intros; omega) | decide, by first | assumption | omega | (intros; omega) | decide, by first | assumption | omega | (intros; omega) | decide, by first | assumption | omega | (intros; omega) | decide, by first | assumption | omega | (intros; omega) | decide, by first | assumption | omega | (intros; omega) | decide, by first | assumption | omega | (intros; omega) | decide, by first | assumption | omega | (intros; omega) | decide, by first | assumption | omega | (intros; omega) | decide, by first | assumption | omega | (intros; omega) | decide, by first | assumption | omega | (intros; omega) | decide, by first | assumption | exact SAME.rf _ _ | exact SAME.trans (by assumption) (by assumption) | exact SAME.trans (by assumption) (SAME.trans (by assumption) (by assumption)), by first | assumption | exact SAME.rf _ _ | exact SAME.trans (by assumption) (by assumption) | exact SAME.trans (by assumption) (SAME.trans (by assumption) (by assumption)), by first | assumption | exact SAME.rf _ _ | exact SAME.trans (by assumption) (by assumption) | exact SAME.trans (by assumption) (SAME.trans (by assumption) (by assumption)), by first | assumption | omega | (intros; omega) | decide⟩, by rw [ht]; exact hP, va_K.moved hW.alike hK, hD⟩, hS.F ht⟩) hS.2.2 dX10_readAct_493
                      · skip
                        refine lv_aload_n hx hb dX10_readAct_479 rfl (lv_at hl 1 rfl) ?_
                        refine lv_iload_n hx hb dX10_readAct_480 rfl (lv_at hl 2 rfl) ?_
                        refine lv_iconst (v := 3) hx hb dX10_readAct_481 (by decide) ?_
                        refine call_i (As := [.int s9, .int 3]) (rest := []) ⟨hx, hb, hml, hown, hts⟩ (tX10_manyAts (l := l) s9 (3 : Int32) (by first | assumption | omega | (intros; omega) | decide) (by first | assumption | omega | (intros; omega) | decide) (by first | assumption | omega | (intros; omega) | decide) (by first | assumption | omega | (intros; omega) | decide) (by first | assumption | omega | (intros; omega) | decide)) (cwV 2 hts (gV (wr30 _ (List.mem_of_getElem? (i := 15) rfl)) (wr30 _ (List.mem_of_getElem? (i := 16) rfl)) (wr30 _ (List.mem_of_getElem? (i := 17) rfl)) (wr1 _ (List.mem_of_getElem? (i := 5) rfl)) (wr30 _ (List.mem_of_getElem? (i := 18) rfl))) rfl rfl rfl (by decide +kernel) ⟨Nat.le_of_ble_eq_true rfl, Nat.le_of_ble_eq_true rfl⟩) (va_recv hK hP (ci := 9) (q0 := 0) rfl rfl) hK hP hD hE hS hA rfl hl.1 rfl (Nat.le_of_ble_eq_true rfl) dX10_readAct_482 ⟨Nat.le_of_ble_eq_true rfl, Nat.le_of_ble_eq_true rfl⟩ (fun r482 w9 H locs hw482 hP hD hS => ?_)
                        obtain ⟨a_ats_482, rfl, hw482_0, hw482_1, hw482_2, hw482_3⟩ := hw482
                        have b_r482 := iB r482
                        refine m_if_eq (X := r482.toInt) (tgt := 492) hx hb dX10_readAct_485 (by decide) rfl (fun c485 => ?_) (fun c485 => ?_)
                        · skip
                          refine lv_iconst (v := 0) hx hb dX10_readAct_492 (by decide) ?_
                          subst hAe
                          rw [hQ]
                          exact W.zret (v := 0) hx hb hr (by decide) (fun t ht hW => ⟨⟨0, _, rfl, ⟨v_to_473, v_kind_473, v_from_473, v_letters_473, v_letterMany_473, v_digits_473, v_isBeyond_473, v_suffix_473, a_act_258, a_to1, a_one_418, a_two_445, a_what, a_ats_482, a_atVar_473, a_atNumber_473, a_atomSort, a_atomKind, a_atomValue, v_wrong_473, v_wrongAt_473, v_variable_473, v_number_473, v_numberKind_473, rfl, by first | assumption | omega | (intros; omega) | decide, by first | assumption | omega | (intros; omega) | decide, by first | assumption | omega | (intros; omega) | decide, by first | assumption | omega | (intros; omega) | decide, by first | assumption | omega | (intros; omega) | decide, by first | assumption | omega | (intros; omega) | decide, by first | assumption | omega | (intros; omega) | decide, by first | assumption | omega | (intros; omega) | decide, by first | assumption | omega | (intros; omega) | decide, by first | assumption | omega | (intros; omega) | decide, by first | assumption | omega | (intros; omega) | decide, by first | assumption | exact SAME.rf _ _ | exact SAME.trans (by assumption) (by assumption) | exact SAME.trans (by assumption) (SAME.trans (by assumption) (by assumption)), by first | assumption | exact SAME.rf _ _ | exact SAME.trans (by assumption) (by assumption) | exact SAME.trans (by assumption) (SAME.trans (by assumption) (by assumption)), by first | assumption | exact SAME.rf _ _ | exact SAME.trans (by assumption) (by assumption) | exact SAME.trans (by assumption) (SAME.trans (by assumption) (by assumption)), by first | assumption | omega | (intros; omega) | decide⟩, by rw [ht]; exact hP, va_K.moved hW.alike hK, hD⟩, hS.F ht⟩) hS.2.2 dX10_readAct_493
                        · skip
                          refine lv_iconst (v := 1) hx hb dX10_readAct_488 (by decide) ?_
                          refine lv_goto (tgt := 493) hx hb dX10_readAct_489 (by decide) ?_
                          subst hAe
                          rw [hQ]
                          exact W.zret (v := 1) hx hb hr (by decide) (fun t ht hW => ⟨⟨1, _, rfl, ⟨v_to_473, v_kind_473, v_from_473, v_letters_473, v_letterMany_473, v_digits_473, v_isBeyond_473, v_suffix_473, a_act_258, a_to1, a_one_418, a_two_445, a_what, a_ats_482, a_atVar_473, a_atNumber_473, a_atomSort, a_atomKind, a_atomValue, v_wrong_473, v_wrongAt_473, v_variable_473, v_number_473, v_numberKind_473, rfl, by first | assumption | omega | (intros; omega) | decide, by first | assumption | omega | (intros; omega) | decide, by first | assumption | omega | (intros; omega) | decide, by first | assumption | omega | (intros; omega) | decide, by first | assumption | omega | (intros; omega) | decide, by first | assumption | omega | (intros; omega) | decide, by first | assumption | omega | (intros; omega) | decide, by first | assumption | omega | (intros; omega) | decide, by first | assumption | omega | (intros; omega) | decide, by first | assumption | omega | (intros; omega) | decide, by first | assumption | omega | (intros; omega) | decide, by first | assumption | exact SAME.rf _ _ | exact SAME.trans (by assumption) (by assumption) | exact SAME.trans (by assumption) (SAME.trans (by assumption) (by assumption)), by first | assumption | exact SAME.rf _ _ | exact SAME.trans (by assumption) (by assumption) | exact SAME.trans (by assumption) (SAME.trans (by assumption) (by assumption)), by first | assumption | exact SAME.rf _ _ | exact SAME.trans (by assumption) (by assumption) | exact SAME.trans (by assumption) (SAME.trans (by assumption) (by assumption)), by first | assumption | omega | (intros; omega) | decide⟩, by rw [ht]; exact hP, va_K.moved hW.alike hK, hD⟩, hS.F ht⟩) hS.2.2 dX10_readAct_493
        · skip
          refine lv_tableIn (tgt := 494) (off := 230) hx hb dX10_readAct_264 (by omega) (by omega) (by rw [c264]; rfl) (by decide) ?_
          refine lv_aload_n hx hb dX10_readAct_494 rfl (lv_at hl 1 rfl) ?_
          refine lv_iload_n hx hb dX10_readAct_495 rfl (lv_at hl 2 rfl) ?_
          refine call_i (As := [.int s9]) (rest := []) ⟨hx, hb, hml, hown, hts⟩ (tX10_readOne (l := l) s9 (by first | assumption | omega | (intros; omega) | decide) (by first | assumption | omega | (intros; omega) | decide) (by first | assumption | omega | (intros; omega) | decide) (by first | assumption | omega | (intros; omega) | decide) (by first | assumption | omega | (intros; omega) | decide)) (cwV 1 hts (gV (wr29 _ (List.mem_of_getElem? (i := 23) rfl)) (wr30 _ (List.mem_of_getElem? (i := 0) rfl)) (wr30 _ (List.mem_of_getElem? (i := 1) rfl)) (wr1 _ (List.mem_of_getElem? (i := 5) rfl)) (wr30 _ (List.mem_of_getElem? (i := 2) rfl))) rfl rfl rfl (by decide +kernel) ⟨Nat.le_of_ble_eq_true rfl, Nat.le_of_ble_eq_true rfl⟩) (va_recv hK hP (ci := 9) (q0 := 0) rfl rfl) hK hP hD hE hS hA rfl hl.1 rfl (Nat.le_of_ble_eq_true rfl) dX10_readAct_496 ⟨Nat.le_of_ble_eq_true rfl, Nat.le_of_ble_eq_true rfl⟩ (fun r496 w9 H locs hw496 hP hD hS => ?_)
          obtain ⟨v_to_496, v_kind_496, v_from_496, v_letters_496, v_letterMany_496, v_digits_496, v_isBeyond_496, v_suffix_496, a_one_496, v_wrong_496, v_wrongAt_496, v_variable_496, rfl, hw496_0, hw496_1, hw496_2, hw496_3, hw496_4, hw496_5⟩ := hw496
          have b_v_to_496 := iB v_to_496
          have b_v_kind_496 := iB v_kind_496
          have b_v_from_496 := iB v_from_496
          have b_v_letters_496 := jB v_letters_496
          have b_v_letterMany_496 := iB v_letterMany_496
          have b_v_digits_496 := jB v_digits_496
          have b_v_isBeyond_496 := iB v_isBeyond_496
          have b_v_suffix_496 := iB v_suffix_496
          have b_v_wrong_496 := iB v_wrong_496
          have b_v_wrongAt_496 := iB v_wrongAt_496
          have b_v_variable_496 := iB v_variable_496
          have b_r496 := iB r496
          refine m_if_eq (X := r496.toInt) (tgt := 524) hx hb dX10_readAct_499 (by decide) rfl (fun c499 => ?_) (fun c499 => ?_)
          · skip
            refine lv_iconst (v := 0) hx hb dX10_readAct_524 (by decide) ?_
            subst hAe
            rw [hQ]
            exact W.zret (v := 0) hx hb hr (by decide) (fun t ht hW => ⟨⟨0, _, rfl, ⟨v_to_496, v_kind_496, v_from_496, v_letters_496, v_letterMany_496, v_digits_496, v_isBeyond_496, v_suffix_496, a_act_258, a_to1, a_one_496, a_two, a_what, a_ats_6, a_atVar, a_atNumber, a_atomSort, a_atomKind, a_atomValue, v_wrong_496, v_wrongAt_496, v_variable_496, v_number, v_numberKind, rfl, by first | assumption | omega | (intros; omega) | decide, by first | assumption | omega | (intros; omega) | decide, by first | assumption | omega | (intros; omega) | decide, by first | assumption | omega | (intros; omega) | decide, by first | assumption | omega | (intros; omega) | decide, by first | assumption | omega | (intros; omega) | decide, by first | assumption | omega | (intros; omega) | decide, by first | assumption | omega | (intros; omega) | decide, by first | assumption | omega | (intros; omega) | decide, by first | assumption | omega | (intros; omega) | decide, by first | assumption | omega | (intros; omega) | decide, by first | assumption | exact SAME.rf _ _ | exact SAME.trans (by assumption) (by assumption) | exact SAME.trans (by assumption) (SAME.trans (by assumption) (by assumption)), by first | assumption | exact SAME.rf _ _ | exact SAME.trans (by assumption) (by assumption) | exact SAME.trans (by assumption) (SAME.trans (by assumption) (by assumption)), by first | assumption | exact SAME.rf _ _ | exact SAME.trans (by assumption) (by assumption) | exact SAME.trans (by assumption) (SAME.trans (by assumption) (by assumption)), by first | assumption | omega | (intros; omega) | decide⟩, by rw [ht]; exact hP, va_K.moved hW.alike hK, hD⟩, hS.F ht⟩) hS.2.2 dX10_readAct_525
          · skip
            refine lv_aload_n hx hb dX10_readAct_502 rfl (lv_at hl 1 rfl) ?_
            refine m_ldcSw hx hb hown (ld_76 hE) dX10_readAct_503 ?_
            refine call_i (As := [.ref (K 0 76)]) (rest := []) ⟨hx, hb, hml, hown, hts⟩ (tX10_key (l := l) 76 so_76 (by first | assumption | omega | (intros; omega) | decide)) (cwV 1 hts (gV (wr30 _ (List.mem_of_getElem? (i := 11) rfl)) (wr30 _ (List.mem_of_getElem? (i := 12) rfl)) (wr30 _ (List.mem_of_getElem? (i := 13) rfl)) (wr1 _ (List.mem_of_getElem? (i := 5) rfl)) (wr30 _ (List.mem_of_getElem? (i := 14) rfl))) rfl rfl rfl (by decide +kernel) ⟨Nat.le_of_ble_eq_true rfl, Nat.le_of_ble_eq_true rfl⟩) (va_recv hK hP (ci := 9) (q0 := 0) rfl rfl) hK hP hD hE hS hA rfl hl.1 rfl (Nat.le_of_ble_eq_true rfl) dX10_readAct_506 ⟨Nat.le_of_ble_eq_true rfl, Nat.le_of_ble_eq_true rfl⟩ (fun r506 w9 H locs hw506 hP hD hS => ?_)
            obtain ⟨v_to_506, v_kind_506, v_from_506, v_letters_506, v_letterMany_506, v_digits_506, v_isBeyond_506, v_suffix_506, v_wrong_506, v_wrongAt_506, rfl, hw506_0, hw506_1, hw506_2, hw506_3⟩ := hw506
            have b_v_to_506 := iB v_to_506
            have b_v_kind_506 := iB v_kind_506
            have b_v_from_506 := iB v_from_506
            have b_v_letters_506 := jB v_letters_506
            have b_v_letterMany_506 := iB v_letterMany_506
            have b_v_digits_506 := jB v_digits_506
            have b_v_isBeyond_506 := iB v_isBeyond_506
            have b_v_suffix_506 := iB v_suffix_506
            have b_v_wrong_506 := iB v_wrong_506
            have b_v_wrongAt_506 := iB v_wrongAt_506
            have b_r506 := iB r506
            refine m_if_eq (X := r506.toInt) (tgt := 524) hx hb dX10_readAct_509 (by decide) rfl (fun c509 => ?_) (fun c509 => ?_)
            · skip
              refine lv_iconst (v := 0) hx hb dX10_readAct_524 (by decide) ?_
              subst hAe
              rw [hQ]
              exact W.zret (v := 0) hx hb hr (by decide) (fun t ht hW => ⟨⟨0, _, rfl, ⟨v_to_506, v_kind_506, v_from_506, v_letters_506, v_letterMany_506, v_digits_506, v_isBeyond_506, v_suffix_506, a_act_258, a_to1, a_one_496, a_two, a_what, a_ats_6, a_atVar, a_atNumber, a_atomSort, a_atomKind, a_atomValue, v_wrong_506, v_wrongAt_506, v_variable_496, v_number, v_numberKind, rfl, by first | assumption | omega | (intros; omega) | decide, by first | assumption | omega | (intros; omega) | decide, by first | assumption | omega | (intros; omega) | decide, by first | assumption | omega | (intros; omega) | decide, by first | assumption | omega | (intros; omega) | decide, by first | assumption | omega | (intros; omega) | decide, by first | assumption | omega | (intros; omega) | decide, by first | assumption | omega | (intros; omega) | decide, by first | assumption | omega | (intros; omega) | decide, by first | assumption | omega | (intros; omega) | decide, by first | assumption | omega | (intros; omega) | decide, by first | assumption | exact SAME.rf _ _ | exact SAME.trans (by assumption) (by assumption) | exact SAME.trans (by assumption) (SAME.trans (by assumption) (by assumption)), by first | assumption | exact SAME.rf _ _ | exact SAME.trans (by assumption) (by assumption) | exact SAME.trans (by assumption) (SAME.trans (by assumption) (by assumption)), by first | assumption | exact SAME.rf _ _ | exact SAME.trans (by assumption) (by assumption) | exact SAME.trans (by assumption) (SAME.trans (by assumption) (by assumption)), by first | assumption | omega | (intros; omega) | decide⟩, by rw [ht]; exact hP, va_K.moved hW.alike hK, hD⟩, hS.F ht⟩) hS.2.2 dX10_readAct_525
            · skip
              refine lv_aload_n hx hb dX10_readAct_512 rfl (lv_at hl 1 rfl) ?_
              refine lv_iload_n hx hb dX10_readAct_513 rfl (lv_at hl 2 rfl) ?_
              refine call_i (As := [.int s9]) (rest := []) ⟨hx, hb, hml, hown, hts⟩ (tX10_readAtom (l := l) s9 (by first | assumption | omega | (intros; omega) | decide) (by first | assumption | omega | (intros; omega) | decide) (by first | assumption | omega | (intros; omega) | decide) (by first | assumption | omega | (intros; omega) | decide) (by first | assumption | omega | (intros; omega) | decide) (by first | assumption | omega | (intros; omega) | decide)) (cwV 1 hts (gV (wr28 _ (List.mem_of_getElem? (i := 18) rfl)) (wr28 _ (List.mem_of_getElem? (i := 19) rfl)) (wr28 _ (List.mem_of_getElem? (i := 20) rfl)) (wr1 _ (List.mem_of_getElem? (i := 5) rfl)) (wr28 _ (List.mem_of_getElem? (i := 21) rfl))) rfl rfl rfl (by decide +kernel) ⟨Nat.le_of_ble_eq_true rfl, Nat.le_of_ble_eq_true rfl⟩) (va_recv hK hP (ci := 9) (q0 := 0) rfl rfl) hK hP hD hE hS hA rfl hl.1 rfl (Nat.le_of_ble_eq_true rfl) dX10_readAct_514 ⟨Nat.le_of_ble_eq_true rfl, Nat.le_of_ble_eq_true rfl⟩ (fun r514 w9 H locs hw514 hP hD hS => ?_)
              obtain ⟨v_to_514, v_kind_514, v_from_514, v_letters_514, v_letterMany_514, v_digits_514, v_isBeyond_514, v_suffix_514, a_atomSort_514, a_atomKind_514, a_atomValue_514, v_wrong_514, v_wrongAt_514, v_variable_514, v_number_514, v_numberKind_514, rfl, hw514_0, hw514_1, hw514_2, hw514_3, hw514_4, hw514_5, hw514_6⟩ := hw514
              have b_v_to_514 := iB v_to_514
              have b_v_kind_514 := iB v_kind_514
              have b_v_from_514 := iB v_from_514
              have b_v_letters_514 := jB v_letters_514
              have b_v_letterMany_514 := iB v_letterMany_514
              have b_v_digits_514 := jB v_digits_514
              have b_v_isBeyond_514 := iB v_isBeyond_514
              have b_v_suffix_514 := iB v_suffix_514
              have b_v_wrong_514 := iB v_wrong_514
              have b_v_wrongAt_514 := iB v_wrongAt_514
              have b_v_variable_514 := iB v_variable_514
              have b_v_number_514 := jB v_number_514
              have b_v_numberKind_514 := iB v_numberKind_514
              have b_r514 := iB r514
              refine m_if_eq (X := r514.toInt) (tgt := 524) hx hb dX10_readAct_517 (by decide) rfl (fun c517 => ?_) (fun c517 => ?_)
              · skip
                refine lv_iconst (v := 0) hx hb dX10_readAct_524 (by decide) ?_
                subst hAe
                rw [hQ]
                exact W.zret (v := 0) hx hb hr (by decide) (fun t ht hW => ⟨⟨0, _, rfl, ⟨v_to_514, v_kind_514, v_from_514, v_letters_514, v_letterMany_514, v_digits_514, v_isBeyond_514, v_suffix_514, a_act_258, a_to1, a_one_496, a_two, a_what, a_ats_6, a_atVar, a_atNumber, a_atomSort_514, a_atomKind_514, a_atomValue_514, v_wrong_514, v_wrongAt_514, v_variable_514, v_number_514, v_numberKind_514, rfl, by first | assumption | omega | (intros; omega) | decide, by first | assumption | omega | (intros; omega) | decide, by first | assumption | omega | (intros; omega) | decide, by first | assumption | omega | (intros; omega) | decide, by first | assumption | omega | (intros; omega) | decide, by first | assumption | omega | (intros; omega) | decide, by first | assumption | omega | (intros; omega) | decide, by first | assumption | omega | (intros; omega) | decide, by first | assumption | omega | (intros; omega) | decide, by first | assumption | omega | (intros; omega) | decide, by first | assumption | omega | (intros; omega) | decide, by first | assumption | exact SAME.rf _ _ | exact SAME.trans (by assumption) (by assumption) | exact SAME.trans (by assumption) (SAME.trans (by assumption) (by assumption)), by first | assumption | exact SAME.rf _ _ | exact SAME.trans (by assumption) (by assumption) | exact SAME.trans (by assumption) (SAME.trans (by assumption) (by assumption)), by first | assumption | exact SAME.rf _ _ | exact SAME.trans (by assumption) (by assumption) | exact SAME.trans (by assumption) (SAME.trans (by assumption) (by assumption)), by first | assumption | omega | (intros; omega) | decide⟩, by rw [ht]; exact hP, va_K.moved hW.alike hK, hD⟩, hS.F ht⟩) hS.2.2 dX10_readAct_525
              · skip
                refine lv_iconst (v := 1) hx hb dX10_readAct_520 (by decide) ?_
                refine lv_goto (tgt := 525) hx hb dX10_readAct_521 (by decide) ?_
                subst hAe
                rw [hQ]
                exact W.zret (v := 1) hx hb hr (by decide) (fun t ht hW => ⟨⟨1, _, rfl, ⟨v_to_514, v_kind_514, v_from_514, v_letters_514, v_letterMany_514, v_digits_514, v_isBeyond_514, v_suffix_514, a_act_258, a_to1, a_one_496, a_two, a_what, a_ats_6, a_atVar, a_atNumber, a_atomSort_514, a_atomKind_514, a_atomValue_514, v_wrong_514, v_wrongAt_514, v_variable_514, v_number_514, v_numberKind_514, rfl, by first | assumption | omega | (intros; omega) | decide, by first | assumption | omega | (intros; omega) | decide, by first | assumption | omega | (intros; omega) | decide, by first | assumption | omega | (intros; omega) | decide, by first | assumption | omega | (intros; omega) | decide, by first | assumption | omega | (intros; omega) | decide, by first | assumption | omega | (intros; omega) | decide, by first | assumption | omega | (intros; omega) | decide, by first | assumption | omega | (intros; omega) | decide, by first | assumption | omega | (intros; omega) | decide, by first | assumption | omega | (intros; omega) | decide, by first | assumption | exact SAME.rf _ _ | exact SAME.trans (by assumption) (by assumption) | exact SAME.trans (by assumption) (SAME.trans (by assumption) (by assumption)), by first | assumption | exact SAME.rf _ _ | exact SAME.trans (by assumption) (by assumption) | exact SAME.trans (by assumption) (SAME.trans (by assumption) (by assumption)), by first | assumption | exact SAME.rf _ _ | exact SAME.trans (by assumption) (by assumption) | exact SAME.trans (by assumption) (SAME.trans (by assumption) (by assumption)), by first | assumption | omega | (intros; omega) | decide⟩, by rw [ht]; exact hP, va_K.moved hW.alike hK, hD⟩, hS.F ht⟩) hS.2.2 dX10_readAct_525
        · skip
          refine lv_tableIn (tgt := 526) (off := 262) hx hb dX10_readAct_264 (by omega) (by omega) (by rw [c264]; rfl) (by decide) ?_
          refine lv_aload_n hx hb dX10_readAct_526 rfl (lv_at hl 1 rfl) ?_
          refine lv_iload_n hx hb dX10_readAct_527 rfl (lv_at hl 2 rfl) ?_
          refine call_i (As := [.int s9]) (rest := []) ⟨hx, hb, hml, hown, hts⟩ (tX10_readOne (l := l) s9 (by first | assumption | omega | (intros; omega) | decide) (by first | assumption | omega | (intros; omega) | decide) (by first | assumption | omega | (intros; omega) | decide) (by first | assumption | omega | (intros; omega) | decide) (by first | assumption | omega | (intros; omega) | decide)) (cwV 1 hts (gV (wr29 _ (List.mem_of_getElem? (i := 23) rfl)) (wr30 _ (List.mem_of_getElem? (i := 0) rfl)) (wr30 _ (List.mem_of_getElem? (i := 1) rfl)) (wr1 _ (List.mem_of_getElem? (i := 5) rfl)) (wr30 _ (List.mem_of_getElem? (i := 2) rfl))) rfl rfl rfl (by decide +kernel) ⟨Nat.le_of_ble_eq_true rfl, Nat.le_of_ble_eq_true rfl⟩) (va_recv hK hP (ci := 9) (q0 := 0) rfl rfl) hK hP hD hE hS hA rfl hl.1 rfl (Nat.le_of_ble_eq_true rfl) dX10_readAct_528 ⟨Nat.le_of_ble_eq_true rfl, Nat.le_of_ble_eq_true rfl⟩ (fun r528 w9 H locs hw528 hP hD hS => ?_)
          obtain ⟨v_to_528, v_kind_528, v_from_528, v_letters_528, v_letterMany_528, v_digits_528, v_isBeyond_528, v_suffix_528, a_one_528, v_wrong_528, v_wrongAt_528, v_variable_528, rfl, hw528_0, hw528_1, hw528_2, hw528_3, hw528_4, hw528_5⟩ := hw528
          have b_v_to_528 := iB v_to_528
          have b_v_kind_528 := iB v_kind_528
          have b_v_from_528 := iB v_from_528
          have b_v_letters_528 := jB v_letters_528
          have b_v_letterMany_528 := iB v_letterMany_528
          have b_v_digits_528 := jB v_digits_528
          have b_v_isBeyond_528 := iB v_isBeyond_528
          have b_v_suffix_528 := iB v_suffix_528
          have b_v_wrong_528 := iB v_wrong_528
          have b_v_wrongAt_528 := iB v_wrongAt_528
          have b_v_variable_528 := iB v_variable_528
          have b_r528 := iB r528
          refine m_if_eq (X := r528.toInt) (tgt := 565) hx hb dX10_readAct_531 (by decide) rfl (fun c531 => ?_) (fun c531 => ?_)
          · skip
            refine lv_iconst (v := 0) hx hb dX10_readAct_565 (by decide) ?_
            subst hAe
            rw [hQ]
            exact W.zret (v := 0) hx hb hr (by decide) (fun t ht hW => ⟨⟨0, _, rfl, ⟨v_to_528, v_kind_528, v_from_528, v_letters_528, v_letterMany_528, v_digits_528, v_isBeyond_528, v_suffix_528, a_act_258, a_to1, a_one_528, a_two, a_what, a_ats_6, a_atVar, a_atNumber, a_atomSort, a_atomKind, a_atomValue, v_wrong_528, v_wrongAt_528, v_variable_528, v_number, v_numberKind, rfl, by first | assumption | omega | (intros; omega) | decide, by first | assumption | omega | (intros; omega) | decide, by first | assumption | omega | (intros; omega) | decide, by first | assumption | omega | (intros; omega) | decide, by first | assumption | omega | (intros; omega) | decide, by first | assumption | omega | (intros; omega) | decide, by first | assumption | omega | (intros; omega) | decide, by first | assumption | omega | (intros; omega) | decide, by first | assumption | omega | (intros; omega) | decide, by first | assumption | omega | (intros; omega) | decide, by first | assumption | omega | (intros; omega) | decide, by first | assumption | exact SAME.rf _ _ | exact SAME.trans (by assumption) (by assumption) | exact SAME.trans (by assumption) (SAME.trans (by assumption) (by assumption)), by first | assumption | exact SAME.rf _ _ | exact SAME.trans (by assumption) (by assumption) | exact SAME.trans (by assumption) (SAME.trans (by assumption) (by assumption)), by first | assumption | exact SAME.rf _ _ | exact SAME.trans (by assumption) (by assumption) | exact SAME.trans (by assumption) (SAME.trans (by assumption) (by assumption)), by first | assumption | omega | (intros; omega) | decide⟩, by rw [ht]; exact hP, va_K.moved hW.alike hK, hD⟩, hS.F ht⟩) hS.2.2 dX10_readAct_566
          · skip
            refine lv_aload_n hx hb dX10_readAct_534 rfl (lv_at hl 1 rfl) ?_
            refine lv_iload_n hx hb dX10_readAct_535 rfl (lv_at hl 2 rfl) ?_
            refine lv_iconst (v := 0) hx hb dX10_readAct_536 (by decide) ?_
            refine call_i (As := [.int s9, .int 0]) (rest := []) ⟨hx, hb, hml, hown, hts⟩ (tX10_readAt (l := l) s9 (0 : Int32) (by first | assumption | omega | (intros; omega) | decide) (by first | assumption | omega | (intros; omega) | decide) (by first | assumption | omega | (intros; omega) | decide) (by first | assumption | omega | (intros; omega) | decide) (by first | assumption | omega | (intros; omega) | decide) (by first | assumption | omega | (intros; omega) | decide) (by first | assumption | omega | (intros; omega) | decide) (by first | assumption | omega | (intros; omega) | decide)) (cwV 2 hts (gV (wr26 _ (List.mem_of_getElem? (i := 11) rfl)) (wr26 _ (List.mem_of_getElem? (i := 12) rfl)) (wr26 _ (List.mem_of_getElem? (i := 13) rfl)) (wr1 _ (List.mem_of_getElem? (i := 5) rfl)) (wr26 _ (List.mem_of_getElem? (i := 14) rfl))) rfl rfl rfl (by decide +kernel) ⟨Nat.le_of_ble_eq_true rfl, Nat.le_of_ble_eq_true rfl⟩) (va_recv hK hP (ci := 9) (q0 := 0) rfl rfl) hK hP hD hE hS hA rfl hl.1 rfl (Nat.le_of_ble_eq_true rfl) dX10_readAct_537 ⟨Nat.le_of_ble_eq_true rfl, Nat.le_of_ble_eq_true rfl⟩ (fun r537 w9 H locs hw537 hP hD hS => ?_)
            obtain ⟨v_to_537, v_kind_537, v_from_537, v_letters_537, v_letterMany_537, v_digits_537, v_isBeyond_537, v_suffix_537, a_atVar_537, a_atNumber_537, v_wrong_537, v_wrongAt_537, v_variable_537, v_number_537, v_numberKind_537, rfl, hw537_0, hw537_1, hw537_2, hw537_3, hw537_4, hw537_5, hw537_6⟩ := hw537
            have b_v_to_537 := iB v_to_537
            have b_v_kind_537 := iB v_kind_537
            have b_v_from_537 := iB v_from_537
            have b_v_letters_537 := jB v_letters_537
            have b_v_letterMany_537 := iB v_letterMany_537
            have b_v_digits_537 := jB v_digits_537
            have b_v_isBeyond_537 := iB v_isBeyond_537
            have b_v_suffix_537 := iB v_suffix_537
            have b_v_wrong_537 := iB v_wrong_537
            have b_v_wrongAt_537 := iB v_wrongAt_537
            have b_v_variable_537 := iB v_variable_537
            have b_v_number_537 := jB v_number_537
            have b_v_numberKind_537 := iB v_numberKind_537
            have b_r537 := iB r537
            refine m_if_eq (X := r537.toInt) (tgt := 565) hx hb dX10_readAct_540 (by decide) rfl (fun c540 => ?_) (fun c540 => ?_)
            · skip
              refine lv_iconst (v := 0) hx hb dX10_readAct_565 (by decide) ?_
              subst hAe
              rw [hQ]
              exact W.zret (v := 0) hx hb hr (by decide) (fun t ht hW => ⟨⟨0, _, rfl, ⟨v_to_537, v_kind_537, v_from_537, v_letters_537, v_letterMany_537, v_digits_537, v_isBeyond_537, v_suffix_537, a_act_258, a_to1, a_one_528, a_two, a_what, a_ats_6, a_atVar_537, a_atNumber_537, a_atomSort, a_atomKind, a_atomValue, v_wrong_537, v_wrongAt_537, v_variable_537, v_number_537, v_numberKind_537, rfl, by first | assumption | omega | (intros; omega) | decide, by first | assumption | omega | (intros; omega) | decide, by first | assumption | omega | (intros; omega) | decide, by first | assumption | omega | (intros; omega) | decide, by first | assumption | omega | (intros; omega) | decide, by first | assumption | omega | (intros; omega) | decide, by first | assumption | omega | (intros; omega) | decide, by first | assumption | omega | (intros; omega) | decide, by first | assumption | omega | (intros; omega) | decide, by first | assumption | omega | (intros; omega) | decide, by first | assumption | omega | (intros; omega) | decide, by first | assumption | exact SAME.rf _ _ | exact SAME.trans (by assumption) (by assumption) | exact SAME.trans (by assumption) (SAME.trans (by assumption) (by assumption)), by first | assumption | exact SAME.rf _ _ | exact SAME.trans (by assumption) (by assumption) | exact SAME.trans (by assumption) (SAME.trans (by assumption) (by assumption)), by first | assumption | exact SAME.rf _ _ | exact SAME.trans (by assumption) (by assumption) | exact SAME.trans (by assumption) (SAME.trans (by assumption) (by assumption)), by first | assumption | omega | (intros; omega) | decide⟩, by rw [ht]; exact hP, va_K.moved hW.alike hK, hD⟩, hS.F ht⟩) hS.2.2 dX10_readAct_566
            · skip
              refine lv_aload_n hx hb dX10_readAct_543 rfl (lv_at hl 1 rfl) ?_
              refine lv_iload_n hx hb dX10_readAct_544 rfl (lv_at hl 2 rfl) ?_
              refine lv_iconst (v := 1) hx hb dX10_readAct_545 (by decide) ?_
              refine call_i (As := [.int s9, .int 1]) (rest := []) ⟨hx, hb, hml, hown, hts⟩ (tX10_readAt (l := l) s9 (1 : Int32) (by first | assumption | omega | (intros; omega) | decide) (by first | assumption | omega | (intros; omega) | decide) (by first | assumption | omega | (intros; omega) | decide) (by first | assumption | omega | (intros; omega) | decide) (by first | assumption | omega | (intros; omega) | decide) (by first | assumption | omega | (intros; omega) | decide) (by first | assumption | omega | (intros; omega) | decide) (by first | assumption | omega | (intros; omega) | decide)) (cwV 2 hts (gV (wr26 _ (List.mem_of_getElem? (i := 11) rfl)) (wr26 _ (List.mem_of_getElem? (i := 12) rfl)) (wr26 _ (List.mem_of_getElem? (i := 13) rfl)) (wr1 _ (List.mem_of_getElem? (i := 5) rfl)) (wr26 _ (List.mem_of_getElem? (i := 14) rfl))) rfl rfl rfl (by decide +kernel) ⟨Nat.le_of_ble_eq_true rfl, Nat.le_of_ble_eq_true rfl⟩) (va_recv hK hP (ci := 9) (q0 := 0) rfl rfl) hK hP hD hE hS hA rfl hl.1 rfl (Nat.le_of_ble_eq_true rfl) dX10_readAct_546 ⟨Nat.le_of_ble_eq_true rfl, Nat.le_of_ble_eq_true rfl⟩ (fun r546 w9 H locs hw546 hP hD hS => ?_)
              obtain ⟨v_to_546, v_kind_546, v_from_546, v_letters_546, v_letterMany_546, v_digits_546, v_isBeyond_546, v_suffix_546, a_atVar_546, a_atNumber_546, v_wrong_546, v_wrongAt_546, v_variable_546, v_number_546, v_numberKind_546, rfl, hw546_0, hw546_1, hw546_2, hw546_3, hw546_4, hw546_5, hw546_6⟩ := hw546
              have b_v_to_546 := iB v_to_546
              have b_v_kind_546 := iB v_kind_546
              have b_v_from_546 := iB v_from_546
              have b_v_letters_546 := jB v_letters_546
              have b_v_letterMany_546 := iB v_letterMany_546
              have b_v_digits_546 := jB v_digits_546
              have b_v_isBeyond_546 := iB v_isBeyond_546
              have b_v_suffix_546 := iB v_suffix_546
              have b_v_wrong_546 := iB v_wrong_546
              have b_v_wrongAt_546 := iB v_wrongAt_546
              have b_v_variable_546 := iB v_variable_546
              have b_v_number_546 := jB v_number_546
              have b_v_numberKind_546 := iB v_numberKind_546
              have b_r546 := iB r546
              refine m_if_eq (X := r546.toInt) (tgt := 565) hx hb dX10_readAct_549 (by decide) rfl (fun c549 => ?_) (fun c549 => ?_)
              · skip
                refine lv_iconst (v := 0) hx hb dX10_readAct_565 (by decide) ?_
                subst hAe
                rw [hQ]
                exact W.zret (v := 0) hx hb hr (by decide) (fun t ht hW => ⟨⟨0, _, rfl, ⟨v_to_546, v_kind_546, v_from_546, v_letters_546, v_letterMany_546, v_digits_546, v_isBeyond_546, v_suffix_546, a_act_258, a_to1, a_one_528, a_two, a_what, a_ats_6, a_atVar_546, a_atNumber_546, a_atomSort, a_atomKind, a_atomValue, v_wrong_546, v_wrongAt_546, v_variable_546, v_number_546, v_numberKind_546, rfl, by first | assumption | omega | (intros; omega) | decide, by first | assumption | omega | (intros; omega) | decide, by first | assumption | omega | (intros; omega) | decide, by first | assumption | omega | (intros; omega) | decide, by first | assumption | omega | (intros; omega) | decide, by first | assumption | omega | (intros; omega) | decide, by first | assumption | omega | (intros; omega) | decide, by first | assumption | omega | (intros; omega) | decide, by first | assumption | omega | (intros; omega) | decide, by first | assumption | omega | (intros; omega) | decide, by first | assumption | omega | (intros; omega) | decide, by first | assumption | exact SAME.rf _ _ | exact SAME.trans (by assumption) (by assumption) | exact SAME.trans (by assumption) (SAME.trans (by assumption) (by assumption)), by first | assumption | exact SAME.rf _ _ | exact SAME.trans (by assumption) (by assumption) | exact SAME.trans (by assumption) (SAME.trans (by assumption) (by assumption)), by first | assumption | exact SAME.rf _ _ | exact SAME.trans (by assumption) (by assumption) | exact SAME.trans (by assumption) (SAME.trans (by assumption) (by assumption)), by first | assumption | omega | (intros; omega) | decide⟩, by rw [ht]; exact hP, va_K.moved hW.alike hK, hD⟩, hS.F ht⟩) hS.2.2 dX10_readAct_566
              · skip
                refine lv_aload_n hx hb dX10_readAct_552 rfl (lv_at hl 1 rfl) ?_
                refine lv_iload_n hx hb dX10_readAct_553 rfl (lv_at hl 2 rfl) ?_
                refine lv_iconst (v := 2) hx hb dX10_readAct_554 (by decide) ?_
                refine call_i (As := [.int s9, .int 2]) (rest := []) ⟨hx, hb, hml, hown, hts⟩ (tX10_manyAts (l := l) s9 (2 : Int32) (by first | assumption | omega | (intros; omega) | decide) (by first | assumption | omega | (intros; omega) | decide) (by first | assumption | omega | (intros; omega) | decide) (by first | assumption | omega | (intros; omega) | decide) (by first | assumption | omega | (intros; omega) | decide)) (cwV 2 hts (gV (wr30 _ (List.mem_of_getElem? (i := 15) rfl)) (wr30 _ (List.mem_of_getElem? (i := 16) rfl)) (wr30 _ (List.mem_of_getElem? (i := 17) rfl)) (wr1 _ (List.mem_of_getElem? (i := 5) rfl)) (wr30 _ (List.mem_of_getElem? (i := 18) rfl))) rfl rfl rfl (by decide +kernel) ⟨Nat.le_of_ble_eq_true rfl, Nat.le_of_ble_eq_true rfl⟩) (va_recv hK hP (ci := 9) (q0 := 0) rfl rfl) hK hP hD hE hS hA rfl hl.1 rfl (Nat.le_of_ble_eq_true rfl) dX10_readAct_555 ⟨Nat.le_of_ble_eq_true rfl, Nat.le_of_ble_eq_true rfl⟩ (fun r555 w9 H locs hw555 hP hD hS => ?_)
                obtain ⟨a_ats_555, rfl, hw555_0, hw555_1, hw555_2, hw555_3⟩ := hw555
                have b_r555 := iB r555
                refine m_if_eq (X := r555.toInt) (tgt := 565) hx hb dX10_readAct_558 (by decide) rfl (fun c558 => ?_) (fun c558 => ?_)
                · skip
                  refine lv_iconst (v := 0) hx hb dX10_readAct_565 (by decide) ?_
                  subst hAe
                  rw [hQ]
                  exact W.zret (v := 0) hx hb hr (by decide) (fun t ht hW => ⟨⟨0, _, rfl, ⟨v_to_546, v_kind_546, v_from_546, v_letters_546, v_letterMany_546, v_digits_546, v_isBeyond_546, v_suffix_546, a_act_258, a_to1, a_one_528, a_two, a_what, a_ats_555, a_atVar_546, a_atNumber_546, a_atomSort, a_atomKind, a_atomValue, v_wrong_546, v_wrongAt_546, v_variable_546, v_number_546, v_numberKind_546, rfl, by first | assumption | omega | (intros; omega) | decide, by first | assumption | omega | (intros; omega) | decide, by first | assumption | omega | (intros; omega) | decide, by first | assumption | omega | (intros; omega) | decide, by first | assumption | omega | (intros; omega) | decide, by first | assumption | omega | (intros; omega) | decide, by first | assumption | omega | (intros; omega) | decide, by first | assumption | omega | (intros; omega) | decide, by first | assumption | omega | (intros; omega) | decide, by first | assumption | omega | (intros; omega) | decide, by first | assumption | omega | (intros; omega) | decide, by first | assumption | exact SAME.rf _ _ | exact SAME.trans (by assumption) (by assumption) | exact SAME.trans (by assumption) (SAME.trans (by assumption) (by assumption)), by first | assumption | exact SAME.rf _ _ | exact SAME.trans (by assumption) (by assumption) | exact SAME.trans (by assumption) (SAME.trans (by assumption) (by assumption)), by first | assumption | exact SAME.rf _ _ | exact SAME.trans (by assumption) (by assumption) | exact SAME.trans (by assumption) (SAME.trans (by assumption) (by assumption)), by first | assumption | omega | (intros; omega) | decide⟩, by rw [ht]; exact hP, va_K.moved hW.alike hK, hD⟩, hS.F ht⟩) hS.2.2 dX10_readAct_566
                · skip
                  refine lv_iconst (v := 1) hx hb dX10_readAct_561 (by decide) ?_
                  refine lv_goto (tgt := 566) hx hb dX10_readAct_562 (by decide) ?_
                  subst hAe
                  rw [hQ]
                  exact W.zret (v := 1) hx hb hr (by decide) (fun t ht hW => ⟨⟨1, _, rfl, ⟨v_to_546, v_kind_546, v_from_546, v_letters_546, v_letterMany_546, v_digits_546, v_isBeyond_546, v_suffix_546, a_act_258, a_to1, a_one_528, a_two, a_what, a_ats_555, a_atVar_546, a_atNumber_546, a_atomSort, a_atomKind, a_atomValue, v_wrong_546, v_wrongAt_546, v_variable_546, v_number_546, v_numberKind_546, rfl, by first | assumption | omega | (intros; omega) | decide, by first | assumption | omega | (intros; omega) | decide, by first | assumption | omega | (intros; omega) | decide, by first | assumption | omega | (intros; omega) | decide, by first | assumption | omega | (intros; omega) | decide, by first | assumption | omega | (intros; omega) | decide, by first | assumption | omega | (intros; omega) | decide, by first | assumption | omega | (intros; omega) | decide, by first | assumption | omega | (intros; omega) | decide, by first | assumption | omega | (intros; omega) | decide, by first | assumption | omega | (intros; omega) | decide, by first | assumption | exact SAME.rf _ _ | exact SAME.trans (by assumption) (by assumption) | exact SAME.trans (by assumption) (SAME.trans (by assumption) (by assumption)), by first | assumption | exact SAME.rf _ _ | exact SAME.trans (by assumption) (by assumption) | exact SAME.trans (by assumption) (SAME.trans (by assumption) (by assumption)), by first | assumption | exact SAME.rf _ _ | exact SAME.trans (by assumption) (by assumption) | exact SAME.trans (by assumption) (SAME.trans (by assumption) (by assumption)), by first | assumption | omega | (intros; omega) | decide⟩, by rw [ht]; exact hP, va_K.moved hW.alike hK, hD⟩, hS.F ht⟩) hS.2.2 dX10_readAct_566
        · skip
          refine lv_tableIn (tgt := 567) (off := 303) hx hb dX10_readAct_264 (by omega) (by omega) (by rw [c264]; rfl) (by decide) ?_
          refine lv_aload_n hx hb dX10_readAct_567 rfl (lv_at hl 1 rfl) ?_
          refine lv_iload_n hx hb dX10_readAct_568 rfl (lv_at hl 2 rfl) ?_
          refine call_i (As := [.int s9]) (rest := []) ⟨hx, hb, hml, hown, hts⟩ (tX10_readOne (l := l) s9 (by first | assumption | omega | (intros; omega) | decide) (by first | assumption | omega | (intros; omega) | decide) (by first | assumption | omega | (intros; omega) | decide) (by first | assumption | omega | (intros; omega) | decide) (by first | assumption | omega | (intros; omega) | decide)) (cwV 1 hts (gV (wr29 _ (List.mem_of_getElem? (i := 23) rfl)) (wr30 _ (List.mem_of_getElem? (i := 0) rfl)) (wr30 _ (List.mem_of_getElem? (i := 1) rfl)) (wr1 _ (List.mem_of_getElem? (i := 5) rfl)) (wr30 _ (List.mem_of_getElem? (i := 2) rfl))) rfl rfl rfl (by decide +kernel) ⟨Nat.le_of_ble_eq_true rfl, Nat.le_of_ble_eq_true rfl⟩) (va_recv hK hP (ci := 9) (q0 := 0) rfl rfl) hK hP hD hE hS hA rfl hl.1 rfl (Nat.le_of_ble_eq_true rfl) dX10_readAct_569 ⟨Nat.le_of_ble_eq_true rfl, Nat.le_of_ble_eq_true rfl⟩ (fun r569 w9 H locs hw569 hP hD hS => ?_)
          obtain ⟨v_to_569, v_kind_569, v_from_569, v_letters_569, v_letterMany_569, v_digits_569, v_isBeyond_569, v_suffix_569, a_one_569, v_wrong_569, v_wrongAt_569, v_variable_569, rfl, hw569_0, hw569_1, hw569_2, hw569_3, hw569_4, hw569_5⟩ := hw569
          have b_v_to_569 := iB v_to_569
          have b_v_kind_569 := iB v_kind_569
          have b_v_from_569 := iB v_from_569
          have b_v_letters_569 := jB v_letters_569
          have b_v_letterMany_569 := iB v_letterMany_569
          have b_v_digits_569 := jB v_digits_569
          have b_v_isBeyond_569 := iB v_isBeyond_569
          have b_v_suffix_569 := iB v_suffix_569
          have b_v_wrong_569 := iB v_wrong_569
          have b_v_wrongAt_569 := iB v_wrongAt_569
          have b_v_variable_569 := iB v_variable_569
          have b_r569 := iB r569
          subst hAe
          rw [hQ]
          exact W.zret (v := r569) hx hb hr (nbool (by first | omega | decide)) (fun t ht hW => ⟨⟨r569, _, rfl, ⟨v_to_569, v_kind_569, v_from_569, v_letters_569, v_letterMany_569, v_digits_569, v_isBeyond_569, v_suffix_569, a_act_258, a_to1, a_one_569, a_two, a_what, a_ats_6, a_atVar, a_atNumber, a_atomSort, a_atomKind, a_atomValue, v_wrong_569, v_wrongAt_569, v_variable_569, v_number, v_numberKind, rfl, by first | assumption | omega | (intros; omega) | decide, by first | assumption | omega | (intros; omega) | decide, by first | assumption | omega | (intros; omega) | decide, by first | assumption | omega | (intros; omega) | decide, by first | assumption | omega | (intros; omega) | decide, by first | assumption | omega | (intros; omega) | decide, by first | assumption | omega | (intros; omega) | decide, by first | assumption | omega | (intros; omega) | decide, by first | assumption | omega | (intros; omega) | decide, by first | assumption | omega | (intros; omega) | decide, by first | assumption | omega | (intros; omega) | decide, by first | assumption | exact SAME.rf _ _ | exact SAME.trans (by assumption) (by assumption) | exact SAME.trans (by assumption) (SAME.trans (by assumption) (by assumption)), by first | assumption | exact SAME.rf _ _ | exact SAME.trans (by assumption) (by assumption) | exact SAME.trans (by assumption) (SAME.trans (by assumption) (by assumption)), by first | assumption | exact SAME.rf _ _ | exact SAME.trans (by assumption) (by assumption) | exact SAME.trans (by assumption) (SAME.trans (by assumption) (by assumption)), by first | assumption | omega | (intros; omega) | decide⟩, by rw [ht]; exact hP, va_K.moved hW.alike hK, hD⟩, hS.F ht⟩) hS.2.2 dX10_readAct_572
      · skip
        refine lv_aload_n hx hb dX10_readAct_246 rfl (lv_at hl 1 rfl) ?_
        refine lv_iconst (v := 2) hx hb dX10_readAct_247 (by decide) ?_
        refine call_i (As := [.int 2]) (rest := []) ⟨hx, hb, hml, hown, hts⟩ (tX10_bad (l := l) (2 : Int32)) (cwV 1 hts (gV (wr25 _ (List.mem_of_getElem? (i := 0) rfl)) (wr25 _ (List.mem_of_getElem? (i := 1) rfl)) (wr25 _ (List.mem_of_getElem? (i := 2) rfl)) (wr1 _ (List.mem_of_getElem? (i := 5) rfl)) (wr25 _ (List.mem_of_getElem? (i := 3) rfl))) rfl rfl rfl (by decide +kernel) ⟨Nat.le_of_ble_eq_true rfl, Nat.le_of_ble_eq_true rfl⟩) (va_recv hK hP (ci := 9) (q0 := 0) rfl rfl) hK hP hD hE hS hA rfl hl.1 rfl (Nat.le_of_ble_eq_true rfl) dX10_readAct_248 ⟨Nat.le_of_ble_eq_true rfl, Nat.le_of_ble_eq_true rfl⟩ (fun r248 w9 H locs hw248 hP hD hS => ?_)
        obtain ⟨v_wrong_248, v_wrongAt_248, rfl, hw248_0⟩ := hw248
        have b_v_wrong_248 := iB v_wrong_248
        have b_v_wrongAt_248 := iB v_wrongAt_248
        have b_r248 := iB r248
        subst hAe
        rw [hQ]
        exact W.zret (v := r248) hx hb hr (nbool (by first | omega | decide)) (fun t ht hW => ⟨⟨r248, _, rfl, ⟨v_to, v_kind, v_from, v_letters, v_letterMany, v_digits, v_isBeyond, v_suffix, a_act, a_to1, a_one, a_two, a_what, a_ats_6, a_atVar, a_atNumber, a_atomSort, a_atomKind, a_atomValue, v_wrong_248, v_wrongAt_248, v_variable, v_number, v_numberKind, rfl, by first | assumption | omega | (intros; omega) | decide, by first | assumption | omega | (intros; omega) | decide, by first | assumption | omega | (intros; omega) | decide, by first | assumption | omega | (intros; omega) | decide, by first | assumption | omega | (intros; omega) | decide, by first | assumption | omega | (intros; omega) | decide, by first | assumption | omega | (intros; omega) | decide, by first | assumption | omega | (intros; omega) | decide, by first | assumption | omega | (intros; omega) | decide, by first | assumption | omega | (intros; omega) | decide, by first | assumption | omega | (intros; omega) | decide, by first | assumption | exact SAME.rf _ _ | exact SAME.trans (by assumption) (by assumption) | exact SAME.trans (by assumption) (SAME.trans (by assumption) (by assumption)), by first | assumption | exact SAME.rf _ _ | exact SAME.trans (by assumption) (by assumption) | exact SAME.trans (by assumption) (SAME.trans (by assumption) (by assumption)), by first | assumption | exact SAME.rf _ _ | exact SAME.trans (by assumption) (by assumption) | exact SAME.trans (by assumption) (SAME.trans (by assumption) (by assumption)), by first | assumption | omega | (intros; omega) | decide⟩, by rw [ht]; exact hP, va_K.moved hW.alike hK, hD⟩, hS.F ht⟩) hS.2.2 dX10_readAct_251
    refine m_icmp_ne (X := v_kind.toInt) (Y := 2) (tgt := 240) hx hb dX10_readAct_227 (by decide) rfl (by decide) (fun c227 => ?_) (fun c227 => ?_)
    · skip
      refine lv_iconst (v := 0) hx hb dX10_readAct_240 (by decide) ?_
      exact J241 (0 : Int32) H locs ls (by first | assumption | omega | (intros; omega) | decide) hP hD hS (lv_sub hl [0, 1] rfl)
    · skip
      refine lv_aload_n hx hb dX10_readAct_230 rfl (lv_at hl 0 rfl) ?_
      refine va_get (D := D) (ci := 9) (v := .long v_letters) (C := RX10) (T := TX10) (N := 71) hx hb hts hin hown hK hP 0 rfl rfl 7 (by decide) k_23_1 (fun _ h9 => h9) rfl dX10_readAct_231 ?_
      refine call_iSP (As := [.long v_letters]) (rest := []) ⟨hx, hb, hml, hown, hts⟩ (tX10_firstOf (l := l) v_letters) (va_cwS 1 hts (gS (wr24 _ (List.mem_of_getElem? (i := 21) rfl)) (wr24 _ (List.mem_of_getElem? (i := 22) rfl)) (wr1 _ (List.mem_of_getElem? (i := 5) rfl)) (wr24 _ (List.mem_of_getElem? (i := 23) rfl))) rfl rfl rfl (by decide +kernel) ⟨Nat.le_of_ble_eq_true rfl, Nat.le_of_ble_eq_true rfl⟩) (hK.sub [] rfl) hP hD hE hS hA rfl hl.1 rfl (Nat.le_of_ble_eq_true rfl) dX10_readAct_234 ⟨Nat.le_of_ble_eq_true rfl, Nat.le_of_ble_eq_true rfl⟩ (fun r234 w9 H locs hw234 hP hD hS => ?_)
      obtain ⟨rfl, hw234_0⟩ := hw234
      have b_r234 := iB r234
      refine lv_goto (tgt := 241) hx hb dX10_readAct_237 (by decide) ?_
      exact J241 r234 H locs ls (by first | assumption | omega | (intros; omega) | decide) hP hD hS (lv_sub hl [0, 1] rfl)
  · skip
    refine lv_aload_n hx hb dX10_readAct_14 rfl (lv_at hl 0 rfl) ?_
    refine call_i (As := []) (rest := []) ⟨hx, hb, hml, hown, hts⟩ (tX10_readVar (l := l)  (by first | assumption | omega | (intros; omega) | decide) (by first | assumption | omega | (intros; omega) | decide)) (cwV 0 hts (gV (wr25 _ (List.mem_of_getElem? (i := 23) rfl)) (wr26 _ (List.mem_of_getElem? (i := 0) rfl)) (wr26 _ (List.mem_of_getElem? (i := 1) rfl)) (wr1 _ (List.mem_of_getElem? (i := 5) rfl)) (wr26 _ (List.mem_of_getElem? (i := 2) rfl))) rfl rfl rfl (by decide +kernel) ⟨Nat.le_of_ble_eq_true rfl, Nat.le_of_ble_eq_true rfl⟩) (va_recv hK hP (ci := 9) (q0 := 0) rfl rfl) hK hP hD hE hS hA rfl hl.1 rfl (Nat.le_of_ble_eq_true rfl) dX10_readAct_15 ⟨Nat.le_of_ble_eq_true rfl, Nat.le_of_ble_eq_true rfl⟩ (fun r15 w9 H locs hw15 hP hD hS => ?_)
    obtain ⟨v_to_15, v_kind_15, v_from_15, v_letters_15, v_letterMany_15, v_digits_15, v_isBeyond_15, v_suffix_15, v_wrong_15, v_wrongAt_15, v_variable_15, rfl, hw15_0, hw15_1, hw15_2, hw15_3, hw15_4⟩ := hw15
    have b_v_to_15 := iB v_to_15
    have b_v_kind_15 := iB v_kind_15
    have b_v_from_15 := iB v_from_15
    have b_v_letters_15 := jB v_letters_15
    have b_v_letterMany_15 := iB v_letterMany_15
    have b_v_digits_15 := jB v_digits_15
    have b_v_isBeyond_15 := iB v_isBeyond_15
    have b_v_suffix_15 := iB v_suffix_15
    have b_v_wrong_15 := iB v_wrong_15
    have b_v_wrongAt_15 := iB v_wrongAt_15
    have b_v_variable_15 := iB v_variable_15
    have b_r15 := iB r15
    refine lv_pop hx hb dX10_readAct_18 rfl ?_
    refine lv_aload_n hx hb dX10_readAct_19 rfl (lv_at hl 0 rfl) ?_
    refine va_get (D := D) (ci := 9) (v := .int v_variable_15) (C := RX10) (T := TX10) (N := 71) hx hb hts hin hown hK hP 0 rfl rfl 33 (by decide) k_25_22 (fun _ h9 => h9) rfl dX10_readAct_20 ?_
    refine lv_istore_n (lv' := [(2, .int v_variable_15), (0, .ref (q 0)), (1, .int s9)]) hx hb dX10_readAct_23 rfl hl (by decide) rfl (fun ls hl => ?_)
    refine lv_aload_n hx hb dX10_readAct_24 rfl (lv_at hl 1 rfl) ?_
    refine lv_bipush (v := 91) hx hb dX10_readAct_25 (by decide) ?_
    refine call_i (As := [.int 91]) (rest := []) ⟨hx, hb, hml, hown, hts⟩ (tX10_isSign (l := l) (91 : Int32)) (cwV 1 hts (gV (wr26 _ (List.mem_of_getElem? (i := 3) rfl)) (wr26 _ (List.mem_of_getElem? (i := 4) rfl)) (wr26 _ (List.mem_of_getElem? (i := 5) rfl)) (wr1 _ (List.mem_of_getElem? (i := 5) rfl)) (wr26 _ (List.mem_of_getElem? (i := 6) rfl))) rfl rfl rfl (by decide +kernel) ⟨Nat.le_of_ble_eq_true rfl, Nat.le_of_ble_eq_true rfl⟩) (va_recv hK hP (ci := 9) (q0 := 0) rfl rfl) hK hP hD hE hS hA rfl hl.1 rfl (Nat.le_of_ble_eq_true rfl) dX10_readAct_27 ⟨Nat.le_of_ble_eq_true rfl, Nat.le_of_ble_eq_true rfl⟩ (fun r27 w9 H locs hw27 hP hD hS => ?_)
    obtain ⟨rfl, hw27_0⟩ := hw27
    have b_r27 := iB r27
    refine m_if_eq (X := r27.toInt) (tgt := 78) hx hb dX10_readAct_30 (by decide) rfl (fun c30 => ?_) (fun c30 => ?_)
    · skip
      refine lv_aload_n hx hb dX10_readAct_78 rfl (lv_at hl 1 rfl) ?_
      refine lv_bipush (v := 61) hx hb dX10_readAct_79 (by decide) ?_
      refine call_i (As := [.int 61]) (rest := []) ⟨hx, hb, hml, hown, hts⟩ (tX10_sign (l := l) (61 : Int32) (by first | assumption | omega | (intros; omega) | decide)) (cwV 1 hts (gV (wr26 _ (List.mem_of_getElem? (i := 15) rfl)) (wr26 _ (List.mem_of_getElem? (i := 16) rfl)) (wr26 _ (List.mem_of_getElem? (i := 17) rfl)) (wr1 _ (List.mem_of_getElem? (i := 5) rfl)) (wr26 _ (List.mem_of_getElem? (i := 18) rfl))) rfl rfl rfl (by decide +kernel) ⟨Nat.le_of_ble_eq_true rfl, Nat.le_of_ble_eq_true rfl⟩) (va_recv hK hP (ci := 9) (q0 := 0) rfl rfl) hK hP hD hE hS hA rfl hl.1 rfl (Nat.le_of_ble_eq_true rfl) dX10_readAct_81 ⟨Nat.le_of_ble_eq_true rfl, Nat.le_of_ble_eq_true rfl⟩ (fun r81 w9 H locs hw81 hP hD hS => ?_)
      obtain ⟨v_to_81, v_kind_81, v_from_81, v_letters_81, v_letterMany_81, v_digits_81, v_isBeyond_81, v_suffix_81, v_wrong_81, v_wrongAt_81, rfl, hw81_0, hw81_1, hw81_2, hw81_3⟩ := hw81
      have b_v_to_81 := iB v_to_81
      have b_v_kind_81 := iB v_kind_81
      have b_v_from_81 := iB v_from_81
      have b_v_letters_81 := jB v_letters_81
      have b_v_letterMany_81 := iB v_letterMany_81
      have b_v_digits_81 := jB v_digits_81
      have b_v_isBeyond_81 := iB v_isBeyond_81
      have b_v_suffix_81 := iB v_suffix_81
      have b_v_wrong_81 := iB v_wrong_81
      have b_v_wrongAt_81 := iB v_wrongAt_81
      have b_r81 := iB r81
      refine m_if_ne (X := r81.toInt) (tgt := 89) hx hb dX10_readAct_84 (by decide) rfl (fun c84 => ?_) (fun c84 => ?_)
      · skip
        refine lv_aload_n hx hb dX10_readAct_89 rfl (lv_at hl 1 rfl) ?_
        refine va_get (D := D) (ci := 9) (v := .ref (q 8)) (C := RX10) (T := TX10) (N := 71) hx hb hts hin hown hK hP 0 rfl rfl 21 (by decide) k_5_14 (fun _ h9 => h9) rfl dX10_readAct_90 ?_
        refine lv_iload_n hx hb dX10_readAct_93 rfl (lv_at hl 2 rfl) ?_
        refine lv_iload_n hx hb dX10_readAct_94 rfl (lv_at hl 0 rfl) ?_
        refine va_iast hx hb hK hP hD hS 8 0 rfl rfl (ix (by omega) (by omega)) dX10_readAct_95 (fun H locs hP hD hS => ?_)
        obtain ⟨a_to1_95, e_a_to1_95⟩ : ∃ g, g = upd a_to1 s9.toNatClampNeg v_variable_15 := ⟨_, rfl⟩
        have hP : va_P D vwCl (mw cs q v_thrown a_tape v_taped v_size v_to_81 v_kind_81 v_from_81 v_letters_81 v_letterMany_81 v_digits_81 v_isBeyond_81 v_suffix_81 v_steps v_fault v_hasProgram a_text a_act a_guess a_take a_begin a_finish a_to1_95 a_one a_two a_what a_ats_6 a_atVar a_atNumber a_atomSort a_atomKind a_atomValue v_wrong_81 v_wrongAt_81 v_variable_15 v_number v_numberKind v_takes a_out v_outed a_varSort a_varKind a_varValue a_creature v_creatures a_arrayClass a_arrayFrom a_arrayLong v_arrays v_cells a_cellSort a_cellKind a_cellValue a_asideSort a_asideKind a_asideValue a_outcome v_marks v_came v_guessed v_right v_taken a_markSort a_markKind a_markClass a_markValue v_sort v_kindAt v_value a_index v_reached v_looked) H := by rw [e_a_to1_95]; exact hP
        have hD : va_D A (mw cs q v_thrown a_tape v_taped v_size v_to_81 v_kind_81 v_from_81 v_letters_81 v_letterMany_81 v_digits_81 v_isBeyond_81 v_suffix_81 v_steps v_fault v_hasProgram a_text a_act a_guess a_take a_begin a_finish a_to1_95 a_one a_two a_what a_ats_6 a_atVar a_atNumber a_atomSort a_atomKind a_atomValue v_wrong_81 v_wrongAt_81 v_variable_15 v_number v_numberKind v_takes a_out v_outed a_varSort a_varKind a_varValue a_creature v_creatures a_arrayClass a_arrayFrom a_arrayLong v_arrays v_cells a_cellSort a_cellKind a_cellValue a_asideSort a_asideKind a_asideValue a_outcome v_marks v_came v_guessed v_right v_taken a_markSort a_markKind a_markClass a_markValue v_sort v_kindAt v_value a_index v_reached v_looked) := by rw [e_a_to1_95]; exact hD
        have ht95 : R25 a_to1_95 := R25.upd p_9 (by omega) (by omega) e_a_to1_95
        refine lv_aload_n hx hb dX10_readAct_96 rfl (lv_at hl 1 rfl) ?_
        refine va_get (D := D) (ci := 9) (v := .int v_kind_81) (C := RX10) (T := TX10) (N := 71) hx hb hts hin hown hK hP 0 rfl rfl 5 (by decide) k_22_15 (fun _ h9 => h9) rfl dX10_readAct_97 ?_
        refine lv_iconst (v := 2) hx hb dX10_readAct_100 (by decide) ?_
        have J115 : ∀ (s0_115 : Int32) (H : Heap) (locs : List Loc) (ls : Array Slot), (s0_115.toInt = 0 ∨ s0_115.toInt = 4 ∨ s0_115.toInt = 6 ∨ (8 ≤ s0_115.toInt ∧ s0_115.toInt ≤ 16)) → va_P D vwCl (mw cs q v_thrown a_tape v_taped v_size v_to_81 v_kind_81 v_from_81 v_letters_81 v_letterMany_81 v_digits_81 v_isBeyond_81 v_suffix_81 v_steps v_fault v_hasProgram a_text a_act a_guess a_take a_begin a_finish a_to1_95 a_one a_two a_what a_ats_6 a_atVar a_atNumber a_atomSort a_atomKind a_atomValue v_wrong_81 v_wrongAt_81 v_variable_15 v_number v_numberKind v_takes a_out v_outed a_varSort a_varKind a_varValue a_creature v_creatures a_arrayClass a_arrayFrom a_arrayLong v_arrays v_cells a_cellSort a_cellKind a_cellValue a_asideSort a_asideKind a_asideValue a_outcome v_marks v_came v_guessed v_right v_taken a_markSort a_markKind a_markClass a_markValue v_sort v_kindAt v_value a_index v_reached v_looked) H → va_D A (mw cs q v_thrown a_tape v_taped v_size v_to_81 v_kind_81 v_from_81 v_letters_81 v_letterMany_81 v_digits_81 v_isBeyond_81 v_suffix_81 v_steps v_fault v_hasProgram a_text a_act a_guess a_take a_begin a_finish a_to1_95 a_one a_two a_what a_ats_6 a_atVar a_atNumber a_atomSort a_atomKind a_atomValue v_wrong_81 v_wrongAt_81 v_variable_15 v_number v_numberKind v_takes a_out v_outed a_varSort a_varKind a_varValue a_creature v_creatures a_arrayClass a_arrayFrom a_arrayLong v_arrays v_cells a_cellSort a_cellKind a_cellValue a_asideSort a_asideKind a_asideValue a_outcome v_marks v_came v_guessed v_right v_taken a_markSort a_markKind a_markClass a_markValue v_sort v_kindAt v_value a_index v_reached v_looked) → va_S A s.heap H locs → lv_has ls 4 [(0, .ref (q 0)), (1, .int s9)] → W p l e (headSpec (wG yX10_readAct cX10_readAct 4 (some .boolean)) rmX10_readAct).room s m ([.ref (q 0), .int s9] : List Value).toArray below meth c H locs 0 0 Q (F0 m 115 ls [.int s0_115]) := by
          intro s0_115 H locs ls f115_0 hP hD hS hl
          refine lv_istore_n (lv' := [(3, .int s0_115), (0, .ref (q 0)), (1, .int s9)]) hx hb dX10_readAct_115 rfl hl (by decide) rfl (fun ls hl => ?_)
          refine lv_iload_n hx hb dX10_readAct_116 rfl (lv_at hl 0 rfl) ?_
          refine m_if_le (X := s0_115.toInt) (tgt := 138) hx hb dX10_readAct_117 (by decide) rfl (fun c117 => ?_) (fun c117 => ?_)
          · skip
            refine lv_aload_n hx hb dX10_readAct_138 rfl (lv_at hl 1 rfl) ?_
            refine call_i (As := []) (rest := []) ⟨hx, hb, hml, hown, hts⟩ (tX10_isVar (l := l) ) (cwV 0 hts (gV (wr24 _ (List.mem_of_getElem? (i := 17) rfl)) (wr24 _ (List.mem_of_getElem? (i := 18) rfl)) (wr24 _ (List.mem_of_getElem? (i := 19) rfl)) (wr1 _ (List.mem_of_getElem? (i := 5) rfl)) (wr24 _ (List.mem_of_getElem? (i := 20) rfl))) rfl rfl rfl (by decide +kernel) ⟨Nat.le_of_ble_eq_true rfl, Nat.le_of_ble_eq_true rfl⟩) (va_recv hK hP (ci := 9) (q0 := 0) rfl rfl) hK hP hD hE hS hA rfl hl.1 rfl (Nat.le_of_ble_eq_true rfl) dX10_readAct_139 ⟨Nat.le_of_ble_eq_true rfl, Nat.le_of_ble_eq_true rfl⟩ (fun r139 w9 H locs hw139 hP hD hS => ?_)
            obtain ⟨rfl, hw139_0⟩ := hw139
            have b_r139 := iB r139
            refine m_if_ne (X := r139.toInt) (tgt := 158) hx hb dX10_readAct_142 (by decide) rfl (fun c142 => ?_) (fun c142 => ?_)
            · skip
              refine lv_aload_n hx hb dX10_readAct_158 rfl (lv_at hl 1 rfl) ?_
              refine call_i (As := []) (rest := []) ⟨hx, hb, hml, hown, hts⟩ (tX10_readVar (l := l)  (by first | assumption | omega | (intros; omega) | decide) (by first | assumption | omega | (intros; omega) | decide)) (cwV 0 hts (gV (wr25 _ (List.mem_of_getElem? (i := 23) rfl)) (wr26 _ (List.mem_of_getElem? (i := 0) rfl)) (wr26 _ (List.mem_of_getElem? (i := 1) rfl)) (wr1 _ (List.mem_of_getElem? (i := 5) rfl)) (wr26 _ (List.mem_of_getElem? (i := 2) rfl))) rfl rfl rfl (by decide +kernel) ⟨Nat.le_of_ble_eq_true rfl, Nat.le_of_ble_eq_true rfl⟩) (va_recv hK hP (ci := 9) (q0 := 0) rfl rfl) hK hP hD hE hS hA rfl hl.1 rfl (Nat.le_of_ble_eq_true rfl) dX10_readAct_159 ⟨Nat.le_of_ble_eq_true rfl, Nat.le_of_ble_eq_true rfl⟩ (fun r159 w9 H locs hw159 hP hD hS => ?_)
              obtain ⟨v_to_159, v_kind_159, v_from_159, v_letters_159, v_letterMany_159, v_digits_159, v_isBeyond_159, v_suffix_159, v_wrong_159, v_wrongAt_159, v_variable_159, rfl, hw159_0, hw159_1, hw159_2, hw159_3, hw159_4⟩ := hw159
              have b_v_to_159 := iB v_to_159
              have b_v_kind_159 := iB v_kind_159
              have b_v_from_159 := iB v_from_159
              have b_v_letters_159 := jB v_letters_159
              have b_v_letterMany_159 := iB v_letterMany_159
              have b_v_digits_159 := jB v_digits_159
              have b_v_isBeyond_159 := iB v_isBeyond_159
              have b_v_suffix_159 := iB v_suffix_159
              have b_v_wrong_159 := iB v_wrong_159
              have b_v_wrongAt_159 := iB v_wrongAt_159
              have b_v_variable_159 := iB v_variable_159
              have b_r159 := iB r159
              refine lv_pop hx hb dX10_readAct_162 rfl ?_
              refine lv_aload_n hx hb dX10_readAct_163 rfl (lv_at hl 1 rfl) ?_
              refine lv_bipush (v := 91) hx hb dX10_readAct_164 (by decide) ?_
              refine call_i (As := [.int 91]) (rest := []) ⟨hx, hb, hml, hown, hts⟩ (tX10_isSign (l := l) (91 : Int32)) (cwV 1 hts (gV (wr26 _ (List.mem_of_getElem? (i := 3) rfl)) (wr26 _ (List.mem_of_getElem? (i := 4) rfl)) (wr26 _ (List.mem_of_getElem? (i := 5) rfl)) (wr1 _ (List.mem_of_getElem? (i := 5) rfl)) (wr26 _ (List.mem_of_getElem? (i := 6) rfl))) rfl rfl rfl (by decide +kernel) ⟨Nat.le_of_ble_eq_true rfl, Nat.le_of_ble_eq_true rfl⟩) (va_recv hK hP (ci := 9) (q0 := 0) rfl rfl) hK hP hD hE hS hA rfl hl.1 rfl (Nat.le_of_ble_eq_true rfl) dX10_readAct_166 ⟨Nat.le_of_ble_eq_true rfl, Nat.le_of_ble_eq_true rfl⟩ (fun r166 w9 H locs hw166 hP hD hS => ?_)
              obtain ⟨rfl, hw166_0⟩ := hw166
              have b_r166 := iB r166
              refine m_if_eq (X := r166.toInt) (tgt := 195) hx hb dX10_readAct_169 (by decide) rfl (fun c169 => ?_) (fun c169 => ?_)
              · skip
                refine lv_aload_n hx hb dX10_readAct_195 rfl (lv_at hl 1 rfl) ?_
                refine va_get (D := D) (ci := 9) (v := .ref (q 3)) (C := RX10) (T := TX10) (N := 71) hx hb hts hin hown hK hP 0 rfl rfl 16 (by decide) k_5_9 (fun _ h9 => h9) rfl dX10_readAct_196 ?_
                refine lv_iload_n hx hb dX10_readAct_199 rfl (lv_at hl 2 rfl) ?_
                refine lv_iconst (v := 1) hx hb dX10_readAct_200 (by decide) ?_
                refine va_iast hx hb hK hP hD hS 3 0 rfl rfl (ix (by omega) (by omega)) dX10_readAct_201 (fun H locs hP hD hS => ?_)
                obtain ⟨a_act_201, e_a_act_201⟩ : ∃ g, g = upd a_act s9.toNatClampNeg (1 : Int32) := ⟨_, rfl⟩
                have hP : va_P D vwCl (mw cs q v_thrown a_tape v_taped v_size v_to_159 v_kind_159 v_from_159 v_letters_159 v_letterMany_159 v_digits_159 v_isBeyond_159 v_suffix_159 v_steps v_fault v_hasProgram a_text a_act_201 a_guess a_take a_begin a_finish a_to1_95 a_one a_two a_what a_ats_6 a_atVar a_atNumber a_atomSort a_atomKind a_atomValue v_wrong_159 v_wrongAt_159 v_variable_159 v_number v_numberKind v_takes a_out v_outed a_varSort a_varKind a_varValue a_creature v_creatures a_arrayClass a_arrayFrom a_arrayLong v_arrays v_cells a_cellSort a_cellKind a_cellValue a_asideSort a_asideKind a_asideValue a_outcome v_marks v_came v_guessed v_right v_taken a_markSort a_markKind a_markClass a_markValue v_sort v_kindAt v_value a_index v_reached v_looked) H := by rw [e_a_act_201]; exact hP
                have hD : va_D A (mw cs q v_thrown a_tape v_taped v_size v_to_159 v_kind_159 v_from_159 v_letters_159 v_letterMany_159 v_digits_159 v_isBeyond_159 v_suffix_159 v_steps v_fault v_hasProgram a_text a_act_201 a_guess a_take a_begin a_finish a_to1_95 a_one a_two a_what a_ats_6 a_atVar a_atNumber a_atomSort a_atomKind a_atomValue v_wrong_159 v_wrongAt_159 v_variable_159 v_number v_numberKind v_takes a_out v_outed a_varSort a_varKind a_varValue a_creature v_creatures a_arrayClass a_arrayFrom a_arrayLong v_arrays v_cells a_cellSort a_cellKind a_cellValue a_asideSort a_asideKind a_asideValue a_outcome v_marks v_came v_guessed v_right v_taken a_markSort a_markKind a_markClass a_markValue v_sort v_kindAt v_value a_index v_reached v_looked) := by rw [e_a_act_201]; exact hD
                have ha201 := congrArg Int32.toInt (at_upd e_a_act_201)
                have hsa201 : SAME a_act_201 a_act s9.toNatClampNeg := SAME.upd e_a_act_201 (SAME.rf _ _)
                refine lv_aload_n hx hb dX10_readAct_202 rfl (lv_at hl 1 rfl) ?_
                refine va_get (D := D) (ci := 9) (v := .ref (q 15)) (C := RX10) (T := TX10) (N := 71) hx hb hts hin hown hK hP 0 rfl rfl 28 (by decide) k_5_21 (fun _ h9 => h9) rfl dX10_readAct_203 ?_
                refine lv_iload_n hx hb dX10_readAct_206 rfl (lv_at hl 2 rfl) ?_
                refine lv_iconst (v := 1) hx hb dX10_readAct_207 (by decide) ?_
                refine va_iast hx hb hK hP hD hS 15 0 rfl rfl (ix (by omega) (by omega)) dX10_readAct_208 (fun H locs hP hD hS => ?_)
                obtain ⟨a_atomSort_208, e_a_atomSort_208⟩ : ∃ g, g = upd a_atomSort s9.toNatClampNeg (1 : Int32) := ⟨_, rfl⟩
                have hP : va_P D vwCl (mw cs q v_thrown a_tape v_taped v_size v_to_159 v_kind_159 v_from_159 v_letters_159 v_letterMany_159 v_digits_159 v_isBeyond_159 v_suffix_159 v_steps v_fault v_hasProgram a_text a_act_201 a_guess a_take a_begin a_finish a_to1_95 a_one a_two a_what a_ats_6 a_atVar a_atNumber a_atomSort_208 a_atomKind a_atomValue v_wrong_159 v_wrongAt_159 v_variable_159 v_number v_numberKind v_takes a_out v_outed a_varSort a_varKind a_varValue a_creature v_creatures a_arrayClass a_arrayFrom a_arrayLong v_arrays v_cells a_cellSort a_cellKind a_cellValue a_asideSort a_asideKind a_asideValue a_outcome v_marks v_came v_guessed v_right v_taken a_markSort a_markKind a_markClass a_markValue v_sort v_kindAt v_value a_index v_reached v_looked) H := by rw [e_a_atomSort_208]; exact hP
                have hD : va_D A (mw cs q v_thrown a_tape v_taped v_size v_to_159 v_kind_159 v_from_159 v_letters_159 v_letterMany_159 v_digits_159 v_isBeyond_159 v_suffix_159 v_steps v_fault v_hasProgram a_text a_act_201 a_guess a_take a_begin a_finish a_to1_95 a_one a_two a_what a_ats_6 a_atVar a_atNumber a_atomSort_208 a_atomKind a_atomValue v_wrong_159 v_wrongAt_159 v_variable_159 v_number v_numberKind v_takes a_out v_outed a_varSort a_varKind a_varValue a_creature v_creatures a_arrayClass a_arrayFrom a_arrayLong v_arrays v_cells a_cellSort a_cellKind a_cellValue a_asideSort a_asideKind a_asideValue a_outcome v_marks v_came v_guessed v_right v_taken a_markSort a_markKind a_markClass a_markValue v_sort v_kindAt v_value a_index v_reached v_looked) := by rw [e_a_atomSort_208]; exact hD
                refine lv_aload_n hx hb dX10_readAct_209 rfl (lv_at hl 1 rfl) ?_
                refine va_get (D := D) (ci := 9) (v := .ref (q 17)) (C := RX10) (T := TX10) (N := 71) hx hb hts hin hown hK hP 0 rfl rfl 30 (by decide) k_5_23 (fun _ h9 => h9) rfl dX10_readAct_210 ?_
                refine lv_iload_n hx hb dX10_readAct_213 rfl (lv_at hl 2 rfl) ?_
                refine lv_aload_n hx hb dX10_readAct_214 rfl (lv_at hl 1 rfl) ?_
                refine va_get (D := D) (ci := 9) (v := .int v_variable_159) (C := RX10) (T := TX10) (N := 71) hx hb hts hin hown hK hP 0 rfl rfl 33 (by decide) k_25_22 (fun _ h9 => h9) rfl dX10_readAct_215 ?_
                refine m_i2l (X := v_variable_159.toInt) hx hb dX10_readAct_218 rfl (fun x218 e_x218 g_x218 => ?_)
                refine va_last hx hb hK hP hD hS 17 1 rfl rfl (ix (by omega) (by omega)) dX10_readAct_219 (fun H locs hP hD hS => ?_)
                obtain ⟨a_atomValue_219, e_a_atomValue_219⟩ : ∃ g, g = vp_updL a_atomValue s9.toNatClampNeg x218 := ⟨_, rfl⟩
                have hP : va_P D vwCl (mw cs q v_thrown a_tape v_taped v_size v_to_159 v_kind_159 v_from_159 v_letters_159 v_letterMany_159 v_digits_159 v_isBeyond_159 v_suffix_159 v_steps v_fault v_hasProgram a_text a_act_201 a_guess a_take a_begin a_finish a_to1_95 a_one a_two a_what a_ats_6 a_atVar a_atNumber a_atomSort_208 a_atomKind a_atomValue_219 v_wrong_159 v_wrongAt_159 v_variable_159 v_number v_numberKind v_takes a_out v_outed a_varSort a_varKind a_varValue a_creature v_creatures a_arrayClass a_arrayFrom a_arrayLong v_arrays v_cells a_cellSort a_cellKind a_cellValue a_asideSort a_asideKind a_asideValue a_outcome v_marks v_came v_guessed v_right v_taken a_markSort a_markKind a_markClass a_markValue v_sort v_kindAt v_value a_index v_reached v_looked) H := by rw [e_a_atomValue_219]; exact hP
                have hD : va_D A (mw cs q v_thrown a_tape v_taped v_size v_to_159 v_kind_159 v_from_159 v_letters_159 v_letterMany_159 v_digits_159 v_isBeyond_159 v_suffix_159 v_steps v_fault v_hasProgram a_text a_act_201 a_guess a_take a_begin a_finish a_to1_95 a_one a_two a_what a_ats_6 a_atVar a_atNumber a_atomSort_208 a_atomKind a_atomValue_219 v_wrong_159 v_wrongAt_159 v_variable_159 v_number v_numberKind v_takes a_out v_outed a_varSort a_varKind a_varValue a_creature v_creatures a_arrayClass a_arrayFrom a_arrayLong v_arrays v_cells a_cellSort a_cellKind a_cellValue a_asideSort a_asideKind a_asideValue a_outcome v_marks v_came v_guessed v_right v_taken a_markSort a_markKind a_markClass a_markValue v_sort v_kindAt v_value a_index v_reached v_looked) := by rw [e_a_atomValue_219]; exact hD
                have hat219 : ATM a_atomSort_208 a_atomKind a_atomValue_219 := ATM.var p_10 e_a_atomSort_208 e_a_atomValue_219 (by decide) (by omega) (by omega)
                refine lv_iconst (v := 1) hx hb dX10_readAct_220 (by decide) ?_
                subst hAe
                rw [hQ]
                exact W.zret (v := 1) hx hb hr (by decide) (fun t ht hW => ⟨⟨1, _, rfl, ⟨v_to_159, v_kind_159, v_from_159, v_letters_159, v_letterMany_159, v_digits_159, v_isBeyond_159, v_suffix_159, a_act_201, a_to1_95, a_one, a_two, a_what, a_ats_6, a_atVar, a_atNumber, a_atomSort_208, a_atomKind, a_atomValue_219, v_wrong_159, v_wrongAt_159, v_variable_159, v_number, v_numberKind, rfl, by first | assumption | omega | (intros; omega) | decide, by first | assumption | omega | (intros; omega) | decide, by first | assumption | omega | (intros; omega) | decide, by first | assumption | omega | (intros; omega) | decide, by first | assumption | omega | (intros; omega) | decide, by first | assumption | omega | (intros; omega) | decide, by first | assumption | omega | (intros; omega) | decide, by first | assumption | omega | (intros; omega) | decide, by first | assumption | omega | (intros; omega) | decide, by first | assumption | omega | (intros; omega) | decide, by first | assumption | omega | (intros; omega) | decide, by first | assumption | exact SAME.rf _ _ | exact SAME.trans (by assumption) (by assumption) | exact SAME.trans (by assumption) (SAME.trans (by assumption) (by assumption)), by first | assumption | exact SAME.rf _ _ | exact SAME.trans (by assumption) (by assumption) | exact SAME.trans (by assumption) (SAME.trans (by assumption) (by assumption)), by first | assumption | exact SAME.rf _ _ | exact SAME.trans (by assumption) (by assumption) | exact SAME.trans (by assumption) (SAME.trans (by assumption) (by assumption)), by first | assumption | omega | (intros; omega) | decide⟩, by rw [ht]; exact hP, va_K.moved hW.alike hK, hD⟩, hS.F ht⟩) hS.2.2 dX10_readAct_221
              · skip
                refine lv_aload_n hx hb dX10_readAct_172 rfl (lv_at hl 1 rfl) ?_
                refine va_get (D := D) (ci := 9) (v := .ref (q 3)) (C := RX10) (T := TX10) (N := 71) hx hb hts hin hown hK hP 0 rfl rfl 16 (by decide) k_5_9 (fun _ h9 => h9) rfl dX10_readAct_173 ?_
                refine lv_iload_n hx hb dX10_readAct_176 rfl (lv_at hl 2 rfl) ?_
                refine lv_iconst (v := 2) hx hb dX10_readAct_177 (by decide) ?_
                refine va_iast hx hb hK hP hD hS 3 0 rfl rfl (ix (by omega) (by omega)) dX10_readAct_178 (fun H locs hP hD hS => ?_)
                obtain ⟨a_act_178, e_a_act_178⟩ : ∃ g, g = upd a_act s9.toNatClampNeg (2 : Int32) := ⟨_, rfl⟩
                have hP : va_P D vwCl (mw cs q v_thrown a_tape v_taped v_size v_to_159 v_kind_159 v_from_159 v_letters_159 v_letterMany_159 v_digits_159 v_isBeyond_159 v_suffix_159 v_steps v_fault v_hasProgram a_text a_act_178 a_guess a_take a_begin a_finish a_to1_95 a_one a_two a_what a_ats_6 a_atVar a_atNumber a_atomSort a_atomKind a_atomValue v_wrong_159 v_wrongAt_159 v_variable_159 v_number v_numberKind v_takes a_out v_outed a_varSort a_varKind a_varValue a_creature v_creatures a_arrayClass a_arrayFrom a_arrayLong v_arrays v_cells a_cellSort a_cellKind a_cellValue a_asideSort a_asideKind a_asideValue a_outcome v_marks v_came v_guessed v_right v_taken a_markSort a_markKind a_markClass a_markValue v_sort v_kindAt v_value a_index v_reached v_looked) H := by rw [e_a_act_178]; exact hP
                have hD : va_D A (mw cs q v_thrown a_tape v_taped v_size v_to_159 v_kind_159 v_from_159 v_letters_159 v_letterMany_159 v_digits_159 v_isBeyond_159 v_suffix_159 v_steps v_fault v_hasProgram a_text a_act_178 a_guess a_take a_begin a_finish a_to1_95 a_one a_two a_what a_ats_6 a_atVar a_atNumber a_atomSort a_atomKind a_atomValue v_wrong_159 v_wrongAt_159 v_variable_159 v_number v_numberKind v_takes a_out v_outed a_varSort a_varKind a_varValue a_creature v_creatures a_arrayClass a_arrayFrom a_arrayLong v_arrays v_cells a_cellSort a_cellKind a_cellValue a_asideSort a_asideKind a_asideValue a_outcome v_marks v_came v_guessed v_right v_taken a_markSort a_markKind a_markClass a_markValue v_sort v_kindAt v_value a_index v_reached v_looked) := by rw [e_a_act_178]; exact hD
                have ha178 := congrArg Int32.toInt (at_upd e_a_act_178)
                have hsa178 : SAME a_act_178 a_act s9.toNatClampNeg := SAME.upd e_a_act_178 (SAME.rf _ _)
                refine lv_aload_n hx hb dX10_readAct_179 rfl (lv_at hl 1 rfl) ?_
                refine va_get (D := D) (ci := 9) (v := .ref (q 9)) (C := RX10) (T := TX10) (N := 71) hx hb hts hin hown hK hP 0 rfl rfl 22 (by decide) k_5_15 (fun _ h9 => h9) rfl dX10_readAct_180 ?_
                refine lv_iload_n hx hb dX10_readAct_183 rfl (lv_at hl 2 rfl) ?_
                refine lv_aload_n hx hb dX10_readAct_184 rfl (lv_at hl 1 rfl) ?_
                refine va_get (D := D) (ci := 9) (v := .int v_variable_159) (C := RX10) (T := TX10) (N := 71) hx hb hts hin hown hK hP 0 rfl rfl 33 (by decide) k_25_22 (fun _ h9 => h9) rfl dX10_readAct_185 ?_
                refine va_iast hx hb hK hP hD hS 9 0 rfl rfl (ix (by omega) (by omega)) dX10_readAct_188 (fun H locs hP hD hS => ?_)
                obtain ⟨a_one_188, e_a_one_188⟩ : ∃ g, g = upd a_one s9.toNatClampNeg v_variable_159 := ⟨_, rfl⟩
                have hP : va_P D vwCl (mw cs q v_thrown a_tape v_taped v_size v_to_159 v_kind_159 v_from_159 v_letters_159 v_letterMany_159 v_digits_159 v_isBeyond_159 v_suffix_159 v_steps v_fault v_hasProgram a_text a_act_178 a_guess a_take a_begin a_finish a_to1_95 a_one_188 a_two a_what a_ats_6 a_atVar a_atNumber a_atomSort a_atomKind a_atomValue v_wrong_159 v_wrongAt_159 v_variable_159 v_number v_numberKind v_takes a_out v_outed a_varSort a_varKind a_varValue a_creature v_creatures a_arrayClass a_arrayFrom a_arrayLong v_arrays v_cells a_cellSort a_cellKind a_cellValue a_asideSort a_asideKind a_asideValue a_outcome v_marks v_came v_guessed v_right v_taken a_markSort a_markKind a_markClass a_markValue v_sort v_kindAt v_value a_index v_reached v_looked) H := by rw [e_a_one_188]; exact hP
                have hD : va_D A (mw cs q v_thrown a_tape v_taped v_size v_to_159 v_kind_159 v_from_159 v_letters_159 v_letterMany_159 v_digits_159 v_isBeyond_159 v_suffix_159 v_steps v_fault v_hasProgram a_text a_act_178 a_guess a_take a_begin a_finish a_to1_95 a_one_188 a_two a_what a_ats_6 a_atVar a_atNumber a_atomSort a_atomKind a_atomValue v_wrong_159 v_wrongAt_159 v_variable_159 v_number v_numberKind v_takes a_out v_outed a_varSort a_varKind a_varValue a_creature v_creatures a_arrayClass a_arrayFrom a_arrayLong v_arrays v_cells a_cellSort a_cellKind a_cellValue a_asideSort a_asideKind a_asideValue a_outcome v_marks v_came v_guessed v_right v_taken a_markSort a_markKind a_markClass a_markValue v_sort v_kindAt v_value a_index v_reached v_looked) := by rw [e_a_one_188]; exact hD
                have ho188 : R25 a_one_188 := R25.upd p_7 (by omega) (by omega) e_a_one_188
                refine lv_aload_n hx hb dX10_readAct_189 rfl (lv_at hl 1 rfl) ?_
                refine lv_iload_n hx hb dX10_readAct_190 rfl (lv_at hl 2 rfl) ?_
                refine call_i (As := [.int s9]) (rest := []) ⟨hx, hb, hml, hown, hts⟩ (tX10_readAts (l := l) s9 (by first | assumption | omega | (intros; omega) | decide) (by first | assumption | omega | (intros; omega) | decide) (by first | assumption | omega | (intros; omega) | decide) (by first | assumption | omega | (intros; omega) | decide) (by first | assumption | omega | (intros; omega) | decide) (by first | assumption | omega | (intros; omega) | decide) (by first | assumption | omega | (intros; omega) | decide)) (cwV 1 hts (gV (wr26 _ (List.mem_of_getElem? (i := 7) rfl)) (wr26 _ (List.mem_of_getElem? (i := 8) rfl)) (wr26 _ (List.mem_of_getElem? (i := 9) rfl)) (wr1 _ (List.mem_of_getElem? (i := 5) rfl)) (wr26 _ (List.mem_of_getElem? (i := 10) rfl))) rfl rfl rfl (by decide +kernel) ⟨Nat.le_of_ble_eq_true rfl, Nat.le_of_ble_eq_true rfl⟩) (va_recv hK hP (ci := 9) (q0 := 0) rfl rfl) hK hP hD hE hS hA rfl hl.1 rfl (Nat.le_of_ble_eq_true rfl) dX10_readAct_191 ⟨Nat.le_of_ble_eq_true rfl, Nat.le_of_ble_eq_true rfl⟩ (fun r191 w9 H locs hw191 hP hD hS => ?_)
                obtain ⟨v_to_191, v_kind_191, v_from_191, v_letters_191, v_letterMany_191, v_digits_191, v_isBeyond_191, v_suffix_191, a_ats_191, a_atVar_191, a_atNumber_191, v_wrong_191, v_wrongAt_191, v_variable_191, v_number_191, v_numberKind_191, rfl, hw191_0, hw191_1, hw191_2, hw191_3, hw191_4, hw191_5, hw191_6, hw191_7, hw191_8⟩ := hw191
                have b_v_to_191 := iB v_to_191
                have b_v_kind_191 := iB v_kind_191
                have b_v_from_191 := iB v_from_191
                have b_v_letters_191 := jB v_letters_191
                have b_v_letterMany_191 := iB v_letterMany_191
                have b_v_digits_191 := jB v_digits_191
                have b_v_isBeyond_191 := iB v_isBeyond_191
                have b_v_suffix_191 := iB v_suffix_191
                have b_v_wrong_191 := iB v_wrong_191
                have b_v_wrongAt_191 := iB v_wrongAt_191
                have b_v_variable_191 := iB v_variable_191
                have b_v_number_191 := jB v_number_191
                have b_v_numberKind_191 := iB v_numberKind_191
                have b_r191 := iB r191
                subst hAe
                rw [hQ]
                exact W.zret (v := r191) hx hb hr (nbool (by first | omega | decide)) (fun t ht hW => ⟨⟨r191, _, rfl, ⟨v_to_191, v_kind_191, v_from_191, v_letters_191, v_letterMany_191, v_digits_191, v_isBeyond_191, v_suffix_191, a_act_178, a_to1_95, a_one_188, a_two, a_what, a_ats_191, a_atVar_191, a_atNumber_191, a_atomSort, a_atomKind, a_atomValue, v_wrong_191, v_wrongAt_191, v_variable_191, v_number_191, v_numberKind_191, rfl, by first | assumption | omega | (intros; omega) | decide, by first | assumption | omega | (intros; omega) | decide, by first | assumption | omega | (intros; omega) | decide, by first | assumption | omega | (intros; omega) | decide, by first | assumption | omega | (intros; omega) | decide, by first | assumption | omega | (intros; omega) | decide, by first | assumption | omega | (intros; omega) | decide, by first | assumption | omega | (intros; omega) | decide, by first | assumption | omega | (intros; omega) | decide, by first | assumption | omega | (intros; omega) | decide, by first | assumption | omega | (intros; omega) | decide, by first | assumption | exact SAME.rf _ _ | exact SAME.trans (by assumption) (by assumption) | exact SAME.trans (by assumption) (SAME.trans (by assumption) (by assumption)), by first | assumption | exact SAME.rf _ _ | exact SAME.trans (by assumption) (by assumption) | exact SAME.trans (by assumption) (SAME.trans (by assumption) (by assumption)), by first | assumption | exact SAME.rf _ _ | exact SAME.trans (by assumption) (by assumption) | exact SAME.trans (by assumption) (SAME.trans (by assumption) (by assumption)), by first | assumption | omega | (intros; omega) | decide⟩, by rw [ht]; exact hP, va_K.moved hW.alike hK, hD⟩, hS.F ht⟩) hS.2.2 dX10_readAct_194
            · skip
              refine lv_aload_n hx hb dX10_readAct_145 rfl (lv_at hl 1 rfl) ?_
              refine va_get (D := D) (ci := 9) (v := .ref (q 3)) (C := RX10) (T := TX10) (N := 71) hx hb hts hin hown hK hP 0 rfl rfl 16 (by decide) k_5_9 (fun _ h9 => h9) rfl dX10_readAct_146 ?_
              refine lv_iload_n hx hb dX10_readAct_149 rfl (lv_at hl 2 rfl) ?_
              refine lv_iconst (v := 1) hx hb dX10_readAct_150 (by decide) ?_
              refine va_iast hx hb hK hP hD hS 3 0 rfl rfl (ix (by omega) (by omega)) dX10_readAct_151 (fun H locs hP hD hS => ?_)
              obtain ⟨a_act_151, e_a_act_151⟩ : ∃ g, g = upd a_act s9.toNatClampNeg (1 : Int32) := ⟨_, rfl⟩
              have hP : va_P D vwCl (mw cs q v_thrown a_tape v_taped v_size v_to_81 v_kind_81 v_from_81 v_letters_81 v_letterMany_81 v_digits_81 v_isBeyond_81 v_suffix_81 v_steps v_fault v_hasProgram a_text a_act_151 a_guess a_take a_begin a_finish a_to1_95 a_one a_two a_what a_ats_6 a_atVar a_atNumber a_atomSort a_atomKind a_atomValue v_wrong_81 v_wrongAt_81 v_variable_15 v_number v_numberKind v_takes a_out v_outed a_varSort a_varKind a_varValue a_creature v_creatures a_arrayClass a_arrayFrom a_arrayLong v_arrays v_cells a_cellSort a_cellKind a_cellValue a_asideSort a_asideKind a_asideValue a_outcome v_marks v_came v_guessed v_right v_taken a_markSort a_markKind a_markClass a_markValue v_sort v_kindAt v_value a_index v_reached v_looked) H := by rw [e_a_act_151]; exact hP
              have hD : va_D A (mw cs q v_thrown a_tape v_taped v_size v_to_81 v_kind_81 v_from_81 v_letters_81 v_letterMany_81 v_digits_81 v_isBeyond_81 v_suffix_81 v_steps v_fault v_hasProgram a_text a_act_151 a_guess a_take a_begin a_finish a_to1_95 a_one a_two a_what a_ats_6 a_atVar a_atNumber a_atomSort a_atomKind a_atomValue v_wrong_81 v_wrongAt_81 v_variable_15 v_number v_numberKind v_takes a_out v_outed a_varSort a_varKind a_varValue a_creature v_creatures a_arrayClass a_arrayFrom a_arrayLong v_arrays v_cells a_cellSort a_cellKind a_cellValue a_asideSort a_asideKind a_asideValue a_outcome v_marks v_came v_guessed v_right v_taken a_markSort a_markKind a_markClass a_markValue v_sort v_kindAt v_value a_index v_reached v_looked) := by rw [e_a_act_151]; exact hD
              have ha151 := congrArg Int32.toInt (at_upd e_a_act_151)
              have hsa151 : SAME a_act_151 a_act s9.toNatClampNeg := SAME.upd e_a_act_151 (SAME.rf _ _)
              refine lv_aload_n hx hb dX10_readAct_152 rfl (lv_at hl 1 rfl) ?_
              refine lv_iload_n hx hb dX10_readAct_153 rfl (lv_at hl 2 rfl) ?_
              refine call_i (As := [.int s9]) (rest := []) ⟨hx, hb, hml, hown, hts⟩ (tX10_readAtom (l := l) s9 (by first | assumption | omega | (intros; omega) | decide) (by first | assumption | omega | (intros; omega) | decide) (by first | assumption | omega | (intros; omega) | decide) (by first | assumption | omega | (intros; omega) | decide) (by first | assumption | omega | (intros; omega) | decide) (by first | assumption | omega | (intros; omega) | decide)) (cwV 1 hts (gV (wr28 _ (List.mem_of_getElem? (i := 18) rfl)) (wr28 _ (List.mem_of_getElem? (i := 19) rfl)) (wr28 _ (List.mem_of_getElem? (i := 20) rfl)) (wr1 _ (List.mem_of_getElem? (i := 5) rfl)) (wr28 _ (List.mem_of_getElem? (i := 21) rfl))) rfl rfl rfl (by decide +kernel) ⟨Nat.le_of_ble_eq_true rfl, Nat.le_of_ble_eq_true rfl⟩) (va_recv hK hP (ci := 9) (q0 := 0) rfl rfl) hK hP hD hE hS hA rfl hl.1 rfl (Nat.le_of_ble_eq_true rfl) dX10_readAct_154 ⟨Nat.le_of_ble_eq_true rfl, Nat.le_of_ble_eq_true rfl⟩ (fun r154 w9 H locs hw154 hP hD hS => ?_)
              obtain ⟨v_to_154, v_kind_154, v_from_154, v_letters_154, v_letterMany_154, v_digits_154, v_isBeyond_154, v_suffix_154, a_atomSort_154, a_atomKind_154, a_atomValue_154, v_wrong_154, v_wrongAt_154, v_variable_154, v_number_154, v_numberKind_154, rfl, hw154_0, hw154_1, hw154_2, hw154_3, hw154_4, hw154_5, hw154_6⟩ := hw154
              have b_v_to_154 := iB v_to_154
              have b_v_kind_154 := iB v_kind_154
              have b_v_from_154 := iB v_from_154
              have b_v_letters_154 := jB v_letters_154
              have b_v_letterMany_154 := iB v_letterMany_154
              have b_v_digits_154 := jB v_digits_154
              have b_v_isBeyond_154 := iB v_isBeyond_154
              have b_v_suffix_154 := iB v_suffix_154
              have b_v_wrong_154 := iB v_wrong_154
              have b_v_wrongAt_154 := iB v_wrongAt_154
              have b_v_variable_154 := iB v_variable_154
              have b_v_number_154 := jB v_number_154
              have b_v_numberKind_154 := iB v_numberKind_154
              have b_r154 := iB r154
              subst hAe
              rw [hQ]
              exact W.zret (v := r154) hx hb hr (nbool (by first | omega | decide)) (fun t ht hW => ⟨⟨r154, _, rfl, ⟨v_to_154, v_kind_154, v_from_154, v_letters_154, v_letterMany_154, v_digits_154, v_isBeyond_154, v_suffix_154, a_act_151, a_to1_95, a_one, a_two, a_what, a_ats_6, a_atVar, a_atNumber, a_atomSort_154, a_atomKind_154, a_atomValue_154, v_wrong_154, v_wrongAt_154, v_variable_154, v_number_154, v_numberKind_154, rfl, by first | assumption | omega | (intros; omega) | decide, by first | assumption | omega | (intros; omega) | decide, by first | assumption | omega | (intros; omega) | decide, by first | assumption | omega | (intros; omega) | decide, by first | assumption | omega | (intros; omega) | decide, by first | assumption | omega | (intros; omega) | decide, by first | assumption | omega | (intros; omega) | decide, by first | assumption | omega | (intros; omega) | decide, by first | assumption | omega | (intros; omega) | decide, by first | assumption | omega | (intros; omega) | decide, by first | assumption | omega | (intros; omega) | decide, by first | assumption | exact SAME.rf _ _ | exact SAME.trans (by assumption) (by assumption) | exact SAME.trans (by assumption) (SAME.trans (by assumption) (by assumption)), by first | assumption | exact SAME.rf _ _ | exact SAME.trans (by assumption) (by assumption) | exact SAME.trans (by assumption) (SAME.trans (by assumption) (by assumption)), by first | assumption | exact SAME.rf _ _ | exact SAME.trans (by assumption) (by assumption) | exact SAME.trans (by assumption) (SAME.trans (by assumption) (by assumption)), by first | assumption | omega | (intros; omega) | decide⟩, by rw [ht]; exact hP, va_K.moved hW.alike hK, hD⟩, hS.F ht⟩) hS.2.2 dX10_readAct_157
          · skip
            refine lv_aload_n hx hb dX10_readAct_120 rfl (lv_at hl 1 rfl) ?_
            refine va_get (D := D) (ci := 9) (v := .ref (q 3)) (C := RX10) (T := TX10) (N := 71) hx hb hts hin hown hK hP 0 rfl rfl 16 (by decide) k_5_9 (fun _ h9 => h9) rfl dX10_readAct_121 ?_
            refine lv_iload_n hx hb dX10_readAct_124 rfl (lv_at hl 2 rfl) ?_
            refine lv_iload_n hx hb dX10_readAct_125 rfl (lv_at hl 0 rfl) ?_
            refine va_iast hx hb hK hP hD hS 3 0 rfl rfl (ix (by omega) (by omega)) dX10_readAct_126 (fun H locs hP hD hS => ?_)
            obtain ⟨a_act_126, e_a_act_126⟩ : ∃ g, g = upd a_act s9.toNatClampNeg s0_115 := ⟨_, rfl⟩
            have hP : va_P D vwCl (mw cs q v_thrown a_tape v_taped v_size v_to_81 v_kind_81 v_from_81 v_letters_81 v_letterMany_81 v_digits_81 v_isBeyond_81 v_suffix_81 v_steps v_fault v_hasProgram a_text a_act_126 a_guess a_take a_begin a_finish a_to1_95 a_one a_two a_what a_ats_6 a_atVar a_atNumber a_atomSort a_atomKind a_atomValue v_wrong_81 v_wrongAt_81 v_variable_15 v_number v_numberKind v_takes a_out v_outed a_varSort a_varKind a_varValue a_creature v_creatures a_arrayClass a_arrayFrom a_arrayLong v_arrays v_cells a_cellSort a_cellKind a_cellValue a_asideSort a_asideKind a_asideValue a_outcome v_marks v_came v_guessed v_right v_taken a_markSort a_markKind a_markClass a_markValue v_sort v_kindAt v_value a_index v_reached v_looked) H := by rw [e_a_act_126]; exact hP
            have hD : va_D A (mw cs q v_thrown a_tape v_taped v_size v_to_81 v_kind_81 v_from_81 v_letters_81 v_letterMany_81 v_digits_81 v_isBeyond_81 v_suffix_81 v_steps v_fault v_hasProgram a_text a_act_126 a_guess a_take a_begin a_finish a_to1_95 a_one a_two a_what a_ats_6 a_atVar a_atNumber a_atomSort a_atomKind a_atomValue v_wrong_81 v_wrongAt_81 v_variable_15 v_number v_numberKind v_takes a_out v_outed a_varSort a_varKind a_varValue a_creature v_creatures a_arrayClass a_arrayFrom a_arrayLong v_arrays v_cells a_cellSort a_cellKind a_cellValue a_asideSort a_asideKind a_asideValue a_outcome v_marks v_came v_guessed v_right v_taken a_markSort a_markKind a_markClass a_markValue v_sort v_kindAt v_value a_index v_reached v_looked) := by rw [e_a_act_126]; exact hD
            have ha126 := congrArg Int32.toInt (at_upd e_a_act_126)
            have hsa126 : SAME a_act_126 a_act s9.toNatClampNeg := SAME.upd e_a_act_126 (SAME.rf _ _)
            refine lv_aload_n hx hb dX10_readAct_127 rfl (lv_at hl 1 rfl) ?_
            refine call_v (As := []) (rest := []) ⟨hx, hb, hml, hown, hts⟩ (tX10_goB (l := l)  (by first | assumption | exact LX.z (by assumption))) (cwV 0 hts (gV (wr22 _ (List.mem_of_getElem? (i := 20) rfl)) (wr22 _ (List.mem_of_getElem? (i := 21) rfl)) (wr22 _ (List.mem_of_getElem? (i := 22) rfl)) (wr1 _ (List.mem_of_getElem? (i := 5) rfl)) (wr22 _ (List.mem_of_getElem? (i := 23) rfl))) rfl rfl rfl (by decide +kernel) ⟨Nat.le_of_ble_eq_true rfl, Nat.le_of_ble_eq_true rfl⟩) (va_recv hK hP (ci := 9) (q0 := 0) rfl rfl) hK hP hD hE hS hA rfl hl.1 rfl (Nat.le_of_ble_eq_true rfl) dX10_readAct_128 ⟨Nat.le_of_ble_eq_true rfl, Nat.le_of_ble_eq_true rfl⟩ (fun w9 H locs hw128 hP hD hS => ?_)
            obtain ⟨v_to_128, v_kind_128, v_from_128, v_letters_128, v_letterMany_128, v_digits_128, v_isBeyond_128, v_suffix_128, rfl, hw128_0, hw128_1, hw128_2⟩ := hw128
            have b_v_to_128 := iB v_to_128
            have b_v_kind_128 := iB v_kind_128
            have b_v_from_128 := iB v_from_128
            have b_v_letters_128 := jB v_letters_128
            have b_v_letterMany_128 := iB v_letterMany_128
            have b_v_digits_128 := jB v_digits_128
            have b_v_isBeyond_128 := iB v_isBeyond_128
            have b_v_suffix_128 := iB v_suffix_128
            refine lv_aload_n hx hb dX10_readAct_131 rfl (lv_at hl 1 rfl) ?_
            refine lv_iload_n hx hb dX10_readAct_132 rfl (lv_at hl 2 rfl) ?_
            refine lv_iload_n hx hb dX10_readAct_133 rfl (lv_at hl 0 rfl) ?_
            refine call_i (As := [.int s9, .int s0_115]) (rest := []) ⟨hx, hb, hml, hown, hts⟩ (tX10_readGiven (l := l) s9 s0_115 (by first | assumption | omega | (intros; omega) | decide) (by first | assumption | omega | (intros; omega) | decide) (by first | assumption | omega | (intros; omega) | decide) (by first | assumption | omega | (intros; omega) | decide) (by first | assumption | omega | (intros; omega) | decide) (by first | assumption | omega | (intros; omega) | decide) (by first | assumption | omega | (intros; omega) | decide) (by first | assumption | omega | (intros; omega) | decide) (by first | assumption | omega | (intros; omega) | decide)) (cwV 2 hts (gV (wr29 _ (List.mem_of_getElem? (i := 7) rfl)) (wr29 _ (List.mem_of_getElem? (i := 8) rfl)) (wr29 _ (List.mem_of_getElem? (i := 9) rfl)) (wr1 _ (List.mem_of_getElem? (i := 5) rfl)) (wr29 _ (List.mem_of_getElem? (i := 10) rfl))) rfl rfl rfl (by decide +kernel) ⟨Nat.le_of_ble_eq_true rfl, Nat.le_of_ble_eq_true rfl⟩) (va_recv hK hP (ci := 9) (q0 := 0) rfl rfl) hK hP hD hE hS hA rfl hl.1 rfl (Nat.le_of_ble_eq_true rfl) dX10_readAct_134 ⟨Nat.le_of_ble_eq_true rfl, Nat.le_of_ble_eq_true rfl⟩ (fun r134 w9 H locs hw134 hP hD hS => ?_)
            obtain ⟨v_to_134, v_kind_134, v_from_134, v_letters_134, v_letterMany_134, v_digits_134, v_isBeyond_134, v_suffix_134, a_one_134, a_two_134, a_what_134, a_ats_134, a_atVar_134, a_atNumber_134, v_wrong_134, v_wrongAt_134, v_variable_134, v_number_134, v_numberKind_134, rfl, hw134_0, hw134_1, hw134_2, hw134_3, hw134_4, hw134_5, hw134_6, hw134_7, hw134_8, hw134_9, hw134_10, hw134_11⟩ := hw134
            have b_v_to_134 := iB v_to_134
            have b_v_kind_134 := iB v_kind_134
            have b_v_from_134 := iB v_from_134
            have b_v_letters_134 := jB v_letters_134
            have b_v_letterMany_134 := iB v_letterMany_134
            have b_v_digits_134 := jB v_digits_134
            have b_v_isBeyond_134 := iB v_isBeyond_134
            have b_v_suffix_134 := iB v_suffix_134
            have b_v_wrong_134 := iB v_wrong_134
            have b_v_wrongAt_134 := iB v_wrongAt_134
            have b_v_variable_134 := iB v_variable_134
            have b_v_number_134 := jB v_number_134
            have b_v_numberKind_134 := iB v_numberKind_134
            have b_r134 := iB r134
            subst hAe
            rw [hQ]
            exact W.zret (v := r134) hx hb hr (nbool (by first | omega | decide)) (fun t ht hW => ⟨⟨r134, _, rfl, ⟨v_to_134, v_kind_134, v_from_134, v_letters_134, v_letterMany_134, v_digits_134, v_isBeyond_134, v_suffix_134, a_act_126, a_to1_95, a_one_134, a_two_134, a_what_134, a_ats_134, a_atVar_134, a_atNumber_134, a_atomSort, a_atomKind, a_atomValue, v_wrong_134, v_wrongAt_134, v_variable_134, v_number_134, v_numberKind_134, rfl, by first | assumption | omega | (intros; omega) | decide, by first | assumption | omega | (intros; omega) | decide, by first | assumption | omega | (intros; omega) | decide, by first | assumption | omega | (intros; omega) | decide, by first | assumption | omega | (intros; omega) | decide, by first | assumption | omega | (intros; omega) | decide, by first | assumption | omega | (intros; omega) | decide, by first | assumption | omega | (intros; omega) | decide, by first | assumption | omega | (intros; omega) | decide, by first | assumption | omega | (intros; omega) | decide, by first | assumption | omega | (intros; omega) | decide, by first | assumption | exact SAME.rf _ _ | exact SAME.trans (by assumption) (by assumption) | exact SAME.trans (by assumption) (SAME.trans (by assumption) (by assumption)), by first | assumption | exact SAME.rf _ _ | exact SAME.trans (by assumption) (by assumption) | exact SAME.trans (by assumption) (SAME.trans (by assumption) (by assumption)), by first | assumption | exact SAME.rf _ _ | exact SAME.trans (by assumption) (by assumption) | exact SAME.trans (by assumption) (SAME.trans (by assumption) (by assumption)), by first | assumption | omega | (intros; omega) | decide⟩, by rw [ht]; exact hP, va_K.moved hW.alike hK, hD⟩, hS.F ht⟩) hS.2.2 dX10_readAct_137
        refine m_icmp_ne (X := v_kind_81.toInt) (Y := 2) (tgt := 114) hx hb dX10_readAct_101 (by decide) rfl (by decide) (fun c101 => ?_) (fun c101 => ?_)
        · skip
          refine lv_iconst (v := 0) hx hb dX10_readAct_114 (by decide) ?_
          exact J115 (0 : Int32) H locs ls (by first | assumption | omega | (intros; omega) | decide) hP hD hS (lv_sub hl [1, 2] rfl)
        · skip
          refine lv_aload_n hx hb dX10_readAct_104 rfl (lv_at hl 1 rfl) ?_
          refine va_get (D := D) (ci := 9) (v := .long v_letters_81) (C := RX10) (T := TX10) (N := 71) hx hb hts hin hown hK hP 0 rfl rfl 7 (by decide) k_23_1 (fun _ h9 => h9) rfl dX10_readAct_105 ?_
          refine call_iSP (As := [.long v_letters_81]) (rest := []) ⟨hx, hb, hml, hown, hts⟩ (tX10_actOf (l := l) v_letters_81) (va_cwS 1 hts (gS (wr29 _ (List.mem_of_getElem? (i := 4) rfl)) (wr29 _ (List.mem_of_getElem? (i := 5) rfl)) (wr1 _ (List.mem_of_getElem? (i := 5) rfl)) (wr29 _ (List.mem_of_getElem? (i := 6) rfl))) rfl rfl rfl (by decide +kernel) ⟨Nat.le_of_ble_eq_true rfl, Nat.le_of_ble_eq_true rfl⟩) (hK.sub [] rfl) hP hD hE hS hA rfl hl.1 rfl (Nat.le_of_ble_eq_true rfl) dX10_readAct_108 ⟨Nat.le_of_ble_eq_true rfl, Nat.le_of_ble_eq_true rfl⟩ (fun r108 w9 H locs hw108 hP hD hS => ?_)
          obtain ⟨rfl, hw108_0⟩ := hw108
          have b_r108 := iB r108
          refine lv_goto (tgt := 115) hx hb dX10_readAct_111 (by decide) ?_
          exact J115 r108 H locs ls (by first | assumption | omega | (intros; omega) | decide) hP hD hS (lv_sub hl [1, 2] rfl)
      · skip
        refine lv_iconst (v := 0) hx hb dX10_readAct_87 (by decide) ?_
        subst hAe
        rw [hQ]
        exact W.zret (v := 0) hx hb hr (by decide) (fun t ht hW => ⟨⟨0, _, rfl, ⟨v_to_81, v_kind_81, v_from_81, v_letters_81, v_letterMany_81, v_digits_81, v_isBeyond_81, v_suffix_81, a_act, a_to1, a_one, a_two, a_what, a_ats_6, a_atVar, a_atNumber, a_atomSort, a_atomKind, a_atomValue, v_wrong_81, v_wrongAt_81, v_variable_15, v_number, v_numberKind, rfl, by first | assumption | omega | (intros; omega) | decide, by first | assumption | omega | (intros; omega) | decide, by first | assumption | omega | (intros; omega) | decide, by first | assumption | omega | (intros; omega) | decide, by first | assumption | omega | (intros; omega) | decide, by first | assumption | omega | (intros; omega) | decide, by first | assumption | omega | (intros; omega) | decide, by first | assumption | omega | (intros; omega) | decide, by first | assumption | omega | (intros; omega) | decide, by first | assumption | omega | (intros; omega) | decide, by first | assumption | omega | (intros; omega) | decide, by first | assumption | exact SAME.rf _ _ | exact SAME.trans (by assumption) (by assumption) | exact SAME.trans (by assumption) (SAME.trans (by assumption) (by assumption)), by first | assumption | exact SAME.rf _ _ | exact SAME.trans (by assumption) (by assumption) | exact SAME.trans (by assumption) (SAME.trans (by assumption) (by assumption)), by first | assumption | exact SAME.rf _ _ | exact SAME.trans (by assumption) (by assumption) | exact SAME.trans (by assumption) (SAME.trans (by assumption) (by assumption)), by first | assumption | omega | (intros; omega) | decide⟩, by rw [ht]; exact hP, va_K.moved hW.alike hK, hD⟩, hS.F ht⟩) hS.2.2 dX10_readAct_88
    · skip
      refine lv_aload_n hx hb dX10_readAct_33 rfl (lv_at hl 1 rfl) ?_
      refine va_get (D := D) (ci := 9) (v := .ref (q 3)) (C := RX10) (T := TX10) (N := 71) hx hb hts hin hown hK hP 0 rfl rfl 16 (by decide) k_5_9 (fun _ h9 => h9) rfl dX10_readAct_34 ?_
      refine lv_iload_n hx hb dX10_readAct_37 rfl (lv_at hl 2 rfl) ?_
      refine lv_iconst (v := 3) hx hb dX10_readAct_38 (by decide) ?_
      refine va_iast hx hb hK hP hD hS 3 0 rfl rfl (ix (by omega) (by omega)) dX10_readAct_39 (fun H locs hP hD hS => ?_)
      obtain ⟨a_act_39, e_a_act_39⟩ : ∃ g, g = upd a_act s9.toNatClampNeg (3 : Int32) := ⟨_, rfl⟩
      have hP : va_P D vwCl (mw cs q v_thrown a_tape v_taped v_size v_to_15 v_kind_15 v_from_15 v_letters_15 v_letterMany_15 v_digits_15 v_isBeyond_15 v_suffix_15 v_steps v_fault v_hasProgram a_text a_act_39 a_guess a_take a_begin a_finish a_to1 a_one a_two a_what a_ats_6 a_atVar a_atNumber a_atomSort a_atomKind a_atomValue v_wrong_15 v_wrongAt_15 v_variable_15 v_number v_numberKind v_takes a_out v_outed a_varSort a_varKind a_varValue a_creature v_creatures a_arrayClass a_arrayFrom a_arrayLong v_arrays v_cells a_cellSort a_cellKind a_cellValue a_asideSort a_asideKind a_asideValue a_outcome v_marks v_came v_guessed v_right v_taken a_markSort a_markKind a_markClass a_markValue v_sort v_kindAt v_value a_index v_reached v_looked) H := by rw [e_a_act_39]; exact hP
      have hD : va_D A (mw cs q v_thrown a_tape v_taped v_size v_to_15 v_kind_15 v_from_15 v_letters_15 v_letterMany_15 v_digits_15 v_isBeyond_15 v_suffix_15 v_steps v_fault v_hasProgram a_text a_act_39 a_guess a_take a_begin a_finish a_to1 a_one a_two a_what a_ats_6 a_atVar a_atNumber a_atomSort a_atomKind a_atomValue v_wrong_15 v_wrongAt_15 v_variable_15 v_number v_numberKind v_takes a_out v_outed a_varSort a_varKind a_varValue a_creature v_creatures a_arrayClass a_arrayFrom a_arrayLong v_arrays v_cells a_cellSort a_cellKind a_cellValue a_asideSort a_asideKind a_asideValue a_outcome v_marks v_came v_guessed v_right v_taken a_markSort a_markKind a_markClass a_markValue v_sort v_kindAt v_value a_index v_reached v_looked) := by rw [e_a_act_39]; exact hD
      have ha39 := congrArg Int32.toInt (at_upd e_a_act_39)
      have hsa39 : SAME a_act_39 a_act s9.toNatClampNeg := SAME.upd e_a_act_39 (SAME.rf _ _)
      refine lv_aload_n hx hb dX10_readAct_40 rfl (lv_at hl 1 rfl) ?_
      refine va_get (D := D) (ci := 9) (v := .ref (q 9)) (C := RX10) (T := TX10) (N := 71) hx hb hts hin hown hK hP 0 rfl rfl 22 (by decide) k_5_15 (fun _ h9 => h9) rfl dX10_readAct_41 ?_
      refine lv_iload_n hx hb dX10_readAct_44 rfl (lv_at hl 2 rfl) ?_
      refine lv_iload_n hx hb dX10_readAct_45 rfl (lv_at hl 0 rfl) ?_
      refine va_iast hx hb hK hP hD hS 9 0 rfl rfl (ix (by omega) (by omega)) dX10_readAct_46 (fun H locs hP hD hS => ?_)
      obtain ⟨a_one_46, e_a_one_46⟩ : ∃ g, g = upd a_one s9.toNatClampNeg v_variable_15 := ⟨_, rfl⟩
      have hP : va_P D vwCl (mw cs q v_thrown a_tape v_taped v_size v_to_15 v_kind_15 v_from_15 v_letters_15 v_letterMany_15 v_digits_15 v_isBeyond_15 v_suffix_15 v_steps v_fault v_hasProgram a_text a_act_39 a_guess a_take a_begin a_finish a_to1 a_one_46 a_two a_what a_ats_6 a_atVar a_atNumber a_atomSort a_atomKind a_atomValue v_wrong_15 v_wrongAt_15 v_variable_15 v_number v_numberKind v_takes a_out v_outed a_varSort a_varKind a_varValue a_creature v_creatures a_arrayClass a_arrayFrom a_arrayLong v_arrays v_cells a_cellSort a_cellKind a_cellValue a_asideSort a_asideKind a_asideValue a_outcome v_marks v_came v_guessed v_right v_taken a_markSort a_markKind a_markClass a_markValue v_sort v_kindAt v_value a_index v_reached v_looked) H := by rw [e_a_one_46]; exact hP
      have hD : va_D A (mw cs q v_thrown a_tape v_taped v_size v_to_15 v_kind_15 v_from_15 v_letters_15 v_letterMany_15 v_digits_15 v_isBeyond_15 v_suffix_15 v_steps v_fault v_hasProgram a_text a_act_39 a_guess a_take a_begin a_finish a_to1 a_one_46 a_two a_what a_ats_6 a_atVar a_atNumber a_atomSort a_atomKind a_atomValue v_wrong_15 v_wrongAt_15 v_variable_15 v_number v_numberKind v_takes a_out v_outed a_varSort a_varKind a_varValue a_creature v_creatures a_arrayClass a_arrayFrom a_arrayLong v_arrays v_cells a_cellSort a_cellKind a_cellValue a_asideSort a_asideKind a_asideValue a_outcome v_marks v_came v_guessed v_right v_taken a_markSort a_markKind a_markClass a_markValue v_sort v_kindAt v_value a_index v_reached v_looked) := by rw [e_a_one_46]; exact hD
      have ho46 : R25 a_one_46 := R25.upd p_7 (by omega) (by omega) e_a_one_46
      refine lv_aload_n hx hb dX10_readAct_47 rfl (lv_at hl 1 rfl) ?_
      refine lv_iload_n hx hb dX10_readAct_48 rfl (lv_at hl 2 rfl) ?_
      refine call_i (As := [.int s9]) (rest := []) ⟨hx, hb, hml, hown, hts⟩ (tX10_readAts (l := l) s9 (by first | assumption | omega | (intros; omega) | decide) (by first | assumption | omega | (intros; omega) | decide) (by first | assumption | omega | (intros; omega) | decide) (by first | assumption | omega | (intros; omega) | decide) (by first | assumption | omega | (intros; omega) | decide) (by first | assumption | omega | (intros; omega) | decide) (by first | assumption | omega | (intros; omega) | decide)) (cwV 1 hts (gV (wr26 _ (List.mem_of_getElem? (i := 7) rfl)) (wr26 _ (List.mem_of_getElem? (i := 8) rfl)) (wr26 _ (List.mem_of_getElem? (i := 9) rfl)) (wr1 _ (List.mem_of_getElem? (i := 5) rfl)) (wr26 _ (List.mem_of_getElem? (i := 10) rfl))) rfl rfl rfl (by decide +kernel) ⟨Nat.le_of_ble_eq_true rfl, Nat.le_of_ble_eq_true rfl⟩) (va_recv hK hP (ci := 9) (q0 := 0) rfl rfl) hK hP hD hE hS hA rfl hl.1 rfl (Nat.le_of_ble_eq_true rfl) dX10_readAct_49 ⟨Nat.le_of_ble_eq_true rfl, Nat.le_of_ble_eq_true rfl⟩ (fun r49 w9 H locs hw49 hP hD hS => ?_)
      obtain ⟨v_to_49, v_kind_49, v_from_49, v_letters_49, v_letterMany_49, v_digits_49, v_isBeyond_49, v_suffix_49, a_ats_49, a_atVar_49, a_atNumber_49, v_wrong_49, v_wrongAt_49, v_variable_49, v_number_49, v_numberKind_49, rfl, hw49_0, hw49_1, hw49_2, hw49_3, hw49_4, hw49_5, hw49_6, hw49_7, hw49_8⟩ := hw49
      have b_v_to_49 := iB v_to_49
      have b_v_kind_49 := iB v_kind_49
      have b_v_from_49 := iB v_from_49
      have b_v_letters_49 := jB v_letters_49
      have b_v_letterMany_49 := iB v_letterMany_49
      have b_v_digits_49 := jB v_digits_49
      have b_v_isBeyond_49 := iB v_isBeyond_49
      have b_v_suffix_49 := iB v_suffix_49
      have b_v_wrong_49 := iB v_wrong_49
      have b_v_wrongAt_49 := iB v_wrongAt_49
      have b_v_variable_49 := iB v_variable_49
      have b_v_number_49 := jB v_number_49
      have b_v_numberKind_49 := iB v_numberKind_49
      have b_r49 := iB r49
      refine m_if_eq (X := r49.toInt) (tgt := 76) hx hb dX10_readAct_52 (by decide) rfl (fun c52 => ?_) (fun c52 => ?_)
      · skip
        refine lv_iconst (v := 0) hx hb dX10_readAct_76 (by decide) ?_
        subst hAe
        rw [hQ]
        exact W.zret (v := 0) hx hb hr (by decide) (fun t ht hW => ⟨⟨0, _, rfl, ⟨v_to_49, v_kind_49, v_from_49, v_letters_49, v_letterMany_49, v_digits_49, v_isBeyond_49, v_suffix_49, a_act_39, a_to1, a_one_46, a_two, a_what, a_ats_49, a_atVar_49, a_atNumber_49, a_atomSort, a_atomKind, a_atomValue, v_wrong_49, v_wrongAt_49, v_variable_49, v_number_49, v_numberKind_49, rfl, by first | assumption | omega | (intros; omega) | decide, by first | assumption | omega | (intros; omega) | decide, by first | assumption | omega | (intros; omega) | decide, by first | assumption | omega | (intros; omega) | decide, by first | assumption | omega | (intros; omega) | decide, by first | assumption | omega | (intros; omega) | decide, by first | assumption | omega | (intros; omega) | decide, by first | assumption | omega | (intros; omega) | decide, by first | assumption | omega | (intros; omega) | decide, by first | assumption | omega | (intros; omega) | decide, by first | assumption | omega | (intros; omega) | decide, by first | assumption | exact SAME.rf _ _ | exact SAME.trans (by assumption) (by assumption) | exact SAME.trans (by assumption) (SAME.trans (by assumption) (by assumption)), by first | assumption | exact SAME.rf _ _ | exact SAME.trans (by assumption) (by assumption) | exact SAME.trans (by assumption) (SAME.trans (by assumption) (by assumption)), by first | assumption | exact SAME.rf _ _ | exact SAME.trans (by assumption) (by assumption) | exact SAME.trans (by assumption) (SAME.trans (by assumption) (by assumption)), by first | assumption | omega | (intros; omega) | decide⟩, by rw [ht]; exact hP, va_K.moved hW.alike hK, hD⟩, hS.F ht⟩) hS.2.2 dX10_readAct_77
      · skip
        refine lv_aload_n hx hb dX10_readAct_55 rfl (lv_at hl 1 rfl) ?_
        refine lv_bipush (v := 61) hx hb dX10_readAct_56 (by decide) ?_
        refine call_i (As := [.int 61]) (rest := []) ⟨hx, hb, hml, hown, hts⟩ (tX10_sign (l := l) (61 : Int32) (by first | assumption | omega | (intros; omega) | decide)) (cwV 1 hts (gV (wr26 _ (List.mem_of_getElem? (i := 15) rfl)) (wr26 _ (List.mem_of_getElem? (i := 16) rfl)) (wr26 _ (List.mem_of_getElem? (i := 17) rfl)) (wr1 _ (List.mem_of_getElem? (i := 5) rfl)) (wr26 _ (List.mem_of_getElem? (i := 18) rfl))) rfl rfl rfl (by decide +kernel) ⟨Nat.le_of_ble_eq_true rfl, Nat.le_of_ble_eq_true rfl⟩) (va_recv hK hP (ci := 9) (q0 := 0) rfl rfl) hK hP hD hE hS hA rfl hl.1 rfl (Nat.le_of_ble_eq_true rfl) dX10_readAct_58 ⟨Nat.le_of_ble_eq_true rfl, Nat.le_of_ble_eq_true rfl⟩ (fun r58 w9 H locs hw58 hP hD hS => ?_)
        obtain ⟨v_to_58, v_kind_58, v_from_58, v_letters_58, v_letterMany_58, v_digits_58, v_isBeyond_58, v_suffix_58, v_wrong_58, v_wrongAt_58, rfl, hw58_0, hw58_1, hw58_2, hw58_3⟩ := hw58
        have b_v_to_58 := iB v_to_58
        have b_v_kind_58 := iB v_kind_58
        have b_v_from_58 := iB v_from_58
        have b_v_letters_58 := jB v_letters_58
        have b_v_letterMany_58 := iB v_letterMany_58
        have b_v_digits_58 := jB v_digits_58
        have b_v_isBeyond_58 := iB v_isBeyond_58
        have b_v_suffix_58 := iB v_suffix_58
        have b_v_wrong_58 := iB v_wrong_58
        have b_v_wrongAt_58 := iB v_wrongAt_58
        have b_r58 := iB r58
        refine m_if_eq (X := r58.toInt) (tgt := 76) hx hb dX10_readAct_61 (by decide) rfl (fun c61 => ?_) (fun c61 => ?_)
        · skip
          refine lv_iconst (v := 0) hx hb dX10_readAct_76 (by decide) ?_
          subst hAe
          rw [hQ]
          exact W.zret (v := 0) hx hb hr (by decide) (fun t ht hW => ⟨⟨0, _, rfl, ⟨v_to_58, v_kind_58, v_from_58, v_letters_58, v_letterMany_58, v_digits_58, v_isBeyond_58, v_suffix_58, a_act_39, a_to1, a_one_46, a_two, a_what, a_ats_49, a_atVar_49, a_atNumber_49, a_atomSort, a_atomKind, a_atomValue, v_wrong_58, v_wrongAt_58, v_variable_49, v_number_49, v_numberKind_49, rfl, by first | assumption | omega | (intros; omega) | decide, by first | assumption | omega | (intros; omega) | decide, by first | assumption | omega | (intros; omega) | decide, by first | assumption | omega | (intros; omega) | decide, by first | assumption | omega | (intros; omega) | decide, by first | assumption | omega | (intros; omega) | decide, by first | assumption | omega | (intros; omega) | decide, by first | assumption | omega | (intros; omega) | decide, by first | assumption | omega | (intros; omega) | decide, by first | assumption | omega | (intros; omega) | decide, by first | assumption | omega | (intros; omega) | decide, by first | assumption | exact SAME.rf _ _ | exact SAME.trans (by assumption) (by assumption) | exact SAME.trans (by assumption) (SAME.trans (by assumption) (by assumption)), by first | assumption | exact SAME.rf _ _ | exact SAME.trans (by assumption) (by assumption) | exact SAME.trans (by assumption) (SAME.trans (by assumption) (by assumption)), by first | assumption | exact SAME.rf _ _ | exact SAME.trans (by assumption) (by assumption) | exact SAME.trans (by assumption) (SAME.trans (by assumption) (by assumption)), by first | assumption | omega | (intros; omega) | decide⟩, by rw [ht]; exact hP, va_K.moved hW.alike hK, hD⟩, hS.F ht⟩) hS.2.2 dX10_readAct_77
        · skip
          refine lv_aload_n hx hb dX10_readAct_64 rfl (lv_at hl 1 rfl) ?_
          refine lv_iload_n hx hb dX10_readAct_65 rfl (lv_at hl 2 rfl) ?_
          refine call_i (As := [.int s9]) (rest := []) ⟨hx, hb, hml, hown, hts⟩ (tX10_readAtom (l := l) s9 (by first | assumption | omega | (intros; omega) | decide) (by first | assumption | omega | (intros; omega) | decide) (by first | assumption | omega | (intros; omega) | decide) (by first | assumption | omega | (intros; omega) | decide) (by first | assumption | omega | (intros; omega) | decide) (by first | assumption | omega | (intros; omega) | decide)) (cwV 1 hts (gV (wr28 _ (List.mem_of_getElem? (i := 18) rfl)) (wr28 _ (List.mem_of_getElem? (i := 19) rfl)) (wr28 _ (List.mem_of_getElem? (i := 20) rfl)) (wr1 _ (List.mem_of_getElem? (i := 5) rfl)) (wr28 _ (List.mem_of_getElem? (i := 21) rfl))) rfl rfl rfl (by decide +kernel) ⟨Nat.le_of_ble_eq_true rfl, Nat.le_of_ble_eq_true rfl⟩) (va_recv hK hP (ci := 9) (q0 := 0) rfl rfl) hK hP hD hE hS hA rfl hl.1 rfl (Nat.le_of_ble_eq_true rfl) dX10_readAct_66 ⟨Nat.le_of_ble_eq_true rfl, Nat.le_of_ble_eq_true rfl⟩ (fun r66 w9 H locs hw66 hP hD hS => ?_)
          obtain ⟨v_to_66, v_kind_66, v_from_66, v_letters_66, v_letterMany_66, v_digits_66, v_isBeyond_66, v_suffix_66, a_atomSort_66, a_atomKind_66, a_atomValue_66, v_wrong_66, v_wrongAt_66, v_variable_66, v_number_66, v_numberKind_66, rfl, hw66_0, hw66_1, hw66_2, hw66_3, hw66_4, hw66_5, hw66_6⟩ := hw66
          have b_v_to_66 := iB v_to_66
          have b_v_kind_66 := iB v_kind_66
          have b_v_from_66 := iB v_from_66
          have b_v_letters_66 := jB v_letters_66
          have b_v_letterMany_66 := iB v_letterMany_66
          have b_v_digits_66 := jB v_digits_66
          have b_v_isBeyond_66 := iB v_isBeyond_66
          have b_v_suffix_66 := iB v_suffix_66
          have b_v_wrong_66 := iB v_wrong_66
          have b_v_wrongAt_66 := iB v_wrongAt_66
          have b_v_variable_66 := iB v_variable_66
          have b_v_number_66 := jB v_number_66
          have b_v_numberKind_66 := iB v_numberKind_66
          have b_r66 := iB r66
          refine m_if_eq (X := r66.toInt) (tgt := 76) hx hb dX10_readAct_69 (by decide) rfl (fun c69 => ?_) (fun c69 => ?_)
          · skip
            refine lv_iconst (v := 0) hx hb dX10_readAct_76 (by decide) ?_
            subst hAe
            rw [hQ]
            exact W.zret (v := 0) hx hb hr (by decide) (fun t ht hW => ⟨⟨0, _, rfl, ⟨v_to_66, v_kind_66, v_from_66, v_letters_66, v_letterMany_66, v_digits_66, v_isBeyond_66, v_suffix_66, a_act_39, a_to1, a_one_46, a_two, a_what, a_ats_49, a_atVar_49, a_atNumber_49, a_atomSort_66, a_atomKind_66, a_atomValue_66, v_wrong_66, v_wrongAt_66, v_variable_66, v_number_66, v_numberKind_66, rfl, by first | assumption | omega | (intros; omega) | decide, by first | assumption | omega | (intros; omega) | decide, by first | assumption | omega | (intros; omega) | decide, by first | assumption | omega | (intros; omega) | decide, by first | assumption | omega | (intros; omega) | decide, by first | assumption | omega | (intros; omega) | decide, by first | assumption | omega | (intros; omega) | decide, by first | assumption | omega | (intros; omega) | decide, by first | assumption | omega | (intros; omega) | decide, by first | assumption | omega | (intros; omega) | decide, by first | assumption | omega | (intros; omega) | decide, by first | assumption | exact SAME.rf _ _ | exact SAME.trans (by assumption) (by assumption) | exact SAME.trans (by assumption) (SAME.trans (by assumption) (by assumption)), by first | assumption | exact SAME.rf _ _ | exact SAME.trans (by assumption) (by assumption) | exact SAME.trans (by assumption) (SAME.trans (by assumption) (by assumption)), by first | assumption | exact SAME.rf _ _ | exact SAME.trans (by assumption) (by assumption) | exact SAME.trans (by assumption) (SAME.trans (by assumption) (by assumption)), by first | assumption | omega | (intros; omega) | decide⟩, by rw [ht]; exact hP, va_K.moved hW.alike hK, hD⟩, hS.F ht⟩) hS.2.2 dX10_readAct_77
          · skip
            refine lv_iconst (v := 1) hx hb dX10_readAct_72 (by decide) ?_
            refine lv_goto (tgt := 77) hx hb dX10_readAct_73 (by decide) ?_
            subst hAe
            rw [hQ]
            exact W.zret (v := 1) hx hb hr (by decide) (fun t ht hW => ⟨⟨1, _, rfl, ⟨v_to_66, v_kind_66, v_from_66, v_letters_66, v_letterMany_66, v_digits_66, v_isBeyond_66, v_suffix_66, a_act_39, a_to1, a_one_46, a_two, a_what, a_ats_49, a_atVar_49, a_atNumber_49, a_atomSort_66, a_atomKind_66, a_atomValue_66, v_wrong_66, v_wrongAt_66, v_variable_66, v_number_66, v_numberKind_66, rfl, by first | assumption | omega | (intros; omega) | decide, by first | assumption | omega | (intros; omega) | decide, by first | assumption | omega | (intros; omega) | decide, by first | assumption | omega | (intros; omega) | decide, by first | assumption | omega | (intros; omega) | decide, by first | assumption | omega | (intros; omega) | decide, by first | assumption | omega | (intros; omega) | decide, by first | assumption | omega | (intros; omega) | decide, by first | assumption | omega | (intros; omega) | decide, by first | assumption | omega | (intros; omega) | decide, by first | assumption | omega | (intros; omega) | decide, by first | assumption | exact SAME.rf _ _ | exact SAME.trans (by assumption) (by assumption) | exact SAME.trans (by assumption) (SAME.trans (by assumption) (by assumption)), by first | assumption | exact SAME.rf _ _ | exact SAME.trans (by assumption) (by assumption) | exact SAME.trans (by assumption) (SAME.trans (by assumption) (by assumption)), by first | assumption | exact SAME.rf _ _ | exact SAME.trans (by assumption) (by assumption) | exact SAME.trans (by assumption) (SAME.trans (by assumption) (by assumption)), by first | assumption | omega | (intros; omega) | decide⟩, by rw [ht]; exact hP, va_K.moved hW.alike hK, hD⟩, hS.F ht⟩) hS.2.2 dX10_readAct_77
