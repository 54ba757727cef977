def rmX10_forget : Room := { frames := 20, cells := 0, slots := 0, locals := 400 }
set_option maxHeartbeats 4000000 in
set_option maxRecDepth 100000 in
theorem tX10_forget {l : Launch} {D : va_G} {K : Nat → Nat → Nat} {cs : Nat → ClassId} {q : Nat → Nat} {v_thrown v_taped v_size v_to v_kind v_from v_letterMany v_isBeyond v_suffix v_steps v_fault v_hasProgram v_wrong v_wrongAt v_variable v_numberKind v_takes v_outed v_creatures v_arrays v_cells v_marks v_came v_guessed v_right v_taken v_sort v_kindAt v_reached v_looked : Int32} {a_tape a_text a_act a_guess a_take a_begin a_finish a_to1 a_one a_two a_what a_ats a_atVar a_atNumber a_atomSort a_atomKind a_out a_varSort a_varKind a_creature a_arrayClass a_arrayFrom a_arrayLong a_cellSort a_cellKind a_asideSort a_asideKind a_outcome a_markSort a_markKind a_markClass a_index : Nat → Int32} {v_letters v_digits v_number v_value : Int64} {a_atomValue a_varValue a_cellValue a_asideValue a_markValue : Nat → Int64} : CtV l yX10_forget (wG yX10_forget cX10_forget 2 none) rmX10_forget D (mwT cs) K [.ref (q 0)] (mw cs q v_thrown a_tape v_taped v_size v_to v_kind v_from v_letters v_letterMany v_digits v_isBeyond v_suffix v_steps v_fault v_hasProgram a_text a_act a_guess a_take a_begin a_finish a_to1 a_one a_two a_what a_ats a_atVar a_atNumber a_atomSort a_atomKind a_atomValue v_wrong v_wrongAt v_variable v_number v_numberKind v_takes a_out v_outed a_varSort a_varKind a_varValue a_creature v_creatures a_arrayClass a_arrayFrom a_arrayLong v_arrays v_cells a_cellSort a_cellKind a_cellValue a_asideSort a_asideKind a_asideValue a_outcome v_marks v_came v_guessed v_right v_taken a_markSort a_markKind a_markClass a_markValue v_sort v_kindAt v_value a_index v_reached v_looked) (fun w1 => ∃ (a_varSort' : Nat → Int32) (v_creatures' : Int32) (v_arrays' : Int32) (v_cells' : Int32) (v_marks' : Int32) (v_came' : Int32) (v_guessed' : Int32) (v_right' : Int32) (v_taken' : Int32), w1 = (mw cs q v_thrown a_tape v_taped v_size v_to v_kind v_from v_letters v_letterMany v_digits v_isBeyond v_suffix v_steps v_fault v_hasProgram a_text a_act a_guess a_take a_begin a_finish a_to1 a_one a_two a_what a_ats a_atVar a_atNumber a_atomSort a_atomKind a_atomValue v_wrong v_wrongAt v_variable v_number v_numberKind v_takes a_out v_outed a_varSort' a_varKind a_varValue a_creature v_creatures' a_arrayClass a_arrayFrom a_arrayLong v_arrays' v_cells' a_cellSort a_cellKind a_cellValue a_asideSort a_asideKind a_asideValue a_outcome v_marks' v_came' v_guessed' v_right' v_taken' a_markSort a_markKind a_markClass a_markValue v_sort v_kindAt v_value a_index v_reached v_looked) ∧ (RUN a_varSort' a_varKind a_varValue v_arrays' v_cells' v_creatures' a_arrayClass a_arrayFrom a_arrayLong a_cellSort a_cellKind a_cellValue) ∧ (v_marks'.toInt = 0) ∧ (v_came'.toInt = 0) ∧ (v_creatures'.toInt = 0) ∧ (v_arrays'.toInt = 0)) 0 0 := by
  intro sz
  refine Met.ofW (cc := cX10_forget) (maxL := 2) (ret := none) (by decide) rfl ?_
  intro p e s m args below meth c s₁ B hml hv
  obtain ⟨rfl, hsz, hP, hK, hD0, hE⟩ := hv
  have hx := B.exec
  have hb := B.bytes
  have hr := B.returns
  have hts := atoms_spec (ws := (wG yX10_forget cX10_forget 2 none)) B.pre
  have hown : s.vm.findClass RX10 = some m.cls := findClass_of_methodNamed B.named
  have hlocks := B.notSynchronized
  subst hsz
  have hD := hD0.self (sz := s.heap.size)
  obtain ⟨A, hAe⟩ : ∃ A : Nat → Prop, A = va_A (mw cs q v_thrown a_tape v_taped v_size v_to v_kind v_from v_letters v_letterMany v_digits v_isBeyond v_suffix v_steps v_fault v_hasProgram a_text a_act a_guess a_take a_begin a_finish a_to1 a_one a_two a_what a_ats a_atVar a_atNumber a_atomSort a_atomKind a_atomValue v_wrong v_wrongAt v_variable v_number v_numberKind v_takes a_out v_outed a_varSort a_varKind a_varValue a_creature v_creatures a_arrayClass a_arrayFrom a_arrayLong v_arrays v_cells a_cellSort a_cellKind a_cellValue a_asideSort a_asideKind a_asideValue a_outcome v_marks v_came v_guessed v_right v_taken a_markSort a_markKind a_markClass a_markValue v_sort v_kindAt v_value a_index v_reached v_looked) s.heap.size := ⟨_, rfl⟩
  rw [← hAe] at hD hE
  have hA : ∀ q : Nat, s.heap.size ≤ q → A q := fun q h => by rw [hAe]; exact Or.inr h
  have hS : va_S A s.heap s.heap [] := va_S.rf
  have hl := lv_entry ([.ref (q 0)]) (n := 2) (Nat.le_of_ble_eq_true rfl)
  rw [lg_entry_eq]
  generalize (lg_sl ([.ref (q 0)]) ++ List.replicate (2 - (lg_sl ([.ref (q 0)])).length) Slot.unset).toArray = ls at hl ⊢
  have hl : lv_has ls 2 [(0, .ref (q 0))] := hl
  refine wq (fun Q hQ => ?_)
  have hin : ∀ w ∈ wsX100, w ∈ (wG yX10_forget cX10_forget 2 none) := fun w h => List.mem_cons_of_mem _ (inlX10 w h)
  have kc0 : (0 : Int32).toInt = 0 := by decide
  have kc1 : (26 : Int32).toInt = 26 := by decide
  have k_31_3 := hts (.fieldLink RX10 469 "ArrayTrainerModel" "creatures" "I") (List.mem_cons_of_mem _ (wr31 _ (List.mem_of_getElem? (i := 3) rfl)))
  have k_31_4 := hts (.fieldLink RX10 472 "ArrayTrainerModel" "arrays" "I") (List.mem_cons_of_mem _ (wr31 _ (List.mem_of_getElem? (i := 4) rfl)))
  have k_31_5 := hts (.fieldLink RX10 475 "ArrayTrainerModel" "cells" "I") (List.mem_cons_of_mem _ (wr31 _ (List.mem_of_getElem? (i := 5) rfl)))
  have k_31_6 := hts (.fieldLink RX10 478 "ArrayTrainerModel" "marks" "I") (List.mem_cons_of_mem _ (wr31 _ (List.mem_of_getElem? (i := 6) rfl)))
  have k_31_7 := hts (.fieldLink RX10 481 "ArrayTrainerModel" "came" "I") (List.mem_cons_of_mem _ (wr31 _ (List.mem_of_getElem? (i := 7) rfl)))
  have k_31_8 := hts (.fieldLink RX10 484 "ArrayTrainerModel" "guessed" "I") (List.mem_cons_of_mem _ (wr31 _ (List.mem_of_getElem? (i := 8) rfl)))
  have k_31_9 := hts (.fieldLink RX10 487 "ArrayTrainerModel" "right" "I") (List.mem_cons_of_mem _ (wr31 _ (List.mem_of_getElem? (i := 9) rfl)))
  have k_31_10 := hts (.fieldLink RX10 490 "ArrayTrainerModel" "taken" "I") (List.mem_cons_of_mem _ (wr31 _ (List.mem_of_getElem? (i := 10) rfl)))
  have k_6_1 := hts (.fieldLink RX10 65 "ArrayTrainerModel" "varSort" "[I") (List.mem_cons_of_mem _ (wr6 _ (List.mem_of_getElem? (i := 1) rfl)))
  obtain ⟨H, hH⟩ : ∃ H : Heap, H = s.heap := ⟨_, rfl⟩
  obtain ⟨locs, hlc⟩ : ∃ L : List Loc, L = [] := ⟨_, rfl⟩
  have hP : va_P D vwCl (mw cs q v_thrown a_tape v_taped v_size v_to v_kind v_from v_letters v_letterMany v_digits v_isBeyond v_suffix v_steps v_fault v_hasProgram a_text a_act a_guess a_take a_begin a_finish a_to1 a_one a_two a_what a_ats a_atVar a_atNumber a_atomSort a_atomKind a_atomValue v_wrong v_wrongAt v_variable v_number v_numberKind v_takes a_out v_outed a_varSort a_varKind a_varValue a_creature v_creatures a_arrayClass a_arrayFrom a_arrayLong v_arrays v_cells a_cellSort a_cellKind a_cellValue a_asideSort a_asideKind a_asideValue a_outcome v_marks v_came v_guessed v_right v_taken a_markSort a_markKind a_markClass a_markValue v_sort v_kindAt v_value a_index v_reached v_looked) H := by rw [hH]; exact hP
  have hS : va_S A s.heap H locs := by rw [hH, hlc]; exact hS
  refine wHL hH hlc ?_
  refine lv_iconst (v := 0) hx hb dX10_forget_0 (by decide) ?_
  refine lv_istore_n (lv' := [(1, .int 0), (0, .ref (q 0))]) hx hb dX10_forget_1 rfl hl (by decide) rfl (fun ls hl => ?_)
  have J2 : ∀ (n2 : Nat) (l1_2 : Int32) (a_varSort_2 : Nat → Int32) (H : Heap) (locs : List Loc) (ls : Array Slot), (0 ≤ l1_2.toInt) → (l1_2.toInt ≤ 26) → (∀ j : Nat, (j : Int) < l1_2.toInt → (a_varSort_2 j).toInt = 0) → (26 - l1_2.toInt < (n2 : Int)) → va_P D vwCl (mw cs q v_thrown a_tape v_taped v_size v_to v_kind v_from v_letters v_letterMany v_digits v_isBeyond v_suffix v_steps v_fault v_hasProgram a_text a_act a_guess a_take a_begin a_finish a_to1 a_one a_two a_what a_ats a_atVar a_atNumber a_atomSort a_atomKind a_atomValue v_wrong v_wrongAt v_variable v_number v_numberKind v_takes a_out v_outed a_varSort_2 a_varKind a_varValue a_creature v_creatures a_arrayClass a_arrayFrom a_arrayLong v_arrays v_cells a_cellSort a_cellKind a_cellValue a_asideSort a_asideKind a_asideValue a_outcome v_marks v_came v_guessed v_right v_taken a_markSort a_markKind a_markClass a_markValue v_sort v_kindAt v_value a_index v_reached v_looked) H → va_D A (mw cs q v_thrown a_tape v_taped v_size v_to v_kind v_from v_letters v_letterMany v_digits v_isBeyond v_suffix v_steps v_fault v_hasProgram a_text a_act a_guess a_take a_begin a_finish a_to1 a_one a_two a_what a_ats a_atVar a_atNumber a_atomSort a_atomKind a_atomValue v_wrong v_wrongAt v_variable v_number v_numberKind v_takes a_out v_outed a_varSort_2 a_varKind a_varValue a_creature v_creatures a_arrayClass a_arrayFrom a_arrayLong v_arrays v_cells a_cellSort a_cellKind a_cellValue a_asideSort a_asideKind a_asideValue a_outcome v_marks v_came v_guessed v_right v_taken a_markSort a_markKind a_markClass a_markValue v_sort v_kindAt v_value a_index v_reached v_looked) → va_S A s.heap H locs → lv_has ls 2 [(0, .ref (q 0)), (1, .int l1_2)] → W p l e (headSpec (wG yX10_forget cX10_forget 2 none) rmX10_forget).room s m ([.ref (q 0)] : List Value).toArray below meth c H locs 0 0 Q (F0 m 2 ls []) := by
    intro n2
    induction n2 with
    | zero =>
      intro l1_2 a_varSort_2 H locs ls f2_0 f2_1 f2_2 hm2
      exfalso
      omega
    | succ n2 ih2 =>
      intro l1_2 a_varSort_2 H locs ls f2_0 f2_1 f2_2 hm2 hP hD hS hl
      refine lv_iload_n hx hb dX10_forget_2 rfl (lv_at hl 1 rfl) ?_
      refine lv_bipush (v := 26) hx hb dX10_forget_3 (by decide) ?_
      refine m_icmp_ge (X := l1_2.toInt) (Y := 26) (tgt := 21) hx hb dX10_forget_5 (by decide) rfl (by decide) (fun c5 => ?_) (fun c5 => ?_)
      · skip
        refine lv_aload_n hx hb dX10_forget_21 rfl (lv_at hl 0 rfl) ?_
        refine lv_iconst (v := 0) hx hb dX10_forget_22 (by decide) ?_
        refine va_put (D := D) (ci := 9) (v := .int 0) (ty := .int) (C := RX10) (T := TX10) (N := 71) hx hb hts hin tyX10 tyX10_ok nmX10 hown hK hP hD hS 0 rfl rfl 43 (by decide) k_31_3 (fun _ h9 => h9) rfl (by decide +kernel) rfl rfl (Nat.le_of_ble_eq_true rfl) dX10_forget_23 (fun H locs hP hD hS => ?_)
        have hP : va_P D vwCl (mw cs q v_thrown a_tape v_taped v_size v_to v_kind v_from v_letters v_letterMany v_digits v_isBeyond v_suffix v_steps v_fault v_hasProgram a_text a_act a_guess a_take a_begin a_finish a_to1 a_one a_two a_what a_ats a_atVar a_atNumber a_atomSort a_atomKind a_atomValue v_wrong v_wrongAt v_variable v_number v_numberKind v_takes a_out v_outed a_varSort_2 a_varKind a_varValue a_creature (0 : Int32) a_arrayClass a_arrayFrom a_arrayLong v_arrays v_cells a_cellSort a_cellKind a_cellValue a_asideSort a_asideKind a_asideValue a_outcome v_marks v_came v_guessed v_right v_taken a_markSort a_markKind a_markClass a_markValue v_sort v_kindAt v_value a_index v_reached v_looked) H := hP
        have hD : va_D A (mw cs q v_thrown a_tape v_taped v_size v_to v_kind v_from v_letters v_letterMany v_digits v_isBeyond v_suffix v_steps v_fault v_hasProgram a_text a_act a_guess a_take a_begin a_finish a_to1 a_one a_two a_what a_ats a_atVar a_atNumber a_atomSort a_atomKind a_atomValue v_wrong v_wrongAt v_variable v_number v_numberKind v_takes a_out v_outed a_varSort_2 a_varKind a_varValue a_creature (0 : Int32) a_arrayClass a_arrayFrom a_arrayLong v_arrays v_cells a_cellSort a_cellKind a_cellValue a_asideSort a_asideKind a_asideValue a_outcome v_marks v_came v_guessed v_right v_taken a_markSort a_markKind a_markClass a_markValue v_sort v_kindAt v_value a_index v_reached v_looked) := hD
        refine lv_aload_n hx hb dX10_forget_26 rfl (lv_at hl 0 rfl) ?_
        refine lv_iconst (v := 0) hx hb dX10_forget_27 (by decide) ?_
        refine va_put (D := D) (ci := 9) (v := .int 0) (ty := .int) (C := RX10) (T := TX10) (N := 71) hx hb hts hin tyX10 tyX10_ok nmX10 hown hK hP hD hS 0 rfl rfl 47 (by decide) k_31_4 (fun _ h9 => h9) rfl (by decide +kernel) rfl rfl (Nat.le_of_ble_eq_true rfl) dX10_forget_28 (fun H locs hP hD hS => ?_)
        have hP : va_P D vwCl (mw cs q v_thrown a_tape v_taped v_size v_to v_kind v_from v_letters v_letterMany v_digits v_isBeyond v_suffix v_steps v_fault v_hasProgram a_text a_act a_guess a_take a_begin a_finish a_to1 a_one a_two a_what a_ats a_atVar a_atNumber a_atomSort a_atomKind a_atomValue v_wrong v_wrongAt v_variable v_number v_numberKind v_takes a_out v_outed a_varSort_2 a_varKind a_varValue a_creature (0 : Int32) a_arrayClass a_arrayFrom a_arrayLong (0 : Int32) v_cells a_cellSort a_cellKind a_cellValue a_asideSort a_asideKind a_asideValue a_outcome v_marks v_came v_guessed v_right v_taken a_markSort a_markKind a_markClass a_markValue v_sort v_kindAt v_value a_index v_reached v_looked) H := hP
        have hD : va_D A (mw cs q v_thrown a_tape v_taped v_size v_to v_kind v_from v_letters v_letterMany v_digits v_isBeyond v_suffix v_steps v_fault v_hasProgram a_text a_act a_guess a_take a_begin a_finish a_to1 a_one a_two a_what a_ats a_atVar a_atNumber a_atomSort a_atomKind a_atomValue v_wrong v_wrongAt v_variable v_number v_numberKind v_takes a_out v_outed a_varSort_2 a_varKind a_varValue a_creature (0 : Int32) a_arrayClass a_arrayFrom a_arrayLong (0 : Int32) v_cells a_cellSort a_cellKind a_cellValue a_asideSort a_asideKind a_asideValue a_outcome v_marks v_came v_guessed v_right v_taken a_markSort a_markKind a_markClass a_markValue v_sort v_kindAt v_value a_index v_reached v_looked) := hD
        refine lv_aload_n hx hb dX10_forget_31 rfl (lv_at hl 0 rfl) ?_
        refine lv_iconst (v := 0) hx hb dX10_forget_32 (by decide) ?_
        refine va_put (D := D) (ci := 9) (v := .int 0) (ty := .int) (C := RX10) (T := TX10) (N := 71) hx hb hts hin tyX10 tyX10_ok nmX10 hown hK hP hD hS 0 rfl rfl 48 (by decide) k_31_5 (fun _ h9 => h9) rfl (by decide +kernel) rfl rfl (Nat.le_of_ble_eq_true rfl) dX10_forget_33 (fun H locs hP hD hS => ?_)
        have hP : va_P D vwCl (mw cs q v_thrown a_tape v_taped v_size v_to v_kind v_from v_letters v_letterMany v_digits v_isBeyond v_suffix v_steps v_fault v_hasProgram a_text a_act a_guess a_take a_begin a_finish a_to1 a_one a_two a_what a_ats a_atVar a_atNumber a_atomSort a_atomKind a_atomValue v_wrong v_wrongAt v_variable v_number v_numberKind v_takes a_out v_outed a_varSort_2 a_varKind a_varValue a_creature (0 : Int32) a_arrayClass a_arrayFrom a_arrayLong (0 : Int32) (0 : Int32) a_cellSort a_cellKind a_cellValue a_asideSort a_asideKind a_asideValue a_outcome v_marks v_came v_guessed v_right v_taken a_markSort a_markKind a_markClass a_markValue v_sort v_kindAt v_value a_index v_reached v_looked) H := hP
        have hD : va_D A (mw cs q v_thrown a_tape v_taped v_size v_to v_kind v_from v_letters v_letterMany v_digits v_isBeyond v_suffix v_steps v_fault v_hasProgram a_text a_act a_guess a_take a_begin a_finish a_to1 a_one a_two a_what a_ats a_atVar a_atNumber a_atomSort a_atomKind a_atomValue v_wrong v_wrongAt v_variable v_number v_numberKind v_takes a_out v_outed a_varSort_2 a_varKind a_varValue a_creature (0 : Int32) a_arrayClass a_arrayFrom a_arrayLong (0 : Int32) (0 : Int32) a_cellSort a_cellKind a_cellValue a_asideSort a_asideKind a_asideValue a_outcome v_marks v_came v_guessed v_right v_taken a_markSort a_markKind a_markClass a_markValue v_sort v_kindAt v_value a_index v_reached v_looked) := hD
        refine lv_aload_n hx hb dX10_forget_36 rfl (lv_at hl 0 rfl) ?_
        refine lv_iconst (v := 0) hx hb dX10_forget_37 (by decide) ?_
        refine va_put (D := D) (ci := 9) (v := .int 0) (ty := .int) (C := RX10) (T := TX10) (N := 71) hx hb hts hin tyX10 tyX10_ok nmX10 hown hK hP hD hS 0 rfl rfl 56 (by decide) k_31_6 (fun _ h9 => h9) rfl (by decide +kernel) rfl rfl (Nat.le_of_ble_eq_true rfl) dX10_forget_38 (fun H locs hP hD hS => ?_)
        have hP : va_P D vwCl (mw cs q v_thrown a_tape v_taped v_size v_to v_kind v_from v_letters v_letterMany v_digits v_isBeyond v_suffix v_steps v_fault v_hasProgram a_text a_act a_guess a_take a_begin a_finish a_to1 a_one a_two a_what a_ats a_atVar a_atNumber a_atomSort a_atomKind a_atomValue v_wrong v_wrongAt v_variable v_number v_numberKind v_takes a_out v_outed a_varSort_2 a_varKind a_varValue a_creature (0 : Int32) a_arrayClass a_arrayFrom a_arrayLong (0 : Int32) (0 : Int32) a_cellSort a_cellKind a_cellValue a_asideSort a_asideKind a_asideValue a_outcome (0 : Int32) v_came v_guessed v_right v_taken a_markSort a_markKind a_markClass a_markValue v_sort v_kindAt v_value a_index v_reached v_looked) H := hP
        have hD : va_D A (mw cs q v_thrown a_tape v_taped v_size v_to v_kind v_from v_letters v_letterMany v_digits v_isBeyond v_suffix v_steps v_fault v_hasProgram a_text a_act a_guess a_take a_begin a_finish a_to1 a_one a_two a_what a_ats a_atVar a_atNumber a_atomSort a_atomKind a_atomValue v_wrong v_wrongAt v_variable v_number v_numberKind v_takes a_out v_outed a_varSort_2 a_varKind a_varValue a_creature (0 : Int32) a_arrayClass a_arrayFrom a_arrayLong (0 : Int32) (0 : Int32) a_cellSort a_cellKind a_cellValue a_asideSort a_asideKind a_asideValue a_outcome (0 : Int32) v_came v_guessed v_right v_taken a_markSort a_markKind a_markClass a_markValue v_sort v_kindAt v_value a_index v_reached v_looked) := hD
        refine lv_aload_n hx hb dX10_forget_41 rfl (lv_at hl 0 rfl) ?_
        refine lv_iconst (v := 0) hx hb dX10_forget_42 (by decide) ?_
        refine va_put (D := D) (ci := 9) (v := .int 0) (ty := .int) (C := RX10) (T := TX10) (N := 71) hx hb hts hin tyX10 tyX10_ok nmX10 hown hK hP hD hS 0 rfl rfl 57 (by decide) k_31_7 (fun _ h9 => h9) rfl (by decide +kernel) rfl rfl (Nat.le_of_ble_eq_true rfl) dX10_forget_43 (fun H locs hP hD hS => ?_)
        have hP : va_P D vwCl (mw cs q v_thrown a_tape v_taped v_size v_to v_kind v_from v_letters v_letterMany v_digits v_isBeyond v_suffix v_steps v_fault v_hasProgram a_text a_act a_guess a_take a_begin a_finish a_to1 a_one a_two a_what a_ats a_atVar a_atNumber a_atomSort a_atomKind a_atomValue v_wrong v_wrongAt v_variable v_number v_numberKind v_takes a_out v_outed a_varSort_2 a_varKind a_varValue a_creature (0 : Int32) a_arrayClass a_arrayFrom a_arrayLong (0 : Int32) (0 : Int32) a_cellSort a_cellKind a_cellValue a_asideSort a_asideKind a_asideValue a_outcome (0 : Int32) (0 : Int32) v_guessed v_right v_taken a_markSort a_markKind a_markClass a_markValue v_sort v_kindAt v_value a_index v_reached v_looked) H := hP
        have hD : va_D A (mw cs q v_thrown a_tape v_taped v_size v_to v_kind v_from v_letters v_letterMany v_digits v_isBeyond v_suffix v_steps v_fault v_hasProgram a_text a_act a_guess a_take a_begin a_finish a_to1 a_one a_two a_what a_ats a_atVar a_atNumber a_atomSort a_atomKind a_atomValue v_wrong v_wrongAt v_variable v_number v_numberKind v_takes a_out v_outed a_varSort_2 a_varKind a_varValue a_creature (0 : Int32) a_arrayClass a_arrayFrom a_arrayLong (0 : Int32) (0 : Int32) a_cellSort a_cellKind a_cellValue a_asideSort a_asideKind a_asideValue a_outcome (0 : Int32) (0 : Int32) v_guessed v_right v_taken a_markSort a_markKind a_markClass a_markValue v_sort v_kindAt v_value a_index v_reached v_looked) := hD
        refine lv_aload_n hx hb dX10_forget_46 rfl (lv_at hl 0 rfl) ?_
        refine lv_iconst (v := 0) hx hb dX10_forget_47 (by decide) ?_
        refine va_put (D := D) (ci := 9) (v := .int 0) (ty := .int) (C := RX10) (T := TX10) (N := 71) hx hb hts hin tyX10 tyX10_ok nmX10 hown hK hP hD hS 0 rfl rfl 58 (by decide) k_31_8 (fun _ h9 => h9) rfl (by decide +kernel) rfl rfl (Nat.le_of_ble_eq_true rfl) dX10_forget_48 (fun H locs hP hD hS => ?_)
        have hP : va_P D vwCl (mw cs q v_thrown a_tape v_taped v_size v_to v_kind v_from v_letters v_letterMany v_digits v_isBeyond v_suffix v_steps v_fault v_hasProgram a_text a_act a_guess a_take a_begin a_finish a_to1 a_one a_two a_what a_ats a_atVar a_atNumber a_atomSort a_atomKind a_atomValue v_wrong v_wrongAt v_variable v_number v_numberKind v_takes a_out v_outed a_varSort_2 a_varKind a_varValue a_creature (0 : Int32) a_arrayClass a_arrayFrom a_arrayLong (0 : Int32) (0 : Int32) a_cellSort a_cellKind a_cellValue a_asideSort a_asideKind a_asideValue a_outcome (0 : Int32) (0 : Int32) (0 : Int32) v_right v_taken a_markSort a_markKind a_markClass a_markValue v_sort v_kindAt v_value a_index v_reached v_looked) H := hP
        have hD : va_D A (mw cs q v_thrown a_tape v_taped v_size v_to v_kind v_from v_letters v_letterMany v_digits v_isBeyond v_suffix v_steps v_fault v_hasProgram a_text a_act a_guess a_take a_begin a_finish a_to1 a_one a_two a_what a_ats a_atVar a_atNumber a_atomSort a_atomKind a_atomValue v_wrong v_wrongAt v_variable v_number v_numberKind v_takes a_out v_outed a_varSort_2 a_varKind a_varValue a_creature (0 : Int32) a_arrayClass a_arrayFrom a_arrayLong (0 : Int32) (0 : Int32) a_cellSort a_cellKind a_cellValue a_asideSort a_asideKind a_asideValue a_outcome (0 : Int32) (0 : Int32) (0 : Int32) v_right v_taken a_markSort a_markKind a_markClass a_markValue v_sort v_kindAt v_value a_index v_reached v_looked) := hD
        refine lv_aload_n hx hb dX10_forget_51 rfl (lv_at hl 0 rfl) ?_
        refine lv_iconst (v := 0) hx hb dX10_forget_52 (by decide) ?_
        refine va_put (D := D) (ci := 9) (v := .int 0) (ty := .int) (C := RX10) (T := TX10) (N := 71) hx hb hts hin tyX10 tyX10_ok nmX10 hown hK hP hD hS 0 rfl rfl 59 (by decide) k_31_9 (fun _ h9 => h9) rfl (by decide +kernel) rfl rfl (Nat.le_of_ble_eq_true rfl) dX10_forget_53 (fun H locs hP hD hS => ?_)
        have hP : va_P D vwCl (mw cs q v_thrown a_tape v_taped v_size v_to v_kind v_from v_letters v_letterMany v_digits v_isBeyond v_suffix v_steps v_fault v_hasProgram a_text a_act a_guess a_take a_begin a_finish a_to1 a_one a_two a_what a_ats a_atVar a_atNumber a_atomSort a_atomKind a_atomValue v_wrong v_wrongAt v_variable v_number v_numberKind v_takes a_out v_outed a_varSort_2 a_varKind a_varValue a_creature (0 : Int32) a_arrayClass a_arrayFrom a_arrayLong (0 : Int32) (0 : Int32) a_cellSort a_cellKind a_cellValue a_asideSort a_asideKind a_asideValue a_outcome (0 : Int32) (0 : Int32) (0 : Int32) (0 : Int32) v_taken a_markSort a_markKind a_markClass a_markValue v_sort v_kindAt v_value a_index v_reached v_looked) H := hP
        have hD : va_D A (mw cs q v_thrown a_tape v_taped v_size v_to v_kind v_from v_letters v_letterMany v_digits v_isBeyond v_suffix v_steps v_fault v_hasProgram a_text a_act a_guess a_take a_begin a_finish a_to1 a_one a_two a_what a_ats a_atVar a_atNumber a_atomSort a_atomKind a_atomValue v_wrong v_wrongAt v_variable v_number v_numberKind v_takes a_out v_outed a_varSort_2 a_varKind a_varValue a_creature (0 : Int32) a_arrayClass a_arrayFrom a_arrayLong (0 : Int32) (0 : Int32) a_cellSort a_cellKind a_cellValue a_asideSort a_asideKind a_asideValue a_outcome (0 : Int32) (0 : Int32) (0 : Int32) (0 : Int32) v_taken a_markSort a_markKind a_markClass a_markValue v_sort v_kindAt v_value a_index v_reached v_looked) := hD
        refine lv_aload_n hx hb dX10_forget_56 rfl (lv_at hl 0 rfl) ?_
        refine lv_iconst (v := 0) hx hb dX10_forget_57 (by decide) ?_
        refine va_put (D := D) (ci := 9) (v := .int 0) (ty := .int) (C := RX10) (T := TX10) (N := 71) hx hb hts hin tyX10 tyX10_ok nmX10 hown hK hP hD hS 0 rfl rfl 60 (by decide) k_31_10 (fun _ h9 => h9) rfl (by decide +kernel) rfl rfl (Nat.le_of_ble_eq_true rfl) dX10_forget_58 (fun H locs hP hD hS => ?_)
        have hP : va_P D vwCl (mw cs q v_thrown a_tape v_taped v_size v_to v_kind v_from v_letters v_letterMany v_digits v_isBeyond v_suffix v_steps v_fault v_hasProgram a_text a_act a_guess a_take a_begin a_finish a_to1 a_one a_two a_what a_ats a_atVar a_atNumber a_atomSort a_atomKind a_atomValue v_wrong v_wrongAt v_variable v_number v_numberKind v_takes a_out v_outed a_varSort_2 a_varKind a_varValue a_creature (0 : Int32) a_arrayClass a_arrayFrom a_arrayLong (0 : Int32) (0 : Int32) a_cellSort a_cellKind a_cellValue a_asideSort a_asideKind a_asideValue a_outcome (0 : Int32) (0 : Int32) (0 : Int32) (0 : Int32) (0 : Int32) a_markSort a_markKind a_markClass a_markValue v_sort v_kindAt v_value a_index v_reached v_looked) H := hP
        have hD : va_D A (mw cs q v_thrown a_tape v_taped v_size v_to v_kind v_from v_letters v_letterMany v_digits v_isBeyond v_suffix v_steps v_fault v_hasProgram a_text a_act a_guess a_take a_begin a_finish a_to1 a_one a_two a_what a_ats a_atVar a_atNumber a_atomSort a_atomKind a_atomValue v_wrong v_wrongAt v_variable v_number v_numberKind v_takes a_out v_outed a_varSort_2 a_varKind a_varValue a_creature (0 : Int32) a_arrayClass a_arrayFrom a_arrayLong (0 : Int32) (0 : Int32) a_cellSort a_cellKind a_cellValue a_asideSort a_asideKind a_asideValue a_outcome (0 : Int32) (0 : Int32) (0 : Int32) (0 : Int32) (0 : Int32) a_markSort a_markKind a_markClass a_markValue v_sort v_kindAt v_value a_index v_reached v_looked) := hD
        subst hAe
        rw [hQ]
        exact W.vret hx hb hr (fun t ht hW => ⟨⟨_, rfl, ⟨a_varSort_2, (0 : Int32), (0 : Int32), (0 : Int32), (0 : Int32), (0 : Int32), (0 : Int32), (0 : Int32), (0 : Int32), rfl, by exact RUN.zero (by decide) (by decide) (by decide) (fun j hj => f2_2 j (by omega)), by first | assumption | omega | (intros; omega) | decide, by first | assumption | omega | (intros; omega) | decide, by first | assumption | omega | (intros; omega) | decide, by first | assumption | omega | (intros; omega) | decide⟩, by rw [ht]; exact hP, va_K.moved hW.alike hK, hD⟩, hS.F ht⟩) hS.2.2 dX10_forget_61
      · skip
        refine lv_aload_n hx hb dX10_forget_8 rfl (lv_at hl 0 rfl) ?_
        refine va_get (D := D) (ci := 9) (v := .ref (q 19)) (C := RX10) (T := TX10) (N := 71) hx hb hts hin hown hK hP 0 rfl rfl 39 (by decide) k_6_1 (fun _ h9 => h9) rfl dX10_forget_9 ?_
        refine lv_iload_n hx hb dX10_forget_12 rfl (lv_at hl 1 rfl) ?_
        refine lv_iconst (v := 0) hx hb dX10_forget_13 (by decide) ?_
        refine va_iast hx hb hK hP hD hS 19 0 rfl rfl (ix (by omega) (by omega)) dX10_forget_14 (fun H locs hP hD hS => ?_)
        obtain ⟨a_varSort_14, e_a_varSort_14⟩ : ∃ g, g = upd a_varSort_2 l1_2.toNatClampNeg (0 : Int32) := ⟨_, rfl⟩
        have hP : va_P D vwCl (mw cs q v_thrown a_tape v_taped v_size v_to v_kind v_from v_letters v_letterMany v_digits v_isBeyond v_suffix v_steps v_fault v_hasProgram a_text a_act a_guess a_take a_begin a_finish a_to1 a_one a_two a_what a_ats a_atVar a_atNumber a_atomSort a_atomKind a_atomValue v_wrong v_wrongAt v_variable v_number v_numberKind v_takes a_out v_outed a_varSort_14 a_varKind a_varValue a_creature v_creatures a_arrayClass a_arrayFrom a_arrayLong v_arrays v_cells a_cellSort a_cellKind a_cellValue a_asideSort a_asideKind a_asideValue a_outcome v_marks v_came v_guessed v_right v_taken a_markSort a_markKind a_markClass a_markValue v_sort v_kindAt v_value a_index v_reached v_looked) H := by rw [e_a_varSort_14]; exact hP
        have hD : va_D A (mw cs q v_thrown a_tape v_taped v_size v_to v_kind v_from v_letters v_letterMany v_digits v_isBeyond v_suffix v_steps v_fault v_hasProgram a_text a_act a_guess a_take a_begin a_finish a_to1 a_one a_two a_what a_ats a_atVar a_atNumber a_atomSort a_atomKind a_atomValue v_wrong v_wrongAt v_variable v_number v_numberKind v_takes a_out v_outed a_varSort_14 a_varKind a_varValue a_creature v_creatures a_arrayClass a_arrayFrom a_arrayLong v_arrays v_cells a_cellSort a_cellKind a_cellValue a_asideSort a_asideKind a_asideValue a_outcome v_marks v_came v_guessed v_right v_taken a_markSort a_markKind a_markClass a_markValue v_sort v_kindAt v_value a_index v_reached v_looked) := by rw [e_a_varSort_14]; exact hD
        obtain ⟨x15, e_x15⟩ : ∃ z : Int32, z = l1_2 + (1 : Int32) := ⟨_, rfl⟩
        obtain ⟨k_x15, g_x15⟩ : ∃ k : Int, x15.toInt = l1_2.toInt + (1) + k * 4294967296 := by rw [e_x15]; exact iAdd l1_2 (1)
        have b_x15 := iB x15
        try (have q_x15 : x15.toInt = l1_2.toInt + (1) := (by omega); clear g_x15 k_x15)
        refine lv_iinc (v := x15) (lv' := [(1, .int x15), (0, .ref (q 0))]) hx hb dX10_forget_15 hl (k := 1) rfl (by rw [e_x15]; rfl) (by decide) rfl (fun ls hl => ?_)
        refine lv_goto (tgt := 2) hx hb dX10_forget_18 (by decide) ?_
        exact ih2 x15 a_varSort_14 H locs ls (by first | assumption | omega | (intros; omega) | decide) (by first | assumption | omega | (intros; omega) | decide) (by first | (intro j hj; omega) | exact upd_z f2_2 (by omega) (by omega) (by decide) e_a_varSort_14) (by omega) hP hD hS (lv_sub hl [1, 0] rfl)
  exact J2 ((26 - (0 : Int32).toInt).toNat + 1) (0 : Int32) a_varSort H locs ls (by first | assumption | omega | (intros; omega) | decide) (by first | assumption | omega | (intros; omega) | decide) (by first | (intro j hj; omega) | exact upd_z f2_2 (by omega) (by omega) (by decide) e_a_varSort_14) (by omega) hP hD hS (lv_sub hl [1, 0] rfl)

def rmX10_compile : Room := { frames := 240, cells := 0, slots := 0, locals := 4800 }
set_option maxHeartbeats 4000000 in
set_option maxRecDepth 100000 in
theorem tX10_compile {l : Launch} {D : va_G} {K : Nat → Nat → Nat} {cs : Nat → ClassId} {q : Nat → Nat} {v_thrown v_taped v_size v_to v_kind v_from v_letterMany v_isBeyond v_suffix v_steps v_fault v_hasProgram v_wrong v_wrongAt v_variable v_numberKind v_takes v_outed v_creatures v_arrays v_cells v_marks v_came v_guessed v_right v_taken v_sort v_kindAt v_reached v_looked : Int32} {a_tape a_text a_act a_guess a_take a_begin a_finish a_to1 a_one a_two a_what a_ats a_atVar a_atNumber a_atomSort a_atomKind a_out a_varSort a_varKind a_creature a_arrayClass a_arrayFrom a_arrayLong a_cellSort a_cellKind a_asideSort a_asideKind a_outcome a_markSort a_markKind a_markClass a_index : Nat → Int32} {v_letters v_digits v_number v_value : Int64} {a_atomValue a_varValue a_cellValue a_asideValue a_markValue : Nat → Int64} (p_0 : 0 ≤ v_taped.toInt) (p_1 : v_taped.toInt ≤ 3100) (p_2 : v_isBeyond.toInt = 0 ∨ v_isBeyond.toInt = 1) (p_3 : 0 ≤ v_variable.toInt ∧ v_variable.toInt ≤ 25) (p_4 : NumOK v_numberKind v_number) (p_5 : Rm25 a_atVar) (p_6 : R03 a_ats) (p_7 : R25 a_one) (p_8 : R25 a_two) (p_9 : R25 a_to1) (p_10 : ATM a_atomSort a_atomKind a_atomValue) (p_11 : 0 ≤ v_steps.toInt) (p_12 : v_steps.toInt ≤ 100) (p_13 : PRG a_act a_ats a_what a_begin a_finish a_text 3100 0 v_steps) (p_14 : v_hasProgram.toInt = 0 ∨ v_hasProgram.toInt = 1) (p_15 : RUN a_varSort a_varKind a_varValue v_arrays v_cells v_creatures a_arrayClass a_arrayFrom a_arrayLong a_cellSort a_cellKind a_cellValue) (p_16 : 0 ≤ v_marks.toInt) : CtI l yX10_compile (wG yX10_compile cX10_compile 4 (some .int)) rmX10_compile D (mwT cs) K [.ref (q 0)] (mw cs q v_thrown a_tape v_taped v_size v_to v_kind v_from v_letters v_letterMany v_digits v_isBeyond v_suffix v_steps v_fault v_hasProgram a_text a_act a_guess a_take a_begin a_finish a_to1 a_one a_two a_what a_ats a_atVar a_atNumber a_atomSort a_atomKind a_atomValue v_wrong v_wrongAt v_variable v_number v_numberKind v_takes a_out v_outed a_varSort a_varKind a_varValue a_creature v_creatures a_arrayClass a_arrayFrom a_arrayLong v_arrays v_cells a_cellSort a_cellKind a_cellValue a_asideSort a_asideKind a_asideValue a_outcome v_marks v_came v_guessed v_right v_taken a_markSort a_markKind a_markClass a_markValue v_sort v_kindAt v_value a_index v_reached v_looked) (fun r w1 => ∃ (v_thrown' : Int32) (v_taped' : Int32) (v_size' : Int32) (v_to' : Int32) (v_kind' : Int32) (v_from' : Int32) (v_letters' : Int64) (v_letterMany' : Int32) (v_digits' : Int64) (v_isBeyond' : Int32) (v_suffix' : Int32) (v_steps' : Int32) (v_fault' : Int32) (v_hasProgram' : Int32) (a_text' : Nat → Int32) (a_act' : Nat → Int32) (a_guess' : Nat → Int32) (a_take' : Nat → Int32) (a_begin' : Nat → Int32) (a_finish' : Nat → Int32) (a_to1' : Nat → Int32) (a_one' : Nat → Int32) (a_two' : Nat → Int32) (a_what' : Nat → Int32) (a_ats' : Nat → Int32) (a_atVar' : Nat → Int32) (a_atNumber' : Nat → Int32) (a_atomSort' : Nat → Int32) (a_atomKind' : Nat → Int32) (a_atomValue' : Nat → Int64) (v_wrong' : Int32) (v_wrongAt' : Int32) (v_variable' : Int32) (v_number' : Int64) (v_numberKind' : Int32) (v_takes' : Int32) (a_varSort' : Nat → Int32) (v_creatures' : Int32) (v_arrays' : Int32) (v_cells' : Int32) (a_outcome' : Nat → Int32) (v_marks' : Int32) (v_came' : Int32) (v_guessed' : Int32) (v_right' : Int32) (v_taken' : Int32), w1 = (mw cs q v_thrown' a_tape v_taped' v_size' v_to' v_kind' v_from' v_letters' v_letterMany' v_digits' v_isBeyond' v_suffix' v_steps' v_fault' v_hasProgram' a_text' a_act' a_guess' a_take' a_begin' a_finish' a_to1' a_one' a_two' a_what' a_ats' a_atVar' a_atNumber' a_atomSort' a_atomKind' a_atomValue' v_wrong' v_wrongAt' v_variable' v_number' v_numberKind' v_takes' a_out v_outed a_varSort' a_varKind a_varValue a_creature v_creatures' a_arrayClass a_arrayFrom a_arrayLong v_arrays' v_cells' a_cellSort a_cellKind a_cellValue a_asideSort a_asideKind a_asideValue a_outcome' v_marks' v_came' v_guessed' v_right' v_taken' a_markSort a_markKind a_markClass a_markValue v_sort v_kindAt v_value a_index v_reached v_looked) ∧ (v_taped'.toInt = 0) ∧ (v_isBeyond'.toInt = 0 ∨ v_isBeyond'.toInt = 1) ∧ (0 ≤ v_variable'.toInt ∧ v_variable'.toInt ≤ 25) ∧ (NumOK v_numberKind' v_number') ∧ (Rm25 a_atVar') ∧ (R03 a_ats') ∧ (R25 a_one') ∧ (R25 a_two') ∧ (R25 a_to1') ∧ (ATM a_atomSort' a_atomKind' a_atomValue') ∧ (0 ≤ v_steps'.toInt) ∧ (v_steps'.toInt ≤ 100) ∧ (PRG a_act' a_ats' a_what' a_begin' a_finish' a_text' 3100 0 v_steps') ∧ (v_hasProgram'.toInt = 0 ∨ v_hasProgram'.toInt = 1) ∧ (RUN a_varSort' a_varKind a_varValue v_arrays' v_cells' v_creatures' a_arrayClass a_arrayFrom a_arrayLong a_cellSort a_cellKind a_cellValue) ∧ (0 ≤ v_marks'.toInt)) 0 0 := by
  intro sz
  refine Met.ofW (cc := cX10_compile) (maxL := 4) (ret := (some .int)) (by decide) rfl ?_
  intro p e s m args below meth c s₁ B hml hv
  obtain ⟨rfl, hsz, hP, hK, hD0, hE⟩ := hv
  have hx := B.exec
  have hb := B.bytes
  have hr := B.returns
  have hts := atoms_spec (ws := (wG yX10_compile cX10_compile 4 (some .int))) B.pre
  have hown : s.vm.findClass RX10 = some m.cls := findClass_of_methodNamed B.named
  have hlocks := B.notSynchronized
  subst hsz
  have hD := hD0.self (sz := s.heap.size)
  obtain ⟨A, hAe⟩ : ∃ A : Nat → Prop, A = va_A (mw cs q v_thrown a_tape v_taped v_size v_to v_kind v_from v_letters v_letterMany v_digits v_isBeyond v_suffix v_steps v_fault v_hasProgram a_text a_act a_guess a_take a_begin a_finish a_to1 a_one a_two a_what a_ats a_atVar a_atNumber a_atomSort a_atomKind a_atomValue v_wrong v_wrongAt v_variable v_number v_numberKind v_takes a_out v_outed a_varSort a_varKind a_varValue a_creature v_creatures a_arrayClass a_arrayFrom a_arrayLong v_arrays v_cells a_cellSort a_cellKind a_cellValue a_asideSort a_asideKind a_asideValue a_outcome v_marks v_came v_guessed v_right v_taken a_markSort a_markKind a_markClass a_markValue v_sort v_kindAt v_value a_index v_reached v_looked) s.heap.size := ⟨_, rfl⟩
  rw [← hAe] at hD hE
  have hA : ∀ q : Nat, s.heap.size ≤ q → A q := fun q h => by rw [hAe]; exact Or.inr h
  have hS : va_S A s.heap s.heap [] := va_S.rf
  have hl := lv_entry ([.ref (q 0)]) (n := 4) (Nat.le_of_ble_eq_true rfl)
  rw [lg_entry_eq]
  generalize (lg_sl ([.ref (q 0)]) ++ List.replicate (4 - (lg_sl ([.ref (q 0)])).length) Slot.unset).toArray = ls at hl ⊢
  have hl : lv_has ls 4 [(0, .ref (q 0))] := hl
  refine wq (fun Q hQ => ?_)
  have hin : ∀ w ∈ wsX100, w ∈ (wG yX10_compile cX10_compile 4 (some .int)) := fun w h => List.mem_cons_of_mem _ (inlX10 w h)
  have kc0 : (-1 : Int32).toInt = -1 := by decide
  have kc1 : (0 : Int32).toInt = 0 := by decide
  have kc2 : (1 : Int32).toInt = 1 := by decide
  have kc3 : (2 : Int32).toInt = 2 := by decide
  have kc4 : (4 : Int32).toInt = 4 := by decide
  have kc5 : (100 : Int32).toInt = 100 := by decide
  have kc6 : (101 : Int32).toInt = 101 := by decide
  have k_7_9 := hts (.fieldLink RX10 122 "ArrayTrainerModel" "thrown" "I") (List.mem_cons_of_mem _ (wr7 _ (List.mem_of_getElem? (i := 9) rfl)))
  have k_7_10 := hts (.fieldLink RX10 126 "ArrayTrainerModel" "taped" "I") (List.mem_cons_of_mem _ (wr7 _ (List.mem_of_getElem? (i := 10) rfl)))
  have k_22_11 := hts (.fieldLink RX10 261 "ArrayTrainerModel" "size" "I") (List.mem_cons_of_mem _ (wr22 _ (List.mem_of_getElem? (i := 11) rfl)))
  have k_22_12 := hts (.fieldLink RX10 263 "ArrayTrainerModel" "to" "I") (List.mem_cons_of_mem _ (wr22 _ (List.mem_of_getElem? (i := 12) rfl)))
  have k_22_13 := hts (.fieldLink RX10 442 "ArrayTrainerModel" "fault" "I") (List.mem_cons_of_mem _ (wr22 _ (List.mem_of_getElem? (i := 13) rfl)))
  have k_22_14 := hts (.fieldLink RX10 401 "ArrayTrainerModel" "takes" "I") (List.mem_cons_of_mem _ (wr22 _ (List.mem_of_getElem? (i := 14) rfl)))
  have k_22_18 := hts (.fieldLink RX10 455 "ArrayTrainerModel" "steps" "I") (List.mem_cons_of_mem _ (wr22 _ (List.mem_of_getElem? (i := 18) rfl)))
  have k_22_19 := hts (.fieldLink RX10 458 "ArrayTrainerModel" "hasProgram" "Z") (List.mem_cons_of_mem _ (wr22 _ (List.mem_of_getElem? (i := 19) rfl)))
  have k_6_14 := hts (.fieldLink RX10 104 "ArrayTrainerModel" "outcome" "[I") (List.mem_cons_of_mem _ (wr6 _ (List.mem_of_getElem? (i := 14) rfl)))
  have k_5_8 := hts (.fieldLink RX10 13 "ArrayTrainerModel" "text" "[I") (List.mem_cons_of_mem _ (wr5 _ (List.mem_of_getElem? (i := 8) rfl)))
  have k_5_7 := hts (.fieldLink RX10 9 "ArrayTrainerModel" "tape" "[I") (List.mem_cons_of_mem _ (wr5 _ (List.mem_of_getElem? (i := 7) rfl)))
  have k_22_16 := hts (.fieldLink RX10 310 "ArrayTrainerModel" "wrong" "I") (List.mem_cons_of_mem _ (wr22 _ (List.mem_of_getElem? (i := 16) rfl)))
  have k_22_17 := hts (.fieldLink RX10 313 "ArrayTrainerModel" "wrongAt" "I") (List.mem_cons_of_mem _ (wr22 _ (List.mem_of_getElem? (i := 17) rfl)))
  have k_22_15 := hts (.fieldLink RX10 273 "ArrayTrainerModel" "kind" "I") (List.mem_cons_of_mem _ (wr22 _ (List.mem_of_getElem? (i := 15) rfl)))
  obtain ⟨H, hH⟩ : ∃ H : Heap, H = s.heap := ⟨_, rfl⟩
  obtain ⟨locs, hlc⟩ : ∃ L : List Loc, L = [] := ⟨_, rfl⟩
  have hP : va_P D vwCl (mw cs q v_thrown a_tape v_taped v_size v_to v_kind v_from v_letters v_letterMany v_digits v_isBeyond v_suffix v_steps v_fault v_hasProgram a_text a_act a_guess a_take a_begin a_finish a_to1 a_one a_two a_what a_ats a_atVar a_atNumber a_atomSort a_atomKind a_atomValue v_wrong v_wrongAt v_variable v_number v_numberKind v_takes a_out v_outed a_varSort a_varKind a_varValue a_creature v_creatures a_arrayClass a_arrayFrom a_arrayLong v_arrays v_cells a_cellSort a_cellKind a_cellValue a_asideSort a_asideKind a_asideValue a_outcome v_marks v_came v_guessed v_right v_taken a_markSort a_markKind a_markClass a_markValue v_sort v_kindAt v_value a_index v_reached v_looked) H := by rw [hH]; exact hP
  have hS : va_S A s.heap H locs := by rw [hH, hlc]; exact hS
  refine wHL hH hlc ?_
  refine lv_aload_n hx hb dX10_compile_0 rfl (lv_at hl 0 rfl) ?_
  refine lv_iconst (v := 0) hx hb dX10_compile_1 (by decide) ?_
  refine va_put (D := D) (ci := 9) (v := .int 0) (ty := .int) (C := RX10) (T := TX10) (N := 71) hx hb hts hin tyX10 tyX10_ok nmX10 hown hK hP hD hS 0 rfl rfl 0 (by decide) k_7_9 (fun _ h9 => h9) rfl (by decide +kernel) rfl rfl (Nat.le_of_ble_eq_true rfl) dX10_compile_2 (fun H locs hP hD hS => ?_)
  have hP : va_P D vwCl (mw cs q (0 : Int32) a_tape v_taped v_size v_to v_kind v_from v_letters v_letterMany v_digits v_isBeyond v_suffix v_steps v_fault v_hasProgram a_text a_act a_guess a_take a_begin a_finish a_to1 a_one a_two a_what a_ats a_atVar a_atNumber a_atomSort a_atomKind a_atomValue v_wrong v_wrongAt v_variable v_number v_numberKind v_takes a_out v_outed a_varSort a_varKind a_varValue a_creature v_creatures a_arrayClass a_arrayFrom a_arrayLong v_arrays v_cells a_cellSort a_cellKind a_cellValue a_asideSort a_asideKind a_asideValue a_outcome v_marks v_came v_guessed v_right v_taken a_markSort a_markKind a_markClass a_markValue v_sort v_kindAt v_value a_index v_reached v_looked) H := hP
  have hD : va_D A (mw cs q (0 : Int32) a_tape v_taped v_size v_to v_kind v_from v_letters v_letterMany v_digits v_isBeyond v_suffix v_steps v_fault v_hasProgram a_text a_act a_guess a_take a_begin a_finish a_to1 a_one a_two a_what a_ats a_atVar a_atNumber a_atomSort a_atomKind a_atomValue v_wrong v_wrongAt v_variable v_number v_numberKind v_takes a_out v_outed a_varSort a_varKind a_varValue a_creature v_creatures a_arrayClass a_arrayFrom a_arrayLong v_arrays v_cells a_cellSort a_cellKind a_cellValue a_asideSort a_asideKind a_asideValue a_outcome v_marks v_came v_guessed v_right v_taken a_markSort a_markKind a_markClass a_markValue v_sort v_kindAt v_value a_index v_reached v_looked) := hD
  refine lv_aload_n hx hb dX10_compile_5 rfl (lv_at hl 0 rfl) ?_
  refine lv_aload_n hx hb dX10_compile_6 rfl (lv_at hl 0 rfl) ?_
  refine va_get (D := D) (ci := 9) (v := .int v_taped) (C := RX10) (T := TX10) (N := 71) hx hb hts hin hown hK hP 0 rfl rfl 2 (by decide) k_7_10 (fun _ h9 => h9) rfl dX10_compile_7 ?_
  refine va_put (D := D) (ci := 9) (v := .int v_taped) (ty := .int) (C := RX10) (T := TX10) (N := 71) hx hb hts hin tyX10 tyX10_ok nmX10 hown hK hP hD hS 0 rfl rfl 3 (by decide) k_22_11 (fun _ h9 => h9) rfl (by decide +kernel) rfl rfl (Nat.le_of_ble_eq_true rfl) dX10_compile_10 (fun H locs hP hD hS => ?_)
  have hP : va_P D vwCl (mw cs q (0 : Int32) a_tape v_taped v_taped v_to v_kind v_from v_letters v_letterMany v_digits v_isBeyond v_suffix v_steps v_fault v_hasProgram a_text a_act a_guess a_take a_begin a_finish a_to1 a_one a_two a_what a_ats a_atVar a_atNumber a_atomSort a_atomKind a_atomValue v_wrong v_wrongAt v_variable v_number v_numberKind v_takes a_out v_outed a_varSort a_varKind a_varValue a_creature v_creatures a_arrayClass a_arrayFrom a_arrayLong v_arrays v_cells a_cellSort a_cellKind a_cellValue a_asideSort a_asideKind a_asideValue a_outcome v_marks v_came v_guessed v_right v_taken a_markSort a_markKind a_markClass a_markValue v_sort v_kindAt v_value a_index v_reached v_looked) H := hP
  have hD : va_D A (mw cs q (0 : Int32) a_tape v_taped v_taped v_to v_kind v_from v_letters v_letterMany v_digits v_isBeyond v_suffix v_steps v_fault v_hasProgram a_text a_act a_guess a_take a_begin a_finish a_to1 a_one a_two a_what a_ats a_atVar a_atNumber a_atomSort a_atomKind a_atomValue v_wrong v_wrongAt v_variable v_number v_numberKind v_takes a_out v_outed a_varSort a_varKind a_varValue a_creature v_creatures a_arrayClass a_arrayFrom a_arrayLong v_arrays v_cells a_cellSort a_cellKind a_cellValue a_asideSort a_asideKind a_asideValue a_outcome v_marks v_came v_guessed v_right v_taken a_markSort a_markKind a_markClass a_markValue v_sort v_kindAt v_value a_index v_reached v_looked) := hD
  refine lv_aload_n hx hb dX10_compile_13 rfl (lv_at hl 0 rfl) ?_
  refine lv_iconst (v := 0) hx hb dX10_compile_14 (by decide) ?_
  refine va_put (D := D) (ci := 9) (v := .int 0) (ty := .int) (C := RX10) (T := TX10) (N := 71) hx hb hts hin tyX10 tyX10_ok nmX10 hown hK hP hD hS 0 rfl rfl 2 (by decide) k_7_10 (fun _ h9 => h9) rfl (by decide +kernel) rfl rfl (Nat.le_of_ble_eq_true rfl) dX10_compile_15 (fun H locs hP hD hS => ?_)
  have hP : va_P D vwCl (mw cs q (0 : Int32) a_tape (0 : Int32) v_taped v_to v_kind v_from v_letters v_letterMany v_digits v_isBeyond v_suffix v_steps v_fault v_hasProgram a_text a_act a_guess a_take a_begin a_finish a_to1 a_one a_two a_what a_ats a_atVar a_atNumber a_atomSort a_atomKind a_atomValue v_wrong v_wrongAt v_variable v_number v_numberKind v_takes a_out v_outed a_varSort a_varKind a_varValue a_creature v_creatures a_arrayClass a_arrayFrom a_arrayLong v_arrays v_cells a_cellSort a_cellKind a_cellValue a_asideSort a_asideKind a_asideValue a_outcome v_marks v_came v_guessed v_right v_taken a_markSort a_markKind a_markClass a_markValue v_sort v_kindAt v_value a_index v_reached v_looked) H := hP
  have hD : va_D A (mw cs q (0 : Int32) a_tape (0 : Int32) v_taped v_to v_kind v_from v_letters v_letterMany v_digits v_isBeyond v_suffix v_steps v_fault v_hasProgram a_text a_act a_guess a_take a_begin a_finish a_to1 a_one a_two a_what a_ats a_atVar a_atNumber a_atomSort a_atomKind a_atomValue v_wrong v_wrongAt v_variable v_number v_numberKind v_takes a_out v_outed a_varSort a_varKind a_varValue a_creature v_creatures a_arrayClass a_arrayFrom a_arrayLong v_arrays v_cells a_cellSort a_cellKind a_cellValue a_asideSort a_asideKind a_asideValue a_outcome v_marks v_came v_guessed v_right v_taken a_markSort a_markKind a_markClass a_markValue v_sort v_kindAt v_value a_index v_reached v_looked) := hD
  refine lv_aload_n hx hb dX10_compile_18 rfl (lv_at hl 0 rfl) ?_
  refine lv_iconst (v := 0) hx hb dX10_compile_19 (by decide) ?_
  refine va_put (D := D) (ci := 9) (v := .int 0) (ty := .int) (C := RX10) (T := TX10) (N := 71) hx hb hts hin tyX10 tyX10_ok nmX10 hown hK hP hD hS 0 rfl rfl 4 (by decide) k_22_12 (fun _ h9 => h9) rfl (by decide +kernel) rfl rfl (Nat.le_of_ble_eq_true rfl) dX10_compile_20 (fun H locs hP hD hS => ?_)
  have hP : va_P D vwCl (mw cs q (0 : Int32) a_tape (0 : Int32) v_taped (0 : Int32) v_kind v_from v_letters v_letterMany v_digits v_isBeyond v_suffix v_steps v_fault v_hasProgram a_text a_act a_guess a_take a_begin a_finish a_to1 a_one a_two a_what a_ats a_atVar a_atNumber a_atomSort a_atomKind a_atomValue v_wrong v_wrongAt v_variable v_number v_numberKind v_takes a_out v_outed a_varSort a_varKind a_varValue a_creature v_creatures a_arrayClass a_arrayFrom a_arrayLong v_arrays v_cells a_cellSort a_cellKind a_cellValue a_asideSort a_asideKind a_asideValue a_outcome v_marks v_came v_guessed v_right v_taken a_markSort a_markKind a_markClass a_markValue v_sort v_kindAt v_value a_index v_reached v_looked) H := hP
  have hD : va_D A (mw cs q (0 : Int32) a_tape (0 : Int32) v_taped (0 : Int32) v_kind v_from v_letters v_letterMany v_digits v_isBeyond v_suffix v_steps v_fault v_hasProgram a_text a_act a_guess a_take a_begin a_finish a_to1 a_one a_two a_what a_ats a_atVar a_atNumber a_atomSort a_atomKind a_atomValue v_wrong v_wrongAt v_variable v_number v_numberKind v_takes a_out v_outed a_varSort a_varKind a_varValue a_creature v_creatures a_arrayClass a_arrayFrom a_arrayLong v_arrays v_cells a_cellSort a_cellKind a_cellValue a_asideSort a_asideKind a_asideValue a_outcome v_marks v_came v_guessed v_right v_taken a_markSort a_markKind a_markClass a_markValue v_sort v_kindAt v_value a_index v_reached v_looked) := hD
  refine lv_aload_n hx hb dX10_compile_23 rfl (lv_at hl 0 rfl) ?_
  refine lv_iconst (v := 0) hx hb dX10_compile_24 (by decide) ?_
  refine va_put (D := D) (ci := 9) (v := .int 0) (ty := .int) (C := RX10) (T := TX10) (N := 71) hx hb hts hin tyX10 tyX10_ok nmX10 hown hK hP hD hS 0 rfl rfl 13 (by decide) k_22_13 (fun _ h9 => h9) rfl (by decide +kernel) rfl rfl (Nat.le_of_ble_eq_true rfl) dX10_compile_25 (fun H locs hP hD hS => ?_)
  have hP : va_P D vwCl (mw cs q (0 : Int32) a_tape (0 : Int32) v_taped (0 : Int32) v_kind v_from v_letters v_letterMany v_digits v_isBeyond v_suffix v_steps (0 : Int32) v_hasProgram a_text a_act a_guess a_take a_begin a_finish a_to1 a_one a_two a_what a_ats a_atVar a_atNumber a_atomSort a_atomKind a_atomValue v_wrong v_wrongAt v_variable v_number v_numberKind v_takes a_out v_outed a_varSort a_varKind a_varValue a_creature v_creatures a_arrayClass a_arrayFrom a_arrayLong v_arrays v_cells a_cellSort a_cellKind a_cellValue a_asideSort a_asideKind a_asideValue a_outcome v_marks v_came v_guessed v_right v_taken a_markSort a_markKind a_markClass a_markValue v_sort v_kindAt v_value a_index v_reached v_looked) H := hP
  have hD : va_D A (mw cs q (0 : Int32) a_tape (0 : Int32) v_taped (0 : Int32) v_kind v_from v_letters v_letterMany v_digits v_isBeyond v_suffix v_steps (0 : Int32) v_hasProgram a_text a_act a_guess a_take a_begin a_finish a_to1 a_one a_two a_what a_ats a_atVar a_atNumber a_atomSort a_atomKind a_atomValue v_wrong v_wrongAt v_variable v_number v_numberKind v_takes a_out v_outed a_varSort a_varKind a_varValue a_creature v_creatures a_arrayClass a_arrayFrom a_arrayLong v_arrays v_cells a_cellSort a_cellKind a_cellValue a_asideSort a_asideKind a_asideValue a_outcome v_marks v_came v_guessed v_right v_taken a_markSort a_markKind a_markClass a_markValue v_sort v_kindAt v_value a_index v_reached v_looked) := hD
  refine lv_aload_n hx hb dX10_compile_28 rfl (lv_at hl 0 rfl) ?_
  refine lv_iconst (v := 0) hx hb dX10_compile_29 (by decide) ?_
  refine va_put (D := D) (ci := 9) (v := .int 0) (ty := .int) (C := RX10) (T := TX10) (N := 71) hx hb hts hin tyX10 tyX10_ok nmX10 hown hK hP hD hS 0 rfl rfl 36 (by decide) k_22_14 (fun _ h9 => h9) rfl (by decide +kernel) rfl rfl (Nat.le_of_ble_eq_true rfl) dX10_compile_30 (fun H locs hP hD hS => ?_)
  have hP : va_P D vwCl (mw cs q (0 : Int32) a_tape (0 : Int32) v_taped (0 : Int32) v_kind v_from v_letters v_letterMany v_digits v_isBeyond v_suffix v_steps (0 : Int32) v_hasProgram a_text a_act a_guess a_take a_begin a_finish a_to1 a_one a_two a_what a_ats a_atVar a_atNumber a_atomSort a_atomKind a_atomValue v_wrong v_wrongAt v_variable v_number v_numberKind (0 : Int32) a_out v_outed a_varSort a_varKind a_varValue a_creature v_creatures a_arrayClass a_arrayFrom a_arrayLong v_arrays v_cells a_cellSort a_cellKind a_cellValue a_asideSort a_asideKind a_asideValue a_outcome v_marks v_came v_guessed v_right v_taken a_markSort a_markKind a_markClass a_markValue v_sort v_kindAt v_value a_index v_reached v_looked) H := hP
  have hD : va_D A (mw cs q (0 : Int32) a_tape (0 : Int32) v_taped (0 : Int32) v_kind v_from v_letters v_letterMany v_digits v_isBeyond v_suffix v_steps (0 : Int32) v_hasProgram a_text a_act a_guess a_take a_begin a_finish a_to1 a_one a_two a_what a_ats a_atVar a_atNumber a_atomSort a_atomKind a_atomValue v_wrong v_wrongAt v_variable v_number v_numberKind (0 : Int32) a_out v_outed a_varSort a_varKind a_varValue a_creature v_creatures a_arrayClass a_arrayFrom a_arrayLong v_arrays v_cells a_cellSort a_cellKind a_cellValue a_asideSort a_asideKind a_asideValue a_outcome v_marks v_came v_guessed v_right v_taken a_markSort a_markKind a_markClass a_markValue v_sort v_kindAt v_value a_index v_reached v_looked) := hD
  refine lv_iconst (v := 0) hx hb dX10_compile_33 (by decide) ?_
  refine lv_istore_n (lv' := [(1, .int 0), (0, .ref (q 0))]) hx hb dX10_compile_34 rfl hl (by decide) rfl (fun ls hl => ?_)
  refine lv_iconst (v := 1) hx hb dX10_compile_35 (by decide) ?_
  refine lv_istore_n (lv' := [(2, .int 1), (1, .int 0), (0, .ref (q 0))]) hx hb dX10_compile_36 rfl hl (by decide) rfl (fun ls hl => ?_)
  refine lv_aload_n hx hb dX10_compile_37 rfl (lv_at hl 2 rfl) ?_
  refine call_v (As := []) (rest := []) ⟨hx, hb, hml, hown, hts⟩ (tX10_goB (l := l)  (by exact ⟨⟨by omega, by omega⟩, ⟨by decide, by omega⟩, by omega⟩)) (cwV 0 hts (gV (wr22 _ (List.mem_of_getElem? (i := 20) rfl)) (wr22 _ (List.mem_of_getElem? (i := 21) rfl)) (wr22 _ (List.mem_of_getElem? (i := 22) rfl)) (wr1 _ (List.mem_of_getElem? (i := 5) rfl)) (wr22 _ (List.mem_of_getElem? (i := 23) rfl))) rfl rfl rfl (by decide +kernel) ⟨Nat.le_of_ble_eq_true rfl, Nat.le_of_ble_eq_true rfl⟩) (va_recv hK hP (ci := 9) (q0 := 0) rfl rfl) hK hP hD hE hS hA rfl hl.1 rfl (Nat.le_of_ble_eq_true rfl) dX10_compile_38 ⟨Nat.le_of_ble_eq_true rfl, Nat.le_of_ble_eq_true rfl⟩ (fun w9 H locs hw38 hP hD hS => ?_)
  obtain ⟨v_to_38, v_kind_38, v_from_38, v_letters_38, v_letterMany_38, v_digits_38, v_isBeyond_38, v_suffix_38, rfl, hw38_0, hw38_1, hw38_2⟩ := hw38
  have b_v_to_38 := iB v_to_38
  have b_v_kind_38 := iB v_kind_38
  have b_v_from_38 := iB v_from_38
  have b_v_letters_38 := jB v_letters_38
  have b_v_letterMany_38 := iB v_letterMany_38
  have b_v_digits_38 := jB v_digits_38
  have b_v_isBeyond_38 := iB v_isBeyond_38
  have b_v_suffix_38 := iB v_suffix_38
  have J41 : ∀ (n41 : Nat) (l1_41 : Int32) (v_to_41 : Int32) (a_act_41 : Nat → Int32) (a_ats_41 : Nat → Int32) (a_one_41 : Nat → Int32) (a_to1_41 : Nat → Int32) (a_two_41 : Nat → Int32) (a_atNumber_41 : Nat → Int32) (a_atVar_41 : Nat → Int32) (a_atomKind_41 : Nat → Int32) (a_atomSort_41 : Nat → Int32) (a_atomValue_41 : Nat → Int64) (a_begin_41 : Nat → Int32) (v_digits_41 : Int64) (a_finish_41 : Nat → Int32) (v_from_41 : Int32) (a_guess_41 : Nat → Int32) (v_isBeyond_41 : Int32) (v_kind_41 : Int32) (v_letterMany_41 : Int32) (v_letters_41 : Int64) (v_number_41 : Int64) (v_numberKind_41 : Int32) (v_suffix_41 : Int32) (a_take_41 : Nat → Int32) (v_takes_41 : Int32) (v_variable_41 : Int32) (a_what_41 : Nat → Int32) (v_wrong_41 : Int32) (v_wrongAt_41 : Int32) (H : Heap) (locs : List Loc) (ls : Array Slot), (0 ≤ l1_41.toInt) → (l1_41.toInt ≤ 100) → (LX a_tape v_taped v_to_41 v_from_41 v_kind_41 v_letters_41 v_letterMany_41 v_isBeyond_41) → (0 ≤ v_variable_41.toInt ∧ v_variable_41.toInt ≤ 25) → (NumOK v_numberKind_41 v_number_41) → (Rm25 a_atVar_41) → (R03 a_ats_41) → (R25 a_one_41) → (R25 a_two_41) → (R25 a_to1_41) → (ATM a_atomSort_41 a_atomKind_41 a_atomValue_41) → (PRG a_act_41 a_ats_41 a_what_41 a_begin_41 a_finish_41 a_tape v_taped 101 l1_41) → (PRG a_act_41 a_ats_41 a_what_41 a_begin_41 a_finish_41 a_text 3100 0 v_steps) → (100 - l1_41.toInt < (n41 : Int)) → va_P D vwCl (mw cs q (0 : Int32) a_tape (0 : Int32) v_taped v_to_41 v_kind_41 v_from_41 v_letters_41 v_letterMany_41 v_digits_41 v_isBeyond_41 v_suffix_41 v_steps (0 : Int32) v_hasProgram a_text a_act_41 a_guess_41 a_take_41 a_begin_41 a_finish_41 a_to1_41 a_one_41 a_two_41 a_what_41 a_ats_41 a_atVar_41 a_atNumber_41 a_atomSort_41 a_atomKind_41 a_atomValue_41 v_wrong_41 v_wrongAt_41 v_variable_41 v_number_41 v_numberKind_41 v_takes_41 a_out v_outed a_varSort a_varKind a_varValue a_creature v_creatures a_arrayClass a_arrayFrom a_arrayLong v_arrays v_cells a_cellSort a_cellKind a_cellValue a_asideSort a_asideKind a_asideValue a_outcome v_marks v_came v_guessed v_right v_taken a_markSort a_markKind a_markClass a_markValue v_sort v_kindAt v_value a_index v_reached v_looked) H → va_D A (mw cs q (0 : Int32) a_tape (0 : Int32) v_taped v_to_41 v_kind_41 v_from_41 v_letters_41 v_letterMany_41 v_digits_41 v_isBeyond_41 v_suffix_41 v_steps (0 : Int32) v_hasProgram a_text a_act_41 a_guess_41 a_take_41 a_begin_41 a_finish_41 a_to1_41 a_one_41 a_two_41 a_what_41 a_ats_41 a_atVar_41 a_atNumber_41 a_atomSort_41 a_atomKind_41 a_atomValue_41 v_wrong_41 v_wrongAt_41 v_variable_41 v_number_41 v_numberKind_41 v_takes_41 a_out v_outed a_varSort a_varKind a_varValue a_creature v_creatures a_arrayClass a_arrayFrom a_arrayLong v_arrays v_cells a_cellSort a_cellKind a_cellValue a_asideSort a_asideKind a_asideValue a_outcome v_marks v_came v_guessed v_right v_taken a_markSort a_markKind a_markClass a_markValue v_sort v_kindAt v_value a_index v_reached v_looked) → va_S A s.heap H locs → lv_has ls 4 [(0, .ref (q 0)), (1, .int l1_41)] → W p l e (headSpec (wG yX10_compile cX10_compile 4 (some .int)) rmX10_compile).room s m ([.ref (q 0)] : List Value).toArray below meth c H locs 0 0 Q (F0 m 41 ls []) := by
    intro n41
    induction n41 with
    | zero =>
      intro l1_41 v_to_41 a_act_41 a_ats_41 a_one_41 a_to1_41 a_two_41 a_atNumber_41 a_atVar_41 a_atomKind_41 a_atomSort_41 a_atomValue_41 a_begin_41 v_digits_41 a_finish_41 v_from_41 a_guess_41 v_isBeyond_41 v_kind_41 v_letterMany_41 v_letters_41 v_number_41 v_numberKind_41 v_suffix_41 a_take_41 v_takes_41 v_variable_41 a_what_41 v_wrong_41 v_wrongAt_41 H locs ls f41_0 f41_1 f41_2 f41_3 f41_4 f41_5 f41_6 f41_7 f41_8 f41_9 f41_10 f41_11 f41_12 hm41
      exfalso
      omega
    | succ n41 ih41 =>
      intro l1_41 v_to_41 a_act_41 a_ats_41 a_one_41 a_to1_41 a_two_41 a_atNumber_41 a_atVar_41 a_atomKind_41 a_atomSort_41 a_atomValue_41 a_begin_41 v_digits_41 a_finish_41 v_from_41 a_guess_41 v_isBeyond_41 v_kind_41 v_letterMany_41 v_letters_41 v_number_41 v_numberKind_41 v_suffix_41 a_take_41 v_takes_41 v_variable_41 a_what_41 v_wrong_41 v_wrongAt_41 H locs ls f41_0 f41_1 f41_2 f41_3 f41_4 f41_5 f41_6 f41_7 f41_8 f41_9 f41_10 f41_11 f41_12 hm41 hP hD hS hl
      refine lv_aload_n hx hb dX10_compile_41 rfl (lv_at hl 0 rfl) ?_
      refine call_i (As := []) (rest := []) ⟨hx, hb, hml, hown, hts⟩ (tX10_canBegin (l := l) ) (cwV 0 hts (gV (wr24 _ (List.mem_of_getElem? (i := 4) rfl)) (wr24 _ (List.mem_of_getElem? (i := 5) rfl)) (wr24 _ (List.mem_of_getElem? (i := 6) rfl)) (wr1 _ (List.mem_of_getElem? (i := 5) rfl)) (wr24 _ (List.mem_of_getElem? (i := 7) rfl))) rfl rfl rfl (by decide +kernel) ⟨Nat.le_of_ble_eq_true rfl, Nat.le_of_ble_eq_true rfl⟩) (va_recv hK hP (ci := 9) (q0 := 0) rfl rfl) hK hP hD hE hS hA rfl hl.1 rfl (Nat.le_of_ble_eq_true rfl) dX10_compile_42 ⟨Nat.le_of_ble_eq_true rfl, Nat.le_of_ble_eq_true rfl⟩ (fun r42 w9 H locs hw42 hP hD hS => ?_)
      obtain ⟨rfl, hw42_0⟩ := hw42
      have b_r42 := iB r42
      have J81 : ∀ (l2_81 : Int32) (v_to_81 : Int32) (a_act_81 : Nat → Int32) (a_ats_81 : Nat → Int32) (a_one_81 : Nat → Int32) (a_to1_81 : Nat → Int32) (a_two_81 : Nat → Int32) (a_atNumber_81 : Nat → Int32) (a_atVar_81 : Nat → Int32) (a_atomKind_81 : Nat → Int32) (a_atomSort_81 : Nat → Int32) (a_atomValue_81 : Nat → Int64) (a_begin_81 : Nat → Int32) (v_digits_81 : Int64) (a_finish_81 : Nat → Int32) (v_from_81 : Int32) (a_guess_81 : Nat → Int32) (v_isBeyond_81 : Int32) (v_kind_81 : Int32) (v_letterMany_81 : Int32) (v_letters_81 : Int64) (v_number_81 : Int64) (v_numberKind_81 : Int32) (v_suffix_81 : Int32) (a_take_81 : Nat → Int32) (v_takes_81 : Int32) (v_variable_81 : Int32) (a_what_81 : Nat → Int32) (v_wrong_81 : Int32) (v_wrongAt_81 : Int32) (H : Heap) (locs : List Loc) (ls : Array Slot), (LX a_tape v_taped v_to_81 v_from_81 v_kind_81 v_letters_81 v_letterMany_81 v_isBeyond_81) → (0 ≤ v_variable_81.toInt ∧ v_variable_81.toInt ≤ 25) → (NumOK v_numberKind_81 v_number_81) → (Rm25 a_atVar_81) → (R03 a_ats_81) → (R25 a_one_81) → (R25 a_two_81) → (R25 a_to1_81) → (ATM a_atomSort_81 a_atomKind_81 a_atomValue_81) → (l2_81.toInt = 0 ∨ (l2_81.toInt = 1 ∧ l1_41.toInt ≤ 99 ∧ ∀ m9 : Int32, m9.toInt = l1_41.toInt + 1 → PRG a_act_81 a_ats_81 a_what_81 a_begin_81 a_finish_81 a_tape v_taped 101 m9)) → (PRG a_act_81 a_ats_81 a_what_81 a_begin_81 a_finish_81 a_text 3100 0 v_steps) → va_P D vwCl (mw cs q (0 : Int32) a_tape (0 : Int32) v_taped v_to_81 v_kind_81 v_from_81 v_letters_81 v_letterMany_81 v_digits_81 v_isBeyond_81 v_suffix_81 v_steps (0 : Int32) v_hasProgram a_text a_act_81 a_guess_81 a_take_81 a_begin_81 a_finish_81 a_to1_81 a_one_81 a_two_81 a_what_81 a_ats_81 a_atVar_81 a_atNumber_81 a_atomSort_81 a_atomKind_81 a_atomValue_81 v_wrong_81 v_wrongAt_81 v_variable_81 v_number_81 v_numberKind_81 v_takes_81 a_out v_outed a_varSort a_varKind a_varValue a_creature v_creatures a_arrayClass a_arrayFrom a_arrayLong v_arrays v_cells a_cellSort a_cellKind a_cellValue a_asideSort a_asideKind a_asideValue a_outcome v_marks v_came v_guessed v_right v_taken a_markSort a_markKind a_markClass a_markValue v_sort v_kindAt v_value a_index v_reached v_looked) H → va_D A (mw cs q (0 : Int32) a_tape (0 : Int32) v_taped v_to_81 v_kind_81 v_from_81 v_letters_81 v_letterMany_81 v_digits_81 v_isBeyond_81 v_suffix_81 v_steps (0 : Int32) v_hasProgram a_text a_act_81 a_guess_81 a_take_81 a_begin_81 a_finish_81 a_to1_81 a_one_81 a_two_81 a_what_81 a_ats_81 a_atVar_81 a_atNumber_81 a_atomSort_81 a_atomKind_81 a_atomValue_81 v_wrong_81 v_wrongAt_81 v_variable_81 v_number_81 v_numberKind_81 v_takes_81 a_out v_outed a_varSort a_varKind a_varValue a_creature v_creatures a_arrayClass a_arrayFrom a_arrayLong v_arrays v_cells a_cellSort a_cellKind a_cellValue a_asideSort a_asideKind a_asideValue a_outcome v_marks v_came v_guessed v_right v_taken a_markSort a_markKind a_markClass a_markValue v_sort v_kindAt v_value a_index v_reached v_looked) → va_S A s.heap H locs → lv_has ls 4 [(0, .ref (q 0)), (1, .int l1_41), (2, .int l2_81)] → W p l e (headSpec (wG yX10_compile cX10_compile 4 (some .int)) rmX10_compile).room s m ([.ref (q 0)] : List Value).toArray below meth c H locs 0 0 Q (F0 m 81 ls []) := by
        intro l2_81 v_to_81 a_act_81 a_ats_81 a_one_81 a_to1_81 a_two_81 a_atNumber_81 a_atVar_81 a_atomKind_81 a_atomSort_81 a_atomValue_81 a_begin_81 v_digits_81 a_finish_81 v_from_81 a_guess_81 v_isBeyond_81 v_kind_81 v_letterMany_81 v_letters_81 v_number_81 v_numberKind_81 v_suffix_81 a_take_81 v_takes_81 v_variable_81 a_what_81 v_wrong_81 v_wrongAt_81 H locs ls f81_0 f81_1 f81_2 f81_3 f81_4 f81_5 f81_6 f81_7 f81_8 f81_9 f81_10 hP hD hS hl
        obtain ⟨x81, e_x81⟩ : ∃ z : Int32, z = l1_41 + (1 : Int32) := ⟨_, rfl⟩
        obtain ⟨k_x81, g_x81⟩ : ∃ k : Int, x81.toInt = l1_41.toInt + (1) + k * 4294967296 := by rw [e_x81]; exact iAdd l1_41 (1)
        have b_x81 := iB x81
        try (have q_x81 : x81.toInt = l1_41.toInt + (1) := (by omega); clear g_x81 k_x81)
        refine lv_iinc (v := x81) (lv' := [(1, .int x81), (0, .ref (q 0)), (2, .int l2_81)]) hx hb dX10_compile_81 hl (k := 1) rfl (by rw [e_x81]; rfl) (by decide) rfl (fun ls hl => ?_)
        refine lv_iload_n hx hb dX10_compile_84 rfl (lv_at hl 2 rfl) ?_
        have J95 : ∀ (H : Heap) (locs : List Loc) (ls : Array Slot), va_P D vwCl (mw cs q (0 : Int32) a_tape (0 : Int32) v_taped v_to_81 v_kind_81 v_from_81 v_letters_81 v_letterMany_81 v_digits_81 v_isBeyond_81 v_suffix_81 v_steps (0 : Int32) v_hasProgram a_text a_act_81 a_guess_81 a_take_81 a_begin_81 a_finish_81 a_to1_81 a_one_81 a_two_81 a_what_81 a_ats_81 a_atVar_81 a_atNumber_81 a_atomSort_81 a_atomKind_81 a_atomValue_81 v_wrong_81 v_wrongAt_81 v_variable_81 v_number_81 v_numberKind_81 v_takes_81 a_out v_outed a_varSort a_varKind a_varValue a_creature v_creatures a_arrayClass a_arrayFrom a_arrayLong v_arrays v_cells a_cellSort a_cellKind a_cellValue a_asideSort a_asideKind a_asideValue a_outcome v_marks v_came v_guessed v_right v_taken a_markSort a_markKind a_markClass a_markValue v_sort v_kindAt v_value a_index v_reached v_looked) H → va_D A (mw cs q (0 : Int32) a_tape (0 : Int32) v_taped v_to_81 v_kind_81 v_from_81 v_letters_81 v_letterMany_81 v_digits_81 v_isBeyond_81 v_suffix_81 v_steps (0 : Int32) v_hasProgram a_text a_act_81 a_guess_81 a_take_81 a_begin_81 a_finish_81 a_to1_81 a_one_81 a_two_81 a_what_81 a_ats_81 a_atVar_81 a_atNumber_81 a_atomSort_81 a_atomKind_81 a_atomValue_81 v_wrong_81 v_wrongAt_81 v_variable_81 v_number_81 v_numberKind_81 v_takes_81 a_out v_outed a_varSort a_varKind a_varValue a_creature v_creatures a_arrayClass a_arrayFrom a_arrayLong v_arrays v_cells a_cellSort a_cellKind a_cellValue a_asideSort a_asideKind a_asideValue a_outcome v_marks v_came v_guessed v_right v_taken a_markSort a_markKind a_markClass a_markValue v_sort v_kindAt v_value a_index v_reached v_looked) → va_S A s.heap H locs → lv_has ls 4 [(0, .ref (q 0)), (1, .int x81), (2, .int l2_81)] → W p l e (headSpec (wG yX10_compile cX10_compile 4 (some .int)) rmX10_compile).room s m ([.ref (q 0)] : List Value).toArray below meth c H locs 0 0 Q (F0 m 95 ls []) := by
          intro H locs ls hP hD hS hl
          have hz81 := f81_0.1.2.2
          refine lv_iload_n hx hb dX10_compile_95 rfl (lv_at hl 2 rfl) ?_
          refine m_if_ne (X := l2_81.toInt) (tgt := 114) hx hb dX10_compile_96 (by decide) rfl (fun c96 => ?_) (fun c96 => ?_)
          · skip
            refine lv_iconst (v := 0) hx hb dX10_compile_114 (by decide) ?_
            refine lv_istore_n (lv' := [(3, .int 0), (0, .ref (q 0)), (1, .int x81), (2, .int l2_81)]) hx hb dX10_compile_115 rfl hl (by decide) rfl (fun ls hl => ?_)
            have J116 : ∀ (n116 : Nat) (l3_116 : Int32) (a_act_116 : Nat → Int32) (a_ats_116 : Nat → Int32) (a_one_116 : Nat → Int32) (a_to1_116 : Nat → Int32) (a_two_116 : Nat → Int32) (a_atNumber_116 : Nat → Int32) (a_atVar_116 : Nat → Int32) (a_atomKind_116 : Nat → Int32) (a_atomSort_116 : Nat → Int32) (a_atomValue_116 : Nat → Int64) (a_begin_116 : Nat → Int32) (a_finish_116 : Nat → Int32) (a_guess_116 : Nat → Int32) (a_take_116 : Nat → Int32) (a_what_116 : Nat → Int32) (H : Heap) (locs : List Loc) (ls : Array Slot), (0 ≤ l3_116.toInt) → (l3_116.toInt ≤ x81.toInt) → (Rm25 a_atVar_116) → (R03 a_ats_116) → (R25 a_one_116) → (R25 a_two_116) → (R25 a_to1_116) → (ATM a_atomSort_116 a_atomKind_116 a_atomValue_116) → (PRG a_act_116 a_ats_116 a_what_116 a_begin_116 a_finish_116 a_tape v_taped 101 x81) → (PRG a_act_116 a_ats_116 a_what_116 a_begin_116 a_finish_116 a_tape v_taped 0 l3_116) → (x81.toInt - l3_116.toInt < (n116 : Int)) → va_P D vwCl (mw cs q (0 : Int32) a_tape (0 : Int32) v_taped v_to_81 v_kind_81 v_from_81 v_letters_81 v_letterMany_81 v_digits_81 v_isBeyond_81 v_suffix_81 v_steps (0 : Int32) v_hasProgram a_text a_act_116 a_guess_116 a_take_116 a_begin_116 a_finish_116 a_to1_116 a_one_116 a_two_116 a_what_116 a_ats_116 a_atVar_116 a_atNumber_116 a_atomSort_116 a_atomKind_116 a_atomValue_116 v_wrong_81 v_wrongAt_81 v_variable_81 v_number_81 v_numberKind_81 v_takes_81 a_out v_outed a_varSort a_varKind a_varValue a_creature v_creatures a_arrayClass a_arrayFrom a_arrayLong v_arrays v_cells a_cellSort a_cellKind a_cellValue a_asideSort a_asideKind a_asideValue a_outcome v_marks v_came v_guessed v_right v_taken a_markSort a_markKind a_markClass a_markValue v_sort v_kindAt v_value a_index v_reached v_looked) H → va_D A (mw cs q (0 : Int32) a_tape (0 : Int32) v_taped v_to_81 v_kind_81 v_from_81 v_letters_81 v_letterMany_81 v_digits_81 v_isBeyond_81 v_suffix_81 v_steps (0 : Int32) v_hasProgram a_text a_act_116 a_guess_116 a_take_116 a_begin_116 a_finish_116 a_to1_116 a_one_116 a_two_116 a_what_116 a_ats_116 a_atVar_116 a_atNumber_116 a_atomSort_116 a_atomKind_116 a_atomValue_116 v_wrong_81 v_wrongAt_81 v_variable_81 v_number_81 v_numberKind_81 v_takes_81 a_out v_outed a_varSort a_varKind a_varValue a_creature v_creatures a_arrayClass a_arrayFrom a_arrayLong v_arrays v_cells a_cellSort a_cellKind a_cellValue a_asideSort a_asideKind a_asideValue a_outcome v_marks v_came v_guessed v_right v_taken a_markSort a_markKind a_markClass a_markValue v_sort v_kindAt v_value a_index v_reached v_looked) → va_S A s.heap H locs → lv_has ls 4 [(0, .ref (q 0)), (1, .int x81), (3, .int l3_116)] → W p l e (headSpec (wG yX10_compile cX10_compile 4 (some .int)) rmX10_compile).room s m ([.ref (q 0)] : List Value).toArray below meth c H locs 0 0 Q (F0 m 116 ls []) := by
              intro n116
              induction n116 with
              | zero =>
                intro l3_116 a_act_116 a_ats_116 a_one_116 a_to1_116 a_two_116 a_atNumber_116 a_atVar_116 a_atomKind_116 a_atomSort_116 a_atomValue_116 a_begin_116 a_finish_116 a_guess_116 a_take_116 a_what_116 H locs ls f116_0 f116_1 f116_2 f116_3 f116_4 f116_5 f116_6 f116_7 f116_8 f116_9 hm116
                exfalso
                omega
              | succ n116 ih116 =>
                intro l3_116 a_act_116 a_ats_116 a_one_116 a_to1_116 a_two_116 a_atNumber_116 a_atVar_116 a_atomKind_116 a_atomSort_116 a_atomValue_116 a_begin_116 a_finish_116 a_guess_116 a_take_116 a_what_116 H locs ls f116_0 f116_1 f116_2 f116_3 f116_4 f116_5 f116_6 f116_7 f116_8 f116_9 hm116 hP hD hS hl
                refine lv_iload_n hx hb dX10_compile_116 rfl (lv_at hl 2 rfl) ?_
                refine lv_iload_n hx hb dX10_compile_117 rfl (lv_at hl 1 rfl) ?_
                refine m_icmp_ge (X := l3_116.toInt) (Y := x81.toInt) (tgt := 136) hx hb dX10_compile_118 (by decide) rfl rfl (fun c118 => ?_) (fun c118 => ?_)
                · skip
                  refine lv_iconst (v := 0) hx hb dX10_compile_136 (by decide) ?_
                  refine lv_istore_n (lv' := [(3, .int 0), (0, .ref (q 0)), (1, .int x81)]) hx hb dX10_compile_137 rfl hl (by decide) rfl (fun ls hl => ?_)
                  have J138 : ∀ (n138 : Nat) (l3_138 : Int32) (a_text_138 : Nat → Int32) (H : Heap) (locs : List Loc) (ls : Array Slot), (0 ≤ l3_138.toInt) → (l3_138.toInt ≤ v_taped.toInt) → (∀ j : Nat, (j : Int) < l3_138.toInt → a_text_138 j = a_tape j) → (v_taped.toInt - l3_138.toInt < (n138 : Int)) → va_P D vwCl (mw cs q (0 : Int32) a_tape (0 : Int32) v_taped v_to_81 v_kind_81 v_from_81 v_letters_81 v_letterMany_81 v_digits_81 v_isBeyond_81 v_suffix_81 v_steps (0 : Int32) v_hasProgram a_text_138 a_act_116 a_guess_116 a_take_116 a_begin_116 a_finish_116 a_to1_116 a_one_116 a_two_116 a_what_116 a_ats_116 a_atVar_116 a_atNumber_116 a_atomSort_116 a_atomKind_116 a_atomValue_116 v_wrong_81 v_wrongAt_81 v_variable_81 v_number_81 v_numberKind_81 v_takes_81 a_out v_outed a_varSort a_varKind a_varValue a_creature v_creatures a_arrayClass a_arrayFrom a_arrayLong v_arrays v_cells a_cellSort a_cellKind a_cellValue a_asideSort a_asideKind a_asideValue a_outcome v_marks v_came v_guessed v_right v_taken a_markSort a_markKind a_markClass a_markValue v_sort v_kindAt v_value a_index v_reached v_looked) H → va_D A (mw cs q (0 : Int32) a_tape (0 : Int32) v_taped v_to_81 v_kind_81 v_from_81 v_letters_81 v_letterMany_81 v_digits_81 v_isBeyond_81 v_suffix_81 v_steps (0 : Int32) v_hasProgram a_text_138 a_act_116 a_guess_116 a_take_116 a_begin_116 a_finish_116 a_to1_116 a_one_116 a_two_116 a_what_116 a_ats_116 a_atVar_116 a_atNumber_116 a_atomSort_116 a_atomKind_116 a_atomValue_116 v_wrong_81 v_wrongAt_81 v_variable_81 v_number_81 v_numberKind_81 v_takes_81 a_out v_outed a_varSort a_varKind a_varValue a_creature v_creatures a_arrayClass a_arrayFrom a_arrayLong v_arrays v_cells a_cellSort a_cellKind a_cellValue a_asideSort a_asideKind a_asideValue a_outcome v_marks v_came v_guessed v_right v_taken a_markSort a_markKind a_markClass a_markValue v_sort v_kindAt v_value a_index v_reached v_looked) → va_S A s.heap H locs → lv_has ls 4 [(0, .ref (q 0)), (1, .int x81), (3, .int l3_138)] → W p l e (headSpec (wG yX10_compile cX10_compile 4 (some .int)) rmX10_compile).room s m ([.ref (q 0)] : List Value).toArray below meth c H locs 0 0 Q (F0 m 138 ls []) := by
                    intro n138
                    induction n138 with
                    | zero =>
                      intro l3_138 a_text_138 H locs ls f138_0 f138_1 f138_2 hm138
                      exfalso
                      omega
                    | succ n138 ih138 =>
                      intro l3_138 a_text_138 H locs ls f138_0 f138_1 f138_2 hm138 hP hD hS hl
                      refine lv_iload_n hx hb dX10_compile_138 rfl (lv_at hl 2 rfl) ?_
                      refine lv_aload_n hx hb dX10_compile_139 rfl (lv_at hl 0 rfl) ?_
                      refine va_get (D := D) (ci := 9) (v := .int v_taped) (C := RX10) (T := TX10) (N := 71) hx hb hts hin hown hK hP 0 rfl rfl 3 (by decide) k_22_11 (fun _ h9 => h9) rfl dX10_compile_140 ?_
                      refine m_icmp_ge (X := l3_138.toInt) (Y := v_taped.toInt) (tgt := 164) hx hb dX10_compile_143 (by decide) rfl rfl (fun c143 => ?_) (fun c143 => ?_)
                      · skip
                        have hpr : PRG a_act_116 a_ats_116 a_what_116 a_begin_116 a_finish_116 a_text_138 3100 0 x81 := by
                          have e8 : l3_116 = x81 := iEq.mpr (by omega)
                          rw [← e8]
                          exact PRG.copy f116_9 (fun j hj => f138_2 j (by omega)) (by rw [show ((3100 : Int32).toInt) = 3100 by decide]; omega)
                        have hn81 : x81.toInt ≤ 100 := by have h9 := (f81_9.resolve_left (fun q => by omega)).2.1; omega
                        refine lv_aload_n hx hb dX10_compile_164 rfl (lv_at hl 0 rfl) ?_
                        refine lv_iload_n hx hb dX10_compile_165 rfl (lv_at hl 1 rfl) ?_
                        refine va_put (D := D) (ci := 9) (v := .int x81) (ty := .int) (C := RX10) (T := TX10) (N := 71) hx hb hts hin tyX10 tyX10_ok nmX10 hown hK hP hD hS 0 rfl rfl 12 (by decide) k_22_18 (fun _ h9 => h9) rfl (by decide +kernel) rfl rfl (Nat.le_of_ble_eq_true rfl) dX10_compile_166 (fun H locs hP hD hS => ?_)
                        have hP : va_P D vwCl (mw cs q (0 : Int32) a_tape (0 : Int32) v_taped v_to_81 v_kind_81 v_from_81 v_letters_81 v_letterMany_81 v_digits_81 v_isBeyond_81 v_suffix_81 x81 (0 : Int32) v_hasProgram a_text_138 a_act_116 a_guess_116 a_take_116 a_begin_116 a_finish_116 a_to1_116 a_one_116 a_two_116 a_what_116 a_ats_116 a_atVar_116 a_atNumber_116 a_atomSort_116 a_atomKind_116 a_atomValue_116 v_wrong_81 v_wrongAt_81 v_variable_81 v_number_81 v_numberKind_81 v_takes_81 a_out v_outed a_varSort a_varKind a_varValue a_creature v_creatures a_arrayClass a_arrayFrom a_arrayLong v_arrays v_cells a_cellSort a_cellKind a_cellValue a_asideSort a_asideKind a_asideValue a_outcome v_marks v_came v_guessed v_right v_taken a_markSort a_markKind a_markClass a_markValue v_sort v_kindAt v_value a_index v_reached v_looked) H := hP
                        have hD : va_D A (mw cs q (0 : Int32) a_tape (0 : Int32) v_taped v_to_81 v_kind_81 v_from_81 v_letters_81 v_letterMany_81 v_digits_81 v_isBeyond_81 v_suffix_81 x81 (0 : Int32) v_hasProgram a_text_138 a_act_116 a_guess_116 a_take_116 a_begin_116 a_finish_116 a_to1_116 a_one_116 a_two_116 a_what_116 a_ats_116 a_atVar_116 a_atNumber_116 a_atomSort_116 a_atomKind_116 a_atomValue_116 v_wrong_81 v_wrongAt_81 v_variable_81 v_number_81 v_numberKind_81 v_takes_81 a_out v_outed a_varSort a_varKind a_varValue a_creature v_creatures a_arrayClass a_arrayFrom a_arrayLong v_arrays v_cells a_cellSort a_cellKind a_cellValue a_asideSort a_asideKind a_asideValue a_outcome v_marks v_came v_guessed v_right v_taken a_markSort a_markKind a_markClass a_markValue v_sort v_kindAt v_value a_index v_reached v_looked) := hD
                        refine lv_aload_n hx hb dX10_compile_169 rfl (lv_at hl 0 rfl) ?_
                        refine lv_iconst (v := 1) hx hb dX10_compile_170 (by decide) ?_
                        refine va_put (D := D) (ci := 9) (v := .int 1) (ty := .boolean) (C := RX10) (T := TX10) (N := 71) hx hb hts hin tyX10 tyX10_ok nmX10 hown hK hP hD hS 0 rfl rfl 14 (by decide) k_22_19 (fun _ h9 => h9) rfl (by decide +kernel) (by decide) (by decide) (Nat.le_of_ble_eq_true rfl) dX10_compile_171 (fun H locs hP hD hS => ?_)
                        have hP : va_P D vwCl (mw cs q (0 : Int32) a_tape (0 : Int32) v_taped v_to_81 v_kind_81 v_from_81 v_letters_81 v_letterMany_81 v_digits_81 v_isBeyond_81 v_suffix_81 x81 (0 : Int32) (1 : Int32) a_text_138 a_act_116 a_guess_116 a_take_116 a_begin_116 a_finish_116 a_to1_116 a_one_116 a_two_116 a_what_116 a_ats_116 a_atVar_116 a_atNumber_116 a_atomSort_116 a_atomKind_116 a_atomValue_116 v_wrong_81 v_wrongAt_81 v_variable_81 v_number_81 v_numberKind_81 v_takes_81 a_out v_outed a_varSort a_varKind a_varValue a_creature v_creatures a_arrayClass a_arrayFrom a_arrayLong v_arrays v_cells a_cellSort a_cellKind a_cellValue a_asideSort a_asideKind a_asideValue a_outcome v_marks v_came v_guessed v_right v_taken a_markSort a_markKind a_markClass a_markValue v_sort v_kindAt v_value a_index v_reached v_looked) H := hP
                        have hD : va_D A (mw cs q (0 : Int32) a_tape (0 : Int32) v_taped v_to_81 v_kind_81 v_from_81 v_letters_81 v_letterMany_81 v_digits_81 v_isBeyond_81 v_suffix_81 x81 (0 : Int32) (1 : Int32) a_text_138 a_act_116 a_guess_116 a_take_116 a_begin_116 a_finish_116 a_to1_116 a_one_116 a_two_116 a_what_116 a_ats_116 a_atVar_116 a_atNumber_116 a_atomSort_116 a_atomKind_116 a_atomValue_116 v_wrong_81 v_wrongAt_81 v_variable_81 v_number_81 v_numberKind_81 v_takes_81 a_out v_outed a_varSort a_varKind a_varValue a_creature v_creatures a_arrayClass a_arrayFrom a_arrayLong v_arrays v_cells a_cellSort a_cellKind a_cellValue a_asideSort a_asideKind a_asideValue a_outcome v_marks v_came v_guessed v_right v_taken a_markSort a_markKind a_markClass a_markValue v_sort v_kindAt v_value a_index v_reached v_looked) := hD
                        refine lv_aload_n hx hb dX10_compile_174 rfl (lv_at hl 0 rfl) ?_
                        refine call_v (As := []) (rest := []) ⟨hx, hb, hml, hown, hts⟩ (tX10_forget (l := l) ) (cwV 0 hts (gV (wr30 _ (List.mem_of_getElem? (i := 23) rfl)) (wr31 _ (List.mem_of_getElem? (i := 0) rfl)) (wr31 _ (List.mem_of_getElem? (i := 1) rfl)) (wr1 _ (List.mem_of_getElem? (i := 5) rfl)) (wr31 _ (List.mem_of_getElem? (i := 2) rfl))) rfl rfl rfl (by decide +kernel) ⟨Nat.le_of_ble_eq_true rfl, Nat.le_of_ble_eq_true rfl⟩) (va_recv hK hP (ci := 9) (q0 := 0) rfl rfl) hK hP hD hE hS hA rfl hl.1 rfl (Nat.le_of_ble_eq_true rfl) dX10_compile_175 ⟨Nat.le_of_ble_eq_true rfl, Nat.le_of_ble_eq_true rfl⟩ (fun w9 H locs hw175 hP hD hS => ?_)
                        obtain ⟨a_varSort_175, v_creatures_175, v_arrays_175, v_cells_175, v_marks_175, v_came_175, v_guessed_175, v_right_175, v_taken_175, rfl, hw175_0, hw175_1, hw175_2, hw175_3, hw175_4⟩ := hw175
                        have b_v_creatures_175 := iB v_creatures_175
                        have b_v_arrays_175 := iB v_arrays_175
                        have b_v_cells_175 := iB v_cells_175
                        have b_v_marks_175 := iB v_marks_175
                        have b_v_came_175 := iB v_came_175
                        have b_v_guessed_175 := iB v_guessed_175
                        have b_v_right_175 := iB v_right_175
                        have b_v_taken_175 := iB v_taken_175
                        refine lv_iconst (v := 0) hx hb dX10_compile_178 (by decide) ?_
                        refine lv_istore_n (lv' := [(3, .int 0), (0, .ref (q 0)), (1, .int x81)]) hx hb dX10_compile_179 rfl hl (by decide) rfl (fun ls hl => ?_)
                        have J180 : ∀ (n180 : Nat) (l3_180 : Int32) (a_outcome_180 : Nat → Int32) (H : Heap) (locs : List Loc) (ls : Array Slot), (0 ≤ l3_180.toInt) → (l3_180.toInt ≤ 100) → (100 - l3_180.toInt < (n180 : Int)) → va_P D vwCl (mw cs q (0 : Int32) a_tape (0 : Int32) v_taped v_to_81 v_kind_81 v_from_81 v_letters_81 v_letterMany_81 v_digits_81 v_isBeyond_81 v_suffix_81 x81 (0 : Int32) (1 : Int32) a_text_138 a_act_116 a_guess_116 a_take_116 a_begin_116 a_finish_116 a_to1_116 a_one_116 a_two_116 a_what_116 a_ats_116 a_atVar_116 a_atNumber_116 a_atomSort_116 a_atomKind_116 a_atomValue_116 v_wrong_81 v_wrongAt_81 v_variable_81 v_number_81 v_numberKind_81 v_takes_81 a_out v_outed a_varSort_175 a_varKind a_varValue a_creature v_creatures_175 a_arrayClass a_arrayFrom a_arrayLong v_arrays_175 v_cells_175 a_cellSort a_cellKind a_cellValue a_asideSort a_asideKind a_asideValue a_outcome_180 v_marks_175 v_came_175 v_guessed_175 v_right_175 v_taken_175 a_markSort a_markKind a_markClass a_markValue v_sort v_kindAt v_value a_index v_reached v_looked) H → va_D A (mw cs q (0 : Int32) a_tape (0 : Int32) v_taped v_to_81 v_kind_81 v_from_81 v_letters_81 v_letterMany_81 v_digits_81 v_isBeyond_81 v_suffix_81 x81 (0 : Int32) (1 : Int32) a_text_138 a_act_116 a_guess_116 a_take_116 a_begin_116 a_finish_116 a_to1_116 a_one_116 a_two_116 a_what_116 a_ats_116 a_atVar_116 a_atNumber_116 a_atomSort_116 a_atomKind_116 a_atomValue_116 v_wrong_81 v_wrongAt_81 v_variable_81 v_number_81 v_numberKind_81 v_takes_81 a_out v_outed a_varSort_175 a_varKind a_varValue a_creature v_creatures_175 a_arrayClass a_arrayFrom a_arrayLong v_arrays_175 v_cells_175 a_cellSort a_cellKind a_cellValue a_asideSort a_asideKind a_asideValue a_outcome_180 v_marks_175 v_came_175 v_guessed_175 v_right_175 v_taken_175 a_markSort a_markKind a_markClass a_markValue v_sort v_kindAt v_value a_index v_reached v_looked) → va_S A s.heap H locs → lv_has ls 4 [(0, .ref (q 0)), (1, .int x81), (3, .int l3_180)] → W p l e (headSpec (wG yX10_compile cX10_compile 4 (some .int)) rmX10_compile).room s m ([.ref (q 0)] : List Value).toArray below meth c H locs 0 0 Q (F0 m 180 ls []) := by
                          intro n180
                          induction n180 with
                          | zero =>
                            intro l3_180 a_outcome_180 H locs ls f180_0 f180_1 hm180
                            exfalso
                            omega
                          | succ n180 ih180 =>
                            intro l3_180 a_outcome_180 H locs ls f180_0 f180_1 hm180 hP hD hS hl
                            refine lv_iload_n hx hb dX10_compile_180 rfl (lv_at hl 2 rfl) ?_
                            refine lv_bipush (v := 100) hx hb dX10_compile_181 (by decide) ?_
                            refine m_icmp_ge (X := l3_180.toInt) (Y := 100) (tgt := 199) hx hb dX10_compile_183 (by decide) rfl (by decide) (fun c183 => ?_) (fun c183 => ?_)
                            · skip
                              refine lv_iload_n hx hb dX10_compile_199 rfl (lv_at hl 1 rfl) ?_
                              subst hAe
                              rw [hQ]
                              exact W.iret (v := x81) hx hb hr (fun t ht hW => ⟨⟨x81, _, rfl, ⟨(0 : Int32), (0 : Int32), v_taped, v_to_81, v_kind_81, v_from_81, v_letters_81, v_letterMany_81, v_digits_81, v_isBeyond_81, v_suffix_81, x81, (0 : Int32), (1 : Int32), a_text_138, a_act_116, a_guess_116, a_take_116, a_begin_116, a_finish_116, a_to1_116, a_one_116, a_two_116, a_what_116, a_ats_116, a_atVar_116, a_atNumber_116, a_atomSort_116, a_atomKind_116, a_atomValue_116, v_wrong_81, v_wrongAt_81, v_variable_81, v_number_81, v_numberKind_81, v_takes_81, a_varSort_175, v_creatures_175, v_arrays_175, v_cells_175, a_outcome_180, v_marks_175, v_came_175, v_guessed_175, v_right_175, v_taken_175, rfl, by first | assumption | omega | (intros; omega) | decide, by first | assumption | omega | (intros; omega) | decide, by first | assumption | omega | (intros; omega) | decide, by first | assumption | omega | (intros; omega) | decide, by first | assumption | omega | (intros; omega) | decide, by first | assumption | omega | (intros; omega) | decide, by first | assumption | omega | (intros; omega) | decide, by first | assumption | omega | (intros; omega) | decide, by first | assumption | omega | (intros; omega) | decide, by first | assumption | omega | (intros; omega) | decide, by first | assumption | omega | (intros; omega) | decide, by first | assumption | omega | (intros; omega) | decide, by first | assumption | omega | (intros; omega) | decide, by first | assumption | omega | (intros; omega) | decide, by first | assumption | omega | (intros; omega) | decide, by first | assumption | omega | (intros; omega) | decide⟩, by rw [ht]; exact hP, va_K.moved hW.alike hK, hD⟩, hS.F ht⟩) hS.2.2 dX10_compile_200
                            · skip
                              refine lv_aload_n hx hb dX10_compile_186 rfl (lv_at hl 0 rfl) ?_
                              refine va_get (D := D) (ci := 9) (v := .ref (q 32)) (C := RX10) (T := TX10) (N := 71) hx hb hts hin hown hK hP 0 rfl rfl 55 (by decide) k_6_14 (fun _ h9 => h9) rfl dX10_compile_187 ?_
                              refine lv_iload_n hx hb dX10_compile_190 rfl (lv_at hl 2 rfl) ?_
                              refine lv_iconst (v := (-1)) hx hb dX10_compile_191 (by decide) ?_
                              refine va_iast hx hb hK hP hD hS 32 0 rfl rfl (ix (by omega) (by omega)) dX10_compile_192 (fun H locs hP hD hS => ?_)
                              obtain ⟨a_outcome_192, e_a_outcome_192⟩ : ∃ g, g = upd a_outcome_180 l3_180.toNatClampNeg (-1 : Int32) := ⟨_, rfl⟩
                              have hP : va_P D vwCl (mw cs q (0 : Int32) a_tape (0 : Int32) v_taped v_to_81 v_kind_81 v_from_81 v_letters_81 v_letterMany_81 v_digits_81 v_isBeyond_81 v_suffix_81 x81 (0 : Int32) (1 : Int32) a_text_138 a_act_116 a_guess_116 a_take_116 a_begin_116 a_finish_116 a_to1_116 a_one_116 a_two_116 a_what_116 a_ats_116 a_atVar_116 a_atNumber_116 a_atomSort_116 a_atomKind_116 a_atomValue_116 v_wrong_81 v_wrongAt_81 v_variable_81 v_number_81 v_numberKind_81 v_takes_81 a_out v_outed a_varSort_175 a_varKind a_varValue a_creature v_creatures_175 a_arrayClass a_arrayFrom a_arrayLong v_arrays_175 v_cells_175 a_cellSort a_cellKind a_cellValue a_asideSort a_asideKind a_asideValue a_outcome_192 v_marks_175 v_came_175 v_guessed_175 v_right_175 v_taken_175 a_markSort a_markKind a_markClass a_markValue v_sort v_kindAt v_value a_index v_reached v_looked) H := by rw [e_a_outcome_192]; exact hP
                              have hD : va_D A (mw cs q (0 : Int32) a_tape (0 : Int32) v_taped v_to_81 v_kind_81 v_from_81 v_letters_81 v_letterMany_81 v_digits_81 v_isBeyond_81 v_suffix_81 x81 (0 : Int32) (1 : Int32) a_text_138 a_act_116 a_guess_116 a_take_116 a_begin_116 a_finish_116 a_to1_116 a_one_116 a_two_116 a_what_116 a_ats_116 a_atVar_116 a_atNumber_116 a_atomSort_116 a_atomKind_116 a_atomValue_116 v_wrong_81 v_wrongAt_81 v_variable_81 v_number_81 v_numberKind_81 v_takes_81 a_out v_outed a_varSort_175 a_varKind a_varValue a_creature v_creatures_175 a_arrayClass a_arrayFrom a_arrayLong v_arrays_175 v_cells_175 a_cellSort a_cellKind a_cellValue a_asideSort a_asideKind a_asideValue a_outcome_192 v_marks_175 v_came_175 v_guessed_175 v_right_175 v_taken_175 a_markSort a_markKind a_markClass a_markValue v_sort v_kindAt v_value a_index v_reached v_looked) := by rw [e_a_outcome_192]; exact hD
                              obtain ⟨x193, e_x193⟩ : ∃ z : Int32, z = l3_180 + (1 : Int32) := ⟨_, rfl⟩
                              obtain ⟨k_x193, g_x193⟩ : ∃ k : Int, x193.toInt = l3_180.toInt + (1) + k * 4294967296 := by rw [e_x193]; exact iAdd l3_180 (1)
                              have b_x193 := iB x193
                              try (have q_x193 : x193.toInt = l3_180.toInt + (1) := (by omega); clear g_x193 k_x193)
                              refine lv_iinc (v := x193) (lv' := [(3, .int x193), (0, .ref (q 0)), (1, .int x81)]) hx hb dX10_compile_193 hl (k := 2) rfl (by rw [e_x193]; rfl) (by decide) rfl (fun ls hl => ?_)
                              refine lv_goto (tgt := 180) hx hb dX10_compile_196 (by decide) ?_
                              exact ih180 x193 a_outcome_192 H locs ls (by first | assumption | omega | (intros; omega) | decide) (by first | assumption | omega | (intros; omega) | decide) (by omega) hP hD hS (lv_sub hl [1, 2, 0] rfl)
                        exact J180 ((100 - (0 : Int32).toInt).toNat + 1) (0 : Int32) a_outcome H locs ls (by first | assumption | omega | (intros; omega) | decide) (by first | assumption | omega | (intros; omega) | decide) (by omega) hP hD hS (lv_sub hl [1, 2, 0] rfl)
                      · skip
                        refine lv_aload_n hx hb dX10_compile_146 rfl (lv_at hl 0 rfl) ?_
                        refine va_get (D := D) (ci := 9) (v := .ref (q 2)) (C := RX10) (T := TX10) (N := 71) hx hb hts hin hown hK hP 0 rfl rfl 15 (by decide) k_5_8 (fun _ h9 => h9) rfl dX10_compile_147 ?_
                        refine lv_iload_n hx hb dX10_compile_150 rfl (lv_at hl 2 rfl) ?_
                        refine lv_aload_n hx hb dX10_compile_151 rfl (lv_at hl 0 rfl) ?_
                        refine va_get (D := D) (ci := 9) (v := .ref (q 1)) (C := RX10) (T := TX10) (N := 71) hx hb hts hin hown hK hP 0 rfl rfl 1 (by decide) k_5_7 (fun _ h9 => h9) rfl dX10_compile_152 ?_
                        refine lv_iload_n hx hb dX10_compile_155 rfl (lv_at hl 2 rfl) ?_
                        refine m_iald hx hb hK hP 1 0 rfl rfl (ix (by omega) (by omega)) dX10_compile_156 (fun x156 e_x156 => ?_)
                        have b_x156 := iB x156
                        refine va_iast hx hb hK hP hD hS 2 0 rfl rfl (ix (by omega) (by omega)) dX10_compile_157 (fun H locs hP hD hS => ?_)
                        obtain ⟨a_text_157, e_a_text_157⟩ : ∃ g, g = upd a_text_138 l3_138.toNatClampNeg x156 := ⟨_, rfl⟩
                        have hP : va_P D vwCl (mw cs q (0 : Int32) a_tape (0 : Int32) v_taped v_to_81 v_kind_81 v_from_81 v_letters_81 v_letterMany_81 v_digits_81 v_isBeyond_81 v_suffix_81 v_steps (0 : Int32) v_hasProgram a_text_157 a_act_116 a_guess_116 a_take_116 a_begin_116 a_finish_116 a_to1_116 a_one_116 a_two_116 a_what_116 a_ats_116 a_atVar_116 a_atNumber_116 a_atomSort_116 a_atomKind_116 a_atomValue_116 v_wrong_81 v_wrongAt_81 v_variable_81 v_number_81 v_numberKind_81 v_takes_81 a_out v_outed a_varSort a_varKind a_varValue a_creature v_creatures a_arrayClass a_arrayFrom a_arrayLong v_arrays v_cells a_cellSort a_cellKind a_cellValue a_asideSort a_asideKind a_asideValue a_outcome v_marks v_came v_guessed v_right v_taken a_markSort a_markKind a_markClass a_markValue v_sort v_kindAt v_value a_index v_reached v_looked) H := by rw [e_a_text_157]; exact hP
                        have hD : va_D A (mw cs q (0 : Int32) a_tape (0 : Int32) v_taped v_to_81 v_kind_81 v_from_81 v_letters_81 v_letterMany_81 v_digits_81 v_isBeyond_81 v_suffix_81 v_steps (0 : Int32) v_hasProgram a_text_157 a_act_116 a_guess_116 a_take_116 a_begin_116 a_finish_116 a_to1_116 a_one_116 a_two_116 a_what_116 a_ats_116 a_atVar_116 a_atNumber_116 a_atomSort_116 a_atomKind_116 a_atomValue_116 v_wrong_81 v_wrongAt_81 v_variable_81 v_number_81 v_numberKind_81 v_takes_81 a_out v_outed a_varSort a_varKind a_varValue a_creature v_creatures a_arrayClass a_arrayFrom a_arrayLong v_arrays v_cells a_cellSort a_cellKind a_cellValue a_asideSort a_asideKind a_asideValue a_outcome v_marks v_came v_guessed v_right v_taken a_markSort a_markKind a_markClass a_markValue v_sort v_kindAt v_value a_index v_reached v_looked) := by rw [e_a_text_157]; exact hD
                        obtain ⟨x158, e_x158⟩ : ∃ z : Int32, z = l3_138 + (1 : Int32) := ⟨_, rfl⟩
                        obtain ⟨k_x158, g_x158⟩ : ∃ k : Int, x158.toInt = l3_138.toInt + (1) + k * 4294967296 := by rw [e_x158]; exact iAdd l3_138 (1)
                        have b_x158 := iB x158
                        try (have q_x158 : x158.toInt = l3_138.toInt + (1) := (by omega); clear g_x158 k_x158)
                        refine lv_iinc (v := x158) (lv' := [(3, .int x158), (0, .ref (q 0)), (1, .int x81)]) hx hb dX10_compile_158 hl (k := 2) rfl (by rw [e_x158]; rfl) (by decide) rfl (fun ls hl => ?_)
                        refine lv_goto (tgt := 138) hx hb dX10_compile_161 (by decide) ?_
                        exact ih138 x158 a_text_157 H locs ls (by first | assumption | omega | (intros; omega) | decide) (by first | assumption | omega | (intros; omega) | decide) (by first | (intro j hj; omega) | exact upd_c f138_2 (by omega) (by omega) e_x156 e_a_text_157) (by omega) hP hD hS (lv_sub hl [1, 2, 0] rfl)
                  exact J138 ((v_taped.toInt - (0 : Int32).toInt).toNat + 1) (0 : Int32) a_text H locs ls (by first | assumption | omega | (intros; omega) | decide) (by first | assumption | omega | (intros; omega) | decide) (by first | (intro j hj; omega) | exact upd_c f138_2 (by omega) (by omega) e_x156 e_a_text_157) (by omega) hP hD hS (lv_sub hl [1, 2, 0] rfl)
                · skip
                  have hn81 : x81.toInt ≤ 100 := by have h9 := (f81_9.resolve_left (fun q => by omega)).2.1; omega
                  refine lv_aload_n hx hb dX10_compile_121 rfl (lv_at hl 0 rfl) ?_
                  refine lv_bipush (v := 101) hx hb dX10_compile_122 (by decide) ?_
                  refine lv_iload_n hx hb dX10_compile_124 rfl (lv_at hl 2 rfl) ?_
                  refine m_iadd (X := 101) (Y := l3_116.toInt) hx hb dX10_compile_125 (by decide) rfl (fun x125 e_x125 g9 => ?_)
                  obtain ⟨k_x125, g_x125⟩ := g9
                  have b_x125 := iB x125
                  try (have q_x125 : x125.toInt = 101 + l3_116.toInt := (by omega); clear g_x125 k_x125)
                  refine lv_iload_n hx hb dX10_compile_126 rfl (lv_at hl 2 rfl) ?_
                  refine call_v (As := [.int x125, .int l3_116]) (rest := []) ⟨hx, hb, hml, hown, hts⟩ (tX10_keep (l := l) x125 l3_116 (by first | assumption | omega | (intros; omega) | decide) (by first | assumption | omega | (intros; omega) | decide) (by first | assumption | omega | (intros; omega) | decide) (by first | assumption | omega | (intros; omega) | decide) (by first | assumption | omega | (intros; omega) | decide) (by first | assumption | omega | (intros; omega) | decide) (by first | assumption | omega | (intros; omega) | decide) (by first | assumption | omega | (intros; omega) | decide) (by first | assumption | omega | (intros; omega) | decide) (by first | assumption | omega | (intros; omega) | decide)) (cwV 2 hts (gV (wr30 _ (List.mem_of_getElem? (i := 19) rfl)) (wr30 _ (List.mem_of_getElem? (i := 20) rfl)) (wr30 _ (List.mem_of_getElem? (i := 21) rfl)) (wr1 _ (List.mem_of_getElem? (i := 5) rfl)) (wr30 _ (List.mem_of_getElem? (i := 22) rfl))) rfl rfl rfl (by decide +kernel) ⟨Nat.le_of_ble_eq_true rfl, Nat.le_of_ble_eq_true rfl⟩) (va_recv hK hP (ci := 9) (q0 := 0) rfl rfl) hK hP hD hE hS hA rfl hl.1 rfl (Nat.le_of_ble_eq_true rfl) dX10_compile_127 ⟨Nat.le_of_ble_eq_true rfl, Nat.le_of_ble_eq_true rfl⟩ (fun w9 H locs hw127 hP hD hS => ?_)
                  obtain ⟨a_act_127, a_guess_127, a_take_127, a_begin_127, a_finish_127, a_to1_127, a_one_127, a_two_127, a_what_127, a_ats_127, a_atVar_127, a_atNumber_127, a_atomSort_127, a_atomKind_127, a_atomValue_127, rfl, hw127_0, hw127_1, hw127_2, hw127_3, hw127_4, hw127_5, hw127_6, hw127_7, hw127_8, hw127_9, hw127_10, hw127_11, hw127_12, hw127_13, hw127_14, hw127_15⟩ := hw127
                  have t1 := tn (i := l3_116) (by omega)
                  have t2 := tn (i := x125) (by omega)
                  have e9 : x125.toNatClampNeg = 101 + l3_116.toNatClampNeg := by omega
                  obtain ⟨g1, g2⟩ := f116_8 l3_116.toNatClampNeg (by omega)
                  rw [← e9] at g1 g2
                  have hst := g1.eq hw127_6 hw127_7 hw127_8
                  have hsp := g2.eq hw127_9 hw127_10
                  obtain ⟨x130, e_x130⟩ : ∃ z : Int32, z = l3_116 + (1 : Int32) := ⟨_, rfl⟩
                  obtain ⟨k_x130, g_x130⟩ : ∃ k : Int, x130.toInt = l3_116.toInt + (1) + k * 4294967296 := by rw [e_x130]; exact iAdd l3_116 (1)
                  have b_x130 := iB x130
                  try (have q_x130 : x130.toInt = l3_116.toInt + (1) := (by omega); clear g_x130 k_x130)
                  refine lv_iinc (v := x130) (lv' := [(3, .int x130), (0, .ref (q 0)), (1, .int x81)]) hx hb dX10_compile_130 hl (k := 2) rfl (by rw [e_x130]; rfl) (by decide) rfl (fun ls hl => ?_)
                  refine lv_goto (tgt := 116) hx hb dX10_compile_133 (by decide) ?_
                  exact ih116 x130 a_act_127 a_ats_127 a_one_127 a_to1_127 a_two_127 a_atNumber_127 a_atVar_127 a_atomKind_127 a_atomSort_127 a_atomValue_127 a_begin_127 a_finish_127 a_guess_127 a_take_127 a_what_127 H locs ls (by first | assumption | omega | (intros; omega) | decide) (by first | assumption | omega | (intros; omega) | decide) (by first | assumption | omega | (intros; omega) | decide) (by first | assumption | omega | (intros; omega) | decide) (by first | assumption | omega | (intros; omega) | decide) (by first | assumption | omega | (intros; omega) | decide) (by first | assumption | omega | (intros; omega) | decide) (by first | assumption | omega | (intros; omega) | decide) (by first | exact (f81_9.resolve_left (fun q => by omega)).2.2 _ (by omega) | exact PRG.same f116_8 (Or.inl (by omega)) hw127_11 hw127_12 hw127_13 hw127_14 hw127_15) (by first | exact PRG.zero (by decide) | exact PRG.add f116_9 (by omega) (by omega) hw127_11 hw127_12 hw127_13 hw127_14 hw127_15 hst hsp) (by omega) hP hD hS (lv_sub hl [1, 2, 0] rfl)
            exact J116 ((x81.toInt - (0 : Int32).toInt).toNat + 1) (0 : Int32) a_act_81 a_ats_81 a_one_81 a_to1_81 a_two_81 a_atNumber_81 a_atVar_81 a_atomKind_81 a_atomSort_81 a_atomValue_81 a_begin_81 a_finish_81 a_guess_81 a_take_81 a_what_81 H locs ls (by first | assumption | omega | (intros; omega) | decide) (by first | assumption | omega | (intros; omega) | decide) (by first | assumption | omega | (intros; omega) | decide) (by first | assumption | omega | (intros; omega) | decide) (by first | assumption | omega | (intros; omega) | decide) (by first | assumption | omega | (intros; omega) | decide) (by first | assumption | omega | (intros; omega) | decide) (by first | assumption | omega | (intros; omega) | decide) (by first | exact (f81_9.resolve_left (fun q => by omega)).2.2 _ (by omega) | exact PRG.same f116_8 (Or.inl (by omega)) hw127_11 hw127_12 hw127_13 hw127_14 hw127_15) (by first | exact PRG.zero (by decide) | exact PRG.add f116_9 (by omega) (by omega) hw127_11 hw127_12 hw127_13 hw127_14 hw127_15 hst hsp) (by omega) hP hD hS (lv_sub hl [1, 2, 0] rfl)
          · skip
            refine lv_aload_n hx hb dX10_compile_99 rfl (lv_at hl 0 rfl) ?_
            refine lv_aload_n hx hb dX10_compile_100 rfl (lv_at hl 0 rfl) ?_
            refine va_get (D := D) (ci := 9) (v := .int v_wrong_81) (C := RX10) (T := TX10) (N := 71) hx hb hts hin hown hK hP 0 rfl rfl 31 (by decide) k_22_16 (fun _ h9 => h9) rfl dX10_compile_101 ?_
            refine va_put (D := D) (ci := 9) (v := .int v_wrong_81) (ty := .int) (C := RX10) (T := TX10) (N := 71) hx hb hts hin tyX10 tyX10_ok nmX10 hown hK hP hD hS 0 rfl rfl 13 (by decide) k_22_13 (fun _ h9 => h9) rfl (by decide +kernel) rfl rfl (Nat.le_of_ble_eq_true rfl) dX10_compile_104 (fun H locs hP hD hS => ?_)
            have hP : va_P D vwCl (mw cs q (0 : Int32) a_tape (0 : Int32) v_taped v_to_81 v_kind_81 v_from_81 v_letters_81 v_letterMany_81 v_digits_81 v_isBeyond_81 v_suffix_81 v_steps v_wrong_81 v_hasProgram a_text a_act_81 a_guess_81 a_take_81 a_begin_81 a_finish_81 a_to1_81 a_one_81 a_two_81 a_what_81 a_ats_81 a_atVar_81 a_atNumber_81 a_atomSort_81 a_atomKind_81 a_atomValue_81 v_wrong_81 v_wrongAt_81 v_variable_81 v_number_81 v_numberKind_81 v_takes_81 a_out v_outed a_varSort a_varKind a_varValue a_creature v_creatures a_arrayClass a_arrayFrom a_arrayLong v_arrays v_cells a_cellSort a_cellKind a_cellValue a_asideSort a_asideKind a_asideValue a_outcome v_marks v_came v_guessed v_right v_taken a_markSort a_markKind a_markClass a_markValue v_sort v_kindAt v_value a_index v_reached v_looked) H := hP
            have hD : va_D A (mw cs q (0 : Int32) a_tape (0 : Int32) v_taped v_to_81 v_kind_81 v_from_81 v_letters_81 v_letterMany_81 v_digits_81 v_isBeyond_81 v_suffix_81 v_steps v_wrong_81 v_hasProgram a_text a_act_81 a_guess_81 a_take_81 a_begin_81 a_finish_81 a_to1_81 a_one_81 a_two_81 a_what_81 a_ats_81 a_atVar_81 a_atNumber_81 a_atomSort_81 a_atomKind_81 a_atomValue_81 v_wrong_81 v_wrongAt_81 v_variable_81 v_number_81 v_numberKind_81 v_takes_81 a_out v_outed a_varSort a_varKind a_varValue a_creature v_creatures a_arrayClass a_arrayFrom a_arrayLong v_arrays v_cells a_cellSort a_cellKind a_cellValue a_asideSort a_asideKind a_asideValue a_outcome v_marks v_came v_guessed v_right v_taken a_markSort a_markKind a_markClass a_markValue v_sort v_kindAt v_value a_index v_reached v_looked) := hD
            refine lv_iconst (v := (-1)) hx hb dX10_compile_107 (by decide) ?_
            refine lv_aload_n hx hb dX10_compile_108 rfl (lv_at hl 0 rfl) ?_
            refine va_get (D := D) (ci := 9) (v := .int v_wrongAt_81) (C := RX10) (T := TX10) (N := 71) hx hb hts hin hown hK hP 0 rfl rfl 32 (by decide) k_22_17 (fun _ h9 => h9) rfl dX10_compile_109 ?_
            refine m_isub (X := (-1)) (Y := v_wrongAt_81.toInt) hx hb dX10_compile_112 (by decide) rfl (fun x112 e_x112 g9 => ?_)
            obtain ⟨k_x112, g_x112⟩ := g9
            have b_x112 := iB x112
            try (have q_x112 : x112.toInt = (-1) - v_wrongAt_81.toInt := (by omega); clear g_x112 k_x112)
            subst hAe
            rw [hQ]
            exact W.iret (v := x112) hx hb hr (fun t ht hW => ⟨⟨x112, _, rfl, ⟨(0 : Int32), (0 : Int32), v_taped, v_to_81, v_kind_81, v_from_81, v_letters_81, v_letterMany_81, v_digits_81, v_isBeyond_81, v_suffix_81, v_steps, v_wrong_81, v_hasProgram, a_text, a_act_81, a_guess_81, a_take_81, a_begin_81, a_finish_81, a_to1_81, a_one_81, a_two_81, a_what_81, a_ats_81, a_atVar_81, a_atNumber_81, a_atomSort_81, a_atomKind_81, a_atomValue_81, v_wrong_81, v_wrongAt_81, v_variable_81, v_number_81, v_numberKind_81, v_takes_81, a_varSort, v_creatures, v_arrays, v_cells, a_outcome, v_marks, v_came, v_guessed, v_right, v_taken, rfl, by first | assumption | omega | (intros; omega) | decide, by first | assumption | omega | (intros; omega) | decide, by first | assumption | omega | (intros; omega) | decide, by first | assumption | omega | (intros; omega) | decide, by first | assumption | omega | (intros; omega) | decide, by first | assumption | omega | (intros; omega) | decide, by first | assumption | omega | (intros; omega) | decide, by first | assumption | omega | (intros; omega) | decide, by first | assumption | omega | (intros; omega) | decide, by first | assumption | omega | (intros; omega) | decide, by first | assumption | omega | (intros; omega) | decide, by first | assumption | omega | (intros; omega) | decide, by first | assumption | omega | (intros; omega) | decide, by first | assumption | omega | (intros; omega) | decide, by first | assumption | omega | (intros; omega) | decide, by first | assumption | omega | (intros; omega) | decide⟩, by rw [ht]; exact hP, va_K.moved hW.alike hK, hD⟩, hS.F ht⟩) hS.2.2 dX10_compile_113
        refine m_if_eq (X := l2_81.toInt) (tgt := 95) hx hb dX10_compile_85 (by decide) rfl (fun c85 => ?_) (fun c85 => ?_)
        · skip
          exact J95 H locs ls hP hD hS (lv_sub hl [1, 0, 2] rfl)
        · skip
          refine lv_aload_n hx hb dX10_compile_88 rfl (lv_at hl 1 rfl) ?_
          refine va_get (D := D) (ci := 9) (v := .int v_kind_81) (C := RX10) (T := TX10) (N := 71) hx hb hts hin hown hK hP 0 rfl rfl 5 (by decide) k_22_15 (fun _ h9 => h9) rfl dX10_compile_89 ?_
          refine m_if_ne (X := v_kind_81.toInt) (tgt := 41) hx hb dX10_compile_92 (by decide) rfl (fun c92 => ?_) (fun c92 => ?_)
          · skip
            exact ih41 x81 v_to_81 a_act_81 a_ats_81 a_one_81 a_to1_81 a_two_81 a_atNumber_81 a_atVar_81 a_atomKind_81 a_atomSort_81 a_atomValue_81 a_begin_81 v_digits_81 a_finish_81 v_from_81 a_guess_81 v_isBeyond_81 v_kind_81 v_letterMany_81 v_letters_81 v_number_81 v_numberKind_81 v_suffix_81 a_take_81 v_takes_81 v_variable_81 a_what_81 v_wrong_81 v_wrongAt_81 H locs ls (by first | assumption | omega | (intros; omega) | decide) (by first | assumption | omega | (intros; omega) | decide) (by first | assumption | omega | (intros; omega) | decide) (by first | assumption | omega | (intros; omega) | decide) (by first | assumption | omega | (intros; omega) | decide) (by first | assumption | omega | (intros; omega) | decide) (by first | assumption | omega | (intros; omega) | decide) (by first | assumption | omega | (intros; omega) | decide) (by first | assumption | omega | (intros; omega) | decide) (by first | assumption | omega | (intros; omega) | decide) (by first | assumption | omega | (intros; omega) | decide) (by first | exact PRG.zero (by decide) | exact (f81_9.resolve_left (fun q => by omega)).2.2 _ (by omega)) (by first | assumption | omega | (intros; omega) | decide) (by omega) hP hD hS (lv_sub hl [1, 0] rfl)
          · skip
            exact J95 H locs ls hP hD hS (lv_sub hl [1, 0, 2] rfl)
      refine m_if_ne (X := r42.toInt) (tgt := 57) hx hb dX10_compile_45 (by decide) rfl (fun c45 => ?_) (fun c45 => ?_)
      · skip
        refine lv_iload_n hx hb dX10_compile_57 rfl (lv_at hl 1 rfl) ?_
        refine lv_bipush (v := 100) hx hb dX10_compile_58 (by decide) ?_
        refine m_icmp_ne (X := l1_41.toInt) (Y := 100) (tgt := 72) hx hb dX10_compile_60 (by decide) rfl (by decide) (fun c60 => ?_) (fun c60 => ?_)
        · skip
          refine lv_aload_n hx hb dX10_compile_72 rfl (lv_at hl 0 rfl) ?_
          refine lv_bipush (v := 101) hx hb dX10_compile_73 (by decide) ?_
          refine lv_iload_n hx hb dX10_compile_75 rfl (lv_at hl 1 rfl) ?_
          refine m_iadd (X := 101) (Y := l1_41.toInt) hx hb dX10_compile_76 (by decide) rfl (fun x76 e_x76 g9 => ?_)
          obtain ⟨k_x76, g_x76⟩ := g9
          have b_x76 := iB x76
          try (have q_x76 : x76.toInt = 101 + l1_41.toInt := (by omega); clear g_x76 k_x76)
          refine call_i (As := [.int x76]) (rest := []) ⟨hx, hb, hml, hown, hts⟩ (tX10_readStep (l := l) x76 (by first | assumption | omega | (intros; omega) | decide) (by first | assumption | omega | (intros; omega) | decide) (by first | assumption | omega | (intros; omega) | decide) (by first | assumption | omega | (intros; omega) | decide) (by first | assumption | omega | (intros; omega) | decide) (by first | assumption | omega | (intros; omega) | decide) (by first | assumption | omega | (intros; omega) | decide) (by first | assumption | omega | (intros; omega) | decide) (by first | assumption | omega | (intros; omega) | decide) (by first | assumption | omega | (intros; omega) | decide) (by first | assumption | omega | (intros; omega) | decide) (by first | assumption | omega | (intros; omega) | decide)) (cwV 1 hts (gV (wr25 _ (List.mem_of_getElem? (i := 4) rfl)) (wr25 _ (List.mem_of_getElem? (i := 5) rfl)) (wr25 _ (List.mem_of_getElem? (i := 6) rfl)) (wr1 _ (List.mem_of_getElem? (i := 5) rfl)) (wr25 _ (List.mem_of_getElem? (i := 7) rfl))) rfl rfl rfl (by decide +kernel) ⟨Nat.le_of_ble_eq_true rfl, Nat.le_of_ble_eq_true rfl⟩) (va_recv hK hP (ci := 9) (q0 := 0) rfl rfl) hK hP hD hE hS hA rfl hl.1 rfl (Nat.le_of_ble_eq_true rfl) dX10_compile_77 ⟨Nat.le_of_ble_eq_true rfl, Nat.le_of_ble_eq_true rfl⟩ (fun r77 w9 H locs hw77 hP hD hS => ?_)
          obtain ⟨v_to_77, v_kind_77, v_from_77, v_letters_77, v_letterMany_77, v_digits_77, v_isBeyond_77, v_suffix_77, a_act_77, a_guess_77, a_take_77, a_begin_77, a_finish_77, a_to1_77, a_one_77, a_two_77, a_what_77, a_ats_77, a_atVar_77, a_atNumber_77, a_atomSort_77, a_atomKind_77, a_atomValue_77, v_wrong_77, v_wrongAt_77, v_variable_77, v_number_77, v_numberKind_77, v_takes_77, rfl, hw77_0, hw77_1, hw77_2, hw77_3, hw77_4, hw77_5, hw77_6, hw77_7, hw77_8, hw77_9, hw77_10, hw77_11, hw77_12, hw77_13, hw77_14, hw77_15, hw77_16⟩ := hw77
          have b_v_to_77 := iB v_to_77
          have b_v_kind_77 := iB v_kind_77
          have b_v_from_77 := iB v_from_77
          have b_v_letters_77 := jB v_letters_77
          have b_v_letterMany_77 := iB v_letterMany_77
          have b_v_digits_77 := jB v_digits_77
          have b_v_isBeyond_77 := iB v_isBeyond_77
          have b_v_suffix_77 := iB v_suffix_77
          have b_v_wrong_77 := iB v_wrong_77
          have b_v_wrongAt_77 := iB v_wrongAt_77
          have b_v_variable_77 := iB v_variable_77
          have b_v_number_77 := jB v_number_77
          have b_v_numberKind_77 := iB v_numberKind_77
          have b_v_takes_77 := iB v_takes_77
          have b_r77 := iB r77
          refine lv_istore_n (lv' := [(2, .int r77), (0, .ref (q 0)), (1, .int l1_41)]) hx hb dX10_compile_80 rfl hl (by decide) rfl (fun ls hl => ?_)
          exact J81 r77 v_to_77 a_act_77 a_ats_77 a_one_77 a_to1_77 a_two_77 a_atNumber_77 a_atVar_77 a_atomKind_77 a_atomSort_77 a_atomValue_77 a_begin_77 v_digits_77 a_finish_77 v_from_77 a_guess_77 v_isBeyond_77 v_kind_77 v_letterMany_77 v_letters_77 v_number_77 v_numberKind_77 v_suffix_77 a_take_77 v_takes_77 v_variable_77 a_what_77 v_wrong_77 v_wrongAt_77 H locs ls (by first | assumption | omega | (intros; omega) | decide) (by first | assumption | omega | (intros; omega) | decide) (by first | assumption | omega | (intros; omega) | decide) (by first | assumption | omega | (intros; omega) | decide) (by first | assumption | omega | (intros; omega) | decide) (by first | assumption | omega | (intros; omega) | decide) (by first | assumption | omega | (intros; omega) | decide) (by first | assumption | omega | (intros; omega) | decide) (by first | assumption | omega | (intros; omega) | decide) (by first | exact Or.inl (by omega) | exact hw77_16.elim Or.inl (fun hq => Or.inr ⟨hq.1, by omega, fun m9 hm9 => PRG.add f41_11 (by have t9 := tn (i := x76) (by omega); omega) hm9 hw77_13 hw77_11 hw77_12 hw77_14 hw77_15 hq.2.1 hq.2.2⟩)) (by first | assumption | exact PRG.same f41_12 (Or.inr (by have t9 := tn (i := x76) (by omega); omega)) hw77_13 hw77_11 hw77_12 hw77_14 hw77_15) hP hD hS (lv_sub hl [1, 2, 0] rfl)
        · skip
          refine lv_aload_n hx hb dX10_compile_63 rfl (lv_at hl 0 rfl) ?_
          refine lv_iconst (v := 4) hx hb dX10_compile_64 (by decide) ?_
          refine call_i (As := [.int 4]) (rest := []) ⟨hx, hb, hml, hown, hts⟩ (tX10_bad (l := l) (4 : Int32)) (cwV 1 hts (gV (wr25 _ (List.mem_of_getElem? (i := 0) rfl)) (wr25 _ (List.mem_of_getElem? (i := 1) rfl)) (wr25 _ (List.mem_of_getElem? (i := 2) rfl)) (wr1 _ (List.mem_of_getElem? (i := 5) rfl)) (wr25 _ (List.mem_of_getElem? (i := 3) rfl))) rfl rfl rfl (by decide +kernel) ⟨Nat.le_of_ble_eq_true rfl, Nat.le_of_ble_eq_true rfl⟩) (va_recv hK hP (ci := 9) (q0 := 0) rfl rfl) hK hP hD hE hS hA rfl hl.1 rfl (Nat.le_of_ble_eq_true rfl) dX10_compile_65 ⟨Nat.le_of_ble_eq_true rfl, Nat.le_of_ble_eq_true rfl⟩ (fun r65 w9 H locs hw65 hP hD hS => ?_)
          obtain ⟨v_wrong_65, v_wrongAt_65, rfl, hw65_0⟩ := hw65
          have b_v_wrong_65 := iB v_wrong_65
          have b_v_wrongAt_65 := iB v_wrongAt_65
          have b_r65 := iB r65
          refine lv_istore_n (lv' := [(2, .int r65), (0, .ref (q 0)), (1, .int l1_41)]) hx hb dX10_compile_68 rfl hl (by decide) rfl (fun ls hl => ?_)
          refine lv_goto (tgt := 81) hx hb dX10_compile_69 (by decide) ?_
          exact J81 r65 v_to_41 a_act_41 a_ats_41 a_one_41 a_to1_41 a_two_41 a_atNumber_41 a_atVar_41 a_atomKind_41 a_atomSort_41 a_atomValue_41 a_begin_41 v_digits_41 a_finish_41 v_from_41 a_guess_41 v_isBeyond_41 v_kind_41 v_letterMany_41 v_letters_41 v_number_41 v_numberKind_41 v_suffix_41 a_take_41 v_takes_41 v_variable_41 a_what_41 v_wrong_65 v_wrongAt_65 H locs ls (by first | assumption | omega | (intros; omega) | decide) (by first | assumption | omega | (intros; omega) | decide) (by first | assumption | omega | (intros; omega) | decide) (by first | assumption | omega | (intros; omega) | decide) (by first | assumption | omega | (intros; omega) | decide) (by first | assumption | omega | (intros; omega) | decide) (by first | assumption | omega | (intros; omega) | decide) (by first | assumption | omega | (intros; omega) | decide) (by first | assumption | omega | (intros; omega) | decide) (by first | exact Or.inl (by omega) | exact hw77_16.elim Or.inl (fun hq => Or.inr ⟨hq.1, by omega, fun m9 hm9 => PRG.add f41_11 (by have t9 := tn (i := x76) (by omega); omega) hm9 hw77_13 hw77_11 hw77_12 hw77_14 hw77_15 hq.2.1 hq.2.2⟩)) (by first | assumption | exact PRG.same f41_12 (Or.inr (by have t9 := tn (i := x76) (by omega); omega)) hw77_13 hw77_11 hw77_12 hw77_14 hw77_15) hP hD hS (lv_sub hl [1, 2, 0] rfl)
      · skip
        refine lv_aload_n hx hb dX10_compile_48 rfl (lv_at hl 0 rfl) ?_
        refine lv_iconst (v := 2) hx hb dX10_compile_49 (by decide) ?_
        refine call_i (As := [.int 2]) (rest := []) ⟨hx, hb, hml, hown, hts⟩ (tX10_bad (l := l) (2 : Int32)) (cwV 1 hts (gV (wr25 _ (List.mem_of_getElem? (i := 0) rfl)) (wr25 _ (List.mem_of_getElem? (i := 1) rfl)) (wr25 _ (List.mem_of_getElem? (i := 2) rfl)) (wr1 _ (List.mem_of_getElem? (i := 5) rfl)) (wr25 _ (List.mem_of_getElem? (i := 3) rfl))) rfl rfl rfl (by decide +kernel) ⟨Nat.le_of_ble_eq_true rfl, Nat.le_of_ble_eq_true rfl⟩) (va_recv hK hP (ci := 9) (q0 := 0) rfl rfl) hK hP hD hE hS hA rfl hl.1 rfl (Nat.le_of_ble_eq_true rfl) dX10_compile_50 ⟨Nat.le_of_ble_eq_true rfl, Nat.le_of_ble_eq_true rfl⟩ (fun r50 w9 H locs hw50 hP hD hS => ?_)
        obtain ⟨v_wrong_50, v_wrongAt_50, rfl, hw50_0⟩ := hw50
        have b_v_wrong_50 := iB v_wrong_50
        have b_v_wrongAt_50 := iB v_wrongAt_50
        have b_r50 := iB r50
        refine lv_istore_n (lv' := [(2, .int r50), (0, .ref (q 0)), (1, .int l1_41)]) hx hb dX10_compile_53 rfl hl (by decide) rfl (fun ls hl => ?_)
        refine lv_goto (tgt := 81) hx hb dX10_compile_54 (by decide) ?_
        exact J81 r50 v_to_41 a_act_41 a_ats_41 a_one_41 a_to1_41 a_two_41 a_atNumber_41 a_atVar_41 a_atomKind_41 a_atomSort_41 a_atomValue_41 a_begin_41 v_digits_41 a_finish_41 v_from_41 a_guess_41 v_isBeyond_41 v_kind_41 v_letterMany_41 v_letters_41 v_number_41 v_numberKind_41 v_suffix_41 a_take_41 v_takes_41 v_variable_41 a_what_41 v_wrong_50 v_wrongAt_50 H locs ls (by first | assumption | omega | (intros; omega) | decide) (by first | assumption | omega | (intros; omega) | decide) (by first | assumption | omega | (intros; omega) | decide) (by first | assumption | omega | (intros; omega) | decide) (by first | assumption | omega | (intros; omega) | decide) (by first | assumption | omega | (intros; omega) | decide) (by first | assumption | omega | (intros; omega) | decide) (by first | assumption | omega | (intros; omega) | decide) (by first | assumption | omega | (intros; omega) | decide) (by first | exact Or.inl (by omega) | exact hw77_16.elim Or.inl (fun hq => Or.inr ⟨hq.1, by omega, fun m9 hm9 => PRG.add f41_11 (by have t9 := tn (i := x76) (by omega); omega) hm9 hw77_13 hw77_11 hw77_12 hw77_14 hw77_15 hq.2.1 hq.2.2⟩)) (by first | assumption | exact PRG.same f41_12 (Or.inr (by have t9 := tn (i := x76) (by omega); omega)) hw77_13 hw77_11 hw77_12 hw77_14 hw77_15) hP hD hS (lv_sub hl [1, 2, 0] rfl)
  exact J41 ((100 - (0 : Int32).toInt).toNat + 1) (0 : Int32) v_to_38 a_act a_ats a_one a_to1 a_two a_atNumber a_atVar a_atomKind a_atomSort a_atomValue a_begin v_digits_38 a_finish v_from_38 a_guess v_isBeyond_38 v_kind_38 v_letterMany_38 v_letters_38 v_number v_numberKind v_suffix_38 a_take (0 : Int32) v_variable a_what v_wrong v_wrongAt H locs ls (by first | assumption | omega | (intros; omega) | decide) (by first | assumption | omega | (intros; omega) | decide) (by first | assumption | omega | (intros; omega) | decide) (by first | assumption | omega | (intros; omega) | decide) (by first | assumption | omega | (intros; omega) | decide) (by first | assumption | omega | (intros; omega) | decide) (by first | assumption | omega | (intros; omega) | decide) (by first | assumption | omega | (intros; omega) | decide) (by first | assumption | omega | (intros; omega) | decide) (by first | assumption | omega | (intros; omega) | decide) (by first | assumption | omega | (intros; omega) | decide) (by first | exact PRG.zero (by decide) | exact (f81_9.resolve_left (fun q => by omega)).2.2 _ (by omega)) (by first | assumption | omega | (intros; omega) | decide) (by omega) hP hD hS (lv_sub hl [2, 1] rfl)

def rmX10_fault : Room := { frames := 20, cells := 0, slots := 0, locals := 400 }
set_option maxHeartbeats 4000000 in
set_option maxRecDepth 100000 in
theorem tX10_fault {l : Launch} {D : va_G} {K : Nat → Nat → Nat} {cs : Nat → ClassId} {q : Nat → Nat} {v_thrown v_taped v_size v_to v_kind v_from v_letterMany v_isBeyond v_suffix v_steps v_fault v_hasProgram v_wrong v_wrongAt v_variable v_numberKind v_takes v_outed v_creatures v_arrays v_cells v_marks v_came v_guessed v_right v_taken v_sort v_kindAt v_reached v_looked : Int32} {a_tape a_text a_act a_guess a_take a_begin a_finish a_to1 a_one a_two a_what a_ats a_atVar a_atNumber a_atomSort a_atomKind a_out a_varSort a_varKind a_creature a_arrayClass a_arrayFrom a_arrayLong a_cellSort a_cellKind a_asideSort a_asideKind a_outcome a_markSort a_markKind a_markClass a_index : Nat → Int32} {v_letters v_digits v_number v_value : Int64} {a_atomValue a_varValue a_cellValue a_asideValue a_markValue : Nat → Int64} : CtI l yX10_fault (wG yX10_fault cX10_fault 1 (some .int)) rmX10_fault D (mwT cs) K [.ref (q 0)] (mw cs q v_thrown a_tape v_taped v_size v_to v_kind v_from v_letters v_letterMany v_digits v_isBeyond v_suffix v_steps v_fault v_hasProgram a_text a_act a_guess a_take a_begin a_finish a_to1 a_one a_two a_what a_ats a_atVar a_atNumber a_atomSort a_atomKind a_atomValue v_wrong v_wrongAt v_variable v_number v_numberKind v_takes a_out v_outed a_varSort a_varKind a_varValue a_creature v_creatures a_arrayClass a_arrayFrom a_arrayLong v_arrays v_cells a_cellSort a_cellKind a_cellValue a_asideSort a_asideKind a_asideValue a_outcome v_marks v_came v_guessed v_right v_taken a_markSort a_markKind a_markClass a_markValue v_sort v_kindAt v_value a_index v_reached v_looked) (fun r w1 => ∃ (v_thrown' : Int32), w1 = (mw cs q v_thrown' a_tape v_taped v_size v_to v_kind v_from v_letters v_letterMany v_digits v_isBeyond v_suffix v_steps v_fault v_hasProgram a_text a_act a_guess a_take a_begin a_finish a_to1 a_one a_two a_what a_ats a_atVar a_atNumber a_atomSort a_atomKind a_atomValue v_wrong v_wrongAt v_variable v_number v_numberKind v_takes a_out v_outed a_varSort a_varKind a_varValue a_creature v_creatures a_arrayClass a_arrayFrom a_arrayLong v_arrays v_cells a_cellSort a_cellKind a_cellValue a_asideSort a_asideKind a_asideValue a_outcome v_marks v_came v_guessed v_right v_taken a_markSort a_markKind a_markClass a_markValue v_sort v_kindAt v_value a_index v_reached v_looked)) 0 0 := by
  intro sz
  refine Met.ofW (cc := cX10_fault) (maxL := 1) (ret := (some .int)) (by decide) rfl ?_
  intro p e s m args below meth c s₁ B hml hv
  obtain ⟨rfl, hsz, hP, hK, hD0, hE⟩ := hv
  have hx := B.exec
  have hb := B.bytes
  have hr := B.returns
  have hts := atoms_spec (ws := (wG yX10_fault cX10_fault 1 (some .int))) B.pre
  have hown : s.vm.findClass RX10 = some m.cls := findClass_of_methodNamed B.named
  have hlocks := B.notSynchronized
  subst hsz
  have hD := hD0.self (sz := s.heap.size)
  obtain ⟨A, hAe⟩ : ∃ A : Nat → Prop, A = va_A (mw cs q v_thrown a_tape v_taped v_size v_to v_kind v_from v_letters v_letterMany v_digits v_isBeyond v_suffix v_steps v_fault v_hasProgram a_text a_act a_guess a_take a_begin a_finish a_to1 a_one a_two a_what a_ats a_atVar a_atNumber a_atomSort a_atomKind a_atomValue v_wrong v_wrongAt v_variable v_number v_numberKind v_takes a_out v_outed a_varSort a_varKind a_varValue a_creature v_creatures a_arrayClass a_arrayFrom a_arrayLong v_arrays v_cells a_cellSort a_cellKind a_cellValue a_asideSort a_asideKind a_asideValue a_outcome v_marks v_came v_guessed v_right v_taken a_markSort a_markKind a_markClass a_markValue v_sort v_kindAt v_value a_index v_reached v_looked) s.heap.size := ⟨_, rfl⟩
  rw [← hAe] at hD hE
  have hA : ∀ q : Nat, s.heap.size ≤ q → A q := fun q h => by rw [hAe]; exact Or.inr h
  have hS : va_S A s.heap s.heap [] := va_S.rf
  have hl := lv_entry ([.ref (q 0)]) (n := 1) (Nat.le_of_ble_eq_true rfl)
  rw [lg_entry_eq]
  generalize (lg_sl ([.ref (q 0)]) ++ List.replicate (1 - (lg_sl ([.ref (q 0)])).length) Slot.unset).toArray = ls at hl ⊢
  have hl : lv_has ls 1 [(0, .ref (q 0))] := hl
  refine wq (fun Q hQ => ?_)
  have hin : ∀ w ∈ wsX100, w ∈ (wG yX10_fault cX10_fault 1 (some .int)) := fun w h => List.mem_cons_of_mem _ (inlX10 w h)
  have kc0 : (0 : Int32).toInt = 0 := by decide
  have k_7_9 := hts (.fieldLink RX10 122 "ArrayTrainerModel" "thrown" "I") (List.mem_cons_of_mem _ (wr7 _ (List.mem_of_getElem? (i := 9) rfl)))
  have k_22_13 := hts (.fieldLink RX10 442 "ArrayTrainerModel" "fault" "I") (List.mem_cons_of_mem _ (wr22 _ (List.mem_of_getElem? (i := 13) rfl)))
  obtain ⟨H, hH⟩ : ∃ H : Heap, H = s.heap := ⟨_, rfl⟩
  obtain ⟨locs, hlc⟩ : ∃ L : List Loc, L = [] := ⟨_, rfl⟩
  have hP : va_P D vwCl (mw cs q v_thrown a_tape v_taped v_size v_to v_kind v_from v_letters v_letterMany v_digits v_isBeyond v_suffix v_steps v_fault v_hasProgram a_text a_act a_guess a_take a_begin a_finish a_to1 a_one a_two a_what a_ats a_atVar a_atNumber a_atomSort a_atomKind a_atomValue v_wrong v_wrongAt v_variable v_number v_numberKind v_takes a_out v_outed a_varSort a_varKind a_varValue a_creature v_creatures a_arrayClass a_arrayFrom a_arrayLong v_arrays v_cells a_cellSort a_cellKind a_cellValue a_asideSort a_asideKind a_asideValue a_outcome v_marks v_came v_guessed v_right v_taken a_markSort a_markKind a_markClass a_markValue v_sort v_kindAt v_value a_index v_reached v_looked) H := by rw [hH]; exact hP
  have hS : va_S A s.heap H locs := by rw [hH, hlc]; exact hS
  refine wHL hH hlc ?_
  refine lv_aload_n hx hb dX10_fault_0 rfl (lv_at hl 0 rfl) ?_
  refine lv_iconst (v := 0) hx hb dX10_fault_1 (by decide) ?_
  refine va_put (D := D) (ci := 9) (v := .int 0) (ty := .int) (C := RX10) (T := TX10) (N := 71) hx hb hts hin tyX10 tyX10_ok nmX10 hown hK hP hD hS 0 rfl rfl 0 (by decide) k_7_9 (fun _ h9 => h9) rfl (by decide +kernel) rfl rfl (Nat.le_of_ble_eq_true rfl) dX10_fault_2 (fun H locs hP hD hS => ?_)
  have hP : va_P D vwCl (mw cs q (0 : Int32) a_tape v_taped v_size v_to v_kind v_from v_letters v_letterMany v_digits v_isBeyond v_suffix v_steps v_fault v_hasProgram a_text a_act a_guess a_take a_begin a_finish a_to1 a_one a_two a_what a_ats a_atVar a_atNumber a_atomSort a_atomKind a_atomValue v_wrong v_wrongAt v_variable v_number v_numberKind v_takes a_out v_outed a_varSort a_varKind a_varValue a_creature v_creatures a_arrayClass a_arrayFrom a_arrayLong v_arrays v_cells a_cellSort a_cellKind a_cellValue a_asideSort a_asideKind a_asideValue a_outcome v_marks v_came v_guessed v_right v_taken a_markSort a_markKind a_markClass a_markValue v_sort v_kindAt v_value a_index v_reached v_looked) H := hP
  have hD : va_D A (mw cs q (0 : Int32) a_tape v_taped v_size v_to v_kind v_from v_letters v_letterMany v_digits v_isBeyond v_suffix v_steps v_fault v_hasProgram a_text a_act a_guess a_take a_begin a_finish a_to1 a_one a_two a_what a_ats a_atVar a_atNumber a_atomSort a_atomKind a_atomValue v_wrong v_wrongAt v_variable v_number v_numberKind v_takes a_out v_outed a_varSort a_varKind a_varValue a_creature v_creatures a_arrayClass a_arrayFrom a_arrayLong v_arrays v_cells a_cellSort a_cellKind a_cellValue a_asideSort a_asideKind a_asideValue a_outcome v_marks v_came v_guessed v_right v_taken a_markSort a_markKind a_markClass a_markValue v_sort v_kindAt v_value a_index v_reached v_looked) := hD
  refine lv_aload_n hx hb dX10_fault_5 rfl (lv_at hl 0 rfl) ?_
  refine va_get (D := D) (ci := 9) (v := .int v_fault) (C := RX10) (T := TX10) (N := 71) hx hb hts hin hown hK hP 0 rfl rfl 13 (by decide) k_22_13 (fun _ h9 => h9) rfl dX10_fault_6 ?_
  subst hAe
  rw [hQ]
  exact W.iret (v := v_fault) hx hb hr (fun t ht hW => ⟨⟨v_fault, _, rfl, ⟨(0 : Int32), rfl⟩, by rw [ht]; exact hP, va_K.moved hW.alike hK, hD⟩, hS.F ht⟩) hS.2.2 dX10_fault_9

def rmX10_step : Room := { frames := 20, cells := 0, slots := 0, locals := 400 }
set_option maxHeartbeats 4000000 in
set_option maxRecDepth 100000 in
theorem tX10_step {l : Launch} {D : va_G} {K : Nat → Nat → Nat} {cs : Nat → ClassId} {q : Nat → Nat} {v_thrown v_taped v_size v_to v_kind v_from v_letterMany v_isBeyond v_suffix v_steps v_fault v_hasProgram v_wrong v_wrongAt v_variable v_numberKind v_takes v_outed v_creatures v_arrays v_cells v_marks v_came v_guessed v_right v_taken v_sort v_kindAt v_reached v_looked : Int32} {a_tape a_text a_act a_guess a_take a_begin a_finish a_to1 a_one a_two a_what a_ats a_atVar a_atNumber a_atomSort a_atomKind a_out a_varSort a_varKind a_creature a_arrayClass a_arrayFrom a_arrayLong a_cellSort a_cellKind a_asideSort a_asideKind a_outcome a_markSort a_markKind a_markClass a_index : Nat → Int32} {v_letters v_digits v_number v_value : Int64} {a_atomValue a_varValue a_cellValue a_asideValue a_markValue : Nat → Int64} (k9 : Int32) (w9 : Int32) (p_0 : 0 ≤ v_steps.toInt) (p_1 : v_steps.toInt ≤ 100) : CtI l yX10_step (wG yX10_step cX10_step 3 (some .int)) rmX10_step D (mwT cs) K [.ref (q 0), .int k9, .int w9] (mw cs q v_thrown a_tape v_taped v_size v_to v_kind v_from v_letters v_letterMany v_digits v_isBeyond v_suffix v_steps v_fault v_hasProgram a_text a_act a_guess a_take a_begin a_finish a_to1 a_one a_two a_what a_ats a_atVar a_atNumber a_atomSort a_atomKind a_atomValue v_wrong v_wrongAt v_variable v_number v_numberKind v_takes a_out v_outed a_varSort a_varKind a_varValue a_creature v_creatures a_arrayClass a_arrayFrom a_arrayLong v_arrays v_cells a_cellSort a_cellKind a_cellValue a_asideSort a_asideKind a_asideValue a_outcome v_marks v_came v_guessed v_right v_taken a_markSort a_markKind a_markClass a_markValue v_sort v_kindAt v_value a_index v_reached v_looked) (fun r w1 => ∃ (v_thrown' : Int32), w1 = (mw cs q v_thrown' a_tape v_taped v_size v_to v_kind v_from v_letters v_letterMany v_digits v_isBeyond v_suffix v_steps v_fault v_hasProgram a_text a_act a_guess a_take a_begin a_finish a_to1 a_one a_two a_what a_ats a_atVar a_atNumber a_atomSort a_atomKind a_atomValue v_wrong v_wrongAt v_variable v_number v_numberKind v_takes a_out v_outed a_varSort a_varKind a_varValue a_creature v_creatures a_arrayClass a_arrayFrom a_arrayLong v_arrays v_cells a_cellSort a_cellKind a_cellValue a_asideSort a_asideKind a_asideValue a_outcome v_marks v_came v_guessed v_right v_taken a_markSort a_markKind a_markClass a_markValue v_sort v_kindAt v_value a_index v_reached v_looked)) 0 0 := by
  intro sz
  refine Met.ofW (cc := cX10_step) (maxL := 3) (ret := (some .int)) (by decide) rfl ?_
  intro p e s m args below meth c s₁ B hml hv
  obtain ⟨rfl, hsz, hP, hK, hD0, hE⟩ := hv
  have hx := B.exec
  have hb := B.bytes
  have hr := B.returns
  have hts := atoms_spec (ws := (wG yX10_step cX10_step 3 (some .int))) B.pre
  have hown : s.vm.findClass RX10 = some m.cls := findClass_of_methodNamed B.named
  have hlocks := B.notSynchronized
  subst hsz
  have hD := hD0.self (sz := s.heap.size)
  obtain ⟨A, hAe⟩ : ∃ A : Nat → Prop, A = va_A (mw cs q v_thrown a_tape v_taped v_size v_to v_kind v_from v_letters v_letterMany v_digits v_isBeyond v_suffix v_steps v_fault v_hasProgram a_text a_act a_guess a_take a_begin a_finish a_to1 a_one a_two a_what a_ats a_atVar a_atNumber a_atomSort a_atomKind a_atomValue v_wrong v_wrongAt v_variable v_number v_numberKind v_takes a_out v_outed a_varSort a_varKind a_varValue a_creature v_creatures a_arrayClass a_arrayFrom a_arrayLong v_arrays v_cells a_cellSort a_cellKind a_cellValue a_asideSort a_asideKind a_asideValue a_outcome v_marks v_came v_guessed v_right v_taken a_markSort a_markKind a_markClass a_markValue v_sort v_kindAt v_value a_index v_reached v_looked) s.heap.size := ⟨_, rfl⟩
  rw [← hAe] at hD hE
  have hA : ∀ q : Nat, s.heap.size ≤ q → A q := fun q h => by rw [hAe]; exact Or.inr h
  have hS : va_S A s.heap s.heap [] := va_S.rf
  have hl := lv_entry ([.ref (q 0), .int k9, .int w9]) (n := 3) (Nat.le_of_ble_eq_true rfl)
  rw [lg_entry_eq]
  generalize (lg_sl ([.ref (q 0), .int k9, .int w9]) ++ List.replicate (3 - (lg_sl ([.ref (q 0), .int k9, .int w9])).length) Slot.unset).toArray = ls at hl ⊢
  have hl : lv_has ls 3 [(0, .ref (q 0)), (1, .int k9), (2, .int w9)] := hl
  refine wq (fun Q hQ => ?_)
  have hin : ∀ w ∈ wsX100, w ∈ (wG yX10_step cX10_step 3 (some .int)) := fun w h => List.mem_cons_of_mem _ (inlX10 w h)
  have kc0 : (0 : Int32).toInt = 0 := by decide
  have kc1 : (1 : Int32).toInt = 1 := by decide
  have kc2 : (2 : Int32).toInt = 2 := by decide
  have kc3 : (3 : Int32).toInt = 3 := by decide
  have k_7_9 := hts (.fieldLink RX10 122 "ArrayTrainerModel" "thrown" "I") (List.mem_cons_of_mem _ (wr7 _ (List.mem_of_getElem? (i := 9) rfl)))
  have k_5_12 := hts (.fieldLink RX10 25 "ArrayTrainerModel" "begin" "[I") (List.mem_cons_of_mem _ (wr5 _ (List.mem_of_getElem? (i := 12) rfl)))
  have k_5_11 := hts (.fieldLink RX10 22 "ArrayTrainerModel" "take" "[I") (List.mem_cons_of_mem _ (wr5 _ (List.mem_of_getElem? (i := 11) rfl)))
  have k_5_10 := hts (.fieldLink RX10 19 "ArrayTrainerModel" "guess" "[I") (List.mem_cons_of_mem _ (wr5 _ (List.mem_of_getElem? (i := 10) rfl)))
  have k_5_9 := hts (.fieldLink RX10 16 "ArrayTrainerModel" "act" "[I") (List.mem_cons_of_mem _ (wr5 _ (List.mem_of_getElem? (i := 9) rfl)))
  have k_22_18 := hts (.fieldLink RX10 455 "ArrayTrainerModel" "steps" "I") (List.mem_cons_of_mem _ (wr22 _ (List.mem_of_getElem? (i := 18) rfl)))
  obtain ⟨H, hH⟩ : ∃ H : Heap, H = s.heap := ⟨_, rfl⟩
  obtain ⟨locs, hlc⟩ : ∃ L : List Loc, L = [] := ⟨_, rfl⟩
  have hP : va_P D vwCl (mw cs q v_thrown a_tape v_taped v_size v_to v_kind v_from v_letters v_letterMany v_digits v_isBeyond v_suffix v_steps v_fault v_hasProgram a_text a_act a_guess a_take a_begin a_finish a_to1 a_one a_two a_what a_ats a_atVar a_atNumber a_atomSort a_atomKind a_atomValue v_wrong v_wrongAt v_variable v_number v_numberKind v_takes a_out v_outed a_varSort a_varKind a_varValue a_creature v_creatures a_arrayClass a_arrayFrom a_arrayLong v_arrays v_cells a_cellSort a_cellKind a_cellValue a_asideSort a_asideKind a_asideValue a_outcome v_marks v_came v_guessed v_right v_taken a_markSort a_markKind a_markClass a_markValue v_sort v_kindAt v_value a_index v_reached v_looked) H := by rw [hH]; exact hP
  have hS : va_S A s.heap H locs := by rw [hH, hlc]; exact hS
  refine wHL hH hlc ?_
  have b_k9 := iB k9
  have b_w9 := iB w9
  refine lv_aload_n hx hb dX10_step_0 rfl (lv_at hl 0 rfl) ?_
  refine lv_iload_n hx hb dX10_step_1 rfl (lv_at hl 1 rfl) ?_
  have J27 : ∀ (s1_27 : Int32) (H : Heap) (locs : List Loc) (ls : Array Slot), (s1_27.toInt = 0 ∨ s1_27.toInt = 1) → (s1_27.toInt = 1 ∨ (0 ≤ k9.toInt ∧ k9.toInt < v_steps.toInt)) → va_P D vwCl (mw cs q v_thrown a_tape v_taped v_size v_to v_kind v_from v_letters v_letterMany v_digits v_isBeyond v_suffix v_steps v_fault v_hasProgram a_text a_act a_guess a_take a_begin a_finish a_to1 a_one a_two a_what a_ats a_atVar a_atNumber a_atomSort a_atomKind a_atomValue v_wrong v_wrongAt v_variable v_number v_numberKind v_takes a_out v_outed a_varSort a_varKind a_varValue a_creature v_creatures a_arrayClass a_arrayFrom a_arrayLong v_arrays v_cells a_cellSort a_cellKind a_cellValue a_asideSort a_asideKind a_asideValue a_outcome v_marks v_came v_guessed v_right v_taken a_markSort a_markKind a_markClass a_markValue v_sort v_kindAt v_value a_index v_reached v_looked) H → va_D A (mw cs q v_thrown a_tape v_taped v_size v_to v_kind v_from v_letters v_letterMany v_digits v_isBeyond v_suffix v_steps v_fault v_hasProgram a_text a_act a_guess a_take a_begin a_finish a_to1 a_one a_two a_what a_ats a_atVar a_atNumber a_atomSort a_atomKind a_atomValue v_wrong v_wrongAt v_variable v_number v_numberKind v_takes a_out v_outed a_varSort a_varKind a_varValue a_creature v_creatures a_arrayClass a_arrayFrom a_arrayLong v_arrays v_cells a_cellSort a_cellKind a_cellValue a_asideSort a_asideKind a_asideValue a_outcome v_marks v_came v_guessed v_right v_taken a_markSort a_markKind a_markClass a_markValue v_sort v_kindAt v_value a_index v_reached v_looked) → va_S A s.heap H locs → lv_has ls 3 [(0, .ref (q 0)), (1, .int k9), (2, .int w9)] → W p l e (headSpec (wG yX10_step cX10_step 3 (some .int)) rmX10_step).room s m ([.ref (q 0), .int k9, .int w9] : List Value).toArray below meth c H locs 0 0 Q (F0 m 27 ls [.int s1_27, .ref (q 0)]) := by
    intro s1_27 H locs ls f27_0 f27_1 hP hD hS hl
    refine va_put (D := D) (ci := 9) (v := .int s1_27) (ty := .int) (C := RX10) (T := TX10) (N := 71) hx hb hts hin tyX10 tyX10_ok nmX10 hown hK hP hD hS 0 rfl rfl 0 (by decide) k_7_9 (fun _ h9 => h9) rfl (by decide +kernel) rfl rfl (Nat.le_of_ble_eq_true rfl) dX10_step_27 (fun H locs hP hD hS => ?_)
    have hP : va_P D vwCl (mw cs q s1_27 a_tape v_taped v_size v_to v_kind v_from v_letters v_letterMany v_digits v_isBeyond v_suffix v_steps v_fault v_hasProgram a_text a_act a_guess a_take a_begin a_finish a_to1 a_one a_two a_what a_ats a_atVar a_atNumber a_atomSort a_atomKind a_atomValue v_wrong v_wrongAt v_variable v_number v_numberKind v_takes a_out v_outed a_varSort a_varKind a_varValue a_creature v_creatures a_arrayClass a_arrayFrom a_arrayLong v_arrays v_cells a_cellSort a_cellKind a_cellValue a_asideSort a_asideKind a_asideValue a_outcome v_marks v_came v_guessed v_right v_taken a_markSort a_markKind a_markClass a_markValue v_sort v_kindAt v_value a_index v_reached v_looked) H := hP
    have hD : va_D A (mw cs q s1_27 a_tape v_taped v_size v_to v_kind v_from v_letters v_letterMany v_digits v_isBeyond v_suffix v_steps v_fault v_hasProgram a_text a_act a_guess a_take a_begin a_finish a_to1 a_one a_two a_what a_ats a_atVar a_atNumber a_atomSort a_atomKind a_atomValue v_wrong v_wrongAt v_variable v_number v_numberKind v_takes a_out v_outed a_varSort a_varKind a_varValue a_creature v_creatures a_arrayClass a_arrayFrom a_arrayLong v_arrays v_cells a_cellSort a_cellKind a_cellValue a_asideSort a_asideKind a_asideValue a_outcome v_marks v_came v_guessed v_right v_taken a_markSort a_markKind a_markClass a_markValue v_sort v_kindAt v_value a_index v_reached v_looked) := hD
    refine lv_aload_n hx hb dX10_step_30 rfl (lv_at hl 0 rfl) ?_
    refine va_get (D := D) (ci := 9) (v := .int s1_27) (C := RX10) (T := TX10) (N := 71) hx hb hts hin hown hK hP 0 rfl rfl 0 (by decide) k_7_9 (fun _ h9 => h9) rfl dX10_step_31 ?_
    refine m_if_le (X := s1_27.toInt) (tgt := 39) hx hb dX10_step_34 (by decide) rfl (fun c34 => ?_) (fun c34 => ?_)
    · skip
      refine lv_iload_n hx hb dX10_step_39 rfl (lv_at hl 2 rfl) ?_
      refine m_if_ne (X := w9.toInt) (tgt := 52) hx hb dX10_step_40 (by decide) rfl (fun c40 => ?_) (fun c40 => ?_)
      · skip
        refine lv_iload_n hx hb dX10_step_52 rfl (lv_at hl 2 rfl) ?_
        refine lv_iconst (v := 1) hx hb dX10_step_53 (by decide) ?_
        refine m_icmp_ne (X := w9.toInt) (Y := 1) (tgt := 66) hx hb dX10_step_54 (by decide) rfl (by decide) (fun c54 => ?_) (fun c54 => ?_)
        · skip
          refine lv_iload_n hx hb dX10_step_66 rfl (lv_at hl 2 rfl) ?_
          refine lv_iconst (v := 2) hx hb dX10_step_67 (by decide) ?_
          refine m_icmp_ne (X := w9.toInt) (Y := 2) (tgt := 80) hx hb dX10_step_68 (by decide) rfl (by decide) (fun c68 => ?_) (fun c68 => ?_)
          · skip
            refine lv_aload_n hx hb dX10_step_80 rfl (lv_at hl 0 rfl) ?_
            refine va_get (D := D) (ci := 9) (v := .ref (q 6)) (C := RX10) (T := TX10) (N := 71) hx hb hts hin hown hK hP 0 rfl rfl 19 (by decide) k_5_12 (fun _ h9 => h9) rfl dX10_step_81 ?_
            refine lv_iload_n hx hb dX10_step_84 rfl (lv_at hl 1 rfl) ?_
            refine m_iald hx hb hK hP 6 0 rfl rfl (ix (by omega) (by omega)) dX10_step_85 (fun x85 e_x85 => ?_)
            have b_x85 := iB x85
            subst hAe
            rw [hQ]
            exact W.iret (v := x85) hx hb hr (fun t ht hW => ⟨⟨x85, _, rfl, ⟨s1_27, rfl⟩, by rw [ht]; exact hP, va_K.moved hW.alike hK, hD⟩, hS.F ht⟩) hS.2.2 dX10_step_86
          · skip
            refine lv_aload_n hx hb dX10_step_71 rfl (lv_at hl 0 rfl) ?_
            refine va_get (D := D) (ci := 9) (v := .ref (q 5)) (C := RX10) (T := TX10) (N := 71) hx hb hts hin hown hK hP 0 rfl rfl 18 (by decide) k_5_11 (fun _ h9 => h9) rfl dX10_step_72 ?_
            refine lv_iload_n hx hb dX10_step_75 rfl (lv_at hl 1 rfl) ?_
            refine m_iald hx hb hK hP 5 0 rfl rfl (ix (by omega) (by omega)) dX10_step_76 (fun x76 e_x76 => ?_)
            have b_x76 := iB x76
            refine lv_goto (tgt := 86) hx hb dX10_step_77 (by decide) ?_
            subst hAe
            rw [hQ]
            exact W.iret (v := x76) hx hb hr (fun t ht hW => ⟨⟨x76, _, rfl, ⟨s1_27, rfl⟩, by rw [ht]; exact hP, va_K.moved hW.alike hK, hD⟩, hS.F ht⟩) hS.2.2 dX10_step_86
        · skip
          refine lv_aload_n hx hb dX10_step_57 rfl (lv_at hl 0 rfl) ?_
          refine va_get (D := D) (ci := 9) (v := .ref (q 4)) (C := RX10) (T := TX10) (N := 71) hx hb hts hin hown hK hP 0 rfl rfl 17 (by decide) k_5_10 (fun _ h9 => h9) rfl dX10_step_58 ?_
          refine lv_iload_n hx hb dX10_step_61 rfl (lv_at hl 1 rfl) ?_
          refine m_iald hx hb hK hP 4 0 rfl rfl (ix (by omega) (by omega)) dX10_step_62 (fun x62 e_x62 => ?_)
          have b_x62 := iB x62
          refine lv_goto (tgt := 86) hx hb dX10_step_63 (by decide) ?_
          subst hAe
          rw [hQ]
          exact W.iret (v := x62) hx hb hr (fun t ht hW => ⟨⟨x62, _, rfl, ⟨s1_27, rfl⟩, by rw [ht]; exact hP, va_K.moved hW.alike hK, hD⟩, hS.F ht⟩) hS.2.2 dX10_step_86
      · skip
        refine lv_aload_n hx hb dX10_step_43 rfl (lv_at hl 0 rfl) ?_
        refine va_get (D := D) (ci := 9) (v := .ref (q 3)) (C := RX10) (T := TX10) (N := 71) hx hb hts hin hown hK hP 0 rfl rfl 16 (by decide) k_5_9 (fun _ h9 => h9) rfl dX10_step_44 ?_
        refine lv_iload_n hx hb dX10_step_47 rfl (lv_at hl 1 rfl) ?_
        refine m_iald hx hb hK hP 3 0 rfl rfl (ix (by omega) (by omega)) dX10_step_48 (fun x48 e_x48 => ?_)
        have b_x48 := iB x48
        refine lv_goto (tgt := 86) hx hb dX10_step_49 (by decide) ?_
        subst hAe
        rw [hQ]
        exact W.iret (v := x48) hx hb hr (fun t ht hW => ⟨⟨x48, _, rfl, ⟨s1_27, rfl⟩, by rw [ht]; exact hP, va_K.moved hW.alike hK, hD⟩, hS.F ht⟩) hS.2.2 dX10_step_86
    · skip
      refine lv_iconst (v := 0) hx hb dX10_step_37 (by decide) ?_
      subst hAe
      rw [hQ]
      exact W.iret (v := 0) hx hb hr (fun t ht hW => ⟨⟨0, _, rfl, ⟨s1_27, rfl⟩, by rw [ht]; exact hP, va_K.moved hW.alike hK, hD⟩, hS.F ht⟩) hS.2.2 dX10_step_38
  have J22 : ∀ (H : Heap) (locs : List Loc) (ls : Array Slot), va_P D vwCl (mw cs q v_thrown a_tape v_taped v_size v_to v_kind v_from v_letters v_letterMany v_digits v_isBeyond v_suffix v_steps v_fault v_hasProgram a_text a_act a_guess a_take a_begin a_finish a_to1 a_one a_two a_what a_ats a_atVar a_atNumber a_atomSort a_atomKind a_atomValue v_wrong v_wrongAt v_variable v_number v_numberKind v_takes a_out v_outed a_varSort a_varKind a_varValue a_creature v_creatures a_arrayClass a_arrayFrom a_arrayLong v_arrays v_cells a_cellSort a_cellKind a_cellValue a_asideSort a_asideKind a_asideValue a_outcome v_marks v_came v_guessed v_right v_taken a_markSort a_markKind a_markClass a_markValue v_sort v_kindAt v_value a_index v_reached v_looked) H → va_D A (mw cs q v_thrown a_tape v_taped v_size v_to v_kind v_from v_letters v_letterMany v_digits v_isBeyond v_suffix v_steps v_fault v_hasProgram a_text a_act a_guess a_take a_begin a_finish a_to1 a_one a_two a_what a_ats a_atVar a_atNumber a_atomSort a_atomKind a_atomValue v_wrong v_wrongAt v_variable v_number v_numberKind v_takes a_out v_outed a_varSort a_varKind a_varValue a_creature v_creatures a_arrayClass a_arrayFrom a_arrayLong v_arrays v_cells a_cellSort a_cellKind a_cellValue a_asideSort a_asideKind a_asideValue a_outcome v_marks v_came v_guessed v_right v_taken a_markSort a_markKind a_markClass a_markValue v_sort v_kindAt v_value a_index v_reached v_looked) → va_S A s.heap H locs → lv_has ls 3 [(0, .ref (q 0)), (1, .int k9), (2, .int w9)] → W p l e (headSpec (wG yX10_step cX10_step 3 (some .int)) rmX10_step).room s m ([.ref (q 0), .int k9, .int w9] : List Value).toArray below meth c H locs 0 0 Q (F0 m 22 ls [.ref (q 0)]) := by
    intro H locs ls hP hD hS hl
    refine lv_iconst (v := 1) hx hb dX10_step_22 (by decide) ?_
    refine lv_goto (tgt := 27) hx hb dX10_step_23 (by decide) ?_
    exact J27 (1 : Int32) H locs ls (by first | decide | omega) (by first | assumption | omega | (intros; omega) | decide) hP hD hS (lv_sub hl [0, 1, 2] rfl)
  refine m_if_lt (X := k9.toInt) (tgt := 22) hx hb dX10_step_2 (by decide) rfl (fun c2 => ?_) (fun c2 => ?_)
  · skip
    exact J22 H locs ls hP hD hS (lv_sub hl [0, 1, 2] rfl)
  · skip
    refine lv_iload_n hx hb dX10_step_5 rfl (lv_at hl 1 rfl) ?_
    refine lv_aload_n hx hb dX10_step_6 rfl (lv_at hl 0 rfl) ?_
    refine va_get (D := D) (ci := 9) (v := .int v_steps) (C := RX10) (T := TX10) (N := 71) hx hb hts hin hown hK hP 0 rfl rfl 12 (by decide) k_22_18 (fun _ h9 => h9) rfl dX10_step_7 ?_
    refine m_icmp_ge (X := k9.toInt) (Y := v_steps.toInt) (tgt := 22) hx hb dX10_step_10 (by decide) rfl rfl (fun c10 => ?_) (fun c10 => ?_)
    · skip
      exact J22 H locs ls hP hD hS (lv_sub hl [0, 1, 2] rfl)
    · skip
      refine lv_iload_n hx hb dX10_step_13 rfl (lv_at hl 2 rfl) ?_
      refine m_if_lt (X := w9.toInt) (tgt := 22) hx hb dX10_step_14 (by decide) rfl (fun c14 => ?_) (fun c14 => ?_)
      · skip
        exact J22 H locs ls hP hD hS (lv_sub hl [0, 1, 2] rfl)
      · skip
        refine lv_iload_n hx hb dX10_step_17 rfl (lv_at hl 2 rfl) ?_
        refine lv_iconst (v := 3) hx hb dX10_step_18 (by decide) ?_
        refine m_icmp_le (X := w9.toInt) (Y := 3) (tgt := 26) hx hb dX10_step_19 (by decide) rfl (by decide) (fun c19 => ?_) (fun c19 => ?_)
        · skip
          refine lv_iconst (v := 0) hx hb dX10_step_26 (by decide) ?_
          exact J27 (0 : Int32) H locs ls (by first | decide | omega) (by first | assumption | omega | (intros; omega) | decide) hP hD hS (lv_sub hl [0, 1, 2] rfl)
        · skip
          exact J22 H locs ls hP hD hS (lv_sub hl [0, 1, 2] rfl)

def rmX10_put : Room := { frames := 20, cells := 0, slots := 0, locals := 400 }
set_option maxHeartbeats 4000000 in
set_option maxRecDepth 100000 in
theorem tX10_put {l : Launch} {D : va_G} {K : Nat → Nat → Nat} {cs : Nat → ClassId} {q : Nat → Nat} {v_thrown v_taped v_size v_to v_kind v_from v_letterMany v_isBeyond v_suffix v_steps v_fault v_hasProgram v_wrong v_wrongAt v_variable v_numberKind v_takes v_outed v_creatures v_arrays v_cells v_marks v_came v_guessed v_right v_taken v_sort v_kindAt v_reached v_looked : Int32} {a_tape a_text a_act a_guess a_take a_begin a_finish a_to1 a_one a_two a_what a_ats a_atVar a_atNumber a_atomSort a_atomKind a_out a_varSort a_varKind a_creature a_arrayClass a_arrayFrom a_arrayLong a_cellSort a_cellKind a_asideSort a_asideKind a_outcome a_markSort a_markKind a_markClass a_index : Nat → Int32} {v_letters v_digits v_number v_value : Int64} {a_atomValue a_varValue a_cellValue a_asideValue a_markValue : Nat → Int64} (c9 : Int32) (p_0 : 0 ≤ v_outed.toInt) (p_1 : v_outed.toInt < 4000) : CtV l yX10_put (wG yX10_put cX10_put 2 none) rmX10_put D (mwT cs) K [.ref (q 0), .int c9] (mw cs q v_thrown a_tape v_taped v_size v_to v_kind v_from v_letters v_letterMany v_digits v_isBeyond v_suffix v_steps v_fault v_hasProgram a_text a_act a_guess a_take a_begin a_finish a_to1 a_one a_two a_what a_ats a_atVar a_atNumber a_atomSort a_atomKind a_atomValue v_wrong v_wrongAt v_variable v_number v_numberKind v_takes a_out v_outed a_varSort a_varKind a_varValue a_creature v_creatures a_arrayClass a_arrayFrom a_arrayLong v_arrays v_cells a_cellSort a_cellKind a_cellValue a_asideSort a_asideKind a_asideValue a_outcome v_marks v_came v_guessed v_right v_taken a_markSort a_markKind a_markClass a_markValue v_sort v_kindAt v_value a_index v_reached v_looked) (fun w1 => ∃ (a_out' : Nat → Int32) (v_outed' : Int32), w1 = (mw cs q v_thrown a_tape v_taped v_size v_to v_kind v_from v_letters v_letterMany v_digits v_isBeyond v_suffix v_steps v_fault v_hasProgram a_text a_act a_guess a_take a_begin a_finish a_to1 a_one a_two a_what a_ats a_atVar a_atNumber a_atomSort a_atomKind a_atomValue v_wrong v_wrongAt v_variable v_number v_numberKind v_takes a_out' v_outed' a_varSort a_varKind a_varValue a_creature v_creatures a_arrayClass a_arrayFrom a_arrayLong v_arrays v_cells a_cellSort a_cellKind a_cellValue a_asideSort a_asideKind a_asideValue a_outcome v_marks v_came v_guessed v_right v_taken a_markSort a_markKind a_markClass a_markValue v_sort v_kindAt v_value a_index v_reached v_looked) ∧ (v_outed'.toInt = v_outed.toInt + 1)) 0 0 := by
  intro sz
  refine Met.ofW (cc := cX10_put) (maxL := 2) (ret := none) (by decide) rfl ?_
  intro p e s m args below meth c s₁ B hml hv
  obtain ⟨rfl, hsz, hP, hK, hD0, hE⟩ := hv
  have hx := B.exec
  have hb := B.bytes
  have hr := B.returns
  have hts := atoms_spec (ws := (wG yX10_put cX10_put 2 none)) B.pre
  have hown : s.vm.findClass RX10 = some m.cls := findClass_of_methodNamed B.named
  have hlocks := B.notSynchronized
  subst hsz
  have hD := hD0.self (sz := s.heap.size)
  obtain ⟨A, hAe⟩ : ∃ A : Nat → Prop, A = va_A (mw cs q v_thrown a_tape v_taped v_size v_to v_kind v_from v_letters v_letterMany v_digits v_isBeyond v_suffix v_steps v_fault v_hasProgram a_text a_act a_guess a_take a_begin a_finish a_to1 a_one a_two a_what a_ats a_atVar a_atNumber a_atomSort a_atomKind a_atomValue v_wrong v_wrongAt v_variable v_number v_numberKind v_takes a_out v_outed a_varSort a_varKind a_varValue a_creature v_creatures a_arrayClass a_arrayFrom a_arrayLong v_arrays v_cells a_cellSort a_cellKind a_cellValue a_asideSort a_asideKind a_asideValue a_outcome v_marks v_came v_guessed v_right v_taken a_markSort a_markKind a_markClass a_markValue v_sort v_kindAt v_value a_index v_reached v_looked) s.heap.size := ⟨_, rfl⟩
  rw [← hAe] at hD hE
  have hA : ∀ q : Nat, s.heap.size ≤ q → A q := fun q h => by rw [hAe]; exact Or.inr h
  have hS : va_S A s.heap s.heap [] := va_S.rf
  have hl := lv_entry ([.ref (q 0), .int c9]) (n := 2) (Nat.le_of_ble_eq_true rfl)
  rw [lg_entry_eq]
  generalize (lg_sl ([.ref (q 0), .int c9]) ++ List.replicate (2 - (lg_sl ([.ref (q 0), .int c9])).length) Slot.unset).toArray = ls at hl ⊢
  have hl : lv_has ls 2 [(0, .ref (q 0)), (1, .int c9)] := hl
  refine wq (fun Q hQ => ?_)
  have hin : ∀ w ∈ wsX100, w ∈ (wG yX10_put cX10_put 2 none) := fun w h => List.mem_cons_of_mem _ (inlX10 w h)
  have kc0 : (1 : Int32).toInt = 1 := by decide
  have k_6_0 := hts (.fieldLink RX10 62 "ArrayTrainerModel" "out" "[I") (List.mem_cons_of_mem _ (wr6 _ (List.mem_of_getElem? (i := 0) rfl)))
  have k_34_9 := hts (.fieldLink RX10 464 "ArrayTrainerModel" "outed" "I") (List.mem_cons_of_mem _ (wr34 _ (List.mem_of_getElem? (i := 9) rfl)))
  obtain ⟨H, hH⟩ : ∃ H : Heap, H = s.heap := ⟨_, rfl⟩
  obtain ⟨locs, hlc⟩ : ∃ L : List Loc, L = [] := ⟨_, rfl⟩
  have hP : va_P D vwCl (mw cs q v_thrown a_tape v_taped v_size v_to v_kind v_from v_letters v_letterMany v_digits v_isBeyond v_suffix v_steps v_fault v_hasProgram a_text a_act a_guess a_take a_begin a_finish a_to1 a_one a_two a_what a_ats a_atVar a_atNumber a_atomSort a_atomKind a_atomValue v_wrong v_wrongAt v_variable v_number v_numberKind v_takes a_out v_outed a_varSort a_varKind a_varValue a_creature v_creatures a_arrayClass a_arrayFrom a_arrayLong v_arrays v_cells a_cellSort a_cellKind a_cellValue a_asideSort a_asideKind a_asideValue a_outcome v_marks v_came v_guessed v_right v_taken a_markSort a_markKind a_markClass a_markValue v_sort v_kindAt v_value a_index v_reached v_looked) H := by rw [hH]; exact hP
  have hS : va_S A s.heap H locs := by rw [hH, hlc]; exact hS
  refine wHL hH hlc ?_
  have b_c9 := iB c9
  refine lv_aload_n hx hb dX10_put_0 rfl (lv_at hl 0 rfl) ?_
  refine va_get (D := D) (ci := 9) (v := .ref (q 18)) (C := RX10) (T := TX10) (N := 71) hx hb hts hin hown hK hP 0 rfl rfl 37 (by decide) k_6_0 (fun _ h9 => h9) rfl dX10_put_1 ?_
  refine lv_aload_n hx hb dX10_put_4 rfl (lv_at hl 0 rfl) ?_
  refine va_get (D := D) (ci := 9) (v := .int v_outed) (C := RX10) (T := TX10) (N := 71) hx hb hts hin hown hK hP 0 rfl rfl 38 (by decide) k_34_9 (fun _ h9 => h9) rfl dX10_put_5 ?_
  refine lv_iload_n hx hb dX10_put_8 rfl (lv_at hl 1 rfl) ?_
  refine va_iast hx hb hK hP hD hS 18 0 rfl rfl (ix (by omega) (by omega)) dX10_put_9 (fun H locs hP hD hS => ?_)
  obtain ⟨a_out_9, e_a_out_9⟩ : ∃ g, g = upd a_out v_outed.toNatClampNeg c9 := ⟨_, rfl⟩
  have hP : va_P D vwCl (mw cs q v_thrown a_tape v_taped v_size v_to v_kind v_from v_letters v_letterMany v_digits v_isBeyond v_suffix v_steps v_fault v_hasProgram a_text a_act a_guess a_take a_begin a_finish a_to1 a_one a_two a_what a_ats a_atVar a_atNumber a_atomSort a_atomKind a_atomValue v_wrong v_wrongAt v_variable v_number v_numberKind v_takes a_out_9 v_outed a_varSort a_varKind a_varValue a_creature v_creatures a_arrayClass a_arrayFrom a_arrayLong v_arrays v_cells a_cellSort a_cellKind a_cellValue a_asideSort a_asideKind a_asideValue a_outcome v_marks v_came v_guessed v_right v_taken a_markSort a_markKind a_markClass a_markValue v_sort v_kindAt v_value a_index v_reached v_looked) H := by rw [e_a_out_9]; exact hP
  have hD : va_D A (mw cs q v_thrown a_tape v_taped v_size v_to v_kind v_from v_letters v_letterMany v_digits v_isBeyond v_suffix v_steps v_fault v_hasProgram a_text a_act a_guess a_take a_begin a_finish a_to1 a_one a_two a_what a_ats a_atVar a_atNumber a_atomSort a_atomKind a_atomValue v_wrong v_wrongAt v_variable v_number v_numberKind v_takes a_out_9 v_outed a_varSort a_varKind a_varValue a_creature v_creatures a_arrayClass a_arrayFrom a_arrayLong v_arrays v_cells a_cellSort a_cellKind a_cellValue a_asideSort a_asideKind a_asideValue a_outcome v_marks v_came v_guessed v_right v_taken a_markSort a_markKind a_markClass a_markValue v_sort v_kindAt v_value a_index v_reached v_looked) := by rw [e_a_out_9]; exact hD
  refine lv_aload_n hx hb dX10_put_10 rfl (lv_at hl 0 rfl) ?_
  refine lv_dup hx hb dX10_put_11 rfl ?_
  refine va_get (D := D) (ci := 9) (v := .int v_outed) (C := RX10) (T := TX10) (N := 71) hx hb hts hin hown hK hP 0 rfl rfl 38 (by decide) k_34_9 (fun _ h9 => h9) rfl dX10_put_12 ?_
  refine lv_iconst (v := 1) hx hb dX10_put_15 (by decide) ?_
  refine m_iadd (X := v_outed.toInt) (Y := 1) hx hb dX10_put_16 rfl (by decide) (fun x16 e_x16 g9 => ?_)
  obtain ⟨k_x16, g_x16⟩ := g9
  have b_x16 := iB x16
  try (have q_x16 : x16.toInt = v_outed.toInt + 1 := (by omega); clear g_x16 k_x16)
  refine va_put (D := D) (ci := 9) (v := .int x16) (ty := .int) (C := RX10) (T := TX10) (N := 71) hx hb hts hin tyX10 tyX10_ok nmX10 hown hK hP hD hS 0 rfl rfl 38 (by decide) k_34_9 (fun _ h9 => h9) rfl (by decide +kernel) rfl rfl (Nat.le_of_ble_eq_true rfl) dX10_put_17 (fun H locs hP hD hS => ?_)
  have hP : va_P D vwCl (mw cs q v_thrown a_tape v_taped v_size v_to v_kind v_from v_letters v_letterMany v_digits v_isBeyond v_suffix v_steps v_fault v_hasProgram a_text a_act a_guess a_take a_begin a_finish a_to1 a_one a_two a_what a_ats a_atVar a_atNumber a_atomSort a_atomKind a_atomValue v_wrong v_wrongAt v_variable v_number v_numberKind v_takes a_out_9 x16 a_varSort a_varKind a_varValue a_creature v_creatures a_arrayClass a_arrayFrom a_arrayLong v_arrays v_cells a_cellSort a_cellKind a_cellValue a_asideSort a_asideKind a_asideValue a_outcome v_marks v_came v_guessed v_right v_taken a_markSort a_markKind a_markClass a_markValue v_sort v_kindAt v_value a_index v_reached v_looked) H := hP
  have hD : va_D A (mw cs q v_thrown a_tape v_taped v_size v_to v_kind v_from v_letters v_letterMany v_digits v_isBeyond v_suffix v_steps v_fault v_hasProgram a_text a_act a_guess a_take a_begin a_finish a_to1 a_one a_two a_what a_ats a_atVar a_atNumber a_atomSort a_atomKind a_atomValue v_wrong v_wrongAt v_variable v_number v_numberKind v_takes a_out_9 x16 a_varSort a_varKind a_varValue a_creature v_creatures a_arrayClass a_arrayFrom a_arrayLong v_arrays v_cells a_cellSort a_cellKind a_cellValue a_asideSort a_asideKind a_asideValue a_outcome v_marks v_came v_guessed v_right v_taken a_markSort a_markKind a_markClass a_markValue v_sort v_kindAt v_value a_index v_reached v_looked) := hD
  subst hAe
  rw [hQ]
  exact W.vret hx hb hr (fun t ht hW => ⟨⟨_, rfl, ⟨a_out_9, x16, rfl, by first | assumption | omega | (intros; omega) | decide⟩, by rw [ht]; exact hP, va_K.moved hW.alike hK, hD⟩, hS.F ht⟩) hS.2.2 dX10_put_20

def rmX10_octet : Room := { frames := 20, cells := 0, slots := 0, locals := 400 }
set_option maxHeartbeats 4000000 in
set_option maxRecDepth 100000 in
theorem tX10_octet {l : Launch} {D : va_G} {K : Nat → Nat → Nat} {cs : Nat → ClassId} {q : Nat → Nat} {v_thrown v_taped v_size v_to v_kind v_from v_letterMany v_isBeyond v_suffix v_steps v_fault v_hasProgram v_wrong v_wrongAt v_variable v_numberKind v_takes v_outed v_creatures v_arrays v_cells v_marks v_came v_guessed v_right v_taken v_sort v_kindAt v_reached v_looked : Int32} {a_tape a_text a_act a_guess a_take a_begin a_finish a_to1 a_one a_two a_what a_ats a_atVar a_atNumber a_atomSort a_atomKind a_out a_varSort a_varKind a_creature a_arrayClass a_arrayFrom a_arrayLong a_cellSort a_cellKind a_asideSort a_asideKind a_outcome a_markSort a_markKind a_markClass a_index : Nat → Int32} {v_letters v_digits v_number v_value : Int64} {a_atomValue a_varValue a_cellValue a_asideValue a_markValue : Nat → Int64} (i9 : Int32) (p_0 : 0 ≤ v_outed.toInt) (p_1 : v_outed.toInt ≤ 4000) : CtI l yX10_octet (wG yX10_octet cX10_octet 2 (some .int)) rmX10_octet D (mwT cs) K [.ref (q 0), .int i9] (mw cs q v_thrown a_tape v_taped v_size v_to v_kind v_from v_letters v_letterMany v_digits v_isBeyond v_suffix v_steps v_fault v_hasProgram a_text a_act a_guess a_take a_begin a_finish a_to1 a_one a_two a_what a_ats a_atVar a_atNumber a_atomSort a_atomKind a_atomValue v_wrong v_wrongAt v_variable v_number v_numberKind v_takes a_out v_outed a_varSort a_varKind a_varValue a_creature v_creatures a_arrayClass a_arrayFrom a_arrayLong v_arrays v_cells a_cellSort a_cellKind a_cellValue a_asideSort a_asideKind a_asideValue a_outcome v_marks v_came v_guessed v_right v_taken a_markSort a_markKind a_markClass a_markValue v_sort v_kindAt v_value a_index v_reached v_looked) (fun r w1 => ∃ (v_thrown' : Int32), w1 = (mw cs q v_thrown' a_tape v_taped v_size v_to v_kind v_from v_letters v_letterMany v_digits v_isBeyond v_suffix v_steps v_fault v_hasProgram a_text a_act a_guess a_take a_begin a_finish a_to1 a_one a_two a_what a_ats a_atVar a_atNumber a_atomSort a_atomKind a_atomValue v_wrong v_wrongAt v_variable v_number v_numberKind v_takes a_out v_outed a_varSort a_varKind a_varValue a_creature v_creatures a_arrayClass a_arrayFrom a_arrayLong v_arrays v_cells a_cellSort a_cellKind a_cellValue a_asideSort a_asideKind a_asideValue a_outcome v_marks v_came v_guessed v_right v_taken a_markSort a_markKind a_markClass a_markValue v_sort v_kindAt v_value a_index v_reached v_looked)) 0 0 := by
  intro sz
  refine Met.ofW (cc := cX10_octet) (maxL := 2) (ret := (some .int)) (by decide) rfl ?_
  intro p e s m args below meth c s₁ B hml hv
  obtain ⟨rfl, hsz, hP, hK, hD0, hE⟩ := hv
  have hx := B.exec
  have hb := B.bytes
  have hr := B.returns
  have hts := atoms_spec (ws := (wG yX10_octet cX10_octet 2 (some .int))) B.pre
  have hown : s.vm.findClass RX10 = some m.cls := findClass_of_methodNamed B.named
  have hlocks := B.notSynchronized
  subst hsz
  have hD := hD0.self (sz := s.heap.size)
  obtain ⟨A, hAe⟩ : ∃ A : Nat → Prop, A = va_A (mw cs q v_thrown a_tape v_taped v_size v_to v_kind v_from v_letters v_letterMany v_digits v_isBeyond v_suffix v_steps v_fault v_hasProgram a_text a_act a_guess a_take a_begin a_finish a_to1 a_one a_two a_what a_ats a_atVar a_atNumber a_atomSort a_atomKind a_atomValue v_wrong v_wrongAt v_variable v_number v_numberKind v_takes a_out v_outed a_varSort a_varKind a_varValue a_creature v_creatures a_arrayClass a_arrayFrom a_arrayLong v_arrays v_cells a_cellSort a_cellKind a_cellValue a_asideSort a_asideKind a_asideValue a_outcome v_marks v_came v_guessed v_right v_taken a_markSort a_markKind a_markClass a_markValue v_sort v_kindAt v_value a_index v_reached v_looked) s.heap.size := ⟨_, rfl⟩
  rw [← hAe] at hD hE
  have hA : ∀ q : Nat, s.heap.size ≤ q → A q := fun q h => by rw [hAe]; exact Or.inr h
  have hS : va_S A s.heap s.heap [] := va_S.rf
  have hl := lv_entry ([.ref (q 0), .int i9]) (n := 2) (Nat.le_of_ble_eq_true rfl)
  rw [lg_entry_eq]
  generalize (lg_sl ([.ref (q 0), .int i9]) ++ List.replicate (2 - (lg_sl ([.ref (q 0), .int i9])).length) Slot.unset).toArray = ls at hl ⊢
  have hl : lv_has ls 2 [(0, .ref (q 0)), (1, .int i9)] := hl
  refine wq (fun Q hQ => ?_)
  have hin : ∀ w ∈ wsX100, w ∈ (wG yX10_octet cX10_octet 2 (some .int)) := fun w h => List.mem_cons_of_mem _ (inlX10 w h)
  have kc0 : (0 : Int32).toInt = 0 := by decide
  have kc1 : (1 : Int32).toInt = 1 := by decide
  have k_7_9 := hts (.fieldLink RX10 122 "ArrayTrainerModel" "thrown" "I") (List.mem_cons_of_mem _ (wr7 _ (List.mem_of_getElem? (i := 9) rfl)))
  have k_6_0 := hts (.fieldLink RX10 62 "ArrayTrainerModel" "out" "[I") (List.mem_cons_of_mem _ (wr6 _ (List.mem_of_getElem? (i := 0) rfl)))
  have k_34_9 := hts (.fieldLink RX10 464 "ArrayTrainerModel" "outed" "I") (List.mem_cons_of_mem _ (wr34 _ (List.mem_of_getElem? (i := 9) rfl)))
  obtain ⟨H, hH⟩ : ∃ H : Heap, H = s.heap := ⟨_, rfl⟩
  obtain ⟨locs, hlc⟩ : ∃ L : List Loc, L = [] := ⟨_, rfl⟩
  have hP : va_P D vwCl (mw cs q v_thrown a_tape v_taped v_size v_to v_kind v_from v_letters v_letterMany v_digits v_isBeyond v_suffix v_steps v_fault v_hasProgram a_text a_act a_guess a_take a_begin a_finish a_to1 a_one a_two a_what a_ats a_atVar a_atNumber a_atomSort a_atomKind a_atomValue v_wrong v_wrongAt v_variable v_number v_numberKind v_takes a_out v_outed a_varSort a_varKind a_varValue a_creature v_creatures a_arrayClass a_arrayFrom a_arrayLong v_arrays v_cells a_cellSort a_cellKind a_cellValue a_asideSort a_asideKind a_asideValue a_outcome v_marks v_came v_guessed v_right v_taken a_markSort a_markKind a_markClass a_markValue v_sort v_kindAt v_value a_index v_reached v_looked) H := by rw [hH]; exact hP
  have hS : va_S A s.heap H locs := by rw [hH, hlc]; exact hS
  refine wHL hH hlc ?_
  have b_i9 := iB i9
  refine lv_aload_n hx hb dX10_octet_0 rfl (lv_at hl 0 rfl) ?_
  refine lv_iload_n hx hb dX10_octet_1 rfl (lv_at hl 1 rfl) ?_
  have J18 : ∀ (s1_18 : Int32) (H : Heap) (locs : List Loc) (ls : Array Slot), (s1_18.toInt = 0 ∨ s1_18.toInt = 1) → (s1_18.toInt = 1 ∨ (0 ≤ i9.toInt ∧ i9.toInt < v_outed.toInt)) → va_P D vwCl (mw cs q v_thrown a_tape v_taped v_size v_to v_kind v_from v_letters v_letterMany v_digits v_isBeyond v_suffix v_steps v_fault v_hasProgram a_text a_act a_guess a_take a_begin a_finish a_to1 a_one a_two a_what a_ats a_atVar a_atNumber a_atomSort a_atomKind a_atomValue v_wrong v_wrongAt v_variable v_number v_numberKind v_takes a_out v_outed a_varSort a_varKind a_varValue a_creature v_creatures a_arrayClass a_arrayFrom a_arrayLong v_arrays v_cells a_cellSort a_cellKind a_cellValue a_asideSort a_asideKind a_asideValue a_outcome v_marks v_came v_guessed v_right v_taken a_markSort a_markKind a_markClass a_markValue v_sort v_kindAt v_value a_index v_reached v_looked) H → va_D A (mw cs q v_thrown a_tape v_taped v_size v_to v_kind v_from v_letters v_letterMany v_digits v_isBeyond v_suffix v_steps v_fault v_hasProgram a_text a_act a_guess a_take a_begin a_finish a_to1 a_one a_two a_what a_ats a_atVar a_atNumber a_atomSort a_atomKind a_atomValue v_wrong v_wrongAt v_variable v_number v_numberKind v_takes a_out v_outed a_varSort a_varKind a_varValue a_creature v_creatures a_arrayClass a_arrayFrom a_arrayLong v_arrays v_cells a_cellSort a_cellKind a_cellValue a_asideSort a_asideKind a_asideValue a_outcome v_marks v_came v_guessed v_right v_taken a_markSort a_markKind a_markClass a_markValue v_sort v_kindAt v_value a_index v_reached v_looked) → va_S A s.heap H locs → lv_has ls 2 [(0, .ref (q 0)), (1, .int i9)] → W p l e (headSpec (wG yX10_octet cX10_octet 2 (some .int)) rmX10_octet).room s m ([.ref (q 0), .int i9] : List Value).toArray below meth c H locs 0 0 Q (F0 m 18 ls [.int s1_18, .ref (q 0)]) := by
    intro s1_18 H locs ls f18_0 f18_1 hP hD hS hl
    refine va_put (D := D) (ci := 9) (v := .int s1_18) (ty := .int) (C := RX10) (T := TX10) (N := 71) hx hb hts hin tyX10 tyX10_ok nmX10 hown hK hP hD hS 0 rfl rfl 0 (by decide) k_7_9 (fun _ h9 => h9) rfl (by decide +kernel) rfl rfl (Nat.le_of_ble_eq_true rfl) dX10_octet_18 (fun H locs hP hD hS => ?_)
    have hP : va_P D vwCl (mw cs q s1_18 a_tape v_taped v_size v_to v_kind v_from v_letters v_letterMany v_digits v_isBeyond v_suffix v_steps v_fault v_hasProgram a_text a_act a_guess a_take a_begin a_finish a_to1 a_one a_two a_what a_ats a_atVar a_atNumber a_atomSort a_atomKind a_atomValue v_wrong v_wrongAt v_variable v_number v_numberKind v_takes a_out v_outed a_varSort a_varKind a_varValue a_creature v_creatures a_arrayClass a_arrayFrom a_arrayLong v_arrays v_cells a_cellSort a_cellKind a_cellValue a_asideSort a_asideKind a_asideValue a_outcome v_marks v_came v_guessed v_right v_taken a_markSort a_markKind a_markClass a_markValue v_sort v_kindAt v_value a_index v_reached v_looked) H := hP
    have hD : va_D A (mw cs q s1_18 a_tape v_taped v_size v_to v_kind v_from v_letters v_letterMany v_digits v_isBeyond v_suffix v_steps v_fault v_hasProgram a_text a_act a_guess a_take a_begin a_finish a_to1 a_one a_two a_what a_ats a_atVar a_atNumber a_atomSort a_atomKind a_atomValue v_wrong v_wrongAt v_variable v_number v_numberKind v_takes a_out v_outed a_varSort a_varKind a_varValue a_creature v_creatures a_arrayClass a_arrayFrom a_arrayLong v_arrays v_cells a_cellSort a_cellKind a_cellValue a_asideSort a_asideKind a_asideValue a_outcome v_marks v_came v_guessed v_right v_taken a_markSort a_markKind a_markClass a_markValue v_sort v_kindAt v_value a_index v_reached v_looked) := hD
    refine lv_aload_n hx hb dX10_octet_21 rfl (lv_at hl 0 rfl) ?_
    refine va_get (D := D) (ci := 9) (v := .int s1_18) (C := RX10) (T := TX10) (N := 71) hx hb hts hin hown hK hP 0 rfl rfl 0 (by decide) k_7_9 (fun _ h9 => h9) rfl dX10_octet_22 ?_
    refine m_if_le (X := s1_18.toInt) (tgt := 32) hx hb dX10_octet_25 (by decide) rfl (fun c25 => ?_) (fun c25 => ?_)
    · skip
      refine lv_aload_n hx hb dX10_octet_32 rfl (lv_at hl 0 rfl) ?_
      refine va_get (D := D) (ci := 9) (v := .ref (q 18)) (C := RX10) (T := TX10) (N := 71) hx hb hts hin hown hK hP 0 rfl rfl 37 (by decide) k_6_0 (fun _ h9 => h9) rfl dX10_octet_33 ?_
      refine lv_iload_n hx hb dX10_octet_36 rfl (lv_at hl 1 rfl) ?_
      refine m_iald hx hb hK hP 18 0 rfl rfl (ix (by omega) (by omega)) dX10_octet_37 (fun x37 e_x37 => ?_)
      have b_x37 := iB x37
      subst hAe
      rw [hQ]
      exact W.iret (v := x37) hx hb hr (fun t ht hW => ⟨⟨x37, _, rfl, ⟨s1_18, rfl⟩, by rw [ht]; exact hP, va_K.moved hW.alike hK, hD⟩, hS.F ht⟩) hS.2.2 dX10_octet_38
    · skip
      refine lv_iconst (v := 0) hx hb dX10_octet_28 (by decide) ?_
      refine lv_goto (tgt := 38) hx hb dX10_octet_29 (by decide) ?_
      subst hAe
      rw [hQ]
      exact W.iret (v := 0) hx hb hr (fun t ht hW => ⟨⟨0, _, rfl, ⟨s1_18, rfl⟩, by rw [ht]; exact hP, va_K.moved hW.alike hK, hD⟩, hS.F ht⟩) hS.2.2 dX10_octet_38
  have J13 : ∀ (H : Heap) (locs : List Loc) (ls : Array Slot), va_P D vwCl (mw cs q v_thrown a_tape v_taped v_size v_to v_kind v_from v_letters v_letterMany v_digits v_isBeyond v_suffix v_steps v_fault v_hasProgram a_text a_act a_guess a_take a_begin a_finish a_to1 a_one a_two a_what a_ats a_atVar a_atNumber a_atomSort a_atomKind a_atomValue v_wrong v_wrongAt v_variable v_number v_numberKind v_takes a_out v_outed a_varSort a_varKind a_varValue a_creature v_creatures a_arrayClass a_arrayFrom a_arrayLong v_arrays v_cells a_cellSort a_cellKind a_cellValue a_asideSort a_asideKind a_asideValue a_outcome v_marks v_came v_guessed v_right v_taken a_markSort a_markKind a_markClass a_markValue v_sort v_kindAt v_value a_index v_reached v_looked) H → va_D A (mw cs q v_thrown a_tape v_taped v_size v_to v_kind v_from v_letters v_letterMany v_digits v_isBeyond v_suffix v_steps v_fault v_hasProgram a_text a_act a_guess a_take a_begin a_finish a_to1 a_one a_two a_what a_ats a_atVar a_atNumber a_atomSort a_atomKind a_atomValue v_wrong v_wrongAt v_variable v_number v_numberKind v_takes a_out v_outed a_varSort a_varKind a_varValue a_creature v_creatures a_arrayClass a_arrayFrom a_arrayLong v_arrays v_cells a_cellSort a_cellKind a_cellValue a_asideSort a_asideKind a_asideValue a_outcome v_marks v_came v_guessed v_right v_taken a_markSort a_markKind a_markClass a_markValue v_sort v_kindAt v_value a_index v_reached v_looked) → va_S A s.heap H locs → lv_has ls 2 [(0, .ref (q 0)), (1, .int i9)] → W p l e (headSpec (wG yX10_octet cX10_octet 2 (some .int)) rmX10_octet).room s m ([.ref (q 0), .int i9] : List Value).toArray below meth c H locs 0 0 Q (F0 m 13 ls [.ref (q 0)]) := by
    intro H locs ls hP hD hS hl
    refine lv_iconst (v := 1) hx hb dX10_octet_13 (by decide) ?_
    refine lv_goto (tgt := 18) hx hb dX10_octet_14 (by decide) ?_
    exact J18 (1 : Int32) H locs ls (by first | decide | omega) (by first | assumption | omega | (intros; omega) | decide) hP hD hS (lv_sub hl [0, 1] rfl)
  refine m_if_lt (X := i9.toInt) (tgt := 13) hx hb dX10_octet_2 (by decide) rfl (fun c2 => ?_) (fun c2 => ?_)
  · skip
    exact J13 H locs ls hP hD hS (lv_sub hl [0, 1] rfl)
  · skip
    refine lv_iload_n hx hb dX10_octet_5 rfl (lv_at hl 1 rfl) ?_
    refine lv_aload_n hx hb dX10_octet_6 rfl (lv_at hl 0 rfl) ?_
    refine va_get (D := D) (ci := 9) (v := .int v_outed) (C := RX10) (T := TX10) (N := 71) hx hb hts hin hown hK hP 0 rfl rfl 38 (by decide) k_34_9 (fun _ h9 => h9) rfl dX10_octet_7 ?_
    refine m_icmp_lt (X := i9.toInt) (Y := v_outed.toInt) (tgt := 17) hx hb dX10_octet_10 (by decide) rfl rfl (fun c10 => ?_) (fun c10 => ?_)
    · skip
      refine lv_iconst (v := 0) hx hb dX10_octet_17 (by decide) ?_
      exact J18 (0 : Int32) H locs ls (by first | decide | omega) (by first | assumption | omega | (intros; omega) | decide) hP hD hS (lv_sub hl [0, 1] rfl)
    · skip
      exact J13 H locs ls hP hD hS (lv_sub hl [0, 1] rfl)

def rmX10_outcome : Room := { frames := 20, cells := 0, slots := 0, locals := 400 }
set_option maxHeartbeats 4000000 in
set_option maxRecDepth 100000 in
theorem tX10_outcome {l : Launch} {D : va_G} {K : Nat → Nat → Nat} {cs : Nat → ClassId} {q : Nat → Nat} {v_thrown v_taped v_size v_to v_kind v_from v_letterMany v_isBeyond v_suffix v_steps v_fault v_hasProgram v_wrong v_wrongAt v_variable v_numberKind v_takes v_outed v_creatures v_arrays v_cells v_marks v_came v_guessed v_right v_taken v_sort v_kindAt v_reached v_looked : Int32} {a_tape a_text a_act a_guess a_take a_begin a_finish a_to1 a_one a_two a_what a_ats a_atVar a_atNumber a_atomSort a_atomKind a_out a_varSort a_varKind a_creature a_arrayClass a_arrayFrom a_arrayLong a_cellSort a_cellKind a_asideSort a_asideKind a_outcome a_markSort a_markKind a_markClass a_index : Nat → Int32} {v_letters v_digits v_number v_value : Int64} {a_atomValue a_varValue a_cellValue a_asideValue a_markValue : Nat → Int64} (k9 : Int32) (p_0 : 0 ≤ v_steps.toInt) (p_1 : v_steps.toInt ≤ 100) : CtI l yX10_outcome (wG yX10_outcome cX10_outcome 2 (some .int)) rmX10_outcome D (mwT cs) K [.ref (q 0), .int k9] (mw cs q v_thrown a_tape v_taped v_size v_to v_kind v_from v_letters v_letterMany v_digits v_isBeyond v_suffix v_steps v_fault v_hasProgram a_text a_act a_guess a_take a_begin a_finish a_to1 a_one a_two a_what a_ats a_atVar a_atNumber a_atomSort a_atomKind a_atomValue v_wrong v_wrongAt v_variable v_number v_numberKind v_takes a_out v_outed a_varSort a_varKind a_varValue a_creature v_creatures a_arrayClass a_arrayFrom a_arrayLong v_arrays v_cells a_cellSort a_cellKind a_cellValue a_asideSort a_asideKind a_asideValue a_outcome v_marks v_came v_guessed v_right v_taken a_markSort a_markKind a_markClass a_markValue v_sort v_kindAt v_value a_index v_reached v_looked) (fun r w1 => ∃ (v_thrown' : Int32), w1 = (mw cs q v_thrown' a_tape v_taped v_size v_to v_kind v_from v_letters v_letterMany v_digits v_isBeyond v_suffix v_steps v_fault v_hasProgram a_text a_act a_guess a_take a_begin a_finish a_to1 a_one a_two a_what a_ats a_atVar a_atNumber a_atomSort a_atomKind a_atomValue v_wrong v_wrongAt v_variable v_number v_numberKind v_takes a_out v_outed a_varSort a_varKind a_varValue a_creature v_creatures a_arrayClass a_arrayFrom a_arrayLong v_arrays v_cells a_cellSort a_cellKind a_cellValue a_asideSort a_asideKind a_asideValue a_outcome v_marks v_came v_guessed v_right v_taken a_markSort a_markKind a_markClass a_markValue v_sort v_kindAt v_value a_index v_reached v_looked)) 0 0 := by
  intro sz
  refine Met.ofW (cc := cX10_outcome) (maxL := 2) (ret := (some .int)) (by decide) rfl ?_
  intro p e s m args below meth c s₁ B hml hv
  obtain ⟨rfl, hsz, hP, hK, hD0, hE⟩ := hv
  have hx := B.exec
  have hb := B.bytes
  have hr := B.returns
  have hts := atoms_spec (ws := (wG yX10_outcome cX10_outcome 2 (some .int))) B.pre
  have hown : s.vm.findClass RX10 = some m.cls := findClass_of_methodNamed B.named
  have hlocks := B.notSynchronized
  subst hsz
  have hD := hD0.self (sz := s.heap.size)
  obtain ⟨A, hAe⟩ : ∃ A : Nat → Prop, A = va_A (mw cs q v_thrown a_tape v_taped v_size v_to v_kind v_from v_letters v_letterMany v_digits v_isBeyond v_suffix v_steps v_fault v_hasProgram a_text a_act a_guess a_take a_begin a_finish a_to1 a_one a_two a_what a_ats a_atVar a_atNumber a_atomSort a_atomKind a_atomValue v_wrong v_wrongAt v_variable v_number v_numberKind v_takes a_out v_outed a_varSort a_varKind a_varValue a_creature v_creatures a_arrayClass a_arrayFrom a_arrayLong v_arrays v_cells a_cellSort a_cellKind a_cellValue a_asideSort a_asideKind a_asideValue a_outcome v_marks v_came v_guessed v_right v_taken a_markSort a_markKind a_markClass a_markValue v_sort v_kindAt v_value a_index v_reached v_looked) s.heap.size := ⟨_, rfl⟩
  rw [← hAe] at hD hE
  have hA : ∀ q : Nat, s.heap.size ≤ q → A q := fun q h => by rw [hAe]; exact Or.inr h
  have hS : va_S A s.heap s.heap [] := va_S.rf
  have hl := lv_entry ([.ref (q 0), .int k9]) (n := 2) (Nat.le_of_ble_eq_true rfl)
  rw [lg_entry_eq]
  generalize (lg_sl ([.ref (q 0), .int k9]) ++ List.replicate (2 - (lg_sl ([.ref (q 0), .int k9])).length) Slot.unset).toArray = ls at hl ⊢
  have hl : lv_has ls 2 [(0, .ref (q 0)), (1, .int k9)] := hl
  refine wq (fun Q hQ => ?_)
  have hin : ∀ w ∈ wsX100, w ∈ (wG yX10_outcome cX10_outcome 2 (some .int)) := fun w h => List.mem_cons_of_mem _ (inlX10 w h)
  have kc0 : (0 : Int32).toInt = 0 := by decide
  have kc1 : (1 : Int32).toInt = 1 := by decide
  have k_7_9 := hts (.fieldLink RX10 122 "ArrayTrainerModel" "thrown" "I") (List.mem_cons_of_mem _ (wr7 _ (List.mem_of_getElem? (i := 9) rfl)))
  have k_6_14 := hts (.fieldLink RX10 104 "ArrayTrainerModel" "outcome" "[I") (List.mem_cons_of_mem _ (wr6 _ (List.mem_of_getElem? (i := 14) rfl)))
  have k_22_18 := hts (.fieldLink RX10 455 "ArrayTrainerModel" "steps" "I") (List.mem_cons_of_mem _ (wr22 _ (List.mem_of_getElem? (i := 18) rfl)))
  obtain ⟨H, hH⟩ : ∃ H : Heap, H = s.heap := ⟨_, rfl⟩
  obtain ⟨locs, hlc⟩ : ∃ L : List Loc, L = [] := ⟨_, rfl⟩
  have hP : va_P D vwCl (mw cs q v_thrown a_tape v_taped v_size v_to v_kind v_from v_letters v_letterMany v_digits v_isBeyond v_suffix v_steps v_fault v_hasProgram a_text a_act a_guess a_take a_begin a_finish a_to1 a_one a_two a_what a_ats a_atVar a_atNumber a_atomSort a_atomKind a_atomValue v_wrong v_wrongAt v_variable v_number v_numberKind v_takes a_out v_outed a_varSort a_varKind a_varValue a_creature v_creatures a_arrayClass a_arrayFrom a_arrayLong v_arrays v_cells a_cellSort a_cellKind a_cellValue a_asideSort a_asideKind a_asideValue a_outcome v_marks v_came v_guessed v_right v_taken a_markSort a_markKind a_markClass a_markValue v_sort v_kindAt v_value a_index v_reached v_looked) H := by rw [hH]; exact hP
  have hS : va_S A s.heap H locs := by rw [hH, hlc]; exact hS
  refine wHL hH hlc ?_
  have b_k9 := iB k9
  refine lv_aload_n hx hb dX10_outcome_0 rfl (lv_at hl 0 rfl) ?_
  refine lv_iload_n hx hb dX10_outcome_1 rfl (lv_at hl 1 rfl) ?_
  have J18 : ∀ (s1_18 : Int32) (H : Heap) (locs : List Loc) (ls : Array Slot), (s1_18.toInt = 0 ∨ s1_18.toInt = 1) → (s1_18.toInt = 1 ∨ (0 ≤ k9.toInt ∧ k9.toInt < v_steps.toInt)) → va_P D vwCl (mw cs q v_thrown a_tape v_taped v_size v_to v_kind v_from v_letters v_letterMany v_digits v_isBeyond v_suffix v_steps v_fault v_hasProgram a_text a_act a_guess a_take a_begin a_finish a_to1 a_one a_two a_what a_ats a_atVar a_atNumber a_atomSort a_atomKind a_atomValue v_wrong v_wrongAt v_variable v_number v_numberKind v_takes a_out v_outed a_varSort a_varKind a_varValue a_creature v_creatures a_arrayClass a_arrayFrom a_arrayLong v_arrays v_cells a_cellSort a_cellKind a_cellValue a_asideSort a_asideKind a_asideValue a_outcome v_marks v_came v_guessed v_right v_taken a_markSort a_markKind a_markClass a_markValue v_sort v_kindAt v_value a_index v_reached v_looked) H → va_D A (mw cs q v_thrown a_tape v_taped v_size v_to v_kind v_from v_letters v_letterMany v_digits v_isBeyond v_suffix v_steps v_fault v_hasProgram a_text a_act a_guess a_take a_begin a_finish a_to1 a_one a_two a_what a_ats a_atVar a_atNumber a_atomSort a_atomKind a_atomValue v_wrong v_wrongAt v_variable v_number v_numberKind v_takes a_out v_outed a_varSort a_varKind a_varValue a_creature v_creatures a_arrayClass a_arrayFrom a_arrayLong v_arrays v_cells a_cellSort a_cellKind a_cellValue a_asideSort a_asideKind a_asideValue a_outcome v_marks v_came v_guessed v_right v_taken a_markSort a_markKind a_markClass a_markValue v_sort v_kindAt v_value a_index v_reached v_looked) → va_S A s.heap H locs → lv_has ls 2 [(0, .ref (q 0)), (1, .int k9)] → W p l e (headSpec (wG yX10_outcome cX10_outcome 2 (some .int)) rmX10_outcome).room s m ([.ref (q 0), .int k9] : List Value).toArray below meth c H locs 0 0 Q (F0 m 18 ls [.int s1_18, .ref (q 0)]) := by
    intro s1_18 H locs ls f18_0 f18_1 hP hD hS hl
    refine va_put (D := D) (ci := 9) (v := .int s1_18) (ty := .int) (C := RX10) (T := TX10) (N := 71) hx hb hts hin tyX10 tyX10_ok nmX10 hown hK hP hD hS 0 rfl rfl 0 (by decide) k_7_9 (fun _ h9 => h9) rfl (by decide +kernel) rfl rfl (Nat.le_of_ble_eq_true rfl) dX10_outcome_18 (fun H locs hP hD hS => ?_)
    have hP : va_P D vwCl (mw cs q s1_18 a_tape v_taped v_size v_to v_kind v_from v_letters v_letterMany v_digits v_isBeyond v_suffix v_steps v_fault v_hasProgram a_text a_act a_guess a_take a_begin a_finish a_to1 a_one a_two a_what a_ats a_atVar a_atNumber a_atomSort a_atomKind a_atomValue v_wrong v_wrongAt v_variable v_number v_numberKind v_takes a_out v_outed a_varSort a_varKind a_varValue a_creature v_creatures a_arrayClass a_arrayFrom a_arrayLong v_arrays v_cells a_cellSort a_cellKind a_cellValue a_asideSort a_asideKind a_asideValue a_outcome v_marks v_came v_guessed v_right v_taken a_markSort a_markKind a_markClass a_markValue v_sort v_kindAt v_value a_index v_reached v_looked) H := hP
    have hD : va_D A (mw cs q s1_18 a_tape v_taped v_size v_to v_kind v_from v_letters v_letterMany v_digits v_isBeyond v_suffix v_steps v_fault v_hasProgram a_text a_act a_guess a_take a_begin a_finish a_to1 a_one a_two a_what a_ats a_atVar a_atNumber a_atomSort a_atomKind a_atomValue v_wrong v_wrongAt v_variable v_number v_numberKind v_takes a_out v_outed a_varSort a_varKind a_varValue a_creature v_creatures a_arrayClass a_arrayFrom a_arrayLong v_arrays v_cells a_cellSort a_cellKind a_cellValue a_asideSort a_asideKind a_asideValue a_outcome v_marks v_came v_guessed v_right v_taken a_markSort a_markKind a_markClass a_markValue v_sort v_kindAt v_value a_index v_reached v_looked) := hD
    refine lv_aload_n hx hb dX10_outcome_21 rfl (lv_at hl 0 rfl) ?_
    refine va_get (D := D) (ci := 9) (v := .int s1_18) (C := RX10) (T := TX10) (N := 71) hx hb hts hin hown hK hP 0 rfl rfl 0 (by decide) k_7_9 (fun _ h9 => h9) rfl dX10_outcome_22 ?_
    refine m_if_le (X := s1_18.toInt) (tgt := 32) hx hb dX10_outcome_25 (by decide) rfl (fun c25 => ?_) (fun c25 => ?_)
    · skip
      refine lv_aload_n hx hb dX10_outcome_32 rfl (lv_at hl 0 rfl) ?_
      refine va_get (D := D) (ci := 9) (v := .ref (q 32)) (C := RX10) (T := TX10) (N := 71) hx hb hts hin hown hK hP 0 rfl rfl 55 (by decide) k_6_14 (fun _ h9 => h9) rfl dX10_outcome_33 ?_
      refine lv_iload_n hx hb dX10_outcome_36 rfl (lv_at hl 1 rfl) ?_
      refine m_iald hx hb hK hP 32 0 rfl rfl (ix (by omega) (by omega)) dX10_outcome_37 (fun x37 e_x37 => ?_)
      have b_x37 := iB x37
      subst hAe
      rw [hQ]
      exact W.iret (v := x37) hx hb hr (fun t ht hW => ⟨⟨x37, _, rfl, ⟨s1_18, rfl⟩, by rw [ht]; exact hP, va_K.moved hW.alike hK, hD⟩, hS.F ht⟩) hS.2.2 dX10_outcome_38
    · skip
      refine lv_iconst (v := 0) hx hb dX10_outcome_28 (by decide) ?_
      refine lv_goto (tgt := 38) hx hb dX10_outcome_29 (by decide) ?_
      subst hAe
      rw [hQ]
      exact W.iret (v := 0) hx hb hr (fun t ht hW => ⟨⟨0, _, rfl, ⟨s1_18, rfl⟩, by rw [ht]; exact hP, va_K.moved hW.alike hK, hD⟩, hS.F ht⟩) hS.2.2 dX10_outcome_38
  have J13 : ∀ (H : Heap) (locs : List Loc) (ls : Array Slot), va_P D vwCl (mw cs q v_thrown a_tape v_taped v_size v_to v_kind v_from v_letters v_letterMany v_digits v_isBeyond v_suffix v_steps v_fault v_hasProgram a_text a_act a_guess a_take a_begin a_finish a_to1 a_one a_two a_what a_ats a_atVar a_atNumber a_atomSort a_atomKind a_atomValue v_wrong v_wrongAt v_variable v_number v_numberKind v_takes a_out v_outed a_varSort a_varKind a_varValue a_creature v_creatures a_arrayClass a_arrayFrom a_arrayLong v_arrays v_cells a_cellSort a_cellKind a_cellValue a_asideSort a_asideKind a_asideValue a_outcome v_marks v_came v_guessed v_right v_taken a_markSort a_markKind a_markClass a_markValue v_sort v_kindAt v_value a_index v_reached v_looked) H → va_D A (mw cs q v_thrown a_tape v_taped v_size v_to v_kind v_from v_letters v_letterMany v_digits v_isBeyond v_suffix v_steps v_fault v_hasProgram a_text a_act a_guess a_take a_begin a_finish a_to1 a_one a_two a_what a_ats a_atVar a_atNumber a_atomSort a_atomKind a_atomValue v_wrong v_wrongAt v_variable v_number v_numberKind v_takes a_out v_outed a_varSort a_varKind a_varValue a_creature v_creatures a_arrayClass a_arrayFrom a_arrayLong v_arrays v_cells a_cellSort a_cellKind a_cellValue a_asideSort a_asideKind a_asideValue a_outcome v_marks v_came v_guessed v_right v_taken a_markSort a_markKind a_markClass a_markValue v_sort v_kindAt v_value a_index v_reached v_looked) → va_S A s.heap H locs → lv_has ls 2 [(0, .ref (q 0)), (1, .int k9)] → W p l e (headSpec (wG yX10_outcome cX10_outcome 2 (some .int)) rmX10_outcome).room s m ([.ref (q 0), .int k9] : List Value).toArray below meth c H locs 0 0 Q (F0 m 13 ls [.ref (q 0)]) := by
    intro H locs ls hP hD hS hl
    refine lv_iconst (v := 1) hx hb dX10_outcome_13 (by decide) ?_
    refine lv_goto (tgt := 18) hx hb dX10_outcome_14 (by decide) ?_
    exact J18 (1 : Int32) H locs ls (by first | decide | omega) (by first | assumption | omega | (intros; omega) | decide) hP hD hS (lv_sub hl [0, 1] rfl)
  refine m_if_lt (X := k9.toInt) (tgt := 13) hx hb dX10_outcome_2 (by decide) rfl (fun c2 => ?_) (fun c2 => ?_)
  · skip
    exact J13 H locs ls hP hD hS (lv_sub hl [0, 1] rfl)
  · skip
    refine lv_iload_n hx hb dX10_outcome_5 rfl (lv_at hl 1 rfl) ?_
    refine lv_aload_n hx hb dX10_outcome_6 rfl (lv_at hl 0 rfl) ?_
    refine va_get (D := D) (ci := 9) (v := .int v_steps) (C := RX10) (T := TX10) (N := 71) hx hb hts hin hown hK hP 0 rfl rfl 12 (by decide) k_22_18 (fun _ h9 => h9) rfl dX10_outcome_7 ?_
    refine m_icmp_lt (X := k9.toInt) (Y := v_steps.toInt) (tgt := 17) hx hb dX10_outcome_10 (by decide) rfl rfl (fun c10 => ?_) (fun c10 => ?_)
    · skip
      refine lv_iconst (v := 0) hx hb dX10_outcome_17 (by decide) ?_
      exact J18 (0 : Int32) H locs ls (by first | decide | omega) (by first | assumption | omega | (intros; omega) | decide) hP hD hS (lv_sub hl [0, 1] rfl)
    · skip
      exact J13 H locs ls hP hD hS (lv_sub hl [0, 1] rfl)

def rmX10_count : Room := { frames := 20, cells := 0, slots := 0, locals := 400 }
set_option maxHeartbeats 4000000 in
set_option maxRecDepth 100000 in
theorem tX10_count {l : Launch} {D : va_G} {K : Nat → Nat → Nat} {cs : Nat → ClassId} {q : Nat → Nat} {v_thrown v_taped v_size v_to v_kind v_from v_letterMany v_isBeyond v_suffix v_steps v_fault v_hasProgram v_wrong v_wrongAt v_variable v_numberKind v_takes v_outed v_creatures v_arrays v_cells v_marks v_came v_guessed v_right v_taken v_sort v_kindAt v_reached v_looked : Int32} {a_tape a_text a_act a_guess a_take a_begin a_finish a_to1 a_one a_two a_what a_ats a_atVar a_atNumber a_atomSort a_atomKind a_out a_varSort a_varKind a_creature a_arrayClass a_arrayFrom a_arrayLong a_cellSort a_cellKind a_asideSort a_asideKind a_outcome a_markSort a_markKind a_markClass a_index : Nat → Int32} {v_letters v_digits v_number v_value : Int64} {a_atomValue a_varValue a_cellValue a_asideValue a_markValue : Nat → Int64} (w9 : Int32) : CtI l yX10_count (wG yX10_count cX10_count 2 (some .int)) rmX10_count D (mwT cs) K [.ref (q 0), .int w9] (mw cs q v_thrown a_tape v_taped v_size v_to v_kind v_from v_letters v_letterMany v_digits v_isBeyond v_suffix v_steps v_fault v_hasProgram a_text a_act a_guess a_take a_begin a_finish a_to1 a_one a_two a_what a_ats a_atVar a_atNumber a_atomSort a_atomKind a_atomValue v_wrong v_wrongAt v_variable v_number v_numberKind v_takes a_out v_outed a_varSort a_varKind a_varValue a_creature v_creatures a_arrayClass a_arrayFrom a_arrayLong v_arrays v_cells a_cellSort a_cellKind a_cellValue a_asideSort a_asideKind a_asideValue a_outcome v_marks v_came v_guessed v_right v_taken a_markSort a_markKind a_markClass a_markValue v_sort v_kindAt v_value a_index v_reached v_looked) (fun r w1 => ∃ (v_thrown' : Int32), w1 = (mw cs q v_thrown' a_tape v_taped v_size v_to v_kind v_from v_letters v_letterMany v_digits v_isBeyond v_suffix v_steps v_fault v_hasProgram a_text a_act a_guess a_take a_begin a_finish a_to1 a_one a_two a_what a_ats a_atVar a_atNumber a_atomSort a_atomKind a_atomValue v_wrong v_wrongAt v_variable v_number v_numberKind v_takes a_out v_outed a_varSort a_varKind a_varValue a_creature v_creatures a_arrayClass a_arrayFrom a_arrayLong v_arrays v_cells a_cellSort a_cellKind a_cellValue a_asideSort a_asideKind a_asideValue a_outcome v_marks v_came v_guessed v_right v_taken a_markSort a_markKind a_markClass a_markValue v_sort v_kindAt v_value a_index v_reached v_looked)) 0 0 := by
  intro sz
  refine Met.ofW (cc := cX10_count) (maxL := 2) (ret := (some .int)) (by decide) rfl ?_
  intro p e s m args below meth c s₁ B hml hv
  obtain ⟨rfl, hsz, hP, hK, hD0, hE⟩ := hv
  have hx := B.exec
  have hb := B.bytes
  have hr := B.returns
  have hts := atoms_spec (ws := (wG yX10_count cX10_count 2 (some .int))) B.pre
  have hown : s.vm.findClass RX10 = some m.cls := findClass_of_methodNamed B.named
  have hlocks := B.notSynchronized
  subst hsz
  have hD := hD0.self (sz := s.heap.size)
  obtain ⟨A, hAe⟩ : ∃ A : Nat → Prop, A = va_A (mw cs q v_thrown a_tape v_taped v_size v_to v_kind v_from v_letters v_letterMany v_digits v_isBeyond v_suffix v_steps v_fault v_hasProgram a_text a_act a_guess a_take a_begin a_finish a_to1 a_one a_two a_what a_ats a_atVar a_atNumber a_atomSort a_atomKind a_atomValue v_wrong v_wrongAt v_variable v_number v_numberKind v_takes a_out v_outed a_varSort a_varKind a_varValue a_creature v_creatures a_arrayClass a_arrayFrom a_arrayLong v_arrays v_cells a_cellSort a_cellKind a_cellValue a_asideSort a_asideKind a_asideValue a_outcome v_marks v_came v_guessed v_right v_taken a_markSort a_markKind a_markClass a_markValue v_sort v_kindAt v_value a_index v_reached v_looked) s.heap.size := ⟨_, rfl⟩
  rw [← hAe] at hD hE
  have hA : ∀ q : Nat, s.heap.size ≤ q → A q := fun q h => by rw [hAe]; exact Or.inr h
  have hS : va_S A s.heap s.heap [] := va_S.rf
  have hl := lv_entry ([.ref (q 0), .int w9]) (n := 2) (Nat.le_of_ble_eq_true rfl)
  rw [lg_entry_eq]
  generalize (lg_sl ([.ref (q 0), .int w9]) ++ List.replicate (2 - (lg_sl ([.ref (q 0), .int w9])).length) Slot.unset).toArray = ls at hl ⊢
  have hl : lv_has ls 2 [(0, .ref (q 0)), (1, .int w9)] := hl
  refine wq (fun Q hQ => ?_)
  have hin : ∀ w ∈ wsX100, w ∈ (wG yX10_count cX10_count 2 (some .int)) := fun w h => List.mem_cons_of_mem _ (inlX10 w h)
  have kc0 : (-1 : Int32).toInt = -1 := by decide
  have kc1 : (0 : Int32).toInt = 0 := by decide
  have k_7_9 := hts (.fieldLink RX10 122 "ArrayTrainerModel" "thrown" "I") (List.mem_cons_of_mem _ (wr7 _ (List.mem_of_getElem? (i := 9) rfl)))
  have k_22_18 := hts (.fieldLink RX10 455 "ArrayTrainerModel" "steps" "I") (List.mem_cons_of_mem _ (wr22 _ (List.mem_of_getElem? (i := 18) rfl)))
  have k_7_10 := hts (.fieldLink RX10 126 "ArrayTrainerModel" "taped" "I") (List.mem_cons_of_mem _ (wr7 _ (List.mem_of_getElem? (i := 10) rfl)))
  have k_34_9 := hts (.fieldLink RX10 464 "ArrayTrainerModel" "outed" "I") (List.mem_cons_of_mem _ (wr34 _ (List.mem_of_getElem? (i := 9) rfl)))
  have k_31_6 := hts (.fieldLink RX10 478 "ArrayTrainerModel" "marks" "I") (List.mem_cons_of_mem _ (wr31 _ (List.mem_of_getElem? (i := 6) rfl)))
  have k_31_4 := hts (.fieldLink RX10 472 "ArrayTrainerModel" "arrays" "I") (List.mem_cons_of_mem _ (wr31 _ (List.mem_of_getElem? (i := 4) rfl)))
  have k_31_5 := hts (.fieldLink RX10 475 "ArrayTrainerModel" "cells" "I") (List.mem_cons_of_mem _ (wr31 _ (List.mem_of_getElem? (i := 5) rfl)))
  have k_31_7 := hts (.fieldLink RX10 481 "ArrayTrainerModel" "came" "I") (List.mem_cons_of_mem _ (wr31 _ (List.mem_of_getElem? (i := 7) rfl)))
  have k_31_8 := hts (.fieldLink RX10 484 "ArrayTrainerModel" "guessed" "I") (List.mem_cons_of_mem _ (wr31 _ (List.mem_of_getElem? (i := 8) rfl)))
  have k_31_9 := hts (.fieldLink RX10 487 "ArrayTrainerModel" "right" "I") (List.mem_cons_of_mem _ (wr31 _ (List.mem_of_getElem? (i := 9) rfl)))
  have k_31_10 := hts (.fieldLink RX10 490 "ArrayTrainerModel" "taken" "I") (List.mem_cons_of_mem _ (wr31 _ (List.mem_of_getElem? (i := 10) rfl)))
  obtain ⟨H, hH⟩ : ∃ H : Heap, H = s.heap := ⟨_, rfl⟩
  obtain ⟨locs, hlc⟩ : ∃ L : List Loc, L = [] := ⟨_, rfl⟩
  have hP : va_P D vwCl (mw cs q v_thrown a_tape v_taped v_size v_to v_kind v_from v_letters v_letterMany v_digits v_isBeyond v_suffix v_steps v_fault v_hasProgram a_text a_act a_guess a_take a_begin a_finish a_to1 a_one a_two a_what a_ats a_atVar a_atNumber a_atomSort a_atomKind a_atomValue v_wrong v_wrongAt v_variable v_number v_numberKind v_takes a_out v_outed a_varSort a_varKind a_varValue a_creature v_creatures a_arrayClass a_arrayFrom a_arrayLong v_arrays v_cells a_cellSort a_cellKind a_cellValue a_asideSort a_asideKind a_asideValue a_outcome v_marks v_came v_guessed v_right v_taken a_markSort a_markKind a_markClass a_markValue v_sort v_kindAt v_value a_index v_reached v_looked) H := by rw [hH]; exact hP
  have hS : va_S A s.heap H locs := by rw [hH, hlc]; exact hS
  refine wHL hH hlc ?_
  have b_w9 := iB w9
  refine lv_aload_n hx hb dX10_count_0 rfl (lv_at hl 0 rfl) ?_
  refine lv_iconst (v := 0) hx hb dX10_count_1 (by decide) ?_
  refine va_put (D := D) (ci := 9) (v := .int 0) (ty := .int) (C := RX10) (T := TX10) (N := 71) hx hb hts hin tyX10 tyX10_ok nmX10 hown hK hP hD hS 0 rfl rfl 0 (by decide) k_7_9 (fun _ h9 => h9) rfl (by decide +kernel) rfl rfl (Nat.le_of_ble_eq_true rfl) dX10_count_2 (fun H locs hP hD hS => ?_)
  have hP : va_P D vwCl (mw cs q (0 : Int32) a_tape v_taped v_size v_to v_kind v_from v_letters v_letterMany v_digits v_isBeyond v_suffix v_steps v_fault v_hasProgram a_text a_act a_guess a_take a_begin a_finish a_to1 a_one a_two a_what a_ats a_atVar a_atNumber a_atomSort a_atomKind a_atomValue v_wrong v_wrongAt v_variable v_number v_numberKind v_takes a_out v_outed a_varSort a_varKind a_varValue a_creature v_creatures a_arrayClass a_arrayFrom a_arrayLong v_arrays v_cells a_cellSort a_cellKind a_cellValue a_asideSort a_asideKind a_asideValue a_outcome v_marks v_came v_guessed v_right v_taken a_markSort a_markKind a_markClass a_markValue v_sort v_kindAt v_value a_index v_reached v_looked) H := hP
  have hD : va_D A (mw cs q (0 : Int32) a_tape v_taped v_size v_to v_kind v_from v_letters v_letterMany v_digits v_isBeyond v_suffix v_steps v_fault v_hasProgram a_text a_act a_guess a_take a_begin a_finish a_to1 a_one a_two a_what a_ats a_atVar a_atNumber a_atomSort a_atomKind a_atomValue v_wrong v_wrongAt v_variable v_number v_numberKind v_takes a_out v_outed a_varSort a_varKind a_varValue a_creature v_creatures a_arrayClass a_arrayFrom a_arrayLong v_arrays v_cells a_cellSort a_cellKind a_cellValue a_asideSort a_asideKind a_asideValue a_outcome v_marks v_came v_guessed v_right v_taken a_markSort a_markKind a_markClass a_markValue v_sort v_kindAt v_value a_index v_reached v_looked) := hD
  refine lv_iload_n hx hb dX10_count_5 rfl (lv_at hl 1 rfl) ?_
  rcases (show (w9.toInt < 0 ∨ 9 < w9.toInt) ∨ w9.toInt = 0 ∨ w9.toInt = 1 ∨ w9.toInt = 2 ∨ w9.toInt = 3 ∨ w9.toInt = 4 ∨ w9.toInt = 5 ∨ w9.toInt = 6 ∨ w9.toInt = 7 ∨ w9.toInt = 8 ∨ w9.toInt = 9 by omega) with c6 | c6 | c6 | c6 | c6 | c6 | c6 | c6 | c6 | c6 | c6
  · skip
    refine lv_tableOut (tgt := 110) hx hb dX10_count_6 c6 (by decide) ?_
    refine lv_iconst (v := (-1)) hx hb dX10_count_110 (by decide) ?_
    subst hAe
    rw [hQ]
    exact W.iret (v := (-1)) hx hb hr (fun t ht hW => ⟨⟨(-1), _, rfl, ⟨(0 : Int32), rfl⟩, by rw [ht]; exact hP, va_K.moved hW.alike hK, hD⟩, hS.F ht⟩) hS.2.2 dX10_count_111
  · skip
    refine lv_tableIn (tgt := 60) (off := 54) hx hb dX10_count_6 (by omega) (by omega) (by rw [c6]; rfl) (by decide) ?_
    refine lv_aload_n hx hb dX10_count_60 rfl (lv_at hl 0 rfl) ?_
    refine va_get (D := D) (ci := 9) (v := .int v_steps) (C := RX10) (T := TX10) (N := 71) hx hb hts hin hown hK hP 0 rfl rfl 12 (by decide) k_22_18 (fun _ h9 => h9) rfl dX10_count_61 ?_
    subst hAe
    rw [hQ]
    exact W.iret (v := v_steps) hx hb hr (fun t ht hW => ⟨⟨v_steps, _, rfl, ⟨(0 : Int32), rfl⟩, by rw [ht]; exact hP, va_K.moved hW.alike hK, hD⟩, hS.F ht⟩) hS.2.2 dX10_count_64
  · skip
    refine lv_tableIn (tgt := 65) (off := 59) hx hb dX10_count_6 (by omega) (by omega) (by rw [c6]; rfl) (by decide) ?_
    refine lv_aload_n hx hb dX10_count_65 rfl (lv_at hl 0 rfl) ?_
    refine va_get (D := D) (ci := 9) (v := .int v_taped) (C := RX10) (T := TX10) (N := 71) hx hb hts hin hown hK hP 0 rfl rfl 2 (by decide) k_7_10 (fun _ h9 => h9) rfl dX10_count_66 ?_
    subst hAe
    rw [hQ]
    exact W.iret (v := v_taped) hx hb hr (fun t ht hW => ⟨⟨v_taped, _, rfl, ⟨(0 : Int32), rfl⟩, by rw [ht]; exact hP, va_K.moved hW.alike hK, hD⟩, hS.F ht⟩) hS.2.2 dX10_count_69
  · skip
    refine lv_tableIn (tgt := 70) (off := 64) hx hb dX10_count_6 (by omega) (by omega) (by rw [c6]; rfl) (by decide) ?_
    refine lv_aload_n hx hb dX10_count_70 rfl (lv_at hl 0 rfl) ?_
    refine va_get (D := D) (ci := 9) (v := .int v_outed) (C := RX10) (T := TX10) (N := 71) hx hb hts hin hown hK hP 0 rfl rfl 38 (by decide) k_34_9 (fun _ h9 => h9) rfl dX10_count_71 ?_
    subst hAe
    rw [hQ]
    exact W.iret (v := v_outed) hx hb hr (fun t ht hW => ⟨⟨v_outed, _, rfl, ⟨(0 : Int32), rfl⟩, by rw [ht]; exact hP, va_K.moved hW.alike hK, hD⟩, hS.F ht⟩) hS.2.2 dX10_count_74
  · skip
    refine lv_tableIn (tgt := 75) (off := 69) hx hb dX10_count_6 (by omega) (by omega) (by rw [c6]; rfl) (by decide) ?_
    refine lv_aload_n hx hb dX10_count_75 rfl (lv_at hl 0 rfl) ?_
    refine va_get (D := D) (ci := 9) (v := .int v_marks) (C := RX10) (T := TX10) (N := 71) hx hb hts hin hown hK hP 0 rfl rfl 56 (by decide) k_31_6 (fun _ h9 => h9) rfl dX10_count_76 ?_
    subst hAe
    rw [hQ]
    exact W.iret (v := v_marks) hx hb hr (fun t ht hW => ⟨⟨v_marks, _, rfl, ⟨(0 : Int32), rfl⟩, by rw [ht]; exact hP, va_K.moved hW.alike hK, hD⟩, hS.F ht⟩) hS.2.2 dX10_count_79
  · skip
    refine lv_tableIn (tgt := 80) (off := 74) hx hb dX10_count_6 (by omega) (by omega) (by rw [c6]; rfl) (by decide) ?_
    refine lv_aload_n hx hb dX10_count_80 rfl (lv_at hl 0 rfl) ?_
    refine va_get (D := D) (ci := 9) (v := .int v_arrays) (C := RX10) (T := TX10) (N := 71) hx hb hts hin hown hK hP 0 rfl rfl 47 (by decide) k_31_4 (fun _ h9 => h9) rfl dX10_count_81 ?_
    subst hAe
    rw [hQ]
    exact W.iret (v := v_arrays) hx hb hr (fun t ht hW => ⟨⟨v_arrays, _, rfl, ⟨(0 : Int32), rfl⟩, by rw [ht]; exact hP, va_K.moved hW.alike hK, hD⟩, hS.F ht⟩) hS.2.2 dX10_count_84
  · skip
    refine lv_tableIn (tgt := 85) (off := 79) hx hb dX10_count_6 (by omega) (by omega) (by rw [c6]; rfl) (by decide) ?_
    refine lv_aload_n hx hb dX10_count_85 rfl (lv_at hl 0 rfl) ?_
    refine va_get (D := D) (ci := 9) (v := .int v_cells) (C := RX10) (T := TX10) (N := 71) hx hb hts hin hown hK hP 0 rfl rfl 48 (by decide) k_31_5 (fun _ h9 => h9) rfl dX10_count_86 ?_
    subst hAe
    rw [hQ]
    exact W.iret (v := v_cells) hx hb hr (fun t ht hW => ⟨⟨v_cells, _, rfl, ⟨(0 : Int32), rfl⟩, by rw [ht]; exact hP, va_K.moved hW.alike hK, hD⟩, hS.F ht⟩) hS.2.2 dX10_count_89
  · skip
    refine lv_tableIn (tgt := 90) (off := 84) hx hb dX10_count_6 (by omega) (by omega) (by rw [c6]; rfl) (by decide) ?_
    refine lv_aload_n hx hb dX10_count_90 rfl (lv_at hl 0 rfl) ?_
    refine va_get (D := D) (ci := 9) (v := .int v_came) (C := RX10) (T := TX10) (N := 71) hx hb hts hin hown hK hP 0 rfl rfl 57 (by decide) k_31_7 (fun _ h9 => h9) rfl dX10_count_91 ?_
    subst hAe
    rw [hQ]
    exact W.iret (v := v_came) hx hb hr (fun t ht hW => ⟨⟨v_came, _, rfl, ⟨(0 : Int32), rfl⟩, by rw [ht]; exact hP, va_K.moved hW.alike hK, hD⟩, hS.F ht⟩) hS.2.2 dX10_count_94
  · skip
    refine lv_tableIn (tgt := 95) (off := 89) hx hb dX10_count_6 (by omega) (by omega) (by rw [c6]; rfl) (by decide) ?_
    refine lv_aload_n hx hb dX10_count_95 rfl (lv_at hl 0 rfl) ?_
    refine va_get (D := D) (ci := 9) (v := .int v_guessed) (C := RX10) (T := TX10) (N := 71) hx hb hts hin hown hK hP 0 rfl rfl 58 (by decide) k_31_8 (fun _ h9 => h9) rfl dX10_count_96 ?_
    subst hAe
    rw [hQ]
    exact W.iret (v := v_guessed) hx hb hr (fun t ht hW => ⟨⟨v_guessed, _, rfl, ⟨(0 : Int32), rfl⟩, by rw [ht]; exact hP, va_K.moved hW.alike hK, hD⟩, hS.F ht⟩) hS.2.2 dX10_count_99
  · skip
    refine lv_tableIn (tgt := 100) (off := 94) hx hb dX10_count_6 (by omega) (by omega) (by rw [c6]; rfl) (by decide) ?_
    refine lv_aload_n hx hb dX10_count_100 rfl (lv_at hl 0 rfl) ?_
    refine va_get (D := D) (ci := 9) (v := .int v_right) (C := RX10) (T := TX10) (N := 71) hx hb hts hin hown hK hP 0 rfl rfl 59 (by decide) k_31_9 (fun _ h9 => h9) rfl dX10_count_101 ?_
    subst hAe
    rw [hQ]
    exact W.iret (v := v_right) hx hb hr (fun t ht hW => ⟨⟨v_right, _, rfl, ⟨(0 : Int32), rfl⟩, by rw [ht]; exact hP, va_K.moved hW.alike hK, hD⟩, hS.F ht⟩) hS.2.2 dX10_count_104
  · skip
    refine lv_tableIn (tgt := 105) (off := 99) hx hb dX10_count_6 (by omega) (by omega) (by rw [c6]; rfl) (by decide) ?_
    refine lv_aload_n hx hb dX10_count_105 rfl (lv_at hl 0 rfl) ?_
    refine va_get (D := D) (ci := 9) (v := .int v_taken) (C := RX10) (T := TX10) (N := 71) hx hb hts hin hown hK hP 0 rfl rfl 60 (by decide) k_31_10 (fun _ h9 => h9) rfl dX10_count_106 ?_
    subst hAe
    rw [hQ]
    exact W.iret (v := v_taken) hx hb hr (fun t ht hW => ⟨⟨v_taken, _, rfl, ⟨(0 : Int32), rfl⟩, by rw [ht]; exact hP, va_K.moved hW.alike hK, hD⟩, hS.F ht⟩) hS.2.2 dX10_count_109

def rmX10_mark : Room := { frames := 20, cells := 0, slots := 0, locals := 400 }
set_option maxHeartbeats 4000000 in
set_option maxRecDepth 100000 in
theorem tX10_mark {l : Launch} {D : va_G} {K : Nat → Nat → Nat} {cs : Nat → ClassId} {q : Nat → Nat} {v_thrown v_taped v_size v_to v_kind v_from v_letterMany v_isBeyond v_suffix v_steps v_fault v_hasProgram v_wrong v_wrongAt v_variable v_numberKind v_takes v_outed v_creatures v_arrays v_cells v_marks v_came v_guessed v_right v_taken v_sort v_kindAt v_reached v_looked : Int32} {a_tape a_text a_act a_guess a_take a_begin a_finish a_to1 a_one a_two a_what a_ats a_atVar a_atNumber a_atomSort a_atomKind a_out a_varSort a_varKind a_creature a_arrayClass a_arrayFrom a_arrayLong a_cellSort a_cellKind a_asideSort a_asideKind a_outcome a_markSort a_markKind a_markClass a_index : Nat → Int32} {v_letters v_digits v_number v_value : Int64} {a_atomValue a_varValue a_cellValue a_asideValue a_markValue : Nat → Int64} (k9 : Int32) (w9 : Int32) : CtI l yX10_mark (wG yX10_mark cX10_mark 3 (some .int)) rmX10_mark D (mwT cs) K [.ref (q 0), .int k9, .int w9] (mw cs q v_thrown a_tape v_taped v_size v_to v_kind v_from v_letters v_letterMany v_digits v_isBeyond v_suffix v_steps v_fault v_hasProgram a_text a_act a_guess a_take a_begin a_finish a_to1 a_one a_two a_what a_ats a_atVar a_atNumber a_atomSort a_atomKind a_atomValue v_wrong v_wrongAt v_variable v_number v_numberKind v_takes a_out v_outed a_varSort a_varKind a_varValue a_creature v_creatures a_arrayClass a_arrayFrom a_arrayLong v_arrays v_cells a_cellSort a_cellKind a_cellValue a_asideSort a_asideKind a_asideValue a_outcome v_marks v_came v_guessed v_right v_taken a_markSort a_markKind a_markClass a_markValue v_sort v_kindAt v_value a_index v_reached v_looked) (fun r w1 => ∃ (v_thrown' : Int32), w1 = (mw cs q v_thrown' a_tape v_taped v_size v_to v_kind v_from v_letters v_letterMany v_digits v_isBeyond v_suffix v_steps v_fault v_hasProgram a_text a_act a_guess a_take a_begin a_finish a_to1 a_one a_two a_what a_ats a_atVar a_atNumber a_atomSort a_atomKind a_atomValue v_wrong v_wrongAt v_variable v_number v_numberKind v_takes a_out v_outed a_varSort a_varKind a_varValue a_creature v_creatures a_arrayClass a_arrayFrom a_arrayLong v_arrays v_cells a_cellSort a_cellKind a_cellValue a_asideSort a_asideKind a_asideValue a_outcome v_marks v_came v_guessed v_right v_taken a_markSort a_markKind a_markClass a_markValue v_sort v_kindAt v_value a_index v_reached v_looked)) 0 0 := by
  intro sz
  refine Met.ofW (cc := cX10_mark) (maxL := 3) (ret := (some .int)) (by decide) rfl ?_
  intro p e s m args below meth c s₁ B hml hv
  obtain ⟨rfl, hsz, hP, hK, hD0, hE⟩ := hv
  have hx := B.exec
  have hb := B.bytes
  have hr := B.returns
  have hts := atoms_spec (ws := (wG yX10_mark cX10_mark 3 (some .int))) B.pre
  have hown : s.vm.findClass RX10 = some m.cls := findClass_of_methodNamed B.named
  have hlocks := B.notSynchronized
  subst hsz
  have hD := hD0.self (sz := s.heap.size)
  obtain ⟨A, hAe⟩ : ∃ A : Nat → Prop, A = va_A (mw cs q v_thrown a_tape v_taped v_size v_to v_kind v_from v_letters v_letterMany v_digits v_isBeyond v_suffix v_steps v_fault v_hasProgram a_text a_act a_guess a_take a_begin a_finish a_to1 a_one a_two a_what a_ats a_atVar a_atNumber a_atomSort a_atomKind a_atomValue v_wrong v_wrongAt v_variable v_number v_numberKind v_takes a_out v_outed a_varSort a_varKind a_varValue a_creature v_creatures a_arrayClass a_arrayFrom a_arrayLong v_arrays v_cells a_cellSort a_cellKind a_cellValue a_asideSort a_asideKind a_asideValue a_outcome v_marks v_came v_guessed v_right v_taken a_markSort a_markKind a_markClass a_markValue v_sort v_kindAt v_value a_index v_reached v_looked) s.heap.size := ⟨_, rfl⟩
  rw [← hAe] at hD hE
  have hA : ∀ q : Nat, s.heap.size ≤ q → A q := fun q h => by rw [hAe]; exact Or.inr h
  have hS : va_S A s.heap s.heap [] := va_S.rf
  have hl := lv_entry ([.ref (q 0), .int k9, .int w9]) (n := 3) (Nat.le_of_ble_eq_true rfl)
  rw [lg_entry_eq]
  generalize (lg_sl ([.ref (q 0), .int k9, .int w9]) ++ List.replicate (3 - (lg_sl ([.ref (q 0), .int k9, .int w9])).length) Slot.unset).toArray = ls at hl ⊢
  have hl : lv_has ls 3 [(0, .ref (q 0)), (1, .int k9), (2, .int w9)] := hl
  refine wq (fun Q hQ => ?_)
  have hin : ∀ w ∈ wsX100, w ∈ (wG yX10_mark cX10_mark 3 (some .int)) := fun w h => List.mem_cons_of_mem _ (inlX10 w h)
  have kc0 : (-1 : Int32).toInt = -1 := by decide
  have kc1 : (0 : Int32).toInt = 0 := by decide
  have kc2 : (50 : Int32).toInt = 50 := by decide
  have k_7_9 := hts (.fieldLink RX10 122 "ArrayTrainerModel" "thrown" "I") (List.mem_cons_of_mem _ (wr7 _ (List.mem_of_getElem? (i := 9) rfl)))
  have k_31_6 := hts (.fieldLink RX10 478 "ArrayTrainerModel" "marks" "I") (List.mem_cons_of_mem _ (wr31 _ (List.mem_of_getElem? (i := 6) rfl)))
  have k_6_17 := hts (.fieldLink RX10 113 "ArrayTrainerModel" "markClass" "[I") (List.mem_cons_of_mem _ (wr6 _ (List.mem_of_getElem? (i := 17) rfl)))
  obtain ⟨H, hH⟩ : ∃ H : Heap, H = s.heap := ⟨_, rfl⟩
  obtain ⟨locs, hlc⟩ : ∃ L : List Loc, L = [] := ⟨_, rfl⟩
  have hP : va_P D vwCl (mw cs q v_thrown a_tape v_taped v_size v_to v_kind v_from v_letters v_letterMany v_digits v_isBeyond v_suffix v_steps v_fault v_hasProgram a_text a_act a_guess a_take a_begin a_finish a_to1 a_one a_two a_what a_ats a_atVar a_atNumber a_atomSort a_atomKind a_atomValue v_wrong v_wrongAt v_variable v_number v_numberKind v_takes a_out v_outed a_varSort a_varKind a_varValue a_creature v_creatures a_arrayClass a_arrayFrom a_arrayLong v_arrays v_cells a_cellSort a_cellKind a_cellValue a_asideSort a_asideKind a_asideValue a_outcome v_marks v_came v_guessed v_right v_taken a_markSort a_markKind a_markClass a_markValue v_sort v_kindAt v_value a_index v_reached v_looked) H := by rw [hH]; exact hP
  have hS : va_S A s.heap H locs := by rw [hH, hlc]; exact hS
  refine wHL hH hlc ?_
  have b_k9 := iB k9
  have b_w9 := iB w9
  refine lv_aload_n hx hb dX10_mark_0 rfl (lv_at hl 0 rfl) ?_
  refine lv_iconst (v := 0) hx hb dX10_mark_1 (by decide) ?_
  refine va_put (D := D) (ci := 9) (v := .int 0) (ty := .int) (C := RX10) (T := TX10) (N := 71) hx hb hts hin tyX10 tyX10_ok nmX10 hown hK hP hD hS 0 rfl rfl 0 (by decide) k_7_9 (fun _ h9 => h9) rfl (by decide +kernel) rfl rfl (Nat.le_of_ble_eq_true rfl) dX10_mark_2 (fun H locs hP hD hS => ?_)
  have hP : va_P D vwCl (mw cs q (0 : Int32) a_tape v_taped v_size v_to v_kind v_from v_letters v_letterMany v_digits v_isBeyond v_suffix v_steps v_fault v_hasProgram a_text a_act a_guess a_take a_begin a_finish a_to1 a_one a_two a_what a_ats a_atVar a_atNumber a_atomSort a_atomKind a_atomValue v_wrong v_wrongAt v_variable v_number v_numberKind v_takes a_out v_outed a_varSort a_varKind a_varValue a_creature v_creatures a_arrayClass a_arrayFrom a_arrayLong v_arrays v_cells a_cellSort a_cellKind a_cellValue a_asideSort a_asideKind a_asideValue a_outcome v_marks v_came v_guessed v_right v_taken a_markSort a_markKind a_markClass a_markValue v_sort v_kindAt v_value a_index v_reached v_looked) H := hP
  have hD : va_D A (mw cs q (0 : Int32) a_tape v_taped v_size v_to v_kind v_from v_letters v_letterMany v_digits v_isBeyond v_suffix v_steps v_fault v_hasProgram a_text a_act a_guess a_take a_begin a_finish a_to1 a_one a_two a_what a_ats a_atVar a_atNumber a_atomSort a_atomKind a_atomValue v_wrong v_wrongAt v_variable v_number v_numberKind v_takes a_out v_outed a_varSort a_varKind a_varValue a_creature v_creatures a_arrayClass a_arrayFrom a_arrayLong v_arrays v_cells a_cellSort a_cellKind a_cellValue a_asideSort a_asideKind a_asideValue a_outcome v_marks v_came v_guessed v_right v_taken a_markSort a_markKind a_markClass a_markValue v_sort v_kindAt v_value a_index v_reached v_looked) := hD
  refine lv_iload_n hx hb dX10_mark_5 rfl (lv_at hl 2 rfl) ?_
  refine m_if_ne (X := w9.toInt) (tgt := 27) hx hb dX10_mark_6 (by decide) rfl (fun c6 => ?_) (fun c6 => ?_)
  · skip
    refine lv_iconst (v := (-1)) hx hb dX10_mark_27 (by decide) ?_
    refine lv_goto (tgt := 37) hx hb dX10_mark_28 (by decide) ?_
    subst hAe
    rw [hQ]
    exact W.iret (v := (-1)) hx hb hr (fun t ht hW => ⟨⟨(-1), _, rfl, ⟨(0 : Int32), rfl⟩, by rw [ht]; exact hP, va_K.moved hW.alike hK, hD⟩, hS.F ht⟩) hS.2.2 dX10_mark_37
  · skip
    refine lv_iload_n hx hb dX10_mark_9 rfl (lv_at hl 1 rfl) ?_
    refine m_if_lt (X := k9.toInt) (tgt := 27) hx hb dX10_mark_10 (by decide) rfl (fun c10 => ?_) (fun c10 => ?_)
    · skip
      refine lv_iconst (v := (-1)) hx hb dX10_mark_27 (by decide) ?_
      refine lv_goto (tgt := 37) hx hb dX10_mark_28 (by decide) ?_
      subst hAe
      rw [hQ]
      exact W.iret (v := (-1)) hx hb hr (fun t ht hW => ⟨⟨(-1), _, rfl, ⟨(0 : Int32), rfl⟩, by rw [ht]; exact hP, va_K.moved hW.alike hK, hD⟩, hS.F ht⟩) hS.2.2 dX10_mark_37
    · skip
      refine lv_iload_n hx hb dX10_mark_13 rfl (lv_at hl 1 rfl) ?_
      refine lv_aload_n hx hb dX10_mark_14 rfl (lv_at hl 0 rfl) ?_
      refine va_get (D := D) (ci := 9) (v := .int v_marks) (C := RX10) (T := TX10) (N := 71) hx hb hts hin hown hK hP 0 rfl rfl 56 (by decide) k_31_6 (fun _ h9 => h9) rfl dX10_mark_15 ?_
      refine m_icmp_ge (X := k9.toInt) (Y := v_marks.toInt) (tgt := 27) hx hb dX10_mark_18 (by decide) rfl rfl (fun c18 => ?_) (fun c18 => ?_)
      · skip
        refine lv_iconst (v := (-1)) hx hb dX10_mark_27 (by decide) ?_
        refine lv_goto (tgt := 37) hx hb dX10_mark_28 (by decide) ?_
        subst hAe
        rw [hQ]
        exact W.iret (v := (-1)) hx hb hr (fun t ht hW => ⟨⟨(-1), _, rfl, ⟨(0 : Int32), rfl⟩, by rw [ht]; exact hP, va_K.moved hW.alike hK, hD⟩, hS.F ht⟩) hS.2.2 dX10_mark_37
      · skip
        refine lv_iload_n hx hb dX10_mark_21 rfl (lv_at hl 1 rfl) ?_
        refine lv_bipush (v := 50) hx hb dX10_mark_22 (by decide) ?_
        refine m_icmp_lt (X := k9.toInt) (Y := 50) (tgt := 31) hx hb dX10_mark_24 (by decide) rfl (by decide) (fun c24 => ?_) (fun c24 => ?_)
        · skip
          refine lv_aload_n hx hb dX10_mark_31 rfl (lv_at hl 0 rfl) ?_
          refine va_get (D := D) (ci := 9) (v := .ref (q 35)) (C := RX10) (T := TX10) (N := 71) hx hb hts hin hown hK hP 0 rfl rfl 63 (by decide) k_6_17 (fun _ h9 => h9) rfl dX10_mark_32 ?_
          refine lv_iload_n hx hb dX10_mark_35 rfl (lv_at hl 1 rfl) ?_
          refine m_iald hx hb hK hP 35 0 rfl rfl (ix (by omega) (by omega)) dX10_mark_36 (fun x36 e_x36 => ?_)
          have b_x36 := iB x36
          subst hAe
          rw [hQ]
          exact W.iret (v := x36) hx hb hr (fun t ht hW => ⟨⟨x36, _, rfl, ⟨(0 : Int32), rfl⟩, by rw [ht]; exact hP, va_K.moved hW.alike hK, hD⟩, hS.F ht⟩) hS.2.2 dX10_mark_37
        · skip
          refine lv_iconst (v := (-1)) hx hb dX10_mark_27 (by decide) ?_
          refine lv_goto (tgt := 37) hx hb dX10_mark_28 (by decide) ?_
          subst hAe
          rw [hQ]
          exact W.iret (v := (-1)) hx hb hr (fun t ht hW => ⟨⟨(-1), _, rfl, ⟨(0 : Int32), rfl⟩, by rw [ht]; exact hP, va_K.moved hW.alike hK, hD⟩, hS.F ht⟩) hS.2.2 dX10_mark_37
