def rmX10_atom : Room := { frames := 40, cells := 0, slots := 0, locals := 800 }
set_option maxHeartbeats 4000000 in
set_option maxRecDepth 100000 in
theorem tX10_atom {l : Launch} {D : va_G} {K : Nat → Nat → Nat} {cs : Nat → ClassId} {q : Nat → Nat} {v_thrown v_taped v_size v_to v_kind v_from v_letterMany v_isBeyond v_suffix v_steps v_fault v_hasProgram v_wrong v_wrongAt v_variable v_numberKind v_takes v_outed v_creatures v_arrays v_cells v_marks v_came v_guessed v_right v_taken v_sort v_kindAt v_reached v_looked : Int32} {a_tape a_text a_act a_guess a_take a_begin a_finish a_to1 a_one a_two a_what a_ats a_atVar a_atNumber a_atomSort a_atomKind a_out a_varSort a_varKind a_creature a_arrayClass a_arrayFrom a_arrayLong a_cellSort a_cellKind a_asideSort a_asideKind a_outcome a_markSort a_markKind a_markClass a_index : Nat → Int32} {v_letters v_digits v_number v_value : Int64} {a_atomValue a_varValue a_cellValue a_asideValue a_markValue : Nat → Int64} (s9 : Int32) (p_0 : ATM a_atomSort a_atomKind a_atomValue) (p_1 : RUN a_varSort a_varKind a_varValue v_arrays v_cells v_creatures a_arrayClass a_arrayFrom a_arrayLong a_cellSort a_cellKind a_cellValue) (p_2 : 0 ≤ s9.toInt) (p_3 : s9.toInt ≤ 201) (p_4 : v_creatures.toInt ≤ 99) : CtV l yX10_atom (wG yX10_atom cX10_atom 2 none) rmX10_atom D (mwT cs) K [.ref (q 0), .int s9] (mw cs q v_thrown a_tape v_taped v_size v_to v_kind v_from v_letters v_letterMany v_digits v_isBeyond v_suffix v_steps v_fault v_hasProgram a_text a_act a_guess a_take a_begin a_finish a_to1 a_one a_two a_what a_ats a_atVar a_atNumber a_atomSort a_atomKind a_atomValue v_wrong v_wrongAt v_variable v_number v_numberKind v_takes a_out v_outed a_varSort a_varKind a_varValue a_creature v_creatures a_arrayClass a_arrayFrom a_arrayLong v_arrays v_cells a_cellSort a_cellKind a_cellValue a_asideSort a_asideKind a_asideValue a_outcome v_marks v_came v_guessed v_right v_taken a_markSort a_markKind a_markClass a_markValue v_sort v_kindAt v_value a_index v_reached v_looked) (fun w1 => ∃ (a_creature' : Nat → Int32) (v_creatures' : Int32) (v_sort' : Int32) (v_kindAt' : Int32) (v_value' : Int64), w1 = (mw cs q v_thrown a_tape v_taped v_size v_to v_kind v_from v_letters v_letterMany v_digits v_isBeyond v_suffix v_steps v_fault v_hasProgram a_text a_act a_guess a_take a_begin a_finish a_to1 a_one a_two a_what a_ats a_atVar a_atNumber a_atomSort a_atomKind a_atomValue v_wrong v_wrongAt v_variable v_number v_numberKind v_takes a_out v_outed a_varSort a_varKind a_varValue a_creature' v_creatures' a_arrayClass a_arrayFrom a_arrayLong v_arrays v_cells a_cellSort a_cellKind a_cellValue a_asideSort a_asideKind a_asideValue a_outcome v_marks v_came v_guessed v_right v_taken a_markSort a_markKind a_markClass a_markValue v_sort' v_kindAt' v_value' a_index v_reached v_looked) ∧ (RUN a_varSort a_varKind a_varValue v_arrays v_cells v_creatures' a_arrayClass a_arrayFrom a_arrayLong a_cellSort a_cellKind a_cellValue) ∧ (VOK v_arrays.toInt v_creatures'.toInt v_sort' v_kindAt' v_value') ∧ (v_creatures.toInt ≤ v_creatures'.toInt) ∧ (v_creatures'.toInt ≤ v_creatures.toInt + 1)) 0 0 := by
  intro sz
  refine Met.ofW (cc := cX10_atom) (maxL := 2) (ret := none) (by decide) rfl ?_
  intro p e s m args below meth c s₁ B hml hv
  obtain ⟨rfl, hsz, hP, hK, hD0, hE⟩ := hv
  have hx := B.exec
  have hb := B.bytes
  have hr := B.returns
  have hts := atoms_spec (ws := (wG yX10_atom cX10_atom 2 none)) B.pre
  have hown : s.vm.findClass RX10 = some m.cls := findClass_of_methodNamed B.named
  have hlocks := B.notSynchronized
  subst hsz
  have hD := hD0.self (sz := s.heap.size)
  obtain ⟨A, hAe⟩ : ∃ A : Nat → Prop, A = va_A (mw cs q v_thrown a_tape v_taped v_size v_to v_kind v_from v_letters v_letterMany v_digits v_isBeyond v_suffix v_steps v_fault v_hasProgram a_text a_act a_guess a_take a_begin a_finish a_to1 a_one a_two a_what a_ats a_atVar a_atNumber a_atomSort a_atomKind a_atomValue v_wrong v_wrongAt v_variable v_number v_numberKind v_takes a_out v_outed a_varSort a_varKind a_varValue a_creature v_creatures a_arrayClass a_arrayFrom a_arrayLong v_arrays v_cells a_cellSort a_cellKind a_cellValue a_asideSort a_asideKind a_asideValue a_outcome v_marks v_came v_guessed v_right v_taken a_markSort a_markKind a_markClass a_markValue v_sort v_kindAt v_value a_index v_reached v_looked) s.heap.size := ⟨_, rfl⟩
  rw [← hAe] at hD hE
  have hA : ∀ q : Nat, s.heap.size ≤ q → A q := fun q h => by rw [hAe]; exact Or.inr h
  have hS : va_S A s.heap s.heap [] := va_S.rf
  have hl := lv_entry ([.ref (q 0), .int s9]) (n := 2) (Nat.le_of_ble_eq_true rfl)
  rw [lg_entry_eq]
  generalize (lg_sl ([.ref (q 0), .int s9]) ++ List.replicate (2 - (lg_sl ([.ref (q 0), .int s9])).length) Slot.unset).toArray = ls at hl ⊢
  have hl : lv_has ls 2 [(0, .ref (q 0)), (1, .int s9)] := hl
  refine wq (fun Q hQ => ?_)
  have hin : ∀ w ∈ wsX100, w ∈ (wG yX10_atom cX10_atom 2 none) := fun w h => List.mem_cons_of_mem _ (inlX10 w h)
  have kc0 : (0 : Int32).toInt = 0 := by decide
  have kc1 : (1 : Int32).toInt = 1 := by decide
  have kc2 : (2 : Int32).toInt = 2 := by decide
  have k_5_21 := hts (.fieldLink RX10 52 "ArrayTrainerModel" "atomSort" "[I") (List.mem_cons_of_mem _ (wr5 _ (List.mem_of_getElem? (i := 21) rfl)))
  have k_5_23 := hts (.fieldLink RX10 58 "ArrayTrainerModel" "atomValue" "[J") (List.mem_cons_of_mem _ (wr5 _ (List.mem_of_getElem? (i := 23) rfl)))
  have k_5_22 := hts (.fieldLink RX10 55 "ArrayTrainerModel" "atomKind" "[I") (List.mem_cons_of_mem _ (wr5 _ (List.mem_of_getElem? (i := 22) rfl)))
  have k_6_4 := hts (.fieldLink RX10 74 "ArrayTrainerModel" "creature" "[I") (List.mem_cons_of_mem _ (wr6 _ (List.mem_of_getElem? (i := 4) rfl)))
  have k_31_3 := hts (.fieldLink RX10 469 "ArrayTrainerModel" "creatures" "I") (List.mem_cons_of_mem _ (wr31 _ (List.mem_of_getElem? (i := 3) rfl)))
  have k_47_12 := hts (.fieldLink RX10 493 "ArrayTrainerModel" "sort" "I") (List.mem_cons_of_mem _ (wr47 _ (List.mem_of_getElem? (i := 12) rfl)))
  have k_47_13 := hts (.fieldLink RX10 496 "ArrayTrainerModel" "kindAt" "I") (List.mem_cons_of_mem _ (wr47 _ (List.mem_of_getElem? (i := 13) rfl)))
  have k_47_14 := hts (.fieldLink RX10 499 "ArrayTrainerModel" "value" "J") (List.mem_cons_of_mem _ (wr47 _ (List.mem_of_getElem? (i := 14) rfl)))
  obtain ⟨H, hH⟩ : ∃ H : Heap, H = s.heap := ⟨_, rfl⟩
  obtain ⟨locs, hlc⟩ : ∃ L : List Loc, L = [] := ⟨_, rfl⟩
  have hP : va_P D vwCl (mw cs q v_thrown a_tape v_taped v_size v_to v_kind v_from v_letters v_letterMany v_digits v_isBeyond v_suffix v_steps v_fault v_hasProgram a_text a_act a_guess a_take a_begin a_finish a_to1 a_one a_two a_what a_ats a_atVar a_atNumber a_atomSort a_atomKind a_atomValue v_wrong v_wrongAt v_variable v_number v_numberKind v_takes a_out v_outed a_varSort a_varKind a_varValue a_creature v_creatures a_arrayClass a_arrayFrom a_arrayLong v_arrays v_cells a_cellSort a_cellKind a_cellValue a_asideSort a_asideKind a_asideValue a_outcome v_marks v_came v_guessed v_right v_taken a_markSort a_markKind a_markClass a_markValue v_sort v_kindAt v_value a_index v_reached v_looked) H := by rw [hH]; exact hP
  have hS : va_S A s.heap H locs := by rw [hH, hlc]; exact hS
  refine wHL hH hlc ?_
  have b_s9 := iB s9
  have hr9 := p_1.1
  refine lv_aload_n hx hb dX10_atom_0 rfl (lv_at hl 0 rfl) ?_
  refine va_get (D := D) (ci := 9) (v := .ref (q 15)) (C := RX10) (T := TX10) (N := 71) hx hb hts hin hown hK hP 0 rfl rfl 28 (by decide) k_5_21 (fun _ h9 => h9) rfl dX10_atom_1 ?_
  refine lv_iload_n hx hb dX10_atom_4 rfl (lv_at hl 1 rfl) ?_
  refine m_iald hx hb hK hP 15 0 rfl rfl (ix (by omega) (by omega)) dX10_atom_5 (fun x5 e_x5 => ?_)
  have b_x5 := iB x5
  have hat := p_0 s9.toNatClampNeg
  rw [← e_x5] at hat
  rcases (show (x5.toInt < 1 ∨ 4 < x5.toInt) ∨ x5.toInt = 1 ∨ x5.toInt = 2 ∨ x5.toInt = 3 ∨ x5.toInt = 4 by omega) with c6 | c6 | c6 | c6 | c6
  · skip
    refine lv_tableOut (tgt := 116) hx hb dX10_atom_6 c6 (by decide) ?_
    refine lv_aload_n hx hb dX10_atom_116 rfl (lv_at hl 0 rfl) ?_
    refine call_v (As := []) (rest := []) ⟨hx, hb, hml, hown, hts⟩ (tX10_none (l := l) ) (cwV 0 hts (gV (wr47 _ (List.mem_of_getElem? (i := 23) rfl)) (wr48 _ (List.mem_of_getElem? (i := 0) rfl)) (wr48 _ (List.mem_of_getElem? (i := 1) rfl)) (wr1 _ (List.mem_of_getElem? (i := 5) rfl)) (wr48 _ (List.mem_of_getElem? (i := 2) rfl))) rfl rfl rfl (by decide +kernel) ⟨Nat.le_of_ble_eq_true rfl, Nat.le_of_ble_eq_true rfl⟩) (va_recv hK hP (ci := 9) (q0 := 0) rfl rfl) hK hP hD hE hS hA rfl hl.1 rfl (Nat.le_of_ble_eq_true rfl) dX10_atom_117 ⟨Nat.le_of_ble_eq_true rfl, Nat.le_of_ble_eq_true rfl⟩ (fun w9 H locs hw117 hP hD hS => ?_)
    obtain ⟨v_sort_117, v_kindAt_117, v_value_117, rfl, hw117_0, hw117_1, hw117_2⟩ := hw117
    have b_v_sort_117 := iB v_sort_117
    have b_v_kindAt_117 := iB v_kindAt_117
    have b_v_value_117 := jB v_value_117
    subst hAe
    rw [hQ]
    exact W.vret hx hb hr (fun t ht hW => ⟨⟨_, rfl, ⟨a_creature, v_creatures, v_sort_117, v_kindAt_117, v_value_117, rfl, by first | assumption | exact RUN.moreCr p_1 (by omega) (by omega), by first | assumption | exact VOK.none hw117_0 | exact ⟨⟨by omega, by omega⟩, fun q => by omega, fun q => by omega, fun _ => by rw [hw63_1, hw63_2]; exact hat2⟩ | exact ⟨⟨by decide, by decide⟩, fun q => absurd q (by decide), fun _ => ⟨by omega, by omega⟩, fun q => absurd q (by decide)⟩, by first | assumption | omega | (intros; omega) | decide, by first | assumption | omega | (intros; omega) | decide⟩, by rw [ht]; exact hP, va_K.moved hW.alike hK, hD⟩, hS.F ht⟩) hS.2.2 dX10_atom_120
  · skip
    refine lv_tableIn (tgt := 36) (off := 30) hx hb dX10_atom_6 (by omega) (by omega) (by rw [c6]; rfl) (by decide) ?_
    refine lv_aload_n hx hb dX10_atom_36 rfl (lv_at hl 0 rfl) ?_
    refine lv_aload_n hx hb dX10_atom_37 rfl (lv_at hl 0 rfl) ?_
    refine va_get (D := D) (ci := 9) (v := .ref (q 17)) (C := RX10) (T := TX10) (N := 71) hx hb hts hin hown hK hP 0 rfl rfl 30 (by decide) k_5_23 (fun _ h9 => h9) rfl dX10_atom_38 ?_
    refine lv_iload_n hx hb dX10_atom_41 rfl (lv_at hl 1 rfl) ?_
    refine m_lald hx hb hK hP 17 1 rfl rfl (ix (by omega) (by omega)) dX10_atom_42 (fun x42 e_x42 => ?_)
    have b_x42 := jB x42
    rw [← e_x42] at hat
    have hat1 := hat.1 (by omega)
    refine m_l2i hx hb dX10_atom_43 (fun x43 e_x43 => ?_)
    have b_x43 := iB x43
    have hx43 := l2iT e_x43 (by omega) (by omega)
    refine call_v (As := [.int x43]) (rest := []) ⟨hx, hb, hml, hown, hts⟩ (tX10_ofVar (l := l) x43 (by first | assumption | omega | (intros; omega) | decide) (by first | assumption | omega | (intros; omega) | decide) (by first | assumption | omega | (intros; omega) | decide)) (cwV 1 hts (gV (wr47 _ (List.mem_of_getElem? (i := 15) rfl)) (wr47 _ (List.mem_of_getElem? (i := 16) rfl)) (wr47 _ (List.mem_of_getElem? (i := 17) rfl)) (wr1 _ (List.mem_of_getElem? (i := 5) rfl)) (wr47 _ (List.mem_of_getElem? (i := 18) rfl))) rfl rfl rfl (by decide +kernel) ⟨Nat.le_of_ble_eq_true rfl, Nat.le_of_ble_eq_true rfl⟩) (va_recv hK hP (ci := 9) (q0 := 0) rfl rfl) hK hP hD hE hS hA rfl hl.1 rfl (Nat.le_of_ble_eq_true rfl) dX10_atom_44 ⟨Nat.le_of_ble_eq_true rfl, Nat.le_of_ble_eq_true rfl⟩ (fun w9 H locs hw44 hP hD hS => ?_)
    obtain ⟨v_sort_44, v_kindAt_44, v_value_44, rfl, hw44_0, hw44_1, hw44_2, hw44_3⟩ := hw44
    have b_v_sort_44 := iB v_sort_44
    have b_v_kindAt_44 := iB v_kindAt_44
    have b_v_value_44 := jB v_value_44
    refine lv_goto (tgt := 120) hx hb dX10_atom_47 (by decide) ?_
    subst hAe
    rw [hQ]
    exact W.vret hx hb hr (fun t ht hW => ⟨⟨_, rfl, ⟨a_creature, v_creatures, v_sort_44, v_kindAt_44, v_value_44, rfl, by first | assumption | exact RUN.moreCr p_1 (by omega) (by omega), by first | assumption | exact VOK.none hw117_0 | exact ⟨⟨by omega, by omega⟩, fun q => by omega, fun q => by omega, fun _ => by rw [hw63_1, hw63_2]; exact hat2⟩ | exact ⟨⟨by decide, by decide⟩, fun q => absurd q (by decide), fun _ => ⟨by omega, by omega⟩, fun q => absurd q (by decide)⟩, by first | assumption | omega | (intros; omega) | decide, by first | assumption | omega | (intros; omega) | decide⟩, by rw [ht]; exact hP, va_K.moved hW.alike hK, hD⟩, hS.F ht⟩) hS.2.2 dX10_atom_120
  · skip
    refine lv_tableIn (tgt := 50) (off := 44) hx hb dX10_atom_6 (by omega) (by omega) (by rw [c6]; rfl) (by decide) ?_
    refine lv_aload_n hx hb dX10_atom_50 rfl (lv_at hl 0 rfl) ?_
    refine lv_aload_n hx hb dX10_atom_51 rfl (lv_at hl 0 rfl) ?_
    refine va_get (D := D) (ci := 9) (v := .ref (q 16)) (C := RX10) (T := TX10) (N := 71) hx hb hts hin hown hK hP 0 rfl rfl 29 (by decide) k_5_22 (fun _ h9 => h9) rfl dX10_atom_52 ?_
    refine lv_iload_n hx hb dX10_atom_55 rfl (lv_at hl 1 rfl) ?_
    refine m_iald hx hb hK hP 16 0 rfl rfl (ix (by omega) (by omega)) dX10_atom_56 (fun x56 e_x56 => ?_)
    have b_x56 := iB x56
    refine lv_aload_n hx hb dX10_atom_57 rfl (lv_at hl 0 rfl) ?_
    refine va_get (D := D) (ci := 9) (v := .ref (q 17)) (C := RX10) (T := TX10) (N := 71) hx hb hts hin hown hK hP 0 rfl rfl 30 (by decide) k_5_23 (fun _ h9 => h9) rfl dX10_atom_58 ?_
    refine lv_iload_n hx hb dX10_atom_61 rfl (lv_at hl 1 rfl) ?_
    refine m_lald hx hb hK hP 17 1 rfl rfl (ix (by omega) (by omega)) dX10_atom_62 (fun x62 e_x62 => ?_)
    have b_x62 := jB x62
    rw [← e_x56, ← e_x62] at hat
    have hat2 := hat.2 (by omega)
    refine call_v (As := [.int x56, .long x62]) (rest := []) ⟨hx, hb, hml, hown, hts⟩ (tX10_number (l := l) x56 x62) (cwV 2 hts (gV (wr47 _ (List.mem_of_getElem? (i := 19) rfl)) (wr47 _ (List.mem_of_getElem? (i := 20) rfl)) (wr47 _ (List.mem_of_getElem? (i := 21) rfl)) (wr1 _ (List.mem_of_getElem? (i := 5) rfl)) (wr47 _ (List.mem_of_getElem? (i := 22) rfl))) rfl rfl rfl (by decide +kernel) ⟨Nat.le_of_ble_eq_true rfl, Nat.le_of_ble_eq_true rfl⟩) (va_recv hK hP (ci := 9) (q0 := 0) rfl rfl) hK hP hD hE hS hA rfl hl.1 rfl (Nat.le_of_ble_eq_true rfl) dX10_atom_63 ⟨Nat.le_of_ble_eq_true rfl, Nat.le_of_ble_eq_true rfl⟩ (fun w9 H locs hw63 hP hD hS => ?_)
    obtain ⟨v_sort_63, v_kindAt_63, v_value_63, rfl, hw63_0, hw63_1, hw63_2⟩ := hw63
    have b_v_sort_63 := iB v_sort_63
    have b_v_kindAt_63 := iB v_kindAt_63
    have b_v_value_63 := jB v_value_63
    refine lv_goto (tgt := 120) hx hb dX10_atom_66 (by decide) ?_
    subst hAe
    rw [hQ]
    exact W.vret hx hb hr (fun t ht hW => ⟨⟨_, rfl, ⟨a_creature, v_creatures, v_sort_63, v_kindAt_63, v_value_63, rfl, by first | assumption | exact RUN.moreCr p_1 (by omega) (by omega), by first | assumption | exact VOK.none hw117_0 | exact ⟨⟨by omega, by omega⟩, fun q => by omega, fun q => by omega, fun _ => by rw [hw63_1, hw63_2]; exact hat2⟩ | exact ⟨⟨by decide, by decide⟩, fun q => absurd q (by decide), fun _ => ⟨by omega, by omega⟩, fun q => absurd q (by decide)⟩, by first | assumption | omega | (intros; omega) | decide, by first | assumption | omega | (intros; omega) | decide⟩, by rw [ht]; exact hP, va_K.moved hW.alike hK, hD⟩, hS.F ht⟩) hS.2.2 dX10_atom_120
  · skip
    refine lv_tableIn (tgt := 116) (off := 110) hx hb dX10_atom_6 (by omega) (by omega) (by rw [c6]; rfl) (by decide) ?_
    refine lv_aload_n hx hb dX10_atom_116 rfl (lv_at hl 0 rfl) ?_
    refine call_v (As := []) (rest := []) ⟨hx, hb, hml, hown, hts⟩ (tX10_none (l := l) ) (cwV 0 hts (gV (wr47 _ (List.mem_of_getElem? (i := 23) rfl)) (wr48 _ (List.mem_of_getElem? (i := 0) rfl)) (wr48 _ (List.mem_of_getElem? (i := 1) rfl)) (wr1 _ (List.mem_of_getElem? (i := 5) rfl)) (wr48 _ (List.mem_of_getElem? (i := 2) rfl))) rfl rfl rfl (by decide +kernel) ⟨Nat.le_of_ble_eq_true rfl, Nat.le_of_ble_eq_true rfl⟩) (va_recv hK hP (ci := 9) (q0 := 0) rfl rfl) hK hP hD hE hS hA rfl hl.1 rfl (Nat.le_of_ble_eq_true rfl) dX10_atom_117 ⟨Nat.le_of_ble_eq_true rfl, Nat.le_of_ble_eq_true rfl⟩ (fun w9 H locs hw117 hP hD hS => ?_)
    obtain ⟨v_sort_117, v_kindAt_117, v_value_117, rfl, hw117_0, hw117_1, hw117_2⟩ := hw117
    have b_v_sort_117 := iB v_sort_117
    have b_v_kindAt_117 := iB v_kindAt_117
    have b_v_value_117 := jB v_value_117
    subst hAe
    rw [hQ]
    exact W.vret hx hb hr (fun t ht hW => ⟨⟨_, rfl, ⟨a_creature, v_creatures, v_sort_117, v_kindAt_117, v_value_117, rfl, by first | assumption | exact RUN.moreCr p_1 (by omega) (by omega), by first | assumption | exact VOK.none hw117_0 | exact ⟨⟨by omega, by omega⟩, fun q => by omega, fun q => by omega, fun _ => by rw [hw63_1, hw63_2]; exact hat2⟩ | exact ⟨⟨by decide, by decide⟩, fun q => absurd q (by decide), fun _ => ⟨by omega, by omega⟩, fun q => absurd q (by decide)⟩, by first | assumption | omega | (intros; omega) | decide, by first | assumption | omega | (intros; omega) | decide⟩, by rw [ht]; exact hP, va_K.moved hW.alike hK, hD⟩, hS.F ht⟩) hS.2.2 dX10_atom_120
  · skip
    refine lv_tableIn (tgt := 69) (off := 63) hx hb dX10_atom_6 (by omega) (by omega) (by rw [c6]; rfl) (by decide) ?_
    refine lv_aload_n hx hb dX10_atom_69 rfl (lv_at hl 0 rfl) ?_
    refine va_get (D := D) (ci := 9) (v := .ref (q 22)) (C := RX10) (T := TX10) (N := 71) hx hb hts hin hown hK hP 0 rfl rfl 42 (by decide) k_6_4 (fun _ h9 => h9) rfl dX10_atom_70 ?_
    refine lv_aload_n hx hb dX10_atom_73 rfl (lv_at hl 0 rfl) ?_
    refine va_get (D := D) (ci := 9) (v := .int v_creatures) (C := RX10) (T := TX10) (N := 71) hx hb hts hin hown hK hP 0 rfl rfl 43 (by decide) k_31_3 (fun _ h9 => h9) rfl dX10_atom_74 ?_
    refine lv_aload_n hx hb dX10_atom_77 rfl (lv_at hl 0 rfl) ?_
    refine va_get (D := D) (ci := 9) (v := .ref (q 16)) (C := RX10) (T := TX10) (N := 71) hx hb hts hin hown hK hP 0 rfl rfl 29 (by decide) k_5_22 (fun _ h9 => h9) rfl dX10_atom_78 ?_
    refine lv_iload_n hx hb dX10_atom_81 rfl (lv_at hl 1 rfl) ?_
    refine m_iald hx hb hK hP 16 0 rfl rfl (ix (by omega) (by omega)) dX10_atom_82 (fun x82 e_x82 => ?_)
    have b_x82 := iB x82
    refine va_iast hx hb hK hP hD hS 22 0 rfl rfl (ix (by omega) (by omega)) dX10_atom_83 (fun H locs hP hD hS => ?_)
    obtain ⟨a_creature_83, e_a_creature_83⟩ : ∃ g, g = upd a_creature v_creatures.toNatClampNeg x82 := ⟨_, rfl⟩
    have hP : va_P D vwCl (mw cs q v_thrown a_tape v_taped v_size v_to v_kind v_from v_letters v_letterMany v_digits v_isBeyond v_suffix v_steps v_fault v_hasProgram a_text a_act a_guess a_take a_begin a_finish a_to1 a_one a_two a_what a_ats a_atVar a_atNumber a_atomSort a_atomKind a_atomValue v_wrong v_wrongAt v_variable v_number v_numberKind v_takes a_out v_outed a_varSort a_varKind a_varValue a_creature_83 v_creatures a_arrayClass a_arrayFrom a_arrayLong v_arrays v_cells a_cellSort a_cellKind a_cellValue a_asideSort a_asideKind a_asideValue a_outcome v_marks v_came v_guessed v_right v_taken a_markSort a_markKind a_markClass a_markValue v_sort v_kindAt v_value a_index v_reached v_looked) H := by rw [e_a_creature_83]; exact hP
    have hD : va_D A (mw cs q v_thrown a_tape v_taped v_size v_to v_kind v_from v_letters v_letterMany v_digits v_isBeyond v_suffix v_steps v_fault v_hasProgram a_text a_act a_guess a_take a_begin a_finish a_to1 a_one a_two a_what a_ats a_atVar a_atNumber a_atomSort a_atomKind a_atomValue v_wrong v_wrongAt v_variable v_number v_numberKind v_takes a_out v_outed a_varSort a_varKind a_varValue a_creature_83 v_creatures a_arrayClass a_arrayFrom a_arrayLong v_arrays v_cells a_cellSort a_cellKind a_cellValue a_asideSort a_asideKind a_asideValue a_outcome v_marks v_came v_guessed v_right v_taken a_markSort a_markKind a_markClass a_markValue v_sort v_kindAt v_value a_index v_reached v_looked) := by rw [e_a_creature_83]; exact hD
    refine lv_aload_n hx hb dX10_atom_84 rfl (lv_at hl 0 rfl) ?_
    refine lv_iconst (v := 2) hx hb dX10_atom_85 (by decide) ?_
    refine va_put (D := D) (ci := 9) (v := .int 2) (ty := .int) (C := RX10) (T := TX10) (N := 71) hx hb hts hin tyX10 tyX10_ok nmX10 hown hK hP hD hS 0 rfl rfl 65 (by decide) k_47_12 (fun _ h9 => h9) rfl (by decide +kernel) rfl rfl (Nat.le_of_ble_eq_true rfl) dX10_atom_86 (fun H locs hP hD hS => ?_)
    have hP : va_P D vwCl (mw cs q v_thrown a_tape v_taped v_size v_to v_kind v_from v_letters v_letterMany v_digits v_isBeyond v_suffix v_steps v_fault v_hasProgram a_text a_act a_guess a_take a_begin a_finish a_to1 a_one a_two a_what a_ats a_atVar a_atNumber a_atomSort a_atomKind a_atomValue v_wrong v_wrongAt v_variable v_number v_numberKind v_takes a_out v_outed a_varSort a_varKind a_varValue a_creature_83 v_creatures a_arrayClass a_arrayFrom a_arrayLong v_arrays v_cells a_cellSort a_cellKind a_cellValue a_asideSort a_asideKind a_asideValue a_outcome v_marks v_came v_guessed v_right v_taken a_markSort a_markKind a_markClass a_markValue (2 : Int32) v_kindAt v_value a_index v_reached v_looked) H := hP
    have hD : va_D A (mw cs q v_thrown a_tape v_taped v_size v_to v_kind v_from v_letters v_letterMany v_digits v_isBeyond v_suffix v_steps v_fault v_hasProgram a_text a_act a_guess a_take a_begin a_finish a_to1 a_one a_two a_what a_ats a_atVar a_atNumber a_atomSort a_atomKind a_atomValue v_wrong v_wrongAt v_variable v_number v_numberKind v_takes a_out v_outed a_varSort a_varKind a_varValue a_creature_83 v_creatures a_arrayClass a_arrayFrom a_arrayLong v_arrays v_cells a_cellSort a_cellKind a_cellValue a_asideSort a_asideKind a_asideValue a_outcome v_marks v_came v_guessed v_right v_taken a_markSort a_markKind a_markClass a_markValue (2 : Int32) v_kindAt v_value a_index v_reached v_looked) := hD
    refine lv_aload_n hx hb dX10_atom_89 rfl (lv_at hl 0 rfl) ?_
    refine lv_iconst (v := 0) hx hb dX10_atom_90 (by decide) ?_
    refine va_put (D := D) (ci := 9) (v := .int 0) (ty := .int) (C := RX10) (T := TX10) (N := 71) hx hb hts hin tyX10 tyX10_ok nmX10 hown hK hP hD hS 0 rfl rfl 66 (by decide) k_47_13 (fun _ h9 => h9) rfl (by decide +kernel) rfl rfl (Nat.le_of_ble_eq_true rfl) dX10_atom_91 (fun H locs hP hD hS => ?_)
    have hP : va_P D vwCl (mw cs q v_thrown a_tape v_taped v_size v_to v_kind v_from v_letters v_letterMany v_digits v_isBeyond v_suffix v_steps v_fault v_hasProgram a_text a_act a_guess a_take a_begin a_finish a_to1 a_one a_two a_what a_ats a_atVar a_atNumber a_atomSort a_atomKind a_atomValue v_wrong v_wrongAt v_variable v_number v_numberKind v_takes a_out v_outed a_varSort a_varKind a_varValue a_creature_83 v_creatures a_arrayClass a_arrayFrom a_arrayLong v_arrays v_cells a_cellSort a_cellKind a_cellValue a_asideSort a_asideKind a_asideValue a_outcome v_marks v_came v_guessed v_right v_taken a_markSort a_markKind a_markClass a_markValue (2 : Int32) (0 : Int32) v_value a_index v_reached v_looked) H := hP
    have hD : va_D A (mw cs q v_thrown a_tape v_taped v_size v_to v_kind v_from v_letters v_letterMany v_digits v_isBeyond v_suffix v_steps v_fault v_hasProgram a_text a_act a_guess a_take a_begin a_finish a_to1 a_one a_two a_what a_ats a_atVar a_atNumber a_atomSort a_atomKind a_atomValue v_wrong v_wrongAt v_variable v_number v_numberKind v_takes a_out v_outed a_varSort a_varKind a_varValue a_creature_83 v_creatures a_arrayClass a_arrayFrom a_arrayLong v_arrays v_cells a_cellSort a_cellKind a_cellValue a_asideSort a_asideKind a_asideValue a_outcome v_marks v_came v_guessed v_right v_taken a_markSort a_markKind a_markClass a_markValue (2 : Int32) (0 : Int32) v_value a_index v_reached v_looked) := hD
    refine lv_aload_n hx hb dX10_atom_94 rfl (lv_at hl 0 rfl) ?_
    refine lv_aload_n hx hb dX10_atom_95 rfl (lv_at hl 0 rfl) ?_
    refine va_get (D := D) (ci := 9) (v := .int v_creatures) (C := RX10) (T := TX10) (N := 71) hx hb hts hin hown hK hP 0 rfl rfl 43 (by decide) k_31_3 (fun _ h9 => h9) rfl dX10_atom_96 ?_
    refine m_i2l (X := v_creatures.toInt) hx hb dX10_atom_99 rfl (fun x99 e_x99 g_x99 => ?_)
    refine va_put (D := D) (ci := 9) (v := .long x99) (ty := .long) (C := RX10) (T := TX10) (N := 71) hx hb hts hin tyX10 tyX10_ok nmX10 hown hK hP hD hS 0 rfl rfl 67 (by decide) k_47_14 (fun _ h9 => h9) rfl (by decide +kernel) rfl rfl (Nat.le_of_ble_eq_true rfl) dX10_atom_100 (fun H locs hP hD hS => ?_)
    have hP : va_P D vwCl (mw cs q v_thrown a_tape v_taped v_size v_to v_kind v_from v_letters v_letterMany v_digits v_isBeyond v_suffix v_steps v_fault v_hasProgram a_text a_act a_guess a_take a_begin a_finish a_to1 a_one a_two a_what a_ats a_atVar a_atNumber a_atomSort a_atomKind a_atomValue v_wrong v_wrongAt v_variable v_number v_numberKind v_takes a_out v_outed a_varSort a_varKind a_varValue a_creature_83 v_creatures a_arrayClass a_arrayFrom a_arrayLong v_arrays v_cells a_cellSort a_cellKind a_cellValue a_asideSort a_asideKind a_asideValue a_outcome v_marks v_came v_guessed v_right v_taken a_markSort a_markKind a_markClass a_markValue (2 : Int32) (0 : Int32) x99 a_index v_reached v_looked) H := hP
    have hD : va_D A (mw cs q v_thrown a_tape v_taped v_size v_to v_kind v_from v_letters v_letterMany v_digits v_isBeyond v_suffix v_steps v_fault v_hasProgram a_text a_act a_guess a_take a_begin a_finish a_to1 a_one a_two a_what a_ats a_atVar a_atNumber a_atomSort a_atomKind a_atomValue v_wrong v_wrongAt v_variable v_number v_numberKind v_takes a_out v_outed a_varSort a_varKind a_varValue a_creature_83 v_creatures a_arrayClass a_arrayFrom a_arrayLong v_arrays v_cells a_cellSort a_cellKind a_cellValue a_asideSort a_asideKind a_asideValue a_outcome v_marks v_came v_guessed v_right v_taken a_markSort a_markKind a_markClass a_markValue (2 : Int32) (0 : Int32) x99 a_index v_reached v_looked) := hD
    refine lv_aload_n hx hb dX10_atom_103 rfl (lv_at hl 0 rfl) ?_
    refine lv_dup hx hb dX10_atom_104 rfl ?_
    refine va_get (D := D) (ci := 9) (v := .int v_creatures) (C := RX10) (T := TX10) (N := 71) hx hb hts hin hown hK hP 0 rfl rfl 43 (by decide) k_31_3 (fun _ h9 => h9) rfl dX10_atom_105 ?_
    refine lv_iconst (v := 1) hx hb dX10_atom_108 (by decide) ?_
    refine m_iadd (X := v_creatures.toInt) (Y := 1) hx hb dX10_atom_109 rfl (by decide) (fun x109 e_x109 g9 => ?_)
    obtain ⟨k_x109, g_x109⟩ := g9
    have b_x109 := iB x109
    try (have q_x109 : x109.toInt = v_creatures.toInt + 1 := (by omega); clear g_x109 k_x109)
    refine va_put (D := D) (ci := 9) (v := .int x109) (ty := .int) (C := RX10) (T := TX10) (N := 71) hx hb hts hin tyX10 tyX10_ok nmX10 hown hK hP hD hS 0 rfl rfl 43 (by decide) k_31_3 (fun _ h9 => h9) rfl (by decide +kernel) rfl rfl (Nat.le_of_ble_eq_true rfl) dX10_atom_110 (fun H locs hP hD hS => ?_)
    have hP : va_P D vwCl (mw cs q v_thrown a_tape v_taped v_size v_to v_kind v_from v_letters v_letterMany v_digits v_isBeyond v_suffix v_steps v_fault v_hasProgram a_text a_act a_guess a_take a_begin a_finish a_to1 a_one a_two a_what a_ats a_atVar a_atNumber a_atomSort a_atomKind a_atomValue v_wrong v_wrongAt v_variable v_number v_numberKind v_takes a_out v_outed a_varSort a_varKind a_varValue a_creature_83 x109 a_arrayClass a_arrayFrom a_arrayLong v_arrays v_cells a_cellSort a_cellKind a_cellValue a_asideSort a_asideKind a_asideValue a_outcome v_marks v_came v_guessed v_right v_taken a_markSort a_markKind a_markClass a_markValue (2 : Int32) (0 : Int32) x99 a_index v_reached v_looked) H := hP
    have hD : va_D A (mw cs q v_thrown a_tape v_taped v_size v_to v_kind v_from v_letters v_letterMany v_digits v_isBeyond v_suffix v_steps v_fault v_hasProgram a_text a_act a_guess a_take a_begin a_finish a_to1 a_one a_two a_what a_ats a_atVar a_atNumber a_atomSort a_atomKind a_atomValue v_wrong v_wrongAt v_variable v_number v_numberKind v_takes a_out v_outed a_varSort a_varKind a_varValue a_creature_83 x109 a_arrayClass a_arrayFrom a_arrayLong v_arrays v_cells a_cellSort a_cellKind a_cellValue a_asideSort a_asideKind a_asideValue a_outcome v_marks v_came v_guessed v_right v_taken a_markSort a_markKind a_markClass a_markValue (2 : Int32) (0 : Int32) x99 a_index v_reached v_looked) := hD
    refine lv_goto (tgt := 120) hx hb dX10_atom_113 (by decide) ?_
    subst hAe
    rw [hQ]
    exact W.vret hx hb hr (fun t ht hW => ⟨⟨_, rfl, ⟨a_creature_83, x109, (2 : Int32), (0 : Int32), x99, rfl, by first | assumption | exact RUN.moreCr p_1 (by omega) (by omega), by first | assumption | exact VOK.none hw117_0 | exact ⟨⟨by omega, by omega⟩, fun q => by omega, fun q => by omega, fun _ => by rw [hw63_1, hw63_2]; exact hat2⟩ | exact ⟨⟨by decide, by decide⟩, fun q => absurd q (by decide), fun _ => ⟨by omega, by omega⟩, fun q => absurd q (by decide)⟩, by first | assumption | omega | (intros; omega) | decide, by first | assumption | omega | (intros; omega) | decide⟩, by rw [ht]; exact hP, va_K.moved hW.alike hK, hD⟩, hS.F ht⟩) hS.2.2 dX10_atom_120

def rmX10_reach : Room := { frames := 40, cells := 0, slots := 0, locals := 800 }
set_option maxHeartbeats 4000000 in
set_option maxRecDepth 100000 in
theorem tX10_reach {l : Launch} {D : va_G} {K : Nat → Nat → Nat} {cs : Nat → ClassId} {q : Nat → Nat} {v_thrown v_taped v_size v_to v_kind v_from v_letterMany v_isBeyond v_suffix v_steps v_fault v_hasProgram v_wrong v_wrongAt v_variable v_numberKind v_takes v_outed v_creatures v_arrays v_cells v_marks v_came v_guessed v_right v_taken v_sort v_kindAt v_reached v_looked : Int32} {a_tape a_text a_act a_guess a_take a_begin a_finish a_to1 a_one a_two a_what a_ats a_atVar a_atNumber a_atomSort a_atomKind a_out a_varSort a_varKind a_creature a_arrayClass a_arrayFrom a_arrayLong a_cellSort a_cellKind a_asideSort a_asideKind a_outcome a_markSort a_markKind a_markClass a_index : Nat → Int32} {v_letters v_digits v_number v_value : Int64} {a_atomValue a_varValue a_cellValue a_asideValue a_markValue : Nat → Int64} (s9 : Int32) (p_0 : RUN a_varSort a_varKind a_varValue v_arrays v_cells v_creatures a_arrayClass a_arrayFrom a_arrayLong a_cellSort a_cellKind a_cellValue) (p_1 : R25 a_one) (p_2 : R03 a_ats) (p_3 : 0 ≤ s9.toInt) (p_4 : s9.toInt ≤ 201) : CtI l yX10_reach (wG yX10_reach cX10_reach 4 (some .int)) rmX10_reach D (mwT cs) K [.ref (q 0), .int s9] (mw cs q v_thrown a_tape v_taped v_size v_to v_kind v_from v_letters v_letterMany v_digits v_isBeyond v_suffix v_steps v_fault v_hasProgram a_text a_act a_guess a_take a_begin a_finish a_to1 a_one a_two a_what a_ats a_atVar a_atNumber a_atomSort a_atomKind a_atomValue v_wrong v_wrongAt v_variable v_number v_numberKind v_takes a_out v_outed a_varSort a_varKind a_varValue a_creature v_creatures a_arrayClass a_arrayFrom a_arrayLong v_arrays v_cells a_cellSort a_cellKind a_cellValue a_asideSort a_asideKind a_asideValue a_outcome v_marks v_came v_guessed v_right v_taken a_markSort a_markKind a_markClass a_markValue v_sort v_kindAt v_value a_index v_reached v_looked) (fun r w1 => ∃ (v_sort' : Int32) (v_kindAt' : Int32) (v_value' : Int64) (v_reached' : Int32), w1 = (mw cs q v_thrown a_tape v_taped v_size v_to v_kind v_from v_letters v_letterMany v_digits v_isBeyond v_suffix v_steps v_fault v_hasProgram a_text a_act a_guess a_take a_begin a_finish a_to1 a_one a_two a_what a_ats a_atVar a_atNumber a_atomSort a_atomKind a_atomValue v_wrong v_wrongAt v_variable v_number v_numberKind v_takes a_out v_outed a_varSort a_varKind a_varValue a_creature v_creatures a_arrayClass a_arrayFrom a_arrayLong v_arrays v_cells a_cellSort a_cellKind a_cellValue a_asideSort a_asideKind a_asideValue a_outcome v_marks v_came v_guessed v_right v_taken a_markSort a_markKind a_markClass a_markValue v_sort' v_kindAt' v_value' a_index v_reached' v_looked) ∧ (0 ≤ r.toInt) ∧ (0 < r.toInt ∨ ((a_ats s9.toNatClampNeg).toInt ≤ 0 ∨ (0 ≤ v_reached'.toInt ∧ v_reached'.toInt < v_arrays.toInt)))) 0 0 := by
  intro sz
  refine Met.ofW (cc := cX10_reach) (maxL := 4) (ret := (some .int)) (by decide) rfl ?_
  intro p e s m args below meth c s₁ B hml hv
  obtain ⟨rfl, hsz, hP, hK, hD0, hE⟩ := hv
  have hx := B.exec
  have hb := B.bytes
  have hr := B.returns
  have hts := atoms_spec (ws := (wG yX10_reach cX10_reach 4 (some .int))) B.pre
  have hown : s.vm.findClass RX10 = some m.cls := findClass_of_methodNamed B.named
  have hlocks := B.notSynchronized
  subst hsz
  have hD := hD0.self (sz := s.heap.size)
  obtain ⟨A, hAe⟩ : ∃ A : Nat → Prop, A = va_A (mw cs q v_thrown a_tape v_taped v_size v_to v_kind v_from v_letters v_letterMany v_digits v_isBeyond v_suffix v_steps v_fault v_hasProgram a_text a_act a_guess a_take a_begin a_finish a_to1 a_one a_two a_what a_ats a_atVar a_atNumber a_atomSort a_atomKind a_atomValue v_wrong v_wrongAt v_variable v_number v_numberKind v_takes a_out v_outed a_varSort a_varKind a_varValue a_creature v_creatures a_arrayClass a_arrayFrom a_arrayLong v_arrays v_cells a_cellSort a_cellKind a_cellValue a_asideSort a_asideKind a_asideValue a_outcome v_marks v_came v_guessed v_right v_taken a_markSort a_markKind a_markClass a_markValue v_sort v_kindAt v_value a_index v_reached v_looked) s.heap.size := ⟨_, rfl⟩
  rw [← hAe] at hD hE
  have hA : ∀ q : Nat, s.heap.size ≤ q → A q := fun q h => by rw [hAe]; exact Or.inr h
  have hS : va_S A s.heap s.heap [] := va_S.rf
  have hl := lv_entry ([.ref (q 0), .int s9]) (n := 4) (Nat.le_of_ble_eq_true rfl)
  rw [lg_entry_eq]
  generalize (lg_sl ([.ref (q 0), .int s9]) ++ List.replicate (4 - (lg_sl ([.ref (q 0), .int s9])).length) Slot.unset).toArray = ls at hl ⊢
  have hl : lv_has ls 4 [(0, .ref (q 0)), (1, .int s9)] := hl
  refine wq (fun Q hQ => ?_)
  have hin : ∀ w ∈ wsX100, w ∈ (wG yX10_reach cX10_reach 4 (some .int)) := fun w h => List.mem_cons_of_mem _ (inlX10 w h)
  have kc0 : (0 : Int32).toInt = 0 := by decide
  have kc1 : (1 : Int32).toInt = 1 := by decide
  have kc2 : (2 : Int32).toInt = 2 := by decide
  have k_5_15 := hts (.fieldLink RX10 34 "ArrayTrainerModel" "one" "[I") (List.mem_cons_of_mem _ (wr5 _ (List.mem_of_getElem? (i := 15) rfl)))
  have k_5_18 := hts (.fieldLink RX10 43 "ArrayTrainerModel" "ats" "[I") (List.mem_cons_of_mem _ (wr5 _ (List.mem_of_getElem? (i := 18) rfl)))
  have k_6_19 := hts (.fieldLink RX10 119 "ArrayTrainerModel" "index" "[I") (List.mem_cons_of_mem _ (wr6 _ (List.mem_of_getElem? (i := 19) rfl)))
  have k_48_11 := hts (.fieldLink RX10 510 "ArrayTrainerModel" "reached" "I") (List.mem_cons_of_mem _ (wr48 _ (List.mem_of_getElem? (i := 11) rfl)))
  obtain ⟨H, hH⟩ : ∃ H : Heap, H = s.heap := ⟨_, rfl⟩
  obtain ⟨locs, hlc⟩ : ∃ L : List Loc, L = [] := ⟨_, rfl⟩
  have hP : va_P D vwCl (mw cs q v_thrown a_tape v_taped v_size v_to v_kind v_from v_letters v_letterMany v_digits v_isBeyond v_suffix v_steps v_fault v_hasProgram a_text a_act a_guess a_take a_begin a_finish a_to1 a_one a_two a_what a_ats a_atVar a_atNumber a_atomSort a_atomKind a_atomValue v_wrong v_wrongAt v_variable v_number v_numberKind v_takes a_out v_outed a_varSort a_varKind a_varValue a_creature v_creatures a_arrayClass a_arrayFrom a_arrayLong v_arrays v_cells a_cellSort a_cellKind a_cellValue a_asideSort a_asideKind a_asideValue a_outcome v_marks v_came v_guessed v_right v_taken a_markSort a_markKind a_markClass a_markValue v_sort v_kindAt v_value a_index v_reached v_looked) H := by rw [hH]; exact hP
  have hS : va_S A s.heap H locs := by rw [hH, hlc]; exact hS
  refine wHL hH hlc ?_
  have b_s9 := iB s9
  have hr9 := p_0.1
  have ho9 := p_1 s9.toNatClampNeg
  have ha9 := p_2 s9.toNatClampNeg
  refine lv_aload_n hx hb dX10_reach_0 rfl (lv_at hl 0 rfl) ?_
  refine lv_aload_n hx hb dX10_reach_1 rfl (lv_at hl 0 rfl) ?_
  refine va_get (D := D) (ci := 9) (v := .ref (q 9)) (C := RX10) (T := TX10) (N := 71) hx hb hts hin hown hK hP 0 rfl rfl 22 (by decide) k_5_15 (fun _ h9 => h9) rfl dX10_reach_2 ?_
  refine lv_iload_n hx hb dX10_reach_5 rfl (lv_at hl 1 rfl) ?_
  refine m_iald hx hb hK hP 9 0 rfl rfl (ix (by omega) (by omega)) dX10_reach_6 (fun x6 e_x6 => ?_)
  have b_x6 := iB x6
  have hx6 := congrArg Int32.toInt e_x6
  refine call_v (As := [.int x6]) (rest := []) ⟨hx, hb, hml, hown, hts⟩ (tX10_ofVar (l := l) x6 (by first | assumption | omega | (intros; omega) | decide) (by first | assumption | omega | (intros; omega) | decide) (by first | assumption | omega | (intros; omega) | decide)) (cwV 1 hts (gV (wr47 _ (List.mem_of_getElem? (i := 15) rfl)) (wr47 _ (List.mem_of_getElem? (i := 16) rfl)) (wr47 _ (List.mem_of_getElem? (i := 17) rfl)) (wr1 _ (List.mem_of_getElem? (i := 5) rfl)) (wr47 _ (List.mem_of_getElem? (i := 18) rfl))) rfl rfl rfl (by decide +kernel) ⟨Nat.le_of_ble_eq_true rfl, Nat.le_of_ble_eq_true rfl⟩) (va_recv hK hP (ci := 9) (q0 := 0) rfl rfl) hK hP hD hE hS hA rfl hl.1 rfl (Nat.le_of_ble_eq_true rfl) dX10_reach_7 ⟨Nat.le_of_ble_eq_true rfl, Nat.le_of_ble_eq_true rfl⟩ (fun w9 H locs hw7 hP hD hS => ?_)
  obtain ⟨v_sort_7, v_kindAt_7, v_value_7, rfl, hw7_0, hw7_1, hw7_2, hw7_3⟩ := hw7
  have b_v_sort_7 := iB v_sort_7
  have b_v_kindAt_7 := iB v_kindAt_7
  have b_v_value_7 := jB v_value_7
  refine lv_iconst (v := 0) hx hb dX10_reach_10 (by decide) ?_
  refine lv_istore_n (lv' := [(2, .int 0), (0, .ref (q 0)), (1, .int s9)]) hx hb dX10_reach_11 rfl hl (by decide) rfl (fun ls hl => ?_)
  have J12 : ∀ (n12 : Nat) (l2_12 : Int32) (v_kindAt_12 : Int32) (v_reached_12 : Int32) (v_sort_12 : Int32) (v_value_12 : Int64) (H : Heap) (locs : List Loc) (ls : Array Slot), (0 ≤ l2_12.toInt) → (l2_12.toInt ≤ 3) → (VOK v_arrays.toInt v_creatures.toInt v_sort_12 v_kindAt_12 v_value_12) → (l2_12.toInt = 0 ∨ l2_12.toInt < (a_ats s9.toNatClampNeg).toInt) → (3 - l2_12.toInt < (n12 : Int)) → va_P D vwCl (mw cs q v_thrown a_tape v_taped v_size v_to v_kind v_from v_letters v_letterMany v_digits v_isBeyond v_suffix v_steps v_fault v_hasProgram a_text a_act a_guess a_take a_begin a_finish a_to1 a_one a_two a_what a_ats a_atVar a_atNumber a_atomSort a_atomKind a_atomValue v_wrong v_wrongAt v_variable v_number v_numberKind v_takes a_out v_outed a_varSort a_varKind a_varValue a_creature v_creatures a_arrayClass a_arrayFrom a_arrayLong v_arrays v_cells a_cellSort a_cellKind a_cellValue a_asideSort a_asideKind a_asideValue a_outcome v_marks v_came v_guessed v_right v_taken a_markSort a_markKind a_markClass a_markValue v_sort_12 v_kindAt_12 v_value_12 a_index v_reached_12 v_looked) H → va_D A (mw cs q v_thrown a_tape v_taped v_size v_to v_kind v_from v_letters v_letterMany v_digits v_isBeyond v_suffix v_steps v_fault v_hasProgram a_text a_act a_guess a_take a_begin a_finish a_to1 a_one a_two a_what a_ats a_atVar a_atNumber a_atomSort a_atomKind a_atomValue v_wrong v_wrongAt v_variable v_number v_numberKind v_takes a_out v_outed a_varSort a_varKind a_varValue a_creature v_creatures a_arrayClass a_arrayFrom a_arrayLong v_arrays v_cells a_cellSort a_cellKind a_cellValue a_asideSort a_asideKind a_asideValue a_outcome v_marks v_came v_guessed v_right v_taken a_markSort a_markKind a_markClass a_markValue v_sort_12 v_kindAt_12 v_value_12 a_index v_reached_12 v_looked) → va_S A s.heap H locs → lv_has ls 4 [(0, .ref (q 0)), (1, .int s9), (2, .int l2_12)] → W p l e (headSpec (wG yX10_reach cX10_reach 4 (some .int)) rmX10_reach).room s m ([.ref (q 0), .int s9] : List Value).toArray below meth c H locs 0 0 Q (F0 m 12 ls []) := by
    intro n12
    induction n12 with
    | zero =>
      intro l2_12 v_kindAt_12 v_reached_12 v_sort_12 v_value_12 H locs ls f12_0 f12_1 f12_2 f12_3 hm12
      exfalso
      omega
    | succ n12 ih12 =>
      intro l2_12 v_kindAt_12 v_reached_12 v_sort_12 v_value_12 H locs ls f12_0 f12_1 f12_2 f12_3 hm12 hP hD hS hl
      refine lv_iload_n hx hb dX10_reach_12 rfl (lv_at hl 2 rfl) ?_
      refine lv_aload_n hx hb dX10_reach_13 rfl (lv_at hl 0 rfl) ?_
      refine va_get (D := D) (ci := 9) (v := .ref (q 12)) (C := RX10) (T := TX10) (N := 71) hx hb hts hin hown hK hP 0 rfl rfl 25 (by decide) k_5_18 (fun _ h9 => h9) rfl dX10_reach_14 ?_
      refine lv_iload_n hx hb dX10_reach_17 rfl (lv_at hl 1 rfl) ?_
      refine m_iald hx hb hK hP 12 0 rfl rfl (ix (by omega) (by omega)) dX10_reach_18 (fun x18 e_x18 => ?_)
      have b_x18 := iB x18
      have hx18 := congrArg Int32.toInt e_x18
      refine m_icmp_ge (X := l2_12.toInt) (Y := x18.toInt) (tgt := 82) hx hb dX10_reach_19 (by decide) rfl rfl (fun c19 => ?_) (fun c19 => ?_)
      · skip
        refine lv_iconst (v := 0) hx hb dX10_reach_82 (by decide) ?_
        subst hAe
        rw [hQ]
        exact W.iret (v := 0) hx hb hr (fun t ht hW => ⟨⟨0, _, rfl, ⟨v_sort_12, v_kindAt_12, v_value_12, v_reached_12, rfl, by first | assumption | omega | (intros; omega) | decide, by first | assumption | omega | (intros; omega) | decide⟩, by rw [ht]; exact hP, va_K.moved hW.alike hK, hD⟩, hS.F ht⟩) hS.2.2 dX10_reach_83
      · skip
        refine lv_aload_n hx hb dX10_reach_22 rfl (lv_at hl 0 rfl) ?_
        refine call_i (As := []) (rest := []) ⟨hx, hb, hml, hown, hts⟩ (tX10_asArray (l := l)  (by first | assumption | omega | (intros; omega) | decide) (by first | assumption | omega | (intros; omega) | decide)) (cwV 0 hts (gV (wr48 _ (List.mem_of_getElem? (i := 16) rfl)) (wr48 _ (List.mem_of_getElem? (i := 17) rfl)) (wr48 _ (List.mem_of_getElem? (i := 18) rfl)) (wr1 _ (List.mem_of_getElem? (i := 5) rfl)) (wr48 _ (List.mem_of_getElem? (i := 19) rfl))) rfl rfl rfl (by decide +kernel) ⟨Nat.le_of_ble_eq_true rfl, Nat.le_of_ble_eq_true rfl⟩) (va_recv hK hP (ci := 9) (q0 := 0) rfl rfl) hK hP hD hE hS hA rfl hl.1 rfl (Nat.le_of_ble_eq_true rfl) dX10_reach_23 ⟨Nat.le_of_ble_eq_true rfl, Nat.le_of_ble_eq_true rfl⟩ (fun r23 w9 H locs hw23 hP hD hS => ?_)
        obtain ⟨v_reached_23, rfl, hw23_0⟩ := hw23
        have b_v_reached_23 := iB v_reached_23
        have b_r23 := iB r23
        refine lv_istore_n (lv' := [(3, .int r23), (0, .ref (q 0)), (1, .int s9), (2, .int l2_12)]) hx hb dX10_reach_26 rfl hl (by decide) rfl (fun ls hl => ?_)
        refine lv_iload_n hx hb dX10_reach_27 rfl (lv_at hl 0 rfl) ?_
        refine m_if_le (X := r23.toInt) (tgt := 33) hx hb dX10_reach_28 (by decide) rfl (fun c28 => ?_) (fun c28 => ?_)
        · skip
          refine lv_iload_n hx hb dX10_reach_33 rfl (lv_at hl 3 rfl) ?_
          refine lv_aload_n hx hb dX10_reach_34 rfl (lv_at hl 1 rfl) ?_
          refine va_get (D := D) (ci := 9) (v := .ref (q 12)) (C := RX10) (T := TX10) (N := 71) hx hb hts hin hown hK hP 0 rfl rfl 25 (by decide) k_5_18 (fun _ h9 => h9) rfl dX10_reach_35 ?_
          refine lv_iload_n hx hb dX10_reach_38 rfl (lv_at hl 2 rfl) ?_
          refine m_iald hx hb hK hP 12 0 rfl rfl (ix (by omega) (by omega)) dX10_reach_39 (fun x39 e_x39 => ?_)
          have b_x39 := iB x39
          have hx39 := congrArg Int32.toInt e_x39
          refine lv_iconst (v := 1) hx hb dX10_reach_40 (by decide) ?_
          refine m_isub (X := x39.toInt) (Y := 1) hx hb dX10_reach_41 rfl (by decide) (fun x41 e_x41 g9 => ?_)
          obtain ⟨k_x41, g_x41⟩ := g9
          have b_x41 := iB x41
          try (have q_x41 : x41.toInt = x39.toInt - 1 := (by omega); clear g_x41 k_x41)
          refine m_icmp_ne (X := l2_12.toInt) (Y := x41.toInt) (tgt := 47) hx hb dX10_reach_42 (by decide) rfl rfl (fun c42 => ?_) (fun c42 => ?_)
          · skip
            refine lv_aload_n hx hb dX10_reach_47 rfl (lv_at hl 1 rfl) ?_
            refine lv_aload_n hx hb dX10_reach_48 rfl (lv_at hl 1 rfl) ?_
            refine va_get (D := D) (ci := 9) (v := .ref (q 37)) (C := RX10) (T := TX10) (N := 71) hx hb hts hin hown hK hP 0 rfl rfl 68 (by decide) k_6_19 (fun _ h9 => h9) rfl dX10_reach_49 ?_
            refine lv_iload_n hx hb dX10_reach_52 rfl (lv_at hl 3 rfl) ?_
            refine m_iald hx hb hK hP 37 0 rfl rfl (ix (by omega) (by omega)) dX10_reach_53 (fun x53 e_x53 => ?_)
            have b_x53 := iB x53
            refine call_i (As := [.int x53]) (rest := []) ⟨hx, hb, hml, hown, hts⟩ (tX10_isCell (l := l) x53 (by first | assumption | omega | (intros; omega) | decide) (by first | assumption | omega | (intros; omega) | decide)) (cwV 1 hts (gV (wr48 _ (List.mem_of_getElem? (i := 20) rfl)) (wr48 _ (List.mem_of_getElem? (i := 21) rfl)) (wr48 _ (List.mem_of_getElem? (i := 22) rfl)) (wr1 _ (List.mem_of_getElem? (i := 5) rfl)) (wr48 _ (List.mem_of_getElem? (i := 23) rfl))) rfl rfl rfl (by decide +kernel) ⟨Nat.le_of_ble_eq_true rfl, Nat.le_of_ble_eq_true rfl⟩) (va_recv hK hP (ci := 9) (q0 := 0) rfl rfl) hK hP hD hE hS hA rfl hl.1 rfl (Nat.le_of_ble_eq_true rfl) dX10_reach_54 ⟨Nat.le_of_ble_eq_true rfl, Nat.le_of_ble_eq_true rfl⟩ (fun r54 w9 H locs hw54 hP hD hS => ?_)
            obtain ⟨rfl, hw54_0⟩ := hw54
            have b_r54 := iB r54
            refine m_if_ne (X := r54.toInt) (tgt := 62) hx hb dX10_reach_57 (by decide) rfl (fun c57 => ?_) (fun c57 => ?_)
            · skip
              refine lv_aload_n hx hb dX10_reach_62 rfl (lv_at hl 1 rfl) ?_
              refine lv_aload_n hx hb dX10_reach_63 rfl (lv_at hl 1 rfl) ?_
              refine va_get (D := D) (ci := 9) (v := .int v_reached_23) (C := RX10) (T := TX10) (N := 71) hx hb hts hin hown hK hP 0 rfl rfl 69 (by decide) k_48_11 (fun _ h9 => h9) rfl dX10_reach_64 ?_
              refine lv_aload_n hx hb dX10_reach_67 rfl (lv_at hl 1 rfl) ?_
              refine va_get (D := D) (ci := 9) (v := .ref (q 37)) (C := RX10) (T := TX10) (N := 71) hx hb hts hin hown hK hP 0 rfl rfl 68 (by decide) k_6_19 (fun _ h9 => h9) rfl dX10_reach_68 ?_
              refine lv_iload_n hx hb dX10_reach_71 rfl (lv_at hl 3 rfl) ?_
              refine m_iald hx hb hK hP 37 0 rfl rfl (ix (by omega) (by omega)) dX10_reach_72 (fun x72 e_x72 => ?_)
              have b_x72 := iB x72
              have hx72 : x72.toInt = x53.toInt := by rw [e_x72, e_x53]
              have tr := tn (i := v_reached_23) (by omega)
              refine call_v (As := [.int v_reached_23, .int x72]) (rest := []) ⟨hx, hb, hml, hown, hts⟩ (tX10_ofCell (l := l) v_reached_23 x72 (by first | assumption | omega | (intros; omega) | decide) (by first | assumption | omega | (intros; omega) | decide) (by first | assumption | omega | (intros; omega) | decide) (by first | assumption | omega | (intros; omega) | decide) (by first | assumption | omega | (intros; omega) | decide)) (cwV 2 hts (gV (wr49 _ (List.mem_of_getElem? (i := 0) rfl)) (wr49 _ (List.mem_of_getElem? (i := 1) rfl)) (wr49 _ (List.mem_of_getElem? (i := 2) rfl)) (wr1 _ (List.mem_of_getElem? (i := 5) rfl)) (wr49 _ (List.mem_of_getElem? (i := 3) rfl))) rfl rfl rfl (by decide +kernel) ⟨Nat.le_of_ble_eq_true rfl, Nat.le_of_ble_eq_true rfl⟩) (va_recv hK hP (ci := 9) (q0 := 0) rfl rfl) hK hP hD hE hS hA rfl hl.1 rfl (Nat.le_of_ble_eq_true rfl) dX10_reach_73 ⟨Nat.le_of_ble_eq_true rfl, Nat.le_of_ble_eq_true rfl⟩ (fun w9 H locs hw73 hP hD hS => ?_)
              obtain ⟨v_sort_73, v_kindAt_73, v_value_73, rfl, hw73_0, hw73_1, hw73_2⟩ := hw73
              have b_v_sort_73 := iB v_sort_73
              have b_v_kindAt_73 := iB v_kindAt_73
              have b_v_value_73 := jB v_value_73
              obtain ⟨x76, e_x76⟩ : ∃ z : Int32, z = l2_12 + (1 : Int32) := ⟨_, rfl⟩
              obtain ⟨k_x76, g_x76⟩ : ∃ k : Int, x76.toInt = l2_12.toInt + (1) + k * 4294967296 := by rw [e_x76]; exact iAdd l2_12 (1)
              have b_x76 := iB x76
              try (have q_x76 : x76.toInt = l2_12.toInt + (1) := (by omega); clear g_x76 k_x76)
              refine lv_iinc (v := x76) (lv' := [(2, .int x76), (3, .int r23), (0, .ref (q 0)), (1, .int s9)]) hx hb dX10_reach_76 hl (k := 3) rfl (by rw [e_x76]; rfl) (by decide) rfl (fun ls hl => ?_)
              refine lv_goto (tgt := 12) hx hb dX10_reach_79 (by decide) ?_
              exact ih12 x76 v_kindAt_73 v_reached_23 v_sort_73 v_value_73 H locs ls (by first | assumption | omega | (intros; omega) | decide) (by first | assumption | omega | (intros; omega) | decide) (by first | assumption | omega | (intros; omega) | decide) (by first | assumption | omega | (intros; omega) | decide) (by omega) hP hD hS (lv_sub hl [2, 3, 0] rfl)
            · skip
              refine lv_iconst (v := 2) hx hb dX10_reach_60 (by decide) ?_
              subst hAe
              rw [hQ]
              exact W.iret (v := 2) hx hb hr (fun t ht hW => ⟨⟨2, _, rfl, ⟨v_sort_12, v_kindAt_12, v_value_12, v_reached_23, rfl, by first | assumption | omega | (intros; omega) | decide, by first | assumption | omega | (intros; omega) | decide⟩, by rw [ht]; exact hP, va_K.moved hW.alike hK, hD⟩, hS.F ht⟩) hS.2.2 dX10_reach_61
          · skip
            refine lv_iconst (v := 0) hx hb dX10_reach_45 (by decide) ?_
            subst hAe
            rw [hQ]
            exact W.iret (v := 0) hx hb hr (fun t ht hW => ⟨⟨0, _, rfl, ⟨v_sort_12, v_kindAt_12, v_value_12, v_reached_23, rfl, by first | assumption | omega | (intros; omega) | decide, by first | assumption | omega | (intros; omega) | decide⟩, by rw [ht]; exact hP, va_K.moved hW.alike hK, hD⟩, hS.F ht⟩) hS.2.2 dX10_reach_46
        · skip
          refine lv_iload_n hx hb dX10_reach_31 rfl (lv_at hl 0 rfl) ?_
          subst hAe
          rw [hQ]
          exact W.iret (v := r23) hx hb hr (fun t ht hW => ⟨⟨r23, _, rfl, ⟨v_sort_12, v_kindAt_12, v_value_12, v_reached_23, rfl, by first | assumption | omega | (intros; omega) | decide, by first | assumption | omega | (intros; omega) | decide⟩, by rw [ht]; exact hP, va_K.moved hW.alike hK, hD⟩, hS.F ht⟩) hS.2.2 dX10_reach_32
  exact J12 ((3 - (0 : Int32).toInt).toNat + 1) (0 : Int32) v_kindAt_7 v_reached v_sort_7 v_value_7 H locs ls (by first | assumption | omega | (intros; omega) | decide) (by first | assumption | omega | (intros; omega) | decide) (by first | assumption | omega | (intros; omega) | decide) (by first | assumption | omega | (intros; omega) | decide) (by omega) hP hD hS (lv_sub hl [1, 2, 0] rfl)

def rmX10_hasRoom : Room := { frames := 20, cells := 0, slots := 0, locals := 400 }
set_option maxHeartbeats 4000000 in
set_option maxRecDepth 100000 in
theorem tX10_hasRoom {l : Launch} {D : va_G} {K : Nat → Nat → Nat} {cs : Nat → ClassId} {q : Nat → Nat} {v_thrown v_taped v_size v_to v_kind v_from v_letterMany v_isBeyond v_suffix v_steps v_fault v_hasProgram v_wrong v_wrongAt v_variable v_numberKind v_takes v_outed v_creatures v_arrays v_cells v_marks v_came v_guessed v_right v_taken v_sort v_kindAt v_reached v_looked : Int32} {a_tape a_text a_act a_guess a_take a_begin a_finish a_to1 a_one a_two a_what a_ats a_atVar a_atNumber a_atomSort a_atomKind a_out a_varSort a_varKind a_creature a_arrayClass a_arrayFrom a_arrayLong a_cellSort a_cellKind a_asideSort a_asideKind a_outcome a_markSort a_markKind a_markClass a_index : Nat → Int32} {v_letters v_digits v_number v_value : Int64} {a_atomValue a_varValue a_cellValue a_asideValue a_markValue : Nat → Int64} (m9 : Int64) (c9 : Int64) (p_0 : 0 ≤ m9.toInt) (p_1 : m9.toInt ≤ 1000000000000) (p_2 : 0 ≤ c9.toInt) (p_3 : c9.toInt ≤ 1000000000000) (p_4 : 0 ≤ v_cells.toInt) (p_5 : v_cells.toInt ≤ 4000) (p_6 : 0 ≤ v_arrays.toInt) (p_7 : v_arrays.toInt ≤ 200) : CtI l yX10_hasRoom (wG yX10_hasRoom cX10_hasRoom 5 (some .boolean)) rmX10_hasRoom D (mwT cs) K [.ref (q 0), .long m9, .long c9] (mw cs q v_thrown a_tape v_taped v_size v_to v_kind v_from v_letters v_letterMany v_digits v_isBeyond v_suffix v_steps v_fault v_hasProgram a_text a_act a_guess a_take a_begin a_finish a_to1 a_one a_two a_what a_ats a_atVar a_atNumber a_atomSort a_atomKind a_atomValue v_wrong v_wrongAt v_variable v_number v_numberKind v_takes a_out v_outed a_varSort a_varKind a_varValue a_creature v_creatures a_arrayClass a_arrayFrom a_arrayLong v_arrays v_cells a_cellSort a_cellKind a_cellValue a_asideSort a_asideKind a_asideValue a_outcome v_marks v_came v_guessed v_right v_taken a_markSort a_markKind a_markClass a_markValue v_sort v_kindAt v_value a_index v_reached v_looked) (fun r w1 => w1 = (mw cs q v_thrown a_tape v_taped v_size v_to v_kind v_from v_letters v_letterMany v_digits v_isBeyond v_suffix v_steps v_fault v_hasProgram a_text a_act a_guess a_take a_begin a_finish a_to1 a_one a_two a_what a_ats a_atVar a_atNumber a_atomSort a_atomKind a_atomValue v_wrong v_wrongAt v_variable v_number v_numberKind v_takes a_out v_outed a_varSort a_varKind a_varValue a_creature v_creatures a_arrayClass a_arrayFrom a_arrayLong v_arrays v_cells a_cellSort a_cellKind a_cellValue a_asideSort a_asideKind a_asideValue a_outcome v_marks v_came v_guessed v_right v_taken a_markSort a_markKind a_markClass a_markValue v_sort v_kindAt v_value a_index v_reached v_looked) ∧ ((r.toInt = 1 ∧ c9.toInt ≤ 500 ∧ v_cells.toInt + c9.toInt ≤ 4000 ∧ v_arrays.toInt + m9.toInt ≤ 200) ∨ r.toInt = 0)) 0 0 := by
  intro sz
  refine Met.ofW (cc := cX10_hasRoom) (maxL := 5) (ret := (some .boolean)) (by decide) rfl ?_
  intro p e s m args below meth c s₁ B hml hv
  obtain ⟨rfl, hsz, hP, hK, hD0, hE⟩ := hv
  have hx := B.exec
  have hb := B.bytes
  have hr := B.returns
  have hts := atoms_spec (ws := (wG yX10_hasRoom cX10_hasRoom 5 (some .boolean))) B.pre
  have hown : s.vm.findClass RX10 = some m.cls := findClass_of_methodNamed B.named
  have hlocks := B.notSynchronized
  subst hsz
  have hD := hD0.self (sz := s.heap.size)
  obtain ⟨A, hAe⟩ : ∃ A : Nat → Prop, A = va_A (mw cs q v_thrown a_tape v_taped v_size v_to v_kind v_from v_letters v_letterMany v_digits v_isBeyond v_suffix v_steps v_fault v_hasProgram a_text a_act a_guess a_take a_begin a_finish a_to1 a_one a_two a_what a_ats a_atVar a_atNumber a_atomSort a_atomKind a_atomValue v_wrong v_wrongAt v_variable v_number v_numberKind v_takes a_out v_outed a_varSort a_varKind a_varValue a_creature v_creatures a_arrayClass a_arrayFrom a_arrayLong v_arrays v_cells a_cellSort a_cellKind a_cellValue a_asideSort a_asideKind a_asideValue a_outcome v_marks v_came v_guessed v_right v_taken a_markSort a_markKind a_markClass a_markValue v_sort v_kindAt v_value a_index v_reached v_looked) s.heap.size := ⟨_, rfl⟩
  rw [← hAe] at hD hE
  have hA : ∀ q : Nat, s.heap.size ≤ q → A q := fun q h => by rw [hAe]; exact Or.inr h
  have hS : va_S A s.heap s.heap [] := va_S.rf
  have hl := lv_entry ([.ref (q 0), .long m9, .long c9]) (n := 5) (Nat.le_of_ble_eq_true rfl)
  rw [lg_entry_eq]
  generalize (lg_sl ([.ref (q 0), .long m9, .long c9]) ++ List.replicate (5 - (lg_sl ([.ref (q 0), .long m9, .long c9])).length) Slot.unset).toArray = ls at hl ⊢
  have hl : lv_has ls 5 [(0, .ref (q 0)), (1, .long m9), (3, .long c9)] := hl
  refine wq (fun Q hQ => ?_)
  have hin : ∀ w ∈ wsX100, w ∈ (wG yX10_hasRoom cX10_hasRoom 5 (some .boolean)) := fun w h => List.mem_cons_of_mem _ (inlX10 w h)
  have kc0 : (0 : Int32).toInt = 0 := by decide
  have kc1 : (1 : Int32).toInt = 1 := by decide
  have kc2 : (200 : Int64).toInt = 200 := by decide
  have kc3 : (500 : Int64).toInt = 500 := by decide
  have kc4 : (4000 : Int64).toInt = 4000 := by decide
  have k_50_15 := hts (.constantLong RX10 537 (500)) (List.mem_cons_of_mem _ (wr50 _ (List.mem_of_getElem? (i := 15) rfl)))
  have k_31_5 := hts (.fieldLink RX10 475 "ArrayTrainerModel" "cells" "I") (List.mem_cons_of_mem _ (wr31 _ (List.mem_of_getElem? (i := 5) rfl)))
  have k_50_20 := hts (.constantLong RX10 539 (4000)) (List.mem_cons_of_mem _ (wr50 _ (List.mem_of_getElem? (i := 20) rfl)))
  have k_31_4 := hts (.fieldLink RX10 472 "ArrayTrainerModel" "arrays" "I") (List.mem_cons_of_mem _ (wr31 _ (List.mem_of_getElem? (i := 4) rfl)))
  have k_50_21 := hts (.constantLong RX10 541 (200)) (List.mem_cons_of_mem _ (wr50 _ (List.mem_of_getElem? (i := 21) rfl)))
  obtain ⟨H, hH⟩ : ∃ H : Heap, H = s.heap := ⟨_, rfl⟩
  obtain ⟨locs, hlc⟩ : ∃ L : List Loc, L = [] := ⟨_, rfl⟩
  have hP : va_P D vwCl (mw cs q v_thrown a_tape v_taped v_size v_to v_kind v_from v_letters v_letterMany v_digits v_isBeyond v_suffix v_steps v_fault v_hasProgram a_text a_act a_guess a_take a_begin a_finish a_to1 a_one a_two a_what a_ats a_atVar a_atNumber a_atomSort a_atomKind a_atomValue v_wrong v_wrongAt v_variable v_number v_numberKind v_takes a_out v_outed a_varSort a_varKind a_varValue a_creature v_creatures a_arrayClass a_arrayFrom a_arrayLong v_arrays v_cells a_cellSort a_cellKind a_cellValue a_asideSort a_asideKind a_asideValue a_outcome v_marks v_came v_guessed v_right v_taken a_markSort a_markKind a_markClass a_markValue v_sort v_kindAt v_value a_index v_reached v_looked) H := by rw [hH]; exact hP
  have hS : va_S A s.heap H locs := by rw [hH, hlc]; exact hS
  refine wHL hH hlc ?_
  have b_m9 := jB m9
  have b_c9 := jB c9
  refine lv_lload_n hx hb dX10_hasRoom_0 rfl (lv_at hl 2 rfl) ?_
  refine lv_ldc2 (v := 500) hx hb hown k_50_15 dX10_hasRoom_1 ?_
  refine m_lcmp (X := c9.toInt) (Y := 500) hx hb dX10_hasRoom_4 rfl (by decide) (fun x4 g_x4 => ?_)
  refine m_if_gt (X := x4.toInt) (tgt := 40) hx hb dX10_hasRoom_5 (by decide) rfl (fun c5 => ?_) (fun c5 => ?_)
  · skip
    refine lv_iconst (v := 0) hx hb dX10_hasRoom_40 (by decide) ?_
    subst hAe
    rw [hQ]
    exact W.zret (v := 0) hx hb hr (by decide) (fun t ht hW => ⟨⟨0, _, rfl, ⟨rfl, by first | assumption | omega | (intros; omega) | decide⟩, by rw [ht]; exact hP, va_K.moved hW.alike hK, hD⟩, hS.F ht⟩) hS.2.2 dX10_hasRoom_41
  · skip
    refine lv_aload_n hx hb dX10_hasRoom_8 rfl (lv_at hl 0 rfl) ?_
    refine va_get (D := D) (ci := 9) (v := .int v_cells) (C := RX10) (T := TX10) (N := 71) hx hb hts hin hown hK hP 0 rfl rfl 48 (by decide) k_31_5 (fun _ h9 => h9) rfl dX10_hasRoom_9 ?_
    refine m_i2l (X := v_cells.toInt) hx hb dX10_hasRoom_12 rfl (fun x12 e_x12 g_x12 => ?_)
    refine lv_lload_n hx hb dX10_hasRoom_13 rfl (lv_at hl 2 rfl) ?_
    refine m_ladd (X := x12.toInt) (Y := c9.toInt) hx hb dX10_hasRoom_14 rfl rfl (fun x14 e_x14 g9 => ?_)
    obtain ⟨k_x14, g_x14⟩ := g9
    have b_x14 := jB x14
    try (have q_x14 : x14.toInt = x12.toInt + c9.toInt := (by omega); clear g_x14 k_x14)
    refine lv_ldc2 (v := 4000) hx hb hown k_50_20 dX10_hasRoom_15 ?_
    refine m_lcmp (X := x14.toInt) (Y := 4000) hx hb dX10_hasRoom_18 rfl (by decide) (fun x18 g_x18 => ?_)
    refine m_if_gt (X := x18.toInt) (tgt := 40) hx hb dX10_hasRoom_19 (by decide) rfl (fun c19 => ?_) (fun c19 => ?_)
    · skip
      refine lv_iconst (v := 0) hx hb dX10_hasRoom_40 (by decide) ?_
      subst hAe
      rw [hQ]
      exact W.zret (v := 0) hx hb hr (by decide) (fun t ht hW => ⟨⟨0, _, rfl, ⟨rfl, by first | assumption | omega | (intros; omega) | decide⟩, by rw [ht]; exact hP, va_K.moved hW.alike hK, hD⟩, hS.F ht⟩) hS.2.2 dX10_hasRoom_41
    · skip
      refine lv_aload_n hx hb dX10_hasRoom_22 rfl (lv_at hl 0 rfl) ?_
      refine va_get (D := D) (ci := 9) (v := .int v_arrays) (C := RX10) (T := TX10) (N := 71) hx hb hts hin hown hK hP 0 rfl rfl 47 (by decide) k_31_4 (fun _ h9 => h9) rfl dX10_hasRoom_23 ?_
      refine m_i2l (X := v_arrays.toInt) hx hb dX10_hasRoom_26 rfl (fun x26 e_x26 g_x26 => ?_)
      refine lv_lload_n hx hb dX10_hasRoom_27 rfl (lv_at hl 1 rfl) ?_
      refine m_ladd (X := x26.toInt) (Y := m9.toInt) hx hb dX10_hasRoom_28 rfl rfl (fun x28 e_x28 g9 => ?_)
      obtain ⟨k_x28, g_x28⟩ := g9
      have b_x28 := jB x28
      try (have q_x28 : x28.toInt = x26.toInt + m9.toInt := (by omega); clear g_x28 k_x28)
      refine lv_ldc2 (v := 200) hx hb hown k_50_21 dX10_hasRoom_29 ?_
      refine m_lcmp (X := x28.toInt) (Y := 200) hx hb dX10_hasRoom_32 rfl (by decide) (fun x32 g_x32 => ?_)
      refine m_if_gt (X := x32.toInt) (tgt := 40) hx hb dX10_hasRoom_33 (by decide) rfl (fun c33 => ?_) (fun c33 => ?_)
      · skip
        refine lv_iconst (v := 0) hx hb dX10_hasRoom_40 (by decide) ?_
        subst hAe
        rw [hQ]
        exact W.zret (v := 0) hx hb hr (by decide) (fun t ht hW => ⟨⟨0, _, rfl, ⟨rfl, by first | assumption | omega | (intros; omega) | decide⟩, by rw [ht]; exact hP, va_K.moved hW.alike hK, hD⟩, hS.F ht⟩) hS.2.2 dX10_hasRoom_41
      · skip
        refine lv_iconst (v := 1) hx hb dX10_hasRoom_36 (by decide) ?_
        refine lv_goto (tgt := 41) hx hb dX10_hasRoom_37 (by decide) ?_
        subst hAe
        rw [hQ]
        exact W.zret (v := 1) hx hb hr (by decide) (fun t ht hW => ⟨⟨1, _, rfl, ⟨rfl, by first | assumption | omega | (intros; omega) | decide⟩, by rw [ht]; exact hP, va_K.moved hW.alike hK, hD⟩, hS.F ht⟩) hS.2.2 dX10_hasRoom_41

def rmX10_mayStore : Room := { frames := 80, cells := 0, slots := 0, locals := 1600 }
set_option maxHeartbeats 4000000 in
set_option maxRecDepth 100000 in
theorem tX10_mayStore {l : Launch} {D : va_G} {K : Nat → Nat → Nat} {cs : Nat → ClassId} {q : Nat → Nat} {v_thrown v_taped v_size v_to v_kind v_from v_letterMany v_isBeyond v_suffix v_steps v_fault v_hasProgram v_wrong v_wrongAt v_variable v_numberKind v_takes v_outed v_creatures v_arrays v_cells v_marks v_came v_guessed v_right v_taken v_sort v_kindAt v_reached v_looked : Int32} {a_tape a_text a_act a_guess a_take a_begin a_finish a_to1 a_one a_two a_what a_ats a_atVar a_atNumber a_atomSort a_atomKind a_out a_varSort a_varKind a_creature a_arrayClass a_arrayFrom a_arrayLong a_cellSort a_cellKind a_asideSort a_asideKind a_outcome a_markSort a_markKind a_markClass a_index : Nat → Int32} {v_letters v_digits v_number v_value : Int64} {a_atomValue a_varValue a_cellValue a_asideValue a_markValue : Nat → Int64} (c9 : Int32) (z9 : Int32) (p_0 : RUN a_varSort a_varKind a_varValue v_arrays v_cells v_creatures a_arrayClass a_arrayFrom a_arrayLong a_cellSort a_cellKind a_cellValue) (p_1 : VOK v_arrays.toInt v_creatures.toInt v_sort v_kindAt v_value) (p_2 : 20 ≤ c9.toInt) (p_3 : c9.toInt ≤ 79) : CtI l yX10_mayStore (wG yX10_mayStore cX10_mayStore 4 (some .int)) rmX10_mayStore D (mwT cs) K [.ref (q 0), .int c9, .int z9] (mw cs q v_thrown a_tape v_taped v_size v_to v_kind v_from v_letters v_letterMany v_digits v_isBeyond v_suffix v_steps v_fault v_hasProgram a_text a_act a_guess a_take a_begin a_finish a_to1 a_one a_two a_what a_ats a_atVar a_atNumber a_atomSort a_atomKind a_atomValue v_wrong v_wrongAt v_variable v_number v_numberKind v_takes a_out v_outed a_varSort a_varKind a_varValue a_creature v_creatures a_arrayClass a_arrayFrom a_arrayLong v_arrays v_cells a_cellSort a_cellKind a_cellValue a_asideSort a_asideKind a_asideValue a_outcome v_marks v_came v_guessed v_right v_taken a_markSort a_markKind a_markClass a_markValue v_sort v_kindAt v_value a_index v_reached v_looked) (fun r w1 => ∃ (v_kindAt' : Int32) (v_value' : Int64), w1 = (mw cs q v_thrown a_tape v_taped v_size v_to v_kind v_from v_letters v_letterMany v_digits v_isBeyond v_suffix v_steps v_fault v_hasProgram a_text a_act a_guess a_take a_begin a_finish a_to1 a_one a_two a_what a_ats a_atVar a_atNumber a_atomSort a_atomKind a_atomValue v_wrong v_wrongAt v_variable v_number v_numberKind v_takes a_out v_outed a_varSort a_varKind a_varValue a_creature v_creatures a_arrayClass a_arrayFrom a_arrayLong v_arrays v_cells a_cellSort a_cellKind a_cellValue a_asideSort a_asideKind a_asideValue a_outcome v_marks v_came v_guessed v_right v_taken a_markSort a_markKind a_markClass a_markValue v_sort v_kindAt' v_value' a_index v_reached v_looked) ∧ (VOK v_arrays.toInt v_creatures.toInt v_sort v_kindAt' v_value') ∧ (0 ≤ r.toInt) ∧ (0 < r.toInt ∨ (r.toInt = 0 ∧ (v_sort.toInt = 3 → (a_arrayClass v_value'.toInt.toNat).toInt / 20 + 1 = c9.toInt / 20) ∧ (c9.toInt < 28 → v_sort.toInt = 1)))) 0 0 := by
  intro sz
  refine Met.ofW (cc := cX10_mayStore) (maxL := 4) (ret := (some .int)) (by decide) rfl ?_
  intro p e s m args below meth c s₁ B hml hv
  obtain ⟨rfl, hsz, hP, hK, hD0, hE⟩ := hv
  have hx := B.exec
  have hb := B.bytes
  have hr := B.returns
  have hts := atoms_spec (ws := (wG yX10_mayStore cX10_mayStore 4 (some .int))) B.pre
  have hown : s.vm.findClass RX10 = some m.cls := findClass_of_methodNamed B.named
  have hlocks := B.notSynchronized
  subst hsz
  have hD := hD0.self (sz := s.heap.size)
  obtain ⟨A, hAe⟩ : ∃ A : Nat → Prop, A = va_A (mw cs q v_thrown a_tape v_taped v_size v_to v_kind v_from v_letters v_letterMany v_digits v_isBeyond v_suffix v_steps v_fault v_hasProgram a_text a_act a_guess a_take a_begin a_finish a_to1 a_one a_two a_what a_ats a_atVar a_atNumber a_atomSort a_atomKind a_atomValue v_wrong v_wrongAt v_variable v_number v_numberKind v_takes a_out v_outed a_varSort a_varKind a_varValue a_creature v_creatures a_arrayClass a_arrayFrom a_arrayLong v_arrays v_cells a_cellSort a_cellKind a_cellValue a_asideSort a_asideKind a_asideValue a_outcome v_marks v_came v_guessed v_right v_taken a_markSort a_markKind a_markClass a_markValue v_sort v_kindAt v_value a_index v_reached v_looked) s.heap.size := ⟨_, rfl⟩
  rw [← hAe] at hD hE
  have hA : ∀ q : Nat, s.heap.size ≤ q → A q := fun q h => by rw [hAe]; exact Or.inr h
  have hS : va_S A s.heap s.heap [] := va_S.rf
  have hl := lv_entry ([.ref (q 0), .int c9, .int z9]) (n := 4) (Nat.le_of_ble_eq_true rfl)
  rw [lg_entry_eq]
  generalize (lg_sl ([.ref (q 0), .int c9, .int z9]) ++ List.replicate (4 - (lg_sl ([.ref (q 0), .int c9, .int z9])).length) Slot.unset).toArray = ls at hl ⊢
  have hl : lv_has ls 4 [(0, .ref (q 0)), (1, .int c9), (2, .int z9)] := hl
  refine wq (fun Q hQ => ?_)
  have hin : ∀ w ∈ wsX100, w ∈ (wG yX10_mayStore cX10_mayStore 4 (some .int)) := fun w h => List.mem_cons_of_mem _ (inlX10 w h)
  have kc0 : (0 : Int32).toInt = 0 := by decide
  have kc1 : (1 : Int32).toInt = 1 := by decide
  have kc2 : (4 : Int32).toInt = 4 := by decide
  have kc3 : (6 : Int32).toInt = 6 := by decide
  have k_47_12 := hts (.fieldLink RX10 493 "ArrayTrainerModel" "sort" "I") (List.mem_cons_of_mem _ (wr47 _ (List.mem_of_getElem? (i := 12) rfl)))
  have k_47_13 := hts (.fieldLink RX10 496 "ArrayTrainerModel" "kindAt" "I") (List.mem_cons_of_mem _ (wr47 _ (List.mem_of_getElem? (i := 13) rfl)))
  have k_47_14 := hts (.fieldLink RX10 499 "ArrayTrainerModel" "value" "J") (List.mem_cons_of_mem _ (wr47 _ (List.mem_of_getElem? (i := 14) rfl)))
  obtain ⟨H, hH⟩ : ∃ H : Heap, H = s.heap := ⟨_, rfl⟩
  obtain ⟨locs, hlc⟩ : ∃ L : List Loc, L = [] := ⟨_, rfl⟩
  have hP : va_P D vwCl (mw cs q v_thrown a_tape v_taped v_size v_to v_kind v_from v_letters v_letterMany v_digits v_isBeyond v_suffix v_steps v_fault v_hasProgram a_text a_act a_guess a_take a_begin a_finish a_to1 a_one a_two a_what a_ats a_atVar a_atNumber a_atomSort a_atomKind a_atomValue v_wrong v_wrongAt v_variable v_number v_numberKind v_takes a_out v_outed a_varSort a_varKind a_varValue a_creature v_creatures a_arrayClass a_arrayFrom a_arrayLong v_arrays v_cells a_cellSort a_cellKind a_cellValue a_asideSort a_asideKind a_asideValue a_outcome v_marks v_came v_guessed v_right v_taken a_markSort a_markKind a_markClass a_markValue v_sort v_kindAt v_value a_index v_reached v_looked) H := by rw [hH]; exact hP
  have hS : va_S A s.heap H locs := by rw [hH, hlc]; exact hS
  refine wHL hH hlc ?_
  have b_c9 := iB c9
  have b_z9 := iB z9
  have hr9 := p_0.1
  obtain ⟨hv0, hv1, hv2, hv3⟩ := id p_1
  refine lv_iload_n hx hb dX10_mayStore_0 rfl (lv_at hl 1 rfl) ?_
  refine call_iSP (As := [.int c9]) (rest := []) ⟨hx, hb, hml, hown, hts⟩ (tX10_elements (l := l) c9) (va_cwS 1 hts (gS (wr49 _ (List.mem_of_getElem? (i := 18) rfl)) (wr49 _ (List.mem_of_getElem? (i := 19) rfl)) (wr1 _ (List.mem_of_getElem? (i := 5) rfl)) (wr49 _ (List.mem_of_getElem? (i := 20) rfl))) rfl rfl rfl (by decide +kernel) ⟨Nat.le_of_ble_eq_true rfl, Nat.le_of_ble_eq_true rfl⟩) (hK.sub [] rfl) hP hD hE hS hA rfl hl.1 rfl (Nat.le_of_ble_eq_true rfl) dX10_mayStore_1 ⟨Nat.le_of_ble_eq_true rfl, Nat.le_of_ble_eq_true rfl⟩ (fun r1 w9 H locs hw1 hP hD hS => ?_)
  obtain ⟨rfl, hw1_0⟩ := hw1
  have b_r1 := iB r1
  refine lv_istore_n (lv' := [(3, .int r1), (0, .ref (q 0)), (1, .int c9), (2, .int z9)]) hx hb dX10_mayStore_4 rfl hl (by decide) rfl (fun ls hl => ?_)
  refine lv_iload_n hx hb dX10_mayStore_5 rfl (lv_at hl 2 rfl) ?_
  refine call_iSP (As := [.int c9]) (rest := []) ⟨hx, hb, hml, hown, hts⟩ (tX10_isOfNumbers (l := l) c9) (va_cwS 1 hts (gS (wr49 _ (List.mem_of_getElem? (i := 4) rfl)) (wr49 _ (List.mem_of_getElem? (i := 5) rfl)) (wr1 _ (List.mem_of_getElem? (i := 5) rfl)) (wr49 _ (List.mem_of_getElem? (i := 6) rfl))) rfl rfl rfl (by decide +kernel) ⟨Nat.le_of_ble_eq_true rfl, Nat.le_of_ble_eq_true rfl⟩) (hK.sub [] rfl) hP hD hE hS hA rfl hl.1 rfl (Nat.le_of_ble_eq_true rfl) dX10_mayStore_6 ⟨Nat.le_of_ble_eq_true rfl, Nat.le_of_ble_eq_true rfl⟩ (fun r6 w9 H locs hw6 hP hD hS => ?_)
  obtain ⟨rfl, hw6_0⟩ := hw6
  have b_r6 := iB r6
  refine m_if_eq (X := r6.toInt) (tgt := 57) hx hb dX10_mayStore_9 (by decide) rfl (fun c9 => ?_) (fun c9 => ?_)
  · skip
    refine lv_aload_n hx hb dX10_mayStore_57 rfl (lv_at hl 1 rfl) ?_
    refine va_get (D := D) (ci := 9) (v := .int v_sort) (C := RX10) (T := TX10) (N := 71) hx hb hts hin hown hK hP 0 rfl rfl 65 (by decide) k_47_12 (fun _ h9 => h9) rfl dX10_mayStore_58 ?_
    refine lv_iconst (v := 1) hx hb dX10_mayStore_61 (by decide) ?_
    refine m_icmp_ne (X := v_sort.toInt) (Y := 1) (tgt := 68) hx hb dX10_mayStore_62 (by decide) rfl (by decide) (fun c62 => ?_) (fun c62 => ?_)
    · skip
      refine lv_aload_n hx hb dX10_mayStore_68 rfl (lv_at hl 1 rfl) ?_
      refine va_get (D := D) (ci := 9) (v := .int v_sort) (C := RX10) (T := TX10) (N := 71) hx hb hts hin hown hK hP 0 rfl rfl 65 (by decide) k_47_12 (fun _ h9 => h9) rfl dX10_mayStore_69 ?_
      refine m_if_eq (X := v_sort.toInt) (tgt := 86) hx hb dX10_mayStore_72 (by decide) rfl (fun c72 => ?_) (fun c72 => ?_)
      · skip
        refine lv_iconst (v := 0) hx hb dX10_mayStore_86 (by decide) ?_
        refine lv_goto (tgt := 100) hx hb dX10_mayStore_87 (by decide) ?_
        subst hAe
        rw [hQ]
        exact W.iret (v := 0) hx hb hr (fun t ht hW => ⟨⟨0, _, rfl, ⟨v_kindAt, v_value, rfl, by first | assumption | omega | (intros; omega) | decide, by first | assumption | omega | (intros; omega) | decide, by first | exact Or.inl (by decide) | exact Or.inr ⟨by decide, fun h3 => by omega, fun h28 => by omega⟩ | exact Or.inr ⟨by decide, fun h3 => by have h4 := hv1 h3; have h5 := hw76_0 h3; have h6 := (p_0.2.1 v_value.toInt.toNat (by omega)).1; have h7 := ((hw80_1 (by omega) (by omega)).resolve_right (fun q => by omega)).2.dims; omega, fun h28 => by omega⟩⟩, by rw [ht]; exact hP, va_K.moved hW.alike hK, hD⟩, hS.F ht⟩) hS.2.2 dX10_mayStore_100
      · skip
        refine lv_aload_n hx hb dX10_mayStore_75 rfl (lv_at hl 1 rfl) ?_
        refine call_i (As := []) (rest := []) ⟨hx, hb, hml, hown, hts⟩ (tX10_classOf (l := l)  (by first | assumption | omega | (intros; omega) | decide) (by first | assumption | omega | (intros; omega) | decide)) (cwV 0 hts (gV (wr49 _ (List.mem_of_getElem? (i := 21) rfl)) (wr49 _ (List.mem_of_getElem? (i := 22) rfl)) (wr49 _ (List.mem_of_getElem? (i := 23) rfl)) (wr1 _ (List.mem_of_getElem? (i := 5) rfl)) (wr50 _ (List.mem_of_getElem? (i := 0) rfl))) rfl rfl rfl (by decide +kernel) ⟨Nat.le_of_ble_eq_true rfl, Nat.le_of_ble_eq_true rfl⟩) (va_recv hK hP (ci := 9) (q0 := 0) rfl rfl) hK hP hD hE hS hA rfl hl.1 rfl (Nat.le_of_ble_eq_true rfl) dX10_mayStore_76 ⟨Nat.le_of_ble_eq_true rfl, Nat.le_of_ble_eq_true rfl⟩ (fun r76 w9 H locs hw76 hP hD hS => ?_)
        obtain ⟨rfl, hw76_0, hw76_1⟩ := hw76
        have b_r76 := iB r76
        refine lv_iload_n hx hb dX10_mayStore_79 rfl (lv_at hl 0 rfl) ?_
        refine call_iSP (As := [.int r76, .int r1]) (rest := []) ⟨hx, hb, hml, hown, hts⟩ (tX10_isBelow (l := l) r76 r1) (va_cwS 2 hts (gS (wr50 _ (List.mem_of_getElem? (i := 1) rfl)) (wr50 _ (List.mem_of_getElem? (i := 2) rfl)) (wr1 _ (List.mem_of_getElem? (i := 5) rfl)) (wr50 _ (List.mem_of_getElem? (i := 3) rfl))) rfl rfl rfl (by decide +kernel) ⟨Nat.le_of_ble_eq_true rfl, Nat.le_of_ble_eq_true rfl⟩) (hK.sub [] rfl) hP hD hE hS hA rfl hl.1 rfl (Nat.le_of_ble_eq_true rfl) dX10_mayStore_80 ⟨Nat.le_of_ble_eq_true rfl, Nat.le_of_ble_eq_true rfl⟩ (fun r80 w9 H locs hw80 hP hD hS => ?_)
        obtain ⟨rfl, hw80_0, hw80_1⟩ := hw80
        have b_r80 := iB r80
        refine m_if_eq (X := r80.toInt) (tgt := 90) hx hb dX10_mayStore_83 (by decide) rfl (fun c83 => ?_) (fun c83 => ?_)
        · skip
          refine lv_iload_n hx hb dX10_mayStore_90 rfl (lv_at hl 3 rfl) ?_
          refine m_if_eq (X := z9.toInt) (tgt := 98) hx hb dX10_mayStore_91 (by decide) rfl (fun c91 => ?_) (fun c91 => ?_)
          · skip
            refine lv_bipush (v := 6) hx hb dX10_mayStore_98 (by decide) ?_
            subst hAe
            rw [hQ]
            exact W.iret (v := 6) hx hb hr (fun t ht hW => ⟨⟨6, _, rfl, ⟨v_kindAt, v_value, rfl, by first | assumption | omega | (intros; omega) | decide, by first | assumption | omega | (intros; omega) | decide, by first | exact Or.inl (by decide) | exact Or.inr ⟨by decide, fun h3 => by omega, fun h28 => by omega⟩ | exact Or.inr ⟨by decide, fun h3 => by have h4 := hv1 h3; have h5 := hw76_0 h3; have h6 := (p_0.2.1 v_value.toInt.toNat (by omega)).1; have h7 := ((hw80_1 (by omega) (by omega)).resolve_right (fun q => by omega)).2.dims; omega, fun h28 => by omega⟩⟩, by rw [ht]; exact hP, va_K.moved hW.alike hK, hD⟩, hS.F ht⟩) hS.2.2 dX10_mayStore_100
          · skip
            refine lv_iconst (v := 4) hx hb dX10_mayStore_94 (by decide) ?_
            refine lv_goto (tgt := 100) hx hb dX10_mayStore_95 (by decide) ?_
            subst hAe
            rw [hQ]
            exact W.iret (v := 4) hx hb hr (fun t ht hW => ⟨⟨4, _, rfl, ⟨v_kindAt, v_value, rfl, by first | assumption | omega | (intros; omega) | decide, by first | assumption | omega | (intros; omega) | decide, by first | exact Or.inl (by decide) | exact Or.inr ⟨by decide, fun h3 => by omega, fun h28 => by omega⟩ | exact Or.inr ⟨by decide, fun h3 => by have h4 := hv1 h3; have h5 := hw76_0 h3; have h6 := (p_0.2.1 v_value.toInt.toNat (by omega)).1; have h7 := ((hw80_1 (by omega) (by omega)).resolve_right (fun q => by omega)).2.dims; omega, fun h28 => by omega⟩⟩, by rw [ht]; exact hP, va_K.moved hW.alike hK, hD⟩, hS.F ht⟩) hS.2.2 dX10_mayStore_100
        · skip
          refine lv_iconst (v := 0) hx hb dX10_mayStore_86 (by decide) ?_
          refine lv_goto (tgt := 100) hx hb dX10_mayStore_87 (by decide) ?_
          subst hAe
          rw [hQ]
          exact W.iret (v := 0) hx hb hr (fun t ht hW => ⟨⟨0, _, rfl, ⟨v_kindAt, v_value, rfl, by first | assumption | omega | (intros; omega) | decide, by first | assumption | omega | (intros; omega) | decide, by first | exact Or.inl (by decide) | exact Or.inr ⟨by decide, fun h3 => by omega, fun h28 => by omega⟩ | exact Or.inr ⟨by decide, fun h3 => by have h4 := hv1 h3; have h5 := hw76_0 h3; have h6 := (p_0.2.1 v_value.toInt.toNat (by omega)).1; have h7 := ((hw80_1 (by omega) (by omega)).resolve_right (fun q => by omega)).2.dims; omega, fun h28 => by omega⟩⟩, by rw [ht]; exact hP, va_K.moved hW.alike hK, hD⟩, hS.F ht⟩) hS.2.2 dX10_mayStore_100
    · skip
      refine lv_bipush (v := 6) hx hb dX10_mayStore_65 (by decide) ?_
      subst hAe
      rw [hQ]
      exact W.iret (v := 6) hx hb hr (fun t ht hW => ⟨⟨6, _, rfl, ⟨v_kindAt, v_value, rfl, by first | assumption | omega | (intros; omega) | decide, by first | assumption | omega | (intros; omega) | decide, by first | assumption | omega | (intros; omega) | decide⟩, by rw [ht]; exact hP, va_K.moved hW.alike hK, hD⟩, hS.F ht⟩) hS.2.2 dX10_mayStore_67
  · skip
    refine lv_aload_n hx hb dX10_mayStore_12 rfl (lv_at hl 1 rfl) ?_
    refine va_get (D := D) (ci := 9) (v := .int v_sort) (C := RX10) (T := TX10) (N := 71) hx hb hts hin hown hK hP 0 rfl rfl 65 (by decide) k_47_12 (fun _ h9 => h9) rfl dX10_mayStore_13 ?_
    refine lv_iconst (v := 1) hx hb dX10_mayStore_16 (by decide) ?_
    refine m_icmp_ne (X := v_sort.toInt) (Y := 1) (tgt := 31) hx hb dX10_mayStore_17 (by decide) rfl (by decide) (fun c17 => ?_) (fun c17 => ?_)
    · skip
      refine lv_bipush (v := 6) hx hb dX10_mayStore_31 (by decide) ?_
      subst hAe
      rw [hQ]
      exact W.iret (v := 6) hx hb hr (fun t ht hW => ⟨⟨6, _, rfl, ⟨v_kindAt, v_value, rfl, by first | assumption | omega | (intros; omega) | decide, by first | assumption | omega | (intros; omega) | decide, by first | assumption | omega | (intros; omega) | decide⟩, by rw [ht]; exact hP, va_K.moved hW.alike hK, hD⟩, hS.F ht⟩) hS.2.2 dX10_mayStore_33
    · skip
      refine lv_aload_n hx hb dX10_mayStore_20 rfl (lv_at hl 1 rfl) ?_
      refine va_get (D := D) (ci := 9) (v := .int v_kindAt) (C := RX10) (T := TX10) (N := 71) hx hb hts hin hown hK hP 0 rfl rfl 66 (by decide) k_47_13 (fun _ h9 => h9) rfl dX10_mayStore_21 ?_
      refine lv_iload_n hx hb dX10_mayStore_24 rfl (lv_at hl 0 rfl) ?_
      refine call_iSP (As := [.int v_kindAt, .int r1]) (rest := []) ⟨hx, hb, hml, hown, hts⟩ (tX10_widens (l := l) v_kindAt r1) (va_cwS 2 hts (gS (wr49 _ (List.mem_of_getElem? (i := 7) rfl)) (wr49 _ (List.mem_of_getElem? (i := 8) rfl)) (wr1 _ (List.mem_of_getElem? (i := 5) rfl)) (wr49 _ (List.mem_of_getElem? (i := 9) rfl))) rfl rfl rfl (by decide +kernel) ⟨Nat.le_of_ble_eq_true rfl, Nat.le_of_ble_eq_true rfl⟩) (hK.sub [] rfl) hP hD hE hS hA rfl hl.1 rfl (Nat.le_of_ble_eq_true rfl) dX10_mayStore_25 ⟨Nat.le_of_ble_eq_true rfl, Nat.le_of_ble_eq_true rfl⟩ (fun r25 w9 H locs hw25 hP hD hS => ?_)
      obtain ⟨rfl, hw25_0⟩ := hw25
      have b_r25 := iB r25
      refine m_if_ne (X := r25.toInt) (tgt := 34) hx hb dX10_mayStore_28 (by decide) rfl (fun c28 => ?_) (fun c28 => ?_)
      · skip
        refine lv_aload_n hx hb dX10_mayStore_34 rfl (lv_at hl 1 rfl) ?_
        refine lv_aload_n hx hb dX10_mayStore_35 rfl (lv_at hl 1 rfl) ?_
        refine va_get (D := D) (ci := 9) (v := .int v_kindAt) (C := RX10) (T := TX10) (N := 71) hx hb hts hin hown hK hP 0 rfl rfl 66 (by decide) k_47_13 (fun _ h9 => h9) rfl dX10_mayStore_36 ?_
        refine lv_aload_n hx hb dX10_mayStore_39 rfl (lv_at hl 1 rfl) ?_
        refine va_get (D := D) (ci := 9) (v := .long v_value) (C := RX10) (T := TX10) (N := 71) hx hb hts hin hown hK hP 0 rfl rfl 67 (by decide) k_47_14 (fun _ h9 => h9) rfl dX10_mayStore_40 ?_
        refine lv_iload_n hx hb dX10_mayStore_43 rfl (lv_at hl 0 rfl) ?_
        refine call_jSP (As := [.int v_kindAt, .long v_value, .int r1]) (rest := [.ref (q 0)]) ⟨hx, hb, hml, hown, hts⟩ (tX10_widened (l := l) v_kindAt v_value r1 (by exact hv3 (by omega))) (va_cwS 3 hts (gS (wr27 _ (List.mem_of_getElem? (i := 12) rfl)) (wr27 _ (List.mem_of_getElem? (i := 13) rfl)) (wr1 _ (List.mem_of_getElem? (i := 5) rfl)) (wr27 _ (List.mem_of_getElem? (i := 14) rfl))) rfl rfl rfl (by decide +kernel) ⟨Nat.le_of_ble_eq_true rfl, Nat.le_of_ble_eq_true rfl⟩) (hK.sub [] rfl) hP hD hE hS hA rfl hl.1 rfl (Nat.le_of_ble_eq_true rfl) dX10_mayStore_44 ⟨Nat.le_of_ble_eq_true rfl, Nat.le_of_ble_eq_true rfl⟩ (fun r44 w9 H locs hw44 hP hD hS => ?_)
        obtain ⟨rfl, hw44_0⟩ := hw44
        have b_r44 := jB r44
        refine va_put (D := D) (ci := 9) (v := .long r44) (ty := .long) (C := RX10) (T := TX10) (N := 71) hx hb hts hin tyX10 tyX10_ok nmX10 hown hK hP hD hS 0 rfl rfl 67 (by decide) k_47_14 (fun _ h9 => h9) rfl (by decide +kernel) rfl rfl (Nat.le_of_ble_eq_true rfl) dX10_mayStore_47 (fun H locs hP hD hS => ?_)
        have hP : va_P D vwCl (mw cs q v_thrown a_tape v_taped v_size v_to v_kind v_from v_letters v_letterMany v_digits v_isBeyond v_suffix v_steps v_fault v_hasProgram a_text a_act a_guess a_take a_begin a_finish a_to1 a_one a_two a_what a_ats a_atVar a_atNumber a_atomSort a_atomKind a_atomValue v_wrong v_wrongAt v_variable v_number v_numberKind v_takes a_out v_outed a_varSort a_varKind a_varValue a_creature v_creatures a_arrayClass a_arrayFrom a_arrayLong v_arrays v_cells a_cellSort a_cellKind a_cellValue a_asideSort a_asideKind a_asideValue a_outcome v_marks v_came v_guessed v_right v_taken a_markSort a_markKind a_markClass a_markValue v_sort v_kindAt r44 a_index v_reached v_looked) H := hP
        have hD : va_D A (mw cs q v_thrown a_tape v_taped v_size v_to v_kind v_from v_letters v_letterMany v_digits v_isBeyond v_suffix v_steps v_fault v_hasProgram a_text a_act a_guess a_take a_begin a_finish a_to1 a_one a_two a_what a_ats a_atVar a_atNumber a_atomSort a_atomKind a_atomValue v_wrong v_wrongAt v_variable v_number v_numberKind v_takes a_out v_outed a_varSort a_varKind a_varValue a_creature v_creatures a_arrayClass a_arrayFrom a_arrayLong v_arrays v_cells a_cellSort a_cellKind a_cellValue a_asideSort a_asideKind a_asideValue a_outcome v_marks v_came v_guessed v_right v_taken a_markSort a_markKind a_markClass a_markValue v_sort v_kindAt r44 a_index v_reached v_looked) := hD
        refine lv_aload_n hx hb dX10_mayStore_50 rfl (lv_at hl 1 rfl) ?_
        refine lv_iload_n hx hb dX10_mayStore_51 rfl (lv_at hl 0 rfl) ?_
        refine va_put (D := D) (ci := 9) (v := .int r1) (ty := .int) (C := RX10) (T := TX10) (N := 71) hx hb hts hin tyX10 tyX10_ok nmX10 hown hK hP hD hS 0 rfl rfl 66 (by decide) k_47_13 (fun _ h9 => h9) rfl (by decide +kernel) rfl rfl (Nat.le_of_ble_eq_true rfl) dX10_mayStore_52 (fun H locs hP hD hS => ?_)
        have hP : va_P D vwCl (mw cs q v_thrown a_tape v_taped v_size v_to v_kind v_from v_letters v_letterMany v_digits v_isBeyond v_suffix v_steps v_fault v_hasProgram a_text a_act a_guess a_take a_begin a_finish a_to1 a_one a_two a_what a_ats a_atVar a_atNumber a_atomSort a_atomKind a_atomValue v_wrong v_wrongAt v_variable v_number v_numberKind v_takes a_out v_outed a_varSort a_varKind a_varValue a_creature v_creatures a_arrayClass a_arrayFrom a_arrayLong v_arrays v_cells a_cellSort a_cellKind a_cellValue a_asideSort a_asideKind a_asideValue a_outcome v_marks v_came v_guessed v_right v_taken a_markSort a_markKind a_markClass a_markValue v_sort r1 r44 a_index v_reached v_looked) H := hP
        have hD : va_D A (mw cs q v_thrown a_tape v_taped v_size v_to v_kind v_from v_letters v_letterMany v_digits v_isBeyond v_suffix v_steps v_fault v_hasProgram a_text a_act a_guess a_take a_begin a_finish a_to1 a_one a_two a_what a_ats a_atVar a_atNumber a_atomSort a_atomKind a_atomValue v_wrong v_wrongAt v_variable v_number v_numberKind v_takes a_out v_outed a_varSort a_varKind a_varValue a_creature v_creatures a_arrayClass a_arrayFrom a_arrayLong v_arrays v_cells a_cellSort a_cellKind a_cellValue a_asideSort a_asideKind a_asideValue a_outcome v_marks v_came v_guessed v_right v_taken a_markSort a_markKind a_markClass a_markValue v_sort r1 r44 a_index v_reached v_looked) := hD
        refine lv_iconst (v := 0) hx hb dX10_mayStore_55 (by decide) ?_
        subst hAe
        rw [hQ]
        exact W.iret (v := 0) hx hb hr (fun t ht hW => ⟨⟨0, _, rfl, ⟨r1, r44, rfl, by exact ⟨hv0, fun q => by omega, fun q => by omega, fun _ => hw44_0⟩, by first | assumption | omega | (intros; omega) | decide, by exact Or.inr ⟨by decide, fun q => by omega, fun _ => by omega⟩⟩, by rw [ht]; exact hP, va_K.moved hW.alike hK, hD⟩, hS.F ht⟩) hS.2.2 dX10_mayStore_56
      · skip
        refine lv_bipush (v := 6) hx hb dX10_mayStore_31 (by decide) ?_
        subst hAe
        rw [hQ]
        exact W.iret (v := 6) hx hb hr (fun t ht hW => ⟨⟨6, _, rfl, ⟨v_kindAt, v_value, rfl, by first | assumption | omega | (intros; omega) | decide, by first | assumption | omega | (intros; omega) | decide, by first | assumption | omega | (intros; omega) | decide⟩, by rw [ht]; exact hP, va_K.moved hW.alike hK, hD⟩, hS.F ht⟩) hS.2.2 dX10_mayStore_33
