def rmX10_asks : Room := { frames := 120, cells := 0, slots := 0, locals := 2400 }
set_option maxHeartbeats 4000000 in
set_option maxRecDepth 100000 in
theorem tX10_asks {l : Launch} {D : va_G} {K : Nat → Nat → Nat} {cs : Nat → ClassId} {q : Nat → Nat} {v_thrown v_taped v_size v_to v_kind v_from v_letterMany v_isBeyond v_suffix v_steps v_fault v_hasProgram v_wrong v_wrongAt v_variable v_numberKind v_takes v_outed v_creatures v_arrays v_cells v_marks v_came v_guessed v_right v_taken v_sort v_kindAt v_reached v_looked : Int32} {a_tape a_text a_act a_guess a_take a_begin a_finish a_to1 a_one a_two a_what a_ats a_atVar a_atNumber a_atomSort a_atomKind a_out a_varSort a_varKind a_creature a_arrayClass a_arrayFrom a_arrayLong a_cellSort a_cellKind a_asideSort a_asideKind a_outcome a_markSort a_markKind a_markClass a_index : Nat → Int32} {v_letters v_digits v_number v_value : Int64} {a_atomValue a_varValue a_cellValue a_asideValue a_markValue : Nat → Int64} (s9 : Int32) (p_0 : RUN a_varSort a_varKind a_varValue v_arrays v_cells v_creatures a_arrayClass a_arrayFrom a_arrayLong a_cellSort a_cellKind a_cellValue) (p_1 : R25 a_one) (p_2 : R25 a_two) (p_3 : R25 a_to1) (p_4 : 0 ≤ s9.toInt) (p_5 : s9.toInt ≤ 201) : CtI l yX10_asks (wG yX10_asks cX10_asks 5 (some .int)) rmX10_asks D (mwT cs) K [.ref (q 0), .int s9] (mw cs q v_thrown a_tape v_taped v_size v_to v_kind v_from v_letters v_letterMany v_digits v_isBeyond v_suffix v_steps v_fault v_hasProgram a_text a_act a_guess a_take a_begin a_finish a_to1 a_one a_two a_what a_ats a_atVar a_atNumber a_atomSort a_atomKind a_atomValue v_wrong v_wrongAt v_variable v_number v_numberKind v_takes a_out v_outed a_varSort a_varKind a_varValue a_creature v_creatures a_arrayClass a_arrayFrom a_arrayLong v_arrays v_cells a_cellSort a_cellKind a_cellValue a_asideSort a_asideKind a_asideValue a_outcome v_marks v_came v_guessed v_right v_taken a_markSort a_markKind a_markClass a_markValue v_sort v_kindAt v_value a_index v_reached v_looked) (fun r w1 => ∃ (a_varSort' : Nat → Int32) (a_varKind' : Nat → Int32) (a_varValue' : Nat → Int64) (v_sort' : Int32) (v_kindAt' : Int32) (v_value' : Int64) (v_reached' : Int32) (v_looked' : Int32), w1 = (mw cs q v_thrown a_tape v_taped v_size v_to v_kind v_from v_letters v_letterMany v_digits v_isBeyond v_suffix v_steps v_fault v_hasProgram a_text a_act a_guess a_take a_begin a_finish a_to1 a_one a_two a_what a_ats a_atVar a_atNumber a_atomSort a_atomKind a_atomValue v_wrong v_wrongAt v_variable v_number v_numberKind v_takes a_out v_outed a_varSort' a_varKind' a_varValue' a_creature v_creatures a_arrayClass a_arrayFrom a_arrayLong v_arrays v_cells a_cellSort a_cellKind a_cellValue a_asideSort a_asideKind a_asideValue a_outcome v_marks v_came v_guessed v_right v_taken a_markSort a_markKind a_markClass a_markValue v_sort' v_kindAt' v_value' a_index v_reached' v_looked') ∧ (RUN a_varSort' a_varKind' a_varValue' v_arrays v_cells v_creatures a_arrayClass a_arrayFrom a_arrayLong a_cellSort a_cellKind a_cellValue) ∧ (0 ≤ r.toInt)) 0 0 := by
  intro sz
  refine Met.ofW (cc := cX10_asks) (maxL := 5) (ret := (some .int)) (by decide) rfl ?_
  intro p e s m args below meth c s₁ B hml hv
  obtain ⟨rfl, hsz, hP, hK, hD0, hE⟩ := hv
  have hx := B.exec
  have hb := B.bytes
  have hr := B.returns
  have hts := atoms_spec (ws := (wG yX10_asks cX10_asks 5 (some .int))) B.pre
  have hown : s.vm.findClass RX10 = some m.cls := findClass_of_methodNamed B.named
  have hlocks := B.notSynchronized
  subst hsz
  have hD := hD0.self (sz := s.heap.size)
  obtain ⟨A, hAe⟩ : ∃ A : Nat → Prop, A = va_A (mw cs q v_thrown a_tape v_taped v_size v_to v_kind v_from v_letters v_letterMany v_digits v_isBeyond v_suffix v_steps v_fault v_hasProgram a_text a_act a_guess a_take a_begin a_finish a_to1 a_one a_two a_what a_ats a_atVar a_atNumber a_atomSort a_atomKind a_atomValue v_wrong v_wrongAt v_variable v_number v_numberKind v_takes a_out v_outed a_varSort a_varKind a_varValue a_creature v_creatures a_arrayClass a_arrayFrom a_arrayLong v_arrays v_cells a_cellSort a_cellKind a_cellValue a_asideSort a_asideKind a_asideValue a_outcome v_marks v_came v_guessed v_right v_taken a_markSort a_markKind a_markClass a_markValue v_sort v_kindAt v_value a_index v_reached v_looked) s.heap.size := ⟨_, rfl⟩
  rw [← hAe] at hD hE
  have hA : ∀ q : Nat, s.heap.size ≤ q → A q := fun q h => by rw [hAe]; exact Or.inr h
  have hS : va_S A s.heap s.heap [] := va_S.rf
  have hl := lv_entry ([.ref (q 0), .int s9]) (n := 5) (Nat.le_of_ble_eq_true rfl)
  rw [lg_entry_eq]
  generalize (lg_sl ([.ref (q 0), .int s9]) ++ List.replicate (5 - (lg_sl ([.ref (q 0), .int s9])).length) Slot.unset).toArray = ls at hl ⊢
  have hl : lv_has ls 5 [(0, .ref (q 0)), (1, .int s9)] := hl
  refine wq (fun Q hQ => ?_)
  have hin : ∀ w ∈ wsX100, w ∈ (wG yX10_asks cX10_asks 5 (some .int)) := fun w h => List.mem_cons_of_mem _ (inlX10 w h)
  have kc0 : (0 : Int32).toInt = 0 := by decide
  have kc1 : (1 : Int32).toInt = 1 := by decide
  have kc2 : (4 : Int32).toInt = 4 := by decide
  have kc3 : (7 : Int32).toInt = 7 := by decide
  have kc4 : (20000 : Int32).toInt = 20000 := by decide
  have kc5 : (0 : Int64).toInt = 0 := by decide
  have kc6 : (1 : Int64).toInt = 1 := by decide
  have k_5_15 := hts (.fieldLink RX10 34 "ArrayTrainerModel" "one" "[I") (List.mem_cons_of_mem _ (wr5 _ (List.mem_of_getElem? (i := 15) rfl)))
  have k_5_9 := hts (.fieldLink RX10 16 "ArrayTrainerModel" "act" "[I") (List.mem_cons_of_mem _ (wr5 _ (List.mem_of_getElem? (i := 9) rfl)))
  have k_5_14 := hts (.fieldLink RX10 31 "ArrayTrainerModel" "to1" "[I") (List.mem_cons_of_mem _ (wr5 _ (List.mem_of_getElem? (i := 14) rfl)))
  have k_52_10 := hts (.fieldLink RX10 558 "ArrayTrainerModel" "looked" "I") (List.mem_cons_of_mem _ (wr52 _ (List.mem_of_getElem? (i := 10) rfl)))
  have k_5_16 := hts (.fieldLink RX10 37 "ArrayTrainerModel" "two" "[I") (List.mem_cons_of_mem _ (wr5 _ (List.mem_of_getElem? (i := 16) rfl)))
  have k_47_12 := hts (.fieldLink RX10 493 "ArrayTrainerModel" "sort" "I") (List.mem_cons_of_mem _ (wr47 _ (List.mem_of_getElem? (i := 12) rfl)))
  have k_47_13 := hts (.fieldLink RX10 496 "ArrayTrainerModel" "kindAt" "I") (List.mem_cons_of_mem _ (wr47 _ (List.mem_of_getElem? (i := 13) rfl)))
  have k_47_14 := hts (.fieldLink RX10 499 "ArrayTrainerModel" "value" "J") (List.mem_cons_of_mem _ (wr47 _ (List.mem_of_getElem? (i := 14) rfl)))
  have k_6_1 := hts (.fieldLink RX10 65 "ArrayTrainerModel" "varSort" "[I") (List.mem_cons_of_mem _ (wr6 _ (List.mem_of_getElem? (i := 1) rfl)))
  have k_6_2 := hts (.fieldLink RX10 68 "ArrayTrainerModel" "varKind" "[I") (List.mem_cons_of_mem _ (wr6 _ (List.mem_of_getElem? (i := 2) rfl)))
  have k_6_3 := hts (.fieldLink RX10 71 "ArrayTrainerModel" "varValue" "[J") (List.mem_cons_of_mem _ (wr6 _ (List.mem_of_getElem? (i := 3) rfl)))
  have k_5_17 := hts (.fieldLink RX10 40 "ArrayTrainerModel" "what" "[I") (List.mem_cons_of_mem _ (wr5 _ (List.mem_of_getElem? (i := 17) rfl)))
  have k_6_7 := hts (.fieldLink RX10 83 "ArrayTrainerModel" "arrayLong" "[I") (List.mem_cons_of_mem _ (wr6 _ (List.mem_of_getElem? (i := 7) rfl)))
  have k_48_11 := hts (.fieldLink RX10 510 "ArrayTrainerModel" "reached" "I") (List.mem_cons_of_mem _ (wr48 _ (List.mem_of_getElem? (i := 11) rfl)))
  obtain ⟨H, hH⟩ : ∃ H : Heap, H = s.heap := ⟨_, rfl⟩
  obtain ⟨locs, hlc⟩ : ∃ L : List Loc, L = [] := ⟨_, rfl⟩
  have hP : va_P D vwCl (mw cs q v_thrown a_tape v_taped v_size v_to v_kind v_from v_letters v_letterMany v_digits v_isBeyond v_suffix v_steps v_fault v_hasProgram a_text a_act a_guess a_take a_begin a_finish a_to1 a_one a_two a_what a_ats a_atVar a_atNumber a_atomSort a_atomKind a_atomValue v_wrong v_wrongAt v_variable v_number v_numberKind v_takes a_out v_outed a_varSort a_varKind a_varValue a_creature v_creatures a_arrayClass a_arrayFrom a_arrayLong v_arrays v_cells a_cellSort a_cellKind a_cellValue a_asideSort a_asideKind a_asideValue a_outcome v_marks v_came v_guessed v_right v_taken a_markSort a_markKind a_markClass a_markValue v_sort v_kindAt v_value a_index v_reached v_looked) H := by rw [hH]; exact hP
  have hS : va_S A s.heap H locs := by rw [hH, hlc]; exact hS
  refine wHL hH hlc ?_
  have b_s9 := iB s9
  have hr9 := p_0.1
  have ho9 := p_1 s9.toNatClampNeg
  have hw9 := p_2 s9.toNatClampNeg
  have ht9 := p_3 s9.toNatClampNeg
  refine lv_aload_n hx hb dX10_asks_0 rfl (lv_at hl 0 rfl) ?_
  refine lv_aload_n hx hb dX10_asks_1 rfl (lv_at hl 0 rfl) ?_
  refine va_get (D := D) (ci := 9) (v := .ref (q 9)) (C := RX10) (T := TX10) (N := 71) hx hb hts hin hown hK hP 0 rfl rfl 22 (by decide) k_5_15 (fun _ h9 => h9) rfl dX10_asks_2 ?_
  refine lv_iload_n hx hb dX10_asks_5 rfl (lv_at hl 1 rfl) ?_
  refine m_iald hx hb hK hP 9 0 rfl rfl (ix (by omega) (by omega)) dX10_asks_6 (fun x6 e_x6 => ?_)
  have b_x6 := iB x6
  have hx6 := congrArg Int32.toInt e_x6
  refine call_v (As := [.int x6]) (rest := []) ⟨hx, hb, hml, hown, hts⟩ (tX10_ofVar (l := l) x6 (by first | assumption | omega | (intros; omega) | decide) (by first | assumption | omega | (intros; omega) | decide) (by first | assumption | omega | (intros; omega) | decide)) (cwV 1 hts (gV (wr47 _ (List.mem_of_getElem? (i := 15) rfl)) (wr47 _ (List.mem_of_getElem? (i := 16) rfl)) (wr47 _ (List.mem_of_getElem? (i := 17) rfl)) (wr1 _ (List.mem_of_getElem? (i := 5) rfl)) (wr47 _ (List.mem_of_getElem? (i := 18) rfl))) rfl rfl rfl (by decide +kernel) ⟨Nat.le_of_ble_eq_true rfl, Nat.le_of_ble_eq_true rfl⟩) (va_recv hK hP (ci := 9) (q0 := 0) rfl rfl) hK hP hD hE hS hA rfl hl.1 rfl (Nat.le_of_ble_eq_true rfl) dX10_asks_7 ⟨Nat.le_of_ble_eq_true rfl, Nat.le_of_ble_eq_true rfl⟩ (fun w9 H locs hw7 hP hD hS => ?_)
  obtain ⟨v_sort_7, v_kindAt_7, v_value_7, rfl, hw7_0, hw7_1, hw7_2, hw7_3⟩ := hw7
  have b_v_sort_7 := iB v_sort_7
  have b_v_kindAt_7 := iB v_kindAt_7
  have b_v_value_7 := jB v_value_7
  refine lv_iconst (v := 0) hx hb dX10_asks_10 (by decide) ?_
  refine lv_istore_n (lv' := [(2, .int 0), (0, .ref (q 0)), (1, .int s9)]) hx hb dX10_asks_11 rfl hl (by decide) rfl (fun ls hl => ?_)
  refine lv_aload_n hx hb dX10_asks_12 rfl (lv_at hl 1 rfl) ?_
  refine va_get (D := D) (ci := 9) (v := .ref (q 3)) (C := RX10) (T := TX10) (N := 71) hx hb hts hin hown hK hP 0 rfl rfl 16 (by decide) k_5_9 (fun _ h9 => h9) rfl dX10_asks_13 ?_
  refine lv_iload_n hx hb dX10_asks_16 rfl (lv_at hl 2 rfl) ?_
  refine m_iald hx hb hK hP 3 0 rfl rfl (ix (by omega) (by omega)) dX10_asks_17 (fun x17 e_x17 => ?_)
  have b_x17 := iB x17
  have J330 : ∀ (l2_330 : Int32) (v_kindAt_330 : Int32) (v_looked_330 : Int32) (v_reached_330 : Int32) (v_sort_330 : Int32) (v_value_330 : Int64) (H : Heap) (locs : List Loc) (ls : Array Slot), (VOK v_arrays.toInt v_creatures.toInt v_sort_330 v_kindAt_330 v_value_330) → (0 ≤ l2_330.toInt) → va_P D vwCl (mw cs q v_thrown a_tape v_taped v_size v_to v_kind v_from v_letters v_letterMany v_digits v_isBeyond v_suffix v_steps v_fault v_hasProgram a_text a_act a_guess a_take a_begin a_finish a_to1 a_one a_two a_what a_ats a_atVar a_atNumber a_atomSort a_atomKind a_atomValue v_wrong v_wrongAt v_variable v_number v_numberKind v_takes a_out v_outed a_varSort a_varKind a_varValue a_creature v_creatures a_arrayClass a_arrayFrom a_arrayLong v_arrays v_cells a_cellSort a_cellKind a_cellValue a_asideSort a_asideKind a_asideValue a_outcome v_marks v_came v_guessed v_right v_taken a_markSort a_markKind a_markClass a_markValue v_sort_330 v_kindAt_330 v_value_330 a_index v_reached_330 v_looked_330) H → va_D A (mw cs q v_thrown a_tape v_taped v_size v_to v_kind v_from v_letters v_letterMany v_digits v_isBeyond v_suffix v_steps v_fault v_hasProgram a_text a_act a_guess a_take a_begin a_finish a_to1 a_one a_two a_what a_ats a_atVar a_atNumber a_atomSort a_atomKind a_atomValue v_wrong v_wrongAt v_variable v_number v_numberKind v_takes a_out v_outed a_varSort a_varKind a_varValue a_creature v_creatures a_arrayClass a_arrayFrom a_arrayLong v_arrays v_cells a_cellSort a_cellKind a_cellValue a_asideSort a_asideKind a_asideValue a_outcome v_marks v_came v_guessed v_right v_taken a_markSort a_markKind a_markClass a_markValue v_sort_330 v_kindAt_330 v_value_330 a_index v_reached_330 v_looked_330) → va_S A s.heap H locs → lv_has ls 5 [(0, .ref (q 0)), (1, .int s9), (2, .int l2_330)] → W p l e (headSpec (wG yX10_asks cX10_asks 5 (some .int)) rmX10_asks).room s m ([.ref (q 0), .int s9] : List Value).toArray below meth c H locs 0 0 Q (F0 m 330 ls []) := by
    intro l2_330 v_kindAt_330 v_looked_330 v_reached_330 v_sort_330 v_value_330 H locs ls f330_0 f330_1 hP hD hS hl
    refine lv_iload_n hx hb dX10_asks_330 rfl (lv_at hl 2 rfl) ?_
    refine m_if_ne (X := l2_330.toInt) (tgt := 344) hx hb dX10_asks_331 (by decide) rfl (fun c331 => ?_) (fun c331 => ?_)
    · skip
      refine lv_iload_n hx hb dX10_asks_344 rfl (lv_at hl 2 rfl) ?_
      subst hAe
      rw [hQ]
      exact W.iret (v := l2_330) hx hb hr (fun t ht hW => ⟨⟨l2_330, _, rfl, ⟨a_varSort, a_varKind, a_varValue, v_sort_330, v_kindAt_330, v_value_330, v_reached_330, v_looked_330, rfl, by first | assumption | omega | (intros; omega) | decide, by first | assumption | omega | (intros; omega) | decide⟩, by rw [ht]; exact hP, va_K.moved hW.alike hK, hD⟩, hS.F ht⟩) hS.2.2 dX10_asks_345
    · skip
      refine lv_aload_n hx hb dX10_asks_334 rfl (lv_at hl 0 rfl) ?_
      refine lv_aload_n hx hb dX10_asks_335 rfl (lv_at hl 0 rfl) ?_
      refine va_get (D := D) (ci := 9) (v := .ref (q 8)) (C := RX10) (T := TX10) (N := 71) hx hb hts hin hown hK hP 0 rfl rfl 21 (by decide) k_5_14 (fun _ h9 => h9) rfl dX10_asks_336 ?_
      refine lv_iload_n hx hb dX10_asks_339 rfl (lv_at hl 1 rfl) ?_
      refine m_iald hx hb hK hP 8 0 rfl rfl (ix (by omega) (by omega)) dX10_asks_340 (fun x340 e_x340 => ?_)
      have b_x340 := iB x340
      have hx340 := congrArg Int32.toInt e_x340
      refine call_v (As := [.int x340]) (rest := []) ⟨hx, hb, hml, hown, hts⟩ (tX10_toVar (l := l) x340 (by first | assumption | omega | (intros; omega) | decide) (by first | assumption | omega | (intros; omega) | decide) (by first | assumption | omega | (intros; omega) | decide) (by first | assumption | omega | (intros; omega) | decide)) (cwV 1 hts (gV (wr48 _ (List.mem_of_getElem? (i := 3) rfl)) (wr48 _ (List.mem_of_getElem? (i := 4) rfl)) (wr48 _ (List.mem_of_getElem? (i := 5) rfl)) (wr1 _ (List.mem_of_getElem? (i := 5) rfl)) (wr48 _ (List.mem_of_getElem? (i := 6) rfl))) rfl rfl rfl (by decide +kernel) ⟨Nat.le_of_ble_eq_true rfl, Nat.le_of_ble_eq_true rfl⟩) (va_recv hK hP (ci := 9) (q0 := 0) rfl rfl) hK hP hD hE hS hA rfl hl.1 rfl (Nat.le_of_ble_eq_true rfl) dX10_asks_341 ⟨Nat.le_of_ble_eq_true rfl, Nat.le_of_ble_eq_true rfl⟩ (fun w9 H locs hw341 hP hD hS => ?_)
      obtain ⟨a_varSort_341, a_varKind_341, a_varValue_341, rfl, hw341_0⟩ := hw341
      refine lv_iload_n hx hb dX10_asks_344 rfl (lv_at hl 2 rfl) ?_
      subst hAe
      rw [hQ]
      exact W.iret (v := l2_330) hx hb hr (fun t ht hW => ⟨⟨l2_330, _, rfl, ⟨a_varSort_341, a_varKind_341, a_varValue_341, v_sort_330, v_kindAt_330, v_value_330, v_reached_330, v_looked_330, rfl, by first | assumption | omega | (intros; omega) | decide, by first | assumption | omega | (intros; omega) | decide⟩, by rw [ht]; exact hP, va_K.moved hW.alike hK, hD⟩, hS.F ht⟩) hS.2.2 dX10_asks_345
  rcases (show (x17.toInt < 11 ∨ 15 < x17.toInt) ∨ x17.toInt = 11 ∨ x17.toInt = 12 ∨ x17.toInt = 13 ∨ x17.toInt = 14 ∨ x17.toInt = 15 by omega) with c18 | c18 | c18 | c18 | c18 | c18
  · skip
    refine lv_tableOut (tgt := 254) hx hb dX10_asks_18 c18 (by decide) ?_
    refine lv_aload_n hx hb dX10_asks_254 rfl (lv_at hl 1 rfl) ?_
    refine lv_iconst (v := 0) hx hb dX10_asks_255 (by decide) ?_
    refine va_put (D := D) (ci := 9) (v := .int 0) (ty := .int) (C := RX10) (T := TX10) (N := 71) hx hb hts hin tyX10 tyX10_ok nmX10 hown hK hP hD hS 0 rfl rfl 70 (by decide) k_52_10 (fun _ h9 => h9) rfl (by decide +kernel) rfl rfl (Nat.le_of_ble_eq_true rfl) dX10_asks_256 (fun H locs hP hD hS => ?_)
    have hP : va_P D vwCl (mw cs q v_thrown a_tape v_taped v_size v_to v_kind v_from v_letters v_letterMany v_digits v_isBeyond v_suffix v_steps v_fault v_hasProgram a_text a_act a_guess a_take a_begin a_finish a_to1 a_one a_two a_what a_ats a_atVar a_atNumber a_atomSort a_atomKind a_atomValue v_wrong v_wrongAt v_variable v_number v_numberKind v_takes a_out v_outed a_varSort a_varKind a_varValue a_creature v_creatures a_arrayClass a_arrayFrom a_arrayLong v_arrays v_cells a_cellSort a_cellKind a_cellValue a_asideSort a_asideKind a_asideValue a_outcome v_marks v_came v_guessed v_right v_taken a_markSort a_markKind a_markClass a_markValue v_sort_7 v_kindAt_7 v_value_7 a_index v_reached (0 : Int32)) H := hP
    have hD : va_D A (mw cs q v_thrown a_tape v_taped v_size v_to v_kind v_from v_letters v_letterMany v_digits v_isBeyond v_suffix v_steps v_fault v_hasProgram a_text a_act a_guess a_take a_begin a_finish a_to1 a_one a_two a_what a_ats a_atVar a_atNumber a_atomSort a_atomKind a_atomValue v_wrong v_wrongAt v_variable v_number v_numberKind v_takes a_out v_outed a_varSort a_varKind a_varValue a_creature v_creatures a_arrayClass a_arrayFrom a_arrayLong v_arrays v_cells a_cellSort a_cellKind a_cellValue a_asideSort a_asideKind a_asideValue a_outcome v_marks v_came v_guessed v_right v_taken a_markSort a_markKind a_markClass a_markValue v_sort_7 v_kindAt_7 v_value_7 a_index v_reached (0 : Int32)) := hD
    refine lv_aload_n hx hb dX10_asks_259 rfl (lv_at hl 1 rfl) ?_
    refine va_get (D := D) (ci := 9) (v := .ref (q 10)) (C := RX10) (T := TX10) (N := 71) hx hb hts hin hown hK hP 0 rfl rfl 23 (by decide) k_5_16 (fun _ h9 => h9) rfl dX10_asks_260 ?_
    refine lv_iload_n hx hb dX10_asks_263 rfl (lv_at hl 2 rfl) ?_
    refine m_iald hx hb hK hP 10 0 rfl rfl (ix (by omega) (by omega)) dX10_asks_264 (fun x264 e_x264 => ?_)
    have b_x264 := iB x264
    refine lv_istore_n (lv' := [(3, .int x264), (2, .int 0), (0, .ref (q 0)), (1, .int s9)]) hx hb dX10_asks_265 rfl hl (by decide) rfl (fun ls hl => ?_)
    have hx264 := congrArg Int32.toInt e_x264
    refine lv_aload_n hx hb dX10_asks_266 rfl (lv_at hl 2 rfl) ?_
    refine lv_aload_n hx hb dX10_asks_267 rfl (lv_at hl 2 rfl) ?_
    refine va_get (D := D) (ci := 9) (v := .int v_sort_7) (C := RX10) (T := TX10) (N := 71) hx hb hts hin hown hK hP 0 rfl rfl 65 (by decide) k_47_12 (fun _ h9 => h9) rfl dX10_asks_268 ?_
    refine lv_aload_n hx hb dX10_asks_271 rfl (lv_at hl 2 rfl) ?_
    refine va_get (D := D) (ci := 9) (v := .int v_kindAt_7) (C := RX10) (T := TX10) (N := 71) hx hb hts hin hown hK hP 0 rfl rfl 66 (by decide) k_47_13 (fun _ h9 => h9) rfl dX10_asks_272 ?_
    refine lv_aload_n hx hb dX10_asks_275 rfl (lv_at hl 2 rfl) ?_
    refine va_get (D := D) (ci := 9) (v := .long v_value_7) (C := RX10) (T := TX10) (N := 71) hx hb hts hin hown hK hP 0 rfl rfl 67 (by decide) k_47_14 (fun _ h9 => h9) rfl dX10_asks_276 ?_
    refine lv_aload_n hx hb dX10_asks_279 rfl (lv_at hl 2 rfl) ?_
    refine va_get (D := D) (ci := 9) (v := .ref (q 19)) (C := RX10) (T := TX10) (N := 71) hx hb hts hin hown hK hP 0 rfl rfl 39 (by decide) k_6_1 (fun _ h9 => h9) rfl dX10_asks_280 ?_
    refine lv_iload_n hx hb dX10_asks_283 rfl (lv_at hl 0 rfl) ?_
    refine m_iald hx hb hK hP 19 0 rfl rfl (ix (by omega) (by omega)) dX10_asks_284 (fun x284 e_x284 => ?_)
    have b_x284 := iB x284
    refine lv_aload_n hx hb dX10_asks_285 rfl (lv_at hl 2 rfl) ?_
    refine va_get (D := D) (ci := 9) (v := .ref (q 20)) (C := RX10) (T := TX10) (N := 71) hx hb hts hin hown hK hP 0 rfl rfl 40 (by decide) k_6_2 (fun _ h9 => h9) rfl dX10_asks_286 ?_
    refine lv_iload_n hx hb dX10_asks_289 rfl (lv_at hl 0 rfl) ?_
    refine m_iald hx hb hK hP 20 0 rfl rfl (ix (by omega) (by omega)) dX10_asks_290 (fun x290 e_x290 => ?_)
    have b_x290 := iB x290
    refine lv_aload_n hx hb dX10_asks_291 rfl (lv_at hl 2 rfl) ?_
    refine va_get (D := D) (ci := 9) (v := .ref (q 21)) (C := RX10) (T := TX10) (N := 71) hx hb hts hin hown hK hP 0 rfl rfl 41 (by decide) k_6_3 (fun _ h9 => h9) rfl dX10_asks_292 ?_
    refine lv_iload_n hx hb dX10_asks_295 rfl (lv_at hl 0 rfl) ?_
    refine m_lald hx hb hK hP 21 1 rfl rfl (ix (by omega) (by omega)) dX10_asks_296 (fun x296 e_x296 => ?_)
    have b_x296 := jB x296
    have t264 := tn (i := x264) (by omega)
    have hv8 := p_0.2.2.1 x264.toNatClampNeg (by omega)
    rw [← e_x284, ← e_x290, ← e_x296] at hv8
    refine call_i (As := [.int v_sort_7, .int v_kindAt_7, .long v_value_7, .int x284, .int x290, .long x296]) (rest := []) ⟨hx, hb, hml, hown, hts⟩ (tX10_equal_q3 (l := l) v_sort_7 v_kindAt_7 v_value_7 x284 x290 x296 (by first | assumption | omega | (intros; omega) | decide) (by first | assumption | omega | (intros; omega) | decide) (by exact hv8) (by intro q; have z := hw7_0.2.1 q; have z2 := (p_0.2.1 v_value_7.toInt.toNat (by omega)).1; omega)) (cwV 6 hts (gV (wr52 _ (List.mem_of_getElem? (i := 21) rfl)) (wr52 _ (List.mem_of_getElem? (i := 22) rfl)) (wr52 _ (List.mem_of_getElem? (i := 23) rfl)) (wr1 _ (List.mem_of_getElem? (i := 5) rfl)) (wr53 _ (List.mem_of_getElem? (i := 0) rfl))) rfl rfl rfl (by decide +kernel) ⟨Nat.le_of_ble_eq_true rfl, Nat.le_of_ble_eq_true rfl⟩) (va_recv hK hP (ci := 9) (q0 := 0) rfl rfl) hK hP hD hE hS hA rfl hl.1 rfl (Nat.le_of_ble_eq_true rfl) dX10_asks_297 ⟨Nat.le_of_ble_eq_true rfl, Nat.le_of_ble_eq_true rfl⟩ (fun r297 w9 H locs hw297 hP hD hS => ?_)
    obtain ⟨v_looked_297, rfl, hw297_0⟩ := hw297
    have b_v_looked_297 := iB v_looked_297
    have b_r297 := iB r297
    refine lv_istore (lv' := [(4, .int r297), (3, .int x264), (2, .int 0), (0, .ref (q 0)), (1, .int s9)]) hx hb dX10_asks_300 hl (by decide) rfl (fun ls hl => ?_)
    refine lv_aload_n hx hb dX10_asks_302 rfl (lv_at hl 3 rfl) ?_
    refine va_get (D := D) (ci := 9) (v := .int v_looked_297) (C := RX10) (T := TX10) (N := 71) hx hb hts hin hown hK hP 0 rfl rfl 70 (by decide) k_52_10 (fun _ h9 => h9) rfl dX10_asks_303 ?_
    refine lv_sipush (v := 20000) hx hb dX10_asks_306 (by decide) ?_
    refine m_icmp_le (X := v_looked_297.toInt) (Y := 20000) (tgt := 315) hx hb dX10_asks_309 (by decide) rfl (by decide) (fun c309 => ?_) (fun c309 => ?_)
    · skip
      refine lv_aload_n hx hb dX10_asks_315 rfl (lv_at hl 3 rfl) ?_
      refine lv_iconst (v := 0) hx hb dX10_asks_316 (by decide) ?_
      refine lv_iload hx hb dX10_asks_317 (lv_at hl 0 rfl) ?_
      have J327 : ∀ (s2_327 : Int64) (H : Heap) (locs : List Loc) (ls : Array Slot), (s2_327.toInt = 0 ∨ s2_327.toInt = 1) → va_P D vwCl (mw cs q v_thrown a_tape v_taped v_size v_to v_kind v_from v_letters v_letterMany v_digits v_isBeyond v_suffix v_steps v_fault v_hasProgram a_text a_act a_guess a_take a_begin a_finish a_to1 a_one a_two a_what a_ats a_atVar a_atNumber a_atomSort a_atomKind a_atomValue v_wrong v_wrongAt v_variable v_number v_numberKind v_takes a_out v_outed a_varSort a_varKind a_varValue a_creature v_creatures a_arrayClass a_arrayFrom a_arrayLong v_arrays v_cells a_cellSort a_cellKind a_cellValue a_asideSort a_asideKind a_asideValue a_outcome v_marks v_came v_guessed v_right v_taken a_markSort a_markKind a_markClass a_markValue v_sort_7 v_kindAt_7 v_value_7 a_index v_reached v_looked_297) H → va_D A (mw cs q v_thrown a_tape v_taped v_size v_to v_kind v_from v_letters v_letterMany v_digits v_isBeyond v_suffix v_steps v_fault v_hasProgram a_text a_act a_guess a_take a_begin a_finish a_to1 a_one a_two a_what a_ats a_atVar a_atNumber a_atomSort a_atomKind a_atomValue v_wrong v_wrongAt v_variable v_number v_numberKind v_takes a_out v_outed a_varSort a_varKind a_varValue a_creature v_creatures a_arrayClass a_arrayFrom a_arrayLong v_arrays v_cells a_cellSort a_cellKind a_cellValue a_asideSort a_asideKind a_asideValue a_outcome v_marks v_came v_guessed v_right v_taken a_markSort a_markKind a_markClass a_markValue v_sort_7 v_kindAt_7 v_value_7 a_index v_reached v_looked_297) → va_S A s.heap H locs → lv_has ls 5 [(0, .ref (q 0)), (1, .int s9), (2, .int 0)] → W p l e (headSpec (wG yX10_asks cX10_asks 5 (some .int)) rmX10_asks).room s m ([.ref (q 0), .int s9] : List Value).toArray below meth c H locs 0 0 Q (F0 m 327 ls [.long s2_327, .int 0, .ref (q 0)]) := by
        intro s2_327 H locs ls f327_0 hP hD hS hl
        refine call_v (As := [.int 0, .long s2_327]) (rest := []) ⟨hx, hb, hml, hown, hts⟩ (tX10_number (l := l) (0 : Int32) s2_327) (cwV 2 hts (gV (wr47 _ (List.mem_of_getElem? (i := 19) rfl)) (wr47 _ (List.mem_of_getElem? (i := 20) rfl)) (wr47 _ (List.mem_of_getElem? (i := 21) rfl)) (wr1 _ (List.mem_of_getElem? (i := 5) rfl)) (wr47 _ (List.mem_of_getElem? (i := 22) rfl))) rfl rfl rfl (by decide +kernel) ⟨Nat.le_of_ble_eq_true rfl, Nat.le_of_ble_eq_true rfl⟩) (va_recv hK hP (ci := 9) (q0 := 0) rfl rfl) hK hP hD hE hS hA rfl hl.1 rfl (Nat.le_of_ble_eq_true rfl) dX10_asks_327 ⟨Nat.le_of_ble_eq_true rfl, Nat.le_of_ble_eq_true rfl⟩ (fun w9 H locs hw327 hP hD hS => ?_)
        obtain ⟨v_sort_327, v_kindAt_327, v_value_327, rfl, hw327_0, hw327_1, hw327_2⟩ := hw327
        have b_v_sort_327 := iB v_sort_327
        have b_v_kindAt_327 := iB v_kindAt_327
        have b_v_value_327 := jB v_value_327
        exact J330 (0 : Int32) v_kindAt_327 v_looked_297 v_reached v_sort_327 v_value_327 H locs ls (by first | assumption | (rw [iEq.mpr (show _ = (1 : Int32).toInt from hw82_0), hw82_1]; exact ⟨⟨by decide, by decide⟩, fun q => absurd q (by decide), fun q => absurd q (by decide), fun _ => NumOK.low (by decide) (by decide)⟩) | (rw [iEq.mpr (show _ = (1 : Int32).toInt from hw175_0), hw175_1]; exact ⟨⟨by decide, by decide⟩, fun q => absurd q (by decide), fun q => absurd q (by decide), fun _ => NumOK.low (by decide) (by decide)⟩) | (rw [iEq.mpr (show _ = (1 : Int32).toInt from hw202_0), hw202_1]; exact ⟨⟨by decide, by decide⟩, fun q => absurd q (by decide), fun q => absurd q (by decide), fun _ => NumOK.low (by decide) (by decide)⟩) | (rw [iEq.mpr (show _ = (1 : Int32).toInt from hw215_0), hw215_1]; exact ⟨⟨by decide, by decide⟩, fun q => absurd q (by decide), fun q => absurd q (by decide), fun _ => NumOK.low (by decide) (by decide)⟩) | (rw [iEq.mpr (show _ = (1 : Int32).toInt from hw248_0), hw248_1]; exact ⟨⟨by decide, by decide⟩, fun q => absurd q (by decide), fun q => absurd q (by decide), fun _ => NumOK.low (by decide) (by decide)⟩) | (rw [iEq.mpr (show _ = (1 : Int32).toInt from hw327_0), hw327_1]; exact ⟨⟨by decide, by decide⟩, fun q => absurd q (by decide), fun q => absurd q (by decide), fun _ => NumOK.low (by decide) (by decide)⟩)) (by first | assumption | omega | (intros; omega) | decide) hP hD hS (lv_sub hl [0, 1, 2] rfl)
      refine m_if_eq (X := r297.toInt) (tgt := 326) hx hb dX10_asks_319 (by decide) rfl (fun c319 => ?_) (fun c319 => ?_)
      · skip
        refine lv_lconst (v := 0) hx hb dX10_asks_326 (by decide) ?_
        exact J327 (0 : Int64) H locs ls (by first | decide | omega) hP hD hS (lv_sub hl [3, 4, 2] rfl)
      · skip
        refine lv_lconst (v := 1) hx hb dX10_asks_322 (by decide) ?_
        refine lv_goto (tgt := 327) hx hb dX10_asks_323 (by decide) ?_
        exact J327 (1 : Int64) H locs ls (by first | decide | omega) hP hD hS (lv_sub hl [3, 4, 2] rfl)
    · skip
      refine lv_bipush (v := 7) hx hb dX10_asks_312 (by decide) ?_
      subst hAe
      rw [hQ]
      exact W.iret (v := 7) hx hb hr (fun t ht hW => ⟨⟨7, _, rfl, ⟨a_varSort, a_varKind, a_varValue, v_sort_7, v_kindAt_7, v_value_7, v_reached, v_looked_297, rfl, by first | assumption | omega | (intros; omega) | decide, by first | assumption | omega | (intros; omega) | decide⟩, by rw [ht]; exact hP, va_K.moved hW.alike hK, hD⟩, hS.F ht⟩) hS.2.2 dX10_asks_314
  · skip
    refine lv_tableIn (tgt := 52) (off := 34) hx hb dX10_asks_18 (by omega) (by omega) (by rw [c18]; rfl) (by decide) ?_
    refine lv_aload_n hx hb dX10_asks_52 rfl (lv_at hl 1 rfl) ?_
    refine lv_iconst (v := 0) hx hb dX10_asks_53 (by decide) ?_
    refine lv_aload_n hx hb dX10_asks_54 rfl (lv_at hl 1 rfl) ?_
    refine va_get (D := D) (ci := 9) (v := .int v_sort_7) (C := RX10) (T := TX10) (N := 71) hx hb hts hin hown hK hP 0 rfl rfl 65 (by decide) k_47_12 (fun _ h9 => h9) rfl dX10_asks_55 ?_
    have J82 : ∀ (s2_82 : Int64) (H : Heap) (locs : List Loc) (ls : Array Slot), (s2_82.toInt = 0 ∨ s2_82.toInt = 1) → va_P D vwCl (mw cs q v_thrown a_tape v_taped v_size v_to v_kind v_from v_letters v_letterMany v_digits v_isBeyond v_suffix v_steps v_fault v_hasProgram a_text a_act a_guess a_take a_begin a_finish a_to1 a_one a_two a_what a_ats a_atVar a_atNumber a_atomSort a_atomKind a_atomValue v_wrong v_wrongAt v_variable v_number v_numberKind v_takes a_out v_outed a_varSort a_varKind a_varValue a_creature v_creatures a_arrayClass a_arrayFrom a_arrayLong v_arrays v_cells a_cellSort a_cellKind a_cellValue a_asideSort a_asideKind a_asideValue a_outcome v_marks v_came v_guessed v_right v_taken a_markSort a_markKind a_markClass a_markValue v_sort_7 v_kindAt_7 v_value_7 a_index v_reached v_looked) H → va_D A (mw cs q v_thrown a_tape v_taped v_size v_to v_kind v_from v_letters v_letterMany v_digits v_isBeyond v_suffix v_steps v_fault v_hasProgram a_text a_act a_guess a_take a_begin a_finish a_to1 a_one a_two a_what a_ats a_atVar a_atNumber a_atomSort a_atomKind a_atomValue v_wrong v_wrongAt v_variable v_number v_numberKind v_takes a_out v_outed a_varSort a_varKind a_varValue a_creature v_creatures a_arrayClass a_arrayFrom a_arrayLong v_arrays v_cells a_cellSort a_cellKind a_cellValue a_asideSort a_asideKind a_asideValue a_outcome v_marks v_came v_guessed v_right v_taken a_markSort a_markKind a_markClass a_markValue v_sort_7 v_kindAt_7 v_value_7 a_index v_reached v_looked) → va_S A s.heap H locs → lv_has ls 5 [(0, .ref (q 0)), (1, .int s9), (2, .int 0)] → W p l e (headSpec (wG yX10_asks cX10_asks 5 (some .int)) rmX10_asks).room s m ([.ref (q 0), .int s9] : List Value).toArray below meth c H locs 0 0 Q (F0 m 82 ls [.long s2_82, .int 0, .ref (q 0)]) := by
      intro s2_82 H locs ls f82_0 hP hD hS hl
      refine call_v (As := [.int 0, .long s2_82]) (rest := []) ⟨hx, hb, hml, hown, hts⟩ (tX10_number (l := l) (0 : Int32) s2_82) (cwV 2 hts (gV (wr47 _ (List.mem_of_getElem? (i := 19) rfl)) (wr47 _ (List.mem_of_getElem? (i := 20) rfl)) (wr47 _ (List.mem_of_getElem? (i := 21) rfl)) (wr1 _ (List.mem_of_getElem? (i := 5) rfl)) (wr47 _ (List.mem_of_getElem? (i := 22) rfl))) rfl rfl rfl (by decide +kernel) ⟨Nat.le_of_ble_eq_true rfl, Nat.le_of_ble_eq_true rfl⟩) (va_recv hK hP (ci := 9) (q0 := 0) rfl rfl) hK hP hD hE hS hA rfl hl.1 rfl (Nat.le_of_ble_eq_true rfl) dX10_asks_82 ⟨Nat.le_of_ble_eq_true rfl, Nat.le_of_ble_eq_true rfl⟩ (fun w9 H locs hw82 hP hD hS => ?_)
      obtain ⟨v_sort_82, v_kindAt_82, v_value_82, rfl, hw82_0, hw82_1, hw82_2⟩ := hw82
      have b_v_sort_82 := iB v_sort_82
      have b_v_kindAt_82 := iB v_kindAt_82
      have b_v_value_82 := jB v_value_82
      refine lv_goto (tgt := 330) hx hb dX10_asks_85 (by decide) ?_
      exact J330 (0 : Int32) v_kindAt_82 v_looked v_reached v_sort_82 v_value_82 H locs ls (by first | assumption | (rw [iEq.mpr (show _ = (1 : Int32).toInt from hw82_0), hw82_1]; exact ⟨⟨by decide, by decide⟩, fun q => absurd q (by decide), fun q => absurd q (by decide), fun _ => NumOK.low (by decide) (by decide)⟩) | (rw [iEq.mpr (show _ = (1 : Int32).toInt from hw175_0), hw175_1]; exact ⟨⟨by decide, by decide⟩, fun q => absurd q (by decide), fun q => absurd q (by decide), fun _ => NumOK.low (by decide) (by decide)⟩) | (rw [iEq.mpr (show _ = (1 : Int32).toInt from hw202_0), hw202_1]; exact ⟨⟨by decide, by decide⟩, fun q => absurd q (by decide), fun q => absurd q (by decide), fun _ => NumOK.low (by decide) (by decide)⟩) | (rw [iEq.mpr (show _ = (1 : Int32).toInt from hw215_0), hw215_1]; exact ⟨⟨by decide, by decide⟩, fun q => absurd q (by decide), fun q => absurd q (by decide), fun _ => NumOK.low (by decide) (by decide)⟩) | (rw [iEq.mpr (show _ = (1 : Int32).toInt from hw248_0), hw248_1]; exact ⟨⟨by decide, by decide⟩, fun q => absurd q (by decide), fun q => absurd q (by decide), fun _ => NumOK.low (by decide) (by decide)⟩) | (rw [iEq.mpr (show _ = (1 : Int32).toInt from hw327_0), hw327_1]; exact ⟨⟨by decide, by decide⟩, fun q => absurd q (by decide), fun q => absurd q (by decide), fun _ => NumOK.low (by decide) (by decide)⟩)) (by first | assumption | omega | (intros; omega) | decide) hP hD hS (lv_sub hl [0, 1, 2] rfl)
    have J81 : ∀ (H : Heap) (locs : List Loc) (ls : Array Slot), va_P D vwCl (mw cs q v_thrown a_tape v_taped v_size v_to v_kind v_from v_letters v_letterMany v_digits v_isBeyond v_suffix v_steps v_fault v_hasProgram a_text a_act a_guess a_take a_begin a_finish a_to1 a_one a_two a_what a_ats a_atVar a_atNumber a_atomSort a_atomKind a_atomValue v_wrong v_wrongAt v_variable v_number v_numberKind v_takes a_out v_outed a_varSort a_varKind a_varValue a_creature v_creatures a_arrayClass a_arrayFrom a_arrayLong v_arrays v_cells a_cellSort a_cellKind a_cellValue a_asideSort a_asideKind a_asideValue a_outcome v_marks v_came v_guessed v_right v_taken a_markSort a_markKind a_markClass a_markValue v_sort_7 v_kindAt_7 v_value_7 a_index v_reached v_looked) H → va_D A (mw cs q v_thrown a_tape v_taped v_size v_to v_kind v_from v_letters v_letterMany v_digits v_isBeyond v_suffix v_steps v_fault v_hasProgram a_text a_act a_guess a_take a_begin a_finish a_to1 a_one a_two a_what a_ats a_atVar a_atNumber a_atomSort a_atomKind a_atomValue v_wrong v_wrongAt v_variable v_number v_numberKind v_takes a_out v_outed a_varSort a_varKind a_varValue a_creature v_creatures a_arrayClass a_arrayFrom a_arrayLong v_arrays v_cells a_cellSort a_cellKind a_cellValue a_asideSort a_asideKind a_asideValue a_outcome v_marks v_came v_guessed v_right v_taken a_markSort a_markKind a_markClass a_markValue v_sort_7 v_kindAt_7 v_value_7 a_index v_reached v_looked) → va_S A s.heap H locs → lv_has ls 5 [(0, .ref (q 0)), (1, .int s9), (2, .int 0)] → W p l e (headSpec (wG yX10_asks cX10_asks 5 (some .int)) rmX10_asks).room s m ([.ref (q 0), .int s9] : List Value).toArray below meth c H locs 0 0 Q (F0 m 81 ls [.int 0, .ref (q 0)]) := by
      intro H locs ls hP hD hS hl
      refine lv_lconst (v := 0) hx hb dX10_asks_81 (by decide) ?_
      exact J82 (0 : Int64) H locs ls (by first | decide | omega) hP hD hS (lv_sub hl [0, 1, 2] rfl)
    refine m_if_eq (X := v_sort_7.toInt) (tgt := 81) hx hb dX10_asks_58 (by decide) rfl (fun c58 => ?_) (fun c58 => ?_)
    · skip
      exact J81 H locs ls hP hD hS (lv_sub hl [1, 2, 0] rfl)
    · skip
      refine lv_aload_n hx hb dX10_asks_61 rfl (lv_at hl 1 rfl) ?_
      refine call_i (As := []) (rest := [.int 0, .ref (q 0)]) ⟨hx, hb, hml, hown, hts⟩ (tX10_classOf (l := l)  (by first | assumption | omega | (intros; omega) | decide) (by first | assumption | omega | (intros; omega) | decide)) (cwV 0 hts (gV (wr49 _ (List.mem_of_getElem? (i := 21) rfl)) (wr49 _ (List.mem_of_getElem? (i := 22) rfl)) (wr49 _ (List.mem_of_getElem? (i := 23) rfl)) (wr1 _ (List.mem_of_getElem? (i := 5) rfl)) (wr50 _ (List.mem_of_getElem? (i := 0) rfl))) rfl rfl rfl (by decide +kernel) ⟨Nat.le_of_ble_eq_true rfl, Nat.le_of_ble_eq_true rfl⟩) (va_recv hK hP (ci := 9) (q0 := 0) rfl rfl) hK hP hD hE hS hA rfl hl.1 rfl (Nat.le_of_ble_eq_true rfl) dX10_asks_62 ⟨Nat.le_of_ble_eq_true rfl, Nat.le_of_ble_eq_true rfl⟩ (fun r62 w9 H locs hw62 hP hD hS => ?_)
      obtain ⟨rfl, hw62_0, hw62_1⟩ := hw62
      have b_r62 := iB r62
      refine lv_aload_n hx hb dX10_asks_65 rfl (lv_at hl 1 rfl) ?_
      refine va_get (D := D) (ci := 9) (v := .ref (q 11)) (C := RX10) (T := TX10) (N := 71) hx hb hts hin hown hK hP 0 rfl rfl 24 (by decide) k_5_17 (fun _ h9 => h9) rfl dX10_asks_66 ?_
      refine lv_iload_n hx hb dX10_asks_69 rfl (lv_at hl 2 rfl) ?_
      refine m_iald hx hb hK hP 11 0 rfl rfl (ix (by omega) (by omega)) dX10_asks_70 (fun x70 e_x70 => ?_)
      have b_x70 := iB x70
      refine call_iSP (As := [.int r62, .int x70]) (rest := [.int 0, .ref (q 0)]) ⟨hx, hb, hml, hown, hts⟩ (tX10_isBelow (l := l) r62 x70) (va_cwS 2 hts (gS (wr50 _ (List.mem_of_getElem? (i := 1) rfl)) (wr50 _ (List.mem_of_getElem? (i := 2) rfl)) (wr1 _ (List.mem_of_getElem? (i := 5) rfl)) (wr50 _ (List.mem_of_getElem? (i := 3) rfl))) rfl rfl rfl (by decide +kernel) ⟨Nat.le_of_ble_eq_true rfl, Nat.le_of_ble_eq_true rfl⟩) (hK.sub [] rfl) hP hD hE hS hA rfl hl.1 rfl (Nat.le_of_ble_eq_true rfl) dX10_asks_71 ⟨Nat.le_of_ble_eq_true rfl, Nat.le_of_ble_eq_true rfl⟩ (fun r71 w9 H locs hw71 hP hD hS => ?_)
      obtain ⟨rfl, hw71_0, hw71_1⟩ := hw71
      have b_r71 := iB r71
      refine m_if_eq (X := r71.toInt) (tgt := 81) hx hb dX10_asks_74 (by decide) rfl (fun c74 => ?_) (fun c74 => ?_)
      · skip
        exact J81 H locs ls hP hD hS (lv_sub hl [1, 2, 0] rfl)
      · skip
        refine lv_lconst (v := 1) hx hb dX10_asks_77 (by decide) ?_
        refine lv_goto (tgt := 82) hx hb dX10_asks_78 (by decide) ?_
        exact J82 (1 : Int64) H locs ls (by first | decide | omega) hP hD hS (lv_sub hl [1, 2, 0] rfl)
  · skip
    refine lv_tableIn (tgt := 88) (off := 70) hx hb dX10_asks_18 (by omega) (by omega) (by rw [c18]; rfl) (by decide) ?_
    refine lv_aload_n hx hb dX10_asks_88 rfl (lv_at hl 1 rfl) ?_
    refine va_get (D := D) (ci := 9) (v := .ref (q 19)) (C := RX10) (T := TX10) (N := 71) hx hb hts hin hown hK hP 0 rfl rfl 39 (by decide) k_6_1 (fun _ h9 => h9) rfl dX10_asks_89 ?_
    refine lv_aload_n hx hb dX10_asks_92 rfl (lv_at hl 1 rfl) ?_
    refine va_get (D := D) (ci := 9) (v := .ref (q 10)) (C := RX10) (T := TX10) (N := 71) hx hb hts hin hown hK hP 0 rfl rfl 23 (by decide) k_5_16 (fun _ h9 => h9) rfl dX10_asks_93 ?_
    refine lv_iload_n hx hb dX10_asks_96 rfl (lv_at hl 2 rfl) ?_
    refine m_iald hx hb hK hP 10 0 rfl rfl (ix (by omega) (by omega)) dX10_asks_97 (fun x97 e_x97 => ?_)
    have b_x97 := iB x97
    have hx97 := congrArg Int32.toInt e_x97
    refine m_iald hx hb hK hP 19 0 rfl rfl (ix (by omega) (by omega)) dX10_asks_98 (fun x98 e_x98 => ?_)
    have b_x98 := iB x98
    refine lv_aload_n hx hb dX10_asks_99 rfl (lv_at hl 1 rfl) ?_
    refine va_get (D := D) (ci := 9) (v := .int v_sort_7) (C := RX10) (T := TX10) (N := 71) hx hb hts hin hown hK hP 0 rfl rfl 65 (by decide) k_47_12 (fun _ h9 => h9) rfl dX10_asks_100 ?_
    have J163 : ∀ (s0_163 : Int32) (H : Heap) (locs : List Loc) (ls : Array Slot), (s0_163.toInt = 0 ∨ s0_163.toInt = 1) → va_P D vwCl (mw cs q v_thrown a_tape v_taped v_size v_to v_kind v_from v_letters v_letterMany v_digits v_isBeyond v_suffix v_steps v_fault v_hasProgram a_text a_act a_guess a_take a_begin a_finish a_to1 a_one a_two a_what a_ats a_atVar a_atNumber a_atomSort a_atomKind a_atomValue v_wrong v_wrongAt v_variable v_number v_numberKind v_takes a_out v_outed a_varSort a_varKind a_varValue a_creature v_creatures a_arrayClass a_arrayFrom a_arrayLong v_arrays v_cells a_cellSort a_cellKind a_cellValue a_asideSort a_asideKind a_asideValue a_outcome v_marks v_came v_guessed v_right v_taken a_markSort a_markKind a_markClass a_markValue v_sort_7 v_kindAt_7 v_value_7 a_index v_reached v_looked) H → va_D A (mw cs q v_thrown a_tape v_taped v_size v_to v_kind v_from v_letters v_letterMany v_digits v_isBeyond v_suffix v_steps v_fault v_hasProgram a_text a_act a_guess a_take a_begin a_finish a_to1 a_one a_two a_what a_ats a_atVar a_atNumber a_atomSort a_atomKind a_atomValue v_wrong v_wrongAt v_variable v_number v_numberKind v_takes a_out v_outed a_varSort a_varKind a_varValue a_creature v_creatures a_arrayClass a_arrayFrom a_arrayLong v_arrays v_cells a_cellSort a_cellKind a_cellValue a_asideSort a_asideKind a_asideValue a_outcome v_marks v_came v_guessed v_right v_taken a_markSort a_markKind a_markClass a_markValue v_sort_7 v_kindAt_7 v_value_7 a_index v_reached v_looked) → va_S A s.heap H locs → lv_has ls 5 [(0, .ref (q 0)), (1, .int s9), (2, .int 0)] → W p l e (headSpec (wG yX10_asks cX10_asks 5 (some .int)) rmX10_asks).room s m ([.ref (q 0), .int s9] : List Value).toArray below meth c H locs 0 0 Q (F0 m 163 ls [.int s0_163]) := by
      intro s0_163 H locs ls f163_0 hP hD hS hl
      refine lv_istore_n (lv' := [(3, .int s0_163), (0, .ref (q 0)), (1, .int s9), (2, .int 0)]) hx hb dX10_asks_163 rfl hl (by decide) rfl (fun ls hl => ?_)
      refine lv_aload_n hx hb dX10_asks_164 rfl (lv_at hl 1 rfl) ?_
      refine lv_iconst (v := 0) hx hb dX10_asks_165 (by decide) ?_
      refine lv_iload_n hx hb dX10_asks_166 rfl (lv_at hl 0 rfl) ?_
      have J175 : ∀ (s2_175 : Int64) (H : Heap) (locs : List Loc) (ls : Array Slot), (s2_175.toInt = 0 ∨ s2_175.toInt = 1) → va_P D vwCl (mw cs q v_thrown a_tape v_taped v_size v_to v_kind v_from v_letters v_letterMany v_digits v_isBeyond v_suffix v_steps v_fault v_hasProgram a_text a_act a_guess a_take a_begin a_finish a_to1 a_one a_two a_what a_ats a_atVar a_atNumber a_atomSort a_atomKind a_atomValue v_wrong v_wrongAt v_variable v_number v_numberKind v_takes a_out v_outed a_varSort a_varKind a_varValue a_creature v_creatures a_arrayClass a_arrayFrom a_arrayLong v_arrays v_cells a_cellSort a_cellKind a_cellValue a_asideSort a_asideKind a_asideValue a_outcome v_marks v_came v_guessed v_right v_taken a_markSort a_markKind a_markClass a_markValue v_sort_7 v_kindAt_7 v_value_7 a_index v_reached v_looked) H → va_D A (mw cs q v_thrown a_tape v_taped v_size v_to v_kind v_from v_letters v_letterMany v_digits v_isBeyond v_suffix v_steps v_fault v_hasProgram a_text a_act a_guess a_take a_begin a_finish a_to1 a_one a_two a_what a_ats a_atVar a_atNumber a_atomSort a_atomKind a_atomValue v_wrong v_wrongAt v_variable v_number v_numberKind v_takes a_out v_outed a_varSort a_varKind a_varValue a_creature v_creatures a_arrayClass a_arrayFrom a_arrayLong v_arrays v_cells a_cellSort a_cellKind a_cellValue a_asideSort a_asideKind a_asideValue a_outcome v_marks v_came v_guessed v_right v_taken a_markSort a_markKind a_markClass a_markValue v_sort_7 v_kindAt_7 v_value_7 a_index v_reached v_looked) → va_S A s.heap H locs → lv_has ls 5 [(0, .ref (q 0)), (1, .int s9), (2, .int 0)] → W p l e (headSpec (wG yX10_asks cX10_asks 5 (some .int)) rmX10_asks).room s m ([.ref (q 0), .int s9] : List Value).toArray below meth c H locs 0 0 Q (F0 m 175 ls [.long s2_175, .int 0, .ref (q 0)]) := by
        intro s2_175 H locs ls f175_0 hP hD hS hl
        refine call_v (As := [.int 0, .long s2_175]) (rest := []) ⟨hx, hb, hml, hown, hts⟩ (tX10_number (l := l) (0 : Int32) s2_175) (cwV 2 hts (gV (wr47 _ (List.mem_of_getElem? (i := 19) rfl)) (wr47 _ (List.mem_of_getElem? (i := 20) rfl)) (wr47 _ (List.mem_of_getElem? (i := 21) rfl)) (wr1 _ (List.mem_of_getElem? (i := 5) rfl)) (wr47 _ (List.mem_of_getElem? (i := 22) rfl))) rfl rfl rfl (by decide +kernel) ⟨Nat.le_of_ble_eq_true rfl, Nat.le_of_ble_eq_true rfl⟩) (va_recv hK hP (ci := 9) (q0 := 0) rfl rfl) hK hP hD hE hS hA rfl hl.1 rfl (Nat.le_of_ble_eq_true rfl) dX10_asks_175 ⟨Nat.le_of_ble_eq_true rfl, Nat.le_of_ble_eq_true rfl⟩ (fun w9 H locs hw175 hP hD hS => ?_)
        obtain ⟨v_sort_175, v_kindAt_175, v_value_175, rfl, hw175_0, hw175_1, hw175_2⟩ := hw175
        have b_v_sort_175 := iB v_sort_175
        have b_v_kindAt_175 := iB v_kindAt_175
        have b_v_value_175 := jB v_value_175
        refine lv_goto (tgt := 330) hx hb dX10_asks_178 (by decide) ?_
        exact J330 (0 : Int32) v_kindAt_175 v_looked v_reached v_sort_175 v_value_175 H locs ls (by first | assumption | (rw [iEq.mpr (show _ = (1 : Int32).toInt from hw82_0), hw82_1]; exact ⟨⟨by decide, by decide⟩, fun q => absurd q (by decide), fun q => absurd q (by decide), fun _ => NumOK.low (by decide) (by decide)⟩) | (rw [iEq.mpr (show _ = (1 : Int32).toInt from hw175_0), hw175_1]; exact ⟨⟨by decide, by decide⟩, fun q => absurd q (by decide), fun q => absurd q (by decide), fun _ => NumOK.low (by decide) (by decide)⟩) | (rw [iEq.mpr (show _ = (1 : Int32).toInt from hw202_0), hw202_1]; exact ⟨⟨by decide, by decide⟩, fun q => absurd q (by decide), fun q => absurd q (by decide), fun _ => NumOK.low (by decide) (by decide)⟩) | (rw [iEq.mpr (show _ = (1 : Int32).toInt from hw215_0), hw215_1]; exact ⟨⟨by decide, by decide⟩, fun q => absurd q (by decide), fun q => absurd q (by decide), fun _ => NumOK.low (by decide) (by decide)⟩) | (rw [iEq.mpr (show _ = (1 : Int32).toInt from hw248_0), hw248_1]; exact ⟨⟨by decide, by decide⟩, fun q => absurd q (by decide), fun q => absurd q (by decide), fun _ => NumOK.low (by decide) (by decide)⟩) | (rw [iEq.mpr (show _ = (1 : Int32).toInt from hw327_0), hw327_1]; exact ⟨⟨by decide, by decide⟩, fun q => absurd q (by decide), fun q => absurd q (by decide), fun _ => NumOK.low (by decide) (by decide)⟩)) (by first | assumption | omega | (intros; omega) | decide) hP hD hS (lv_sub hl [0, 1, 2] rfl)
      refine m_if_eq (X := s0_163.toInt) (tgt := 174) hx hb dX10_asks_167 (by decide) rfl (fun c167 => ?_) (fun c167 => ?_)
      · skip
        refine lv_lconst (v := 0) hx hb dX10_asks_174 (by decide) ?_
        exact J175 (0 : Int64) H locs ls (by first | decide | omega) hP hD hS (lv_sub hl [1, 2, 3] rfl)
      · skip
        refine lv_lconst (v := 1) hx hb dX10_asks_170 (by decide) ?_
        refine lv_goto (tgt := 175) hx hb dX10_asks_171 (by decide) ?_
        exact J175 (1 : Int64) H locs ls (by first | decide | omega) hP hD hS (lv_sub hl [1, 2, 3] rfl)
    have J162 : ∀ (H : Heap) (locs : List Loc) (ls : Array Slot), va_P D vwCl (mw cs q v_thrown a_tape v_taped v_size v_to v_kind v_from v_letters v_letterMany v_digits v_isBeyond v_suffix v_steps v_fault v_hasProgram a_text a_act a_guess a_take a_begin a_finish a_to1 a_one a_two a_what a_ats a_atVar a_atNumber a_atomSort a_atomKind a_atomValue v_wrong v_wrongAt v_variable v_number v_numberKind v_takes a_out v_outed a_varSort a_varKind a_varValue a_creature v_creatures a_arrayClass a_arrayFrom a_arrayLong v_arrays v_cells a_cellSort a_cellKind a_cellValue a_asideSort a_asideKind a_asideValue a_outcome v_marks v_came v_guessed v_right v_taken a_markSort a_markKind a_markClass a_markValue v_sort_7 v_kindAt_7 v_value_7 a_index v_reached v_looked) H → va_D A (mw cs q v_thrown a_tape v_taped v_size v_to v_kind v_from v_letters v_letterMany v_digits v_isBeyond v_suffix v_steps v_fault v_hasProgram a_text a_act a_guess a_take a_begin a_finish a_to1 a_one a_two a_what a_ats a_atVar a_atNumber a_atomSort a_atomKind a_atomValue v_wrong v_wrongAt v_variable v_number v_numberKind v_takes a_out v_outed a_varSort a_varKind a_varValue a_creature v_creatures a_arrayClass a_arrayFrom a_arrayLong v_arrays v_cells a_cellSort a_cellKind a_cellValue a_asideSort a_asideKind a_asideValue a_outcome v_marks v_came v_guessed v_right v_taken a_markSort a_markKind a_markClass a_markValue v_sort_7 v_kindAt_7 v_value_7 a_index v_reached v_looked) → va_S A s.heap H locs → lv_has ls 5 [(0, .ref (q 0)), (1, .int s9), (2, .int 0)] → W p l e (headSpec (wG yX10_asks cX10_asks 5 (some .int)) rmX10_asks).room s m ([.ref (q 0), .int s9] : List Value).toArray below meth c H locs 0 0 Q (F0 m 162 ls []) := by
      intro H locs ls hP hD hS hl
      refine lv_iconst (v := 0) hx hb dX10_asks_162 (by decide) ?_
      exact J163 (0 : Int32) H locs ls (by first | decide | omega) hP hD hS (lv_sub hl [0, 1, 2] rfl)
    refine m_icmp_ne (X := x98.toInt) (Y := v_sort_7.toInt) (tgt := 162) hx hb dX10_asks_103 (by decide) rfl rfl (fun c103 => ?_) (fun c103 => ?_)
    · skip
      exact J162 H locs ls hP hD hS (lv_sub hl [1, 2, 0] rfl)
    · skip
      refine lv_aload_n hx hb dX10_asks_106 rfl (lv_at hl 1 rfl) ?_
      refine va_get (D := D) (ci := 9) (v := .int v_sort_7) (C := RX10) (T := TX10) (N := 71) hx hb hts hin hown hK hP 0 rfl rfl 65 (by decide) k_47_12 (fun _ h9 => h9) rfl dX10_asks_107 ?_
      have J158 : ∀ (H : Heap) (locs : List Loc) (ls : Array Slot), va_P D vwCl (mw cs q v_thrown a_tape v_taped v_size v_to v_kind v_from v_letters v_letterMany v_digits v_isBeyond v_suffix v_steps v_fault v_hasProgram a_text a_act a_guess a_take a_begin a_finish a_to1 a_one a_two a_what a_ats a_atVar a_atNumber a_atomSort a_atomKind a_atomValue v_wrong v_wrongAt v_variable v_number v_numberKind v_takes a_out v_outed a_varSort a_varKind a_varValue a_creature v_creatures a_arrayClass a_arrayFrom a_arrayLong v_arrays v_cells a_cellSort a_cellKind a_cellValue a_asideSort a_asideKind a_asideValue a_outcome v_marks v_came v_guessed v_right v_taken a_markSort a_markKind a_markClass a_markValue v_sort_7 v_kindAt_7 v_value_7 a_index v_reached v_looked) H → va_D A (mw cs q v_thrown a_tape v_taped v_size v_to v_kind v_from v_letters v_letterMany v_digits v_isBeyond v_suffix v_steps v_fault v_hasProgram a_text a_act a_guess a_take a_begin a_finish a_to1 a_one a_two a_what a_ats a_atVar a_atNumber a_atomSort a_atomKind a_atomValue v_wrong v_wrongAt v_variable v_number v_numberKind v_takes a_out v_outed a_varSort a_varKind a_varValue a_creature v_creatures a_arrayClass a_arrayFrom a_arrayLong v_arrays v_cells a_cellSort a_cellKind a_cellValue a_asideSort a_asideKind a_asideValue a_outcome v_marks v_came v_guessed v_right v_taken a_markSort a_markKind a_markClass a_markValue v_sort_7 v_kindAt_7 v_value_7 a_index v_reached v_looked) → va_S A s.heap H locs → lv_has ls 5 [(0, .ref (q 0)), (1, .int s9), (2, .int 0)] → W p l e (headSpec (wG yX10_asks cX10_asks 5 (some .int)) rmX10_asks).room s m ([.ref (q 0), .int s9] : List Value).toArray below meth c H locs 0 0 Q (F0 m 158 ls []) := by
        intro H locs ls hP hD hS hl
        refine lv_iconst (v := 1) hx hb dX10_asks_158 (by decide) ?_
        refine lv_goto (tgt := 163) hx hb dX10_asks_159 (by decide) ?_
        exact J163 (1 : Int32) H locs ls (by first | decide | omega) hP hD hS (lv_sub hl [0, 1, 2] rfl)
      refine m_if_eq (X := v_sort_7.toInt) (tgt := 158) hx hb dX10_asks_110 (by decide) rfl (fun c110 => ?_) (fun c110 => ?_)
      · skip
        exact J158 H locs ls hP hD hS (lv_sub hl [1, 2, 0] rfl)
      · skip
        refine lv_aload_n hx hb dX10_asks_113 rfl (lv_at hl 1 rfl) ?_
        refine va_get (D := D) (ci := 9) (v := .ref (q 21)) (C := RX10) (T := TX10) (N := 71) hx hb hts hin hown hK hP 0 rfl rfl 41 (by decide) k_6_3 (fun _ h9 => h9) rfl dX10_asks_114 ?_
        refine lv_aload_n hx hb dX10_asks_117 rfl (lv_at hl 1 rfl) ?_
        refine va_get (D := D) (ci := 9) (v := .ref (q 10)) (C := RX10) (T := TX10) (N := 71) hx hb hts hin hown hK hP 0 rfl rfl 23 (by decide) k_5_16 (fun _ h9 => h9) rfl dX10_asks_118 ?_
        refine lv_iload_n hx hb dX10_asks_121 rfl (lv_at hl 2 rfl) ?_
        refine m_iald hx hb hK hP 10 0 rfl rfl (ix (by omega) (by omega)) dX10_asks_122 (fun x122 e_x122 => ?_)
        have b_x122 := iB x122
        have hx122 := congrArg Int32.toInt e_x122
        refine m_lald hx hb hK hP 21 1 rfl rfl (ix (by omega) (by omega)) dX10_asks_123 (fun x123 e_x123 => ?_)
        have b_x123 := jB x123
        refine lv_aload_n hx hb dX10_asks_124 rfl (lv_at hl 1 rfl) ?_
        refine va_get (D := D) (ci := 9) (v := .long v_value_7) (C := RX10) (T := TX10) (N := 71) hx hb hts hin hown hK hP 0 rfl rfl 67 (by decide) k_47_14 (fun _ h9 => h9) rfl dX10_asks_125 ?_
        refine m_lcmp (X := x123.toInt) (Y := v_value_7.toInt) hx hb dX10_asks_128 rfl rfl (fun x128 g_x128 => ?_)
        refine m_if_ne (X := x128.toInt) (tgt := 162) hx hb dX10_asks_129 (by decide) rfl (fun c129 => ?_) (fun c129 => ?_)
        · skip
          exact J162 H locs ls hP hD hS (lv_sub hl [1, 2, 0] rfl)
        · skip
          refine lv_aload_n hx hb dX10_asks_132 rfl (lv_at hl 1 rfl) ?_
          refine va_get (D := D) (ci := 9) (v := .int v_sort_7) (C := RX10) (T := TX10) (N := 71) hx hb hts hin hown hK hP 0 rfl rfl 65 (by decide) k_47_12 (fun _ h9 => h9) rfl dX10_asks_133 ?_
          refine lv_iconst (v := 1) hx hb dX10_asks_136 (by decide) ?_
          refine m_icmp_ne (X := v_sort_7.toInt) (Y := 1) (tgt := 158) hx hb dX10_asks_137 (by decide) rfl (by decide) (fun c137 => ?_) (fun c137 => ?_)
          · skip
            exact J158 H locs ls hP hD hS (lv_sub hl [1, 2, 0] rfl)
          · skip
            refine lv_aload_n hx hb dX10_asks_140 rfl (lv_at hl 1 rfl) ?_
            refine va_get (D := D) (ci := 9) (v := .ref (q 20)) (C := RX10) (T := TX10) (N := 71) hx hb hts hin hown hK hP 0 rfl rfl 40 (by decide) k_6_2 (fun _ h9 => h9) rfl dX10_asks_141 ?_
            refine lv_aload_n hx hb dX10_asks_144 rfl (lv_at hl 1 rfl) ?_
            refine va_get (D := D) (ci := 9) (v := .ref (q 10)) (C := RX10) (T := TX10) (N := 71) hx hb hts hin hown hK hP 0 rfl rfl 23 (by decide) k_5_16 (fun _ h9 => h9) rfl dX10_asks_145 ?_
            refine lv_iload_n hx hb dX10_asks_148 rfl (lv_at hl 2 rfl) ?_
            refine m_iald hx hb hK hP 10 0 rfl rfl (ix (by omega) (by omega)) dX10_asks_149 (fun x149 e_x149 => ?_)
            have b_x149 := iB x149
            have hx149 := congrArg Int32.toInt e_x149
            refine m_iald hx hb hK hP 20 0 rfl rfl (ix (by omega) (by omega)) dX10_asks_150 (fun x150 e_x150 => ?_)
            have b_x150 := iB x150
            refine lv_aload_n hx hb dX10_asks_151 rfl (lv_at hl 1 rfl) ?_
            refine va_get (D := D) (ci := 9) (v := .int v_kindAt_7) (C := RX10) (T := TX10) (N := 71) hx hb hts hin hown hK hP 0 rfl rfl 66 (by decide) k_47_13 (fun _ h9 => h9) rfl dX10_asks_152 ?_
            refine m_icmp_ne (X := x150.toInt) (Y := v_kindAt_7.toInt) (tgt := 162) hx hb dX10_asks_155 (by decide) rfl rfl (fun c155 => ?_) (fun c155 => ?_)
            · skip
              exact J162 H locs ls hP hD hS (lv_sub hl [1, 2, 0] rfl)
            · skip
              exact J158 H locs ls hP hD hS (lv_sub hl [1, 2, 0] rfl)
  · skip
    refine lv_tableIn (tgt := 181) (off := 163) hx hb dX10_asks_18 (by omega) (by omega) (by rw [c18]; rfl) (by decide) ?_
    refine lv_aload_n hx hb dX10_asks_181 rfl (lv_at hl 1 rfl) ?_
    refine call_i (As := []) (rest := []) ⟨hx, hb, hml, hown, hts⟩ (tX10_asArray (l := l)  (by first | assumption | omega | (intros; omega) | decide) (by first | assumption | omega | (intros; omega) | decide)) (cwV 0 hts (gV (wr48 _ (List.mem_of_getElem? (i := 16) rfl)) (wr48 _ (List.mem_of_getElem? (i := 17) rfl)) (wr48 _ (List.mem_of_getElem? (i := 18) rfl)) (wr1 _ (List.mem_of_getElem? (i := 5) rfl)) (wr48 _ (List.mem_of_getElem? (i := 19) rfl))) rfl rfl rfl (by decide +kernel) ⟨Nat.le_of_ble_eq_true rfl, Nat.le_of_ble_eq_true rfl⟩) (va_recv hK hP (ci := 9) (q0 := 0) rfl rfl) hK hP hD hE hS hA rfl hl.1 rfl (Nat.le_of_ble_eq_true rfl) dX10_asks_182 ⟨Nat.le_of_ble_eq_true rfl, Nat.le_of_ble_eq_true rfl⟩ (fun r182 w9 H locs hw182 hP hD hS => ?_)
    obtain ⟨v_reached_182, rfl, hw182_0⟩ := hw182
    have b_v_reached_182 := iB v_reached_182
    have b_r182 := iB r182
    refine lv_istore_n (lv' := [(2, .int r182), (0, .ref (q 0)), (1, .int s9)]) hx hb dX10_asks_185 rfl hl (by decide) rfl (fun ls hl => ?_)
    refine lv_iload_n hx hb dX10_asks_186 rfl (lv_at hl 0 rfl) ?_
    refine m_if_ne (X := r182.toInt) (tgt := 330) hx hb dX10_asks_187 (by decide) rfl (fun c187 => ?_) (fun c187 => ?_)
    · skip
      exact J330 r182 v_kindAt_7 v_looked v_reached_182 v_sort_7 v_value_7 H locs ls (by first | assumption | (rw [iEq.mpr (show _ = (1 : Int32).toInt from hw82_0), hw82_1]; exact ⟨⟨by decide, by decide⟩, fun q => absurd q (by decide), fun q => absurd q (by decide), fun _ => NumOK.low (by decide) (by decide)⟩) | (rw [iEq.mpr (show _ = (1 : Int32).toInt from hw175_0), hw175_1]; exact ⟨⟨by decide, by decide⟩, fun q => absurd q (by decide), fun q => absurd q (by decide), fun _ => NumOK.low (by decide) (by decide)⟩) | (rw [iEq.mpr (show _ = (1 : Int32).toInt from hw202_0), hw202_1]; exact ⟨⟨by decide, by decide⟩, fun q => absurd q (by decide), fun q => absurd q (by decide), fun _ => NumOK.low (by decide) (by decide)⟩) | (rw [iEq.mpr (show _ = (1 : Int32).toInt from hw215_0), hw215_1]; exact ⟨⟨by decide, by decide⟩, fun q => absurd q (by decide), fun q => absurd q (by decide), fun _ => NumOK.low (by decide) (by decide)⟩) | (rw [iEq.mpr (show _ = (1 : Int32).toInt from hw248_0), hw248_1]; exact ⟨⟨by decide, by decide⟩, fun q => absurd q (by decide), fun q => absurd q (by decide), fun _ => NumOK.low (by decide) (by decide)⟩) | (rw [iEq.mpr (show _ = (1 : Int32).toInt from hw327_0), hw327_1]; exact ⟨⟨by decide, by decide⟩, fun q => absurd q (by decide), fun q => absurd q (by decide), fun _ => NumOK.low (by decide) (by decide)⟩)) (by first | assumption | omega | (intros; omega) | decide) hP hD hS (lv_sub hl [1, 2, 0] rfl)
    · skip
      refine lv_aload_n hx hb dX10_asks_190 rfl (lv_at hl 1 rfl) ?_
      refine lv_iconst (v := 4) hx hb dX10_asks_191 (by decide) ?_
      refine lv_aload_n hx hb dX10_asks_192 rfl (lv_at hl 1 rfl) ?_
      refine va_get (D := D) (ci := 9) (v := .ref (q 25)) (C := RX10) (T := TX10) (N := 71) hx hb hts hin hown hK hP 0 rfl rfl 46 (by decide) k_6_7 (fun _ h9 => h9) rfl dX10_asks_193 ?_
      refine lv_aload_n hx hb dX10_asks_196 rfl (lv_at hl 1 rfl) ?_
      refine va_get (D := D) (ci := 9) (v := .int v_reached_182) (C := RX10) (T := TX10) (N := 71) hx hb hts hin hown hK hP 0 rfl rfl 69 (by decide) k_48_11 (fun _ h9 => h9) rfl dX10_asks_197 ?_
      refine m_iald hx hb hK hP 25 0 rfl rfl (ix (by omega) (by omega)) dX10_asks_200 (fun x200 e_x200 => ?_)
      have b_x200 := iB x200
      refine m_i2l (X := x200.toInt) hx hb dX10_asks_201 rfl (fun x201 e_x201 g_x201 => ?_)
      refine call_v (As := [.int 4, .long x201]) (rest := []) ⟨hx, hb, hml, hown, hts⟩ (tX10_number (l := l) (4 : Int32) x201) (cwV 2 hts (gV (wr47 _ (List.mem_of_getElem? (i := 19) rfl)) (wr47 _ (List.mem_of_getElem? (i := 20) rfl)) (wr47 _ (List.mem_of_getElem? (i := 21) rfl)) (wr1 _ (List.mem_of_getElem? (i := 5) rfl)) (wr47 _ (List.mem_of_getElem? (i := 22) rfl))) rfl rfl rfl (by decide +kernel) ⟨Nat.le_of_ble_eq_true rfl, Nat.le_of_ble_eq_true rfl⟩) (va_recv hK hP (ci := 9) (q0 := 0) rfl rfl) hK hP hD hE hS hA rfl hl.1 rfl (Nat.le_of_ble_eq_true rfl) dX10_asks_202 ⟨Nat.le_of_ble_eq_true rfl, Nat.le_of_ble_eq_true rfl⟩ (fun w9 H locs hw202 hP hD hS => ?_)
      obtain ⟨v_sort_202, v_kindAt_202, v_value_202, rfl, hw202_0, hw202_1, hw202_2⟩ := hw202
      have b_v_sort_202 := iB v_sort_202
      have b_v_kindAt_202 := iB v_kindAt_202
      have b_v_value_202 := jB v_value_202
      refine lv_goto (tgt := 330) hx hb dX10_asks_205 (by decide) ?_
      exact J330 r182 v_kindAt_202 v_looked v_reached_182 v_sort_202 v_value_202 H locs ls (by first | assumption | (rw [iEq.mpr (show _ = (1 : Int32).toInt from hw82_0), hw82_1]; exact ⟨⟨by decide, by decide⟩, fun q => absurd q (by decide), fun q => absurd q (by decide), fun _ => NumOK.low (by decide) (by decide)⟩) | (rw [iEq.mpr (show _ = (1 : Int32).toInt from hw175_0), hw175_1]; exact ⟨⟨by decide, by decide⟩, fun q => absurd q (by decide), fun q => absurd q (by decide), fun _ => NumOK.low (by decide) (by decide)⟩) | (rw [iEq.mpr (show _ = (1 : Int32).toInt from hw202_0), hw202_1]; exact ⟨⟨by decide, by decide⟩, fun q => absurd q (by decide), fun q => absurd q (by decide), fun _ => NumOK.low (by decide) (by decide)⟩) | (rw [iEq.mpr (show _ = (1 : Int32).toInt from hw215_0), hw215_1]; exact ⟨⟨by decide, by decide⟩, fun q => absurd q (by decide), fun q => absurd q (by decide), fun _ => NumOK.low (by decide) (by decide)⟩) | (rw [iEq.mpr (show _ = (1 : Int32).toInt from hw248_0), hw248_1]; exact ⟨⟨by decide, by decide⟩, fun q => absurd q (by decide), fun q => absurd q (by decide), fun _ => NumOK.low (by decide) (by decide)⟩) | (rw [iEq.mpr (show _ = (1 : Int32).toInt from hw327_0), hw327_1]; exact ⟨⟨by decide, by decide⟩, fun q => absurd q (by decide), fun q => absurd q (by decide), fun _ => NumOK.low (by decide) (by decide)⟩)) (by first | assumption | omega | (intros; omega) | decide) hP hD hS (lv_sub hl [1, 2, 0] rfl)
  · skip
    refine lv_tableIn (tgt := 208) (off := 190) hx hb dX10_asks_18 (by omega) (by omega) (by rw [c18]; rfl) (by decide) ?_
    refine lv_aload_n hx hb dX10_asks_208 rfl (lv_at hl 1 rfl) ?_
    refine lv_iconst (v := 4) hx hb dX10_asks_209 (by decide) ?_
    refine lv_aload_n hx hb dX10_asks_210 rfl (lv_at hl 1 rfl) ?_
    refine call_i (As := []) (rest := [.int 4, .ref (q 0)]) ⟨hx, hb, hml, hown, hts⟩ (tX10_classOf (l := l)  (by first | assumption | omega | (intros; omega) | decide) (by first | assumption | omega | (intros; omega) | decide)) (cwV 0 hts (gV (wr49 _ (List.mem_of_getElem? (i := 21) rfl)) (wr49 _ (List.mem_of_getElem? (i := 22) rfl)) (wr49 _ (List.mem_of_getElem? (i := 23) rfl)) (wr1 _ (List.mem_of_getElem? (i := 5) rfl)) (wr50 _ (List.mem_of_getElem? (i := 0) rfl))) rfl rfl rfl (by decide +kernel) ⟨Nat.le_of_ble_eq_true rfl, Nat.le_of_ble_eq_true rfl⟩) (va_recv hK hP (ci := 9) (q0 := 0) rfl rfl) hK hP hD hE hS hA rfl hl.1 rfl (Nat.le_of_ble_eq_true rfl) dX10_asks_211 ⟨Nat.le_of_ble_eq_true rfl, Nat.le_of_ble_eq_true rfl⟩ (fun r211 w9 H locs hw211 hP hD hS => ?_)
    obtain ⟨rfl, hw211_0, hw211_1⟩ := hw211
    have b_r211 := iB r211
    refine m_i2l (X := r211.toInt) hx hb dX10_asks_214 rfl (fun x214 e_x214 g_x214 => ?_)
    refine call_v (As := [.int 4, .long x214]) (rest := []) ⟨hx, hb, hml, hown, hts⟩ (tX10_number (l := l) (4 : Int32) x214) (cwV 2 hts (gV (wr47 _ (List.mem_of_getElem? (i := 19) rfl)) (wr47 _ (List.mem_of_getElem? (i := 20) rfl)) (wr47 _ (List.mem_of_getElem? (i := 21) rfl)) (wr1 _ (List.mem_of_getElem? (i := 5) rfl)) (wr47 _ (List.mem_of_getElem? (i := 22) rfl))) rfl rfl rfl (by decide +kernel) ⟨Nat.le_of_ble_eq_true rfl, Nat.le_of_ble_eq_true rfl⟩) (va_recv hK hP (ci := 9) (q0 := 0) rfl rfl) hK hP hD hE hS hA rfl hl.1 rfl (Nat.le_of_ble_eq_true rfl) dX10_asks_215 ⟨Nat.le_of_ble_eq_true rfl, Nat.le_of_ble_eq_true rfl⟩ (fun w9 H locs hw215 hP hD hS => ?_)
    obtain ⟨v_sort_215, v_kindAt_215, v_value_215, rfl, hw215_0, hw215_1, hw215_2⟩ := hw215
    have b_v_sort_215 := iB v_sort_215
    have b_v_kindAt_215 := iB v_kindAt_215
    have b_v_value_215 := jB v_value_215
    refine lv_goto (tgt := 330) hx hb dX10_asks_218 (by decide) ?_
    exact J330 (0 : Int32) v_kindAt_215 v_looked v_reached v_sort_215 v_value_215 H locs ls (by first | assumption | (rw [iEq.mpr (show _ = (1 : Int32).toInt from hw82_0), hw82_1]; exact ⟨⟨by decide, by decide⟩, fun q => absurd q (by decide), fun q => absurd q (by decide), fun _ => NumOK.low (by decide) (by decide)⟩) | (rw [iEq.mpr (show _ = (1 : Int32).toInt from hw175_0), hw175_1]; exact ⟨⟨by decide, by decide⟩, fun q => absurd q (by decide), fun q => absurd q (by decide), fun _ => NumOK.low (by decide) (by decide)⟩) | (rw [iEq.mpr (show _ = (1 : Int32).toInt from hw202_0), hw202_1]; exact ⟨⟨by decide, by decide⟩, fun q => absurd q (by decide), fun q => absurd q (by decide), fun _ => NumOK.low (by decide) (by decide)⟩) | (rw [iEq.mpr (show _ = (1 : Int32).toInt from hw215_0), hw215_1]; exact ⟨⟨by decide, by decide⟩, fun q => absurd q (by decide), fun q => absurd q (by decide), fun _ => NumOK.low (by decide) (by decide)⟩) | (rw [iEq.mpr (show _ = (1 : Int32).toInt from hw248_0), hw248_1]; exact ⟨⟨by decide, by decide⟩, fun q => absurd q (by decide), fun q => absurd q (by decide), fun _ => NumOK.low (by decide) (by decide)⟩) | (rw [iEq.mpr (show _ = (1 : Int32).toInt from hw327_0), hw327_1]; exact ⟨⟨by decide, by decide⟩, fun q => absurd q (by decide), fun q => absurd q (by decide), fun _ => NumOK.low (by decide) (by decide)⟩)) (by first | assumption | omega | (intros; omega) | decide) hP hD hS (lv_sub hl [1, 2, 0] rfl)
  · skip
    refine lv_tableIn (tgt := 221) (off := 203) hx hb dX10_asks_18 (by omega) (by omega) (by rw [c18]; rfl) (by decide) ?_
    refine lv_aload_n hx hb dX10_asks_221 rfl (lv_at hl 1 rfl) ?_
    refine lv_iconst (v := 0) hx hb dX10_asks_222 (by decide) ?_
    refine va_put (D := D) (ci := 9) (v := .int 0) (ty := .int) (C := RX10) (T := TX10) (N := 71) hx hb hts hin tyX10 tyX10_ok nmX10 hown hK hP hD hS 0 rfl rfl 70 (by decide) k_52_10 (fun _ h9 => h9) rfl (by decide +kernel) rfl rfl (Nat.le_of_ble_eq_true rfl) dX10_asks_223 (fun H locs hP hD hS => ?_)
    have hP : va_P D vwCl (mw cs q v_thrown a_tape v_taped v_size v_to v_kind v_from v_letters v_letterMany v_digits v_isBeyond v_suffix v_steps v_fault v_hasProgram a_text a_act a_guess a_take a_begin a_finish a_to1 a_one a_two a_what a_ats a_atVar a_atNumber a_atomSort a_atomKind a_atomValue v_wrong v_wrongAt v_variable v_number v_numberKind v_takes a_out v_outed a_varSort a_varKind a_varValue a_creature v_creatures a_arrayClass a_arrayFrom a_arrayLong v_arrays v_cells a_cellSort a_cellKind a_cellValue a_asideSort a_asideKind a_asideValue a_outcome v_marks v_came v_guessed v_right v_taken a_markSort a_markKind a_markClass a_markValue v_sort_7 v_kindAt_7 v_value_7 a_index v_reached (0 : Int32)) H := hP
    have hD : va_D A (mw cs q v_thrown a_tape v_taped v_size v_to v_kind v_from v_letters v_letterMany v_digits v_isBeyond v_suffix v_steps v_fault v_hasProgram a_text a_act a_guess a_take a_begin a_finish a_to1 a_one a_two a_what a_ats a_atVar a_atNumber a_atomSort a_atomKind a_atomValue v_wrong v_wrongAt v_variable v_number v_numberKind v_takes a_out v_outed a_varSort a_varKind a_varValue a_creature v_creatures a_arrayClass a_arrayFrom a_arrayLong v_arrays v_cells a_cellSort a_cellKind a_cellValue a_asideSort a_asideKind a_asideValue a_outcome v_marks v_came v_guessed v_right v_taken a_markSort a_markKind a_markClass a_markValue v_sort_7 v_kindAt_7 v_value_7 a_index v_reached (0 : Int32)) := hD
    refine lv_aload_n hx hb dX10_asks_226 rfl (lv_at hl 1 rfl) ?_
    refine call_i (As := []) (rest := []) ⟨hx, hb, hml, hown, hts⟩ (tX10_hash_q3 (l := l)  (by first | assumption | omega | (intros; omega) | decide) (by first | assumption | omega | (intros; omega) | decide) (by intro q; have z := hw7_0.2.1 q; have z2 := (p_0.2.1 v_value_7.toInt.toNat (by omega)).1; omega)) (cwV 0 hts (gV (wr52 _ (List.mem_of_getElem? (i := 11) rfl)) (wr52 _ (List.mem_of_getElem? (i := 12) rfl)) (wr52 _ (List.mem_of_getElem? (i := 13) rfl)) (wr1 _ (List.mem_of_getElem? (i := 5) rfl)) (wr52 _ (List.mem_of_getElem? (i := 14) rfl))) rfl rfl rfl (by decide +kernel) ⟨Nat.le_of_ble_eq_true rfl, Nat.le_of_ble_eq_true rfl⟩) (va_recv hK hP (ci := 9) (q0 := 0) rfl rfl) hK hP hD hE hS hA rfl hl.1 rfl (Nat.le_of_ble_eq_true rfl) dX10_asks_227 ⟨Nat.le_of_ble_eq_true rfl, Nat.le_of_ble_eq_true rfl⟩ (fun r227 w9 H locs hw227 hP hD hS => ?_)
    obtain ⟨v_sort_227, v_kindAt_227, v_value_227, v_looked_227, rfl⟩ := hw227
    have b_v_sort_227 := iB v_sort_227
    have b_v_kindAt_227 := iB v_kindAt_227
    have b_v_value_227 := jB v_value_227
    have b_v_looked_227 := iB v_looked_227
    have b_r227 := iB r227
    refine lv_istore_n (lv' := [(3, .int r227), (2, .int 0), (0, .ref (q 0)), (1, .int s9)]) hx hb dX10_asks_230 rfl hl (by decide) rfl (fun ls hl => ?_)
    refine lv_aload_n hx hb dX10_asks_231 rfl (lv_at hl 2 rfl) ?_
    refine va_get (D := D) (ci := 9) (v := .int v_looked_227) (C := RX10) (T := TX10) (N := 71) hx hb hts hin hown hK hP 0 rfl rfl 70 (by decide) k_52_10 (fun _ h9 => h9) rfl dX10_asks_232 ?_
    refine lv_sipush (v := 20000) hx hb dX10_asks_235 (by decide) ?_
    refine m_icmp_le (X := v_looked_227.toInt) (Y := 20000) (tgt := 244) hx hb dX10_asks_238 (by decide) rfl (by decide) (fun c238 => ?_) (fun c238 => ?_)
    · skip
      refine lv_aload_n hx hb dX10_asks_244 rfl (lv_at hl 2 rfl) ?_
      refine lv_iconst (v := 4) hx hb dX10_asks_245 (by decide) ?_
      refine lv_iload_n hx hb dX10_asks_246 rfl (lv_at hl 0 rfl) ?_
      refine m_i2l (X := r227.toInt) hx hb dX10_asks_247 rfl (fun x247 e_x247 g_x247 => ?_)
      refine call_v (As := [.int 4, .long x247]) (rest := []) ⟨hx, hb, hml, hown, hts⟩ (tX10_number (l := l) (4 : Int32) x247) (cwV 2 hts (gV (wr47 _ (List.mem_of_getElem? (i := 19) rfl)) (wr47 _ (List.mem_of_getElem? (i := 20) rfl)) (wr47 _ (List.mem_of_getElem? (i := 21) rfl)) (wr1 _ (List.mem_of_getElem? (i := 5) rfl)) (wr47 _ (List.mem_of_getElem? (i := 22) rfl))) rfl rfl rfl (by decide +kernel) ⟨Nat.le_of_ble_eq_true rfl, Nat.le_of_ble_eq_true rfl⟩) (va_recv hK hP (ci := 9) (q0 := 0) rfl rfl) hK hP hD hE hS hA rfl hl.1 rfl (Nat.le_of_ble_eq_true rfl) dX10_asks_248 ⟨Nat.le_of_ble_eq_true rfl, Nat.le_of_ble_eq_true rfl⟩ (fun w9 H locs hw248 hP hD hS => ?_)
      obtain ⟨v_sort_248, v_kindAt_248, v_value_248, rfl, hw248_0, hw248_1, hw248_2⟩ := hw248
      have b_v_sort_248 := iB v_sort_248
      have b_v_kindAt_248 := iB v_kindAt_248
      have b_v_value_248 := jB v_value_248
      refine lv_goto (tgt := 330) hx hb dX10_asks_251 (by decide) ?_
      exact J330 (0 : Int32) v_kindAt_248 v_looked_227 v_reached v_sort_248 v_value_248 H locs ls (by first | assumption | (rw [iEq.mpr (show _ = (1 : Int32).toInt from hw82_0), hw82_1]; exact ⟨⟨by decide, by decide⟩, fun q => absurd q (by decide), fun q => absurd q (by decide), fun _ => NumOK.low (by decide) (by decide)⟩) | (rw [iEq.mpr (show _ = (1 : Int32).toInt from hw175_0), hw175_1]; exact ⟨⟨by decide, by decide⟩, fun q => absurd q (by decide), fun q => absurd q (by decide), fun _ => NumOK.low (by decide) (by decide)⟩) | (rw [iEq.mpr (show _ = (1 : Int32).toInt from hw202_0), hw202_1]; exact ⟨⟨by decide, by decide⟩, fun q => absurd q (by decide), fun q => absurd q (by decide), fun _ => NumOK.low (by decide) (by decide)⟩) | (rw [iEq.mpr (show _ = (1 : Int32).toInt from hw215_0), hw215_1]; exact ⟨⟨by decide, by decide⟩, fun q => absurd q (by decide), fun q => absurd q (by decide), fun _ => NumOK.low (by decide) (by decide)⟩) | (rw [iEq.mpr (show _ = (1 : Int32).toInt from hw248_0), hw248_1]; exact ⟨⟨by decide, by decide⟩, fun q => absurd q (by decide), fun q => absurd q (by decide), fun _ => NumOK.low (by decide) (by decide)⟩) | (rw [iEq.mpr (show _ = (1 : Int32).toInt from hw327_0), hw327_1]; exact ⟨⟨by decide, by decide⟩, fun q => absurd q (by decide), fun q => absurd q (by decide), fun _ => NumOK.low (by decide) (by decide)⟩)) (by first | assumption | omega | (intros; omega) | decide) hP hD hS (lv_sub hl [2, 3, 1] rfl)
    · skip
      refine lv_bipush (v := 7) hx hb dX10_asks_241 (by decide) ?_
      subst hAe
      rw [hQ]
      exact W.iret (v := 7) hx hb hr (fun t ht hW => ⟨⟨7, _, rfl, ⟨a_varSort, a_varKind, a_varValue, v_sort_227, v_kindAt_227, v_value_227, v_reached, v_looked_227, rfl, by first | assumption | omega | (intros; omega) | decide, by first | assumption | omega | (intros; omega) | decide⟩, by rw [ht]; exact hP, va_K.moved hW.alike hK, hD⟩, hS.F ht⟩) hS.2.2 dX10_asks_243

def rmX10_doStep : Room := { frames := 140, cells := 0, slots := 0, locals := 2800 }
set_option maxHeartbeats 4000000 in
set_option maxRecDepth 100000 in
theorem tX10_doStep {l : Launch} {D : va_G} {K : Nat → Nat → Nat} {cs : Nat → ClassId} {q : Nat → Nat} {v_thrown v_taped v_size v_to v_kind v_from v_letterMany v_isBeyond v_suffix v_steps v_fault v_hasProgram v_wrong v_wrongAt v_variable v_numberKind v_takes v_outed v_creatures v_arrays v_cells v_marks v_came v_guessed v_right v_taken v_sort v_kindAt v_reached v_looked : Int32} {a_tape a_text a_act a_guess a_take a_begin a_finish a_to1 a_one a_two a_what a_ats a_atVar a_atNumber a_atomSort a_atomKind a_out a_varSort a_varKind a_creature a_arrayClass a_arrayFrom a_arrayLong a_cellSort a_cellKind a_asideSort a_asideKind a_outcome a_markSort a_markKind a_markClass a_index : Nat → Int32} {v_letters v_digits v_number v_value : Int64} {a_atomValue a_varValue a_cellValue a_asideValue a_markValue : Nat → Int64} (s9 : Int32) (p_0 : RUN a_varSort a_varKind a_varValue v_arrays v_cells v_creatures a_arrayClass a_arrayFrom a_arrayLong a_cellSort a_cellKind a_cellValue) (p_1 : R25 a_one) (p_2 : R25 a_two) (p_3 : R25 a_to1) (p_4 : 0 ≤ s9.toInt) (p_5 : s9.toInt ≤ 201) (p_6 : R03 a_ats) (p_7 : Rm25 a_atVar) (p_8 : ATM a_atomSort a_atomKind a_atomValue) (p_9 : STPk a_act a_ats a_what s9.toNatClampNeg) (p_10 : v_creatures.toInt ≤ 99) (p_11 : 0 ≤ v_marks.toInt) (p_12 : v_marks.toInt ≤ 1000) (p_13 : ∀ j : Nat, (a_markSort j).toInt = 1 → NumOK (a_markKind j) (a_markValue j)) : CtI l yX10_doStep (wG yX10_doStep cX10_doStep 3 (some .int)) rmX10_doStep D (mwT cs) K [.ref (q 0), .int s9] (mw cs q v_thrown a_tape v_taped v_size v_to v_kind v_from v_letters v_letterMany v_digits v_isBeyond v_suffix v_steps v_fault v_hasProgram a_text a_act a_guess a_take a_begin a_finish a_to1 a_one a_two a_what a_ats a_atVar a_atNumber a_atomSort a_atomKind a_atomValue v_wrong v_wrongAt v_variable v_number v_numberKind v_takes a_out v_outed a_varSort a_varKind a_varValue a_creature v_creatures a_arrayClass a_arrayFrom a_arrayLong v_arrays v_cells a_cellSort a_cellKind a_cellValue a_asideSort a_asideKind a_asideValue a_outcome v_marks v_came v_guessed v_right v_taken a_markSort a_markKind a_markClass a_markValue v_sort v_kindAt v_value a_index v_reached v_looked) (fun r w1 => ∃ (a_varSort' : Nat → Int32) (a_varKind' : Nat → Int32) (a_varValue' : Nat → Int64) (a_creature' : Nat → Int32) (v_creatures' : Int32) (a_arrayClass' : Nat → Int32) (a_arrayFrom' : Nat → Int32) (a_arrayLong' : Nat → Int32) (v_arrays' : Int32) (v_cells' : Int32) (a_cellSort' : Nat → Int32) (a_cellKind' : Nat → Int32) (a_cellValue' : Nat → Int64) (a_asideSort' : Nat → Int32) (a_asideKind' : Nat → Int32) (a_asideValue' : Nat → Int64) (v_marks' : Int32) (a_markSort' : Nat → Int32) (a_markKind' : Nat → Int32) (a_markClass' : Nat → Int32) (a_markValue' : Nat → Int64) (v_sort' : Int32) (v_kindAt' : Int32) (v_value' : Int64) (a_index' : Nat → Int32) (v_reached' : Int32) (v_looked' : Int32), w1 = (mw cs q v_thrown a_tape v_taped v_size v_to v_kind v_from v_letters v_letterMany v_digits v_isBeyond v_suffix v_steps v_fault v_hasProgram a_text a_act a_guess a_take a_begin a_finish a_to1 a_one a_two a_what a_ats a_atVar a_atNumber a_atomSort a_atomKind a_atomValue v_wrong v_wrongAt v_variable v_number v_numberKind v_takes a_out v_outed a_varSort' a_varKind' a_varValue' a_creature' v_creatures' a_arrayClass' a_arrayFrom' a_arrayLong' v_arrays' v_cells' a_cellSort' a_cellKind' a_cellValue' a_asideSort' a_asideKind' a_asideValue' a_outcome v_marks' v_came v_guessed v_right v_taken a_markSort' a_markKind' a_markClass' a_markValue' v_sort' v_kindAt' v_value' a_index' v_reached' v_looked') ∧ (RUN a_varSort' a_varKind' a_varValue' v_arrays' v_cells' v_creatures' a_arrayClass' a_arrayFrom' a_arrayLong' a_cellSort' a_cellKind' a_cellValue') ∧ (0 ≤ r.toInt) ∧ (v_creatures.toInt ≤ v_creatures'.toInt) ∧ (v_creatures'.toInt ≤ v_creatures.toInt + 1) ∧ (0 ≤ v_marks'.toInt) ∧ (v_marks'.toInt ≤ v_marks.toInt + 1) ∧ (∀ j : Nat, (a_markSort' j).toInt = 1 → NumOK (a_markKind' j) (a_markValue' j))) 0 0 := by
  intro sz
  refine Met.ofW (cc := cX10_doStep) (maxL := 3) (ret := (some .int)) (by decide) rfl ?_
  intro p e s m args below meth c s₁ B hml hv
  obtain ⟨rfl, hsz, hP, hK, hD0, hE⟩ := hv
  have hx := B.exec
  have hb := B.bytes
  have hr := B.returns
  have hts := atoms_spec (ws := (wG yX10_doStep cX10_doStep 3 (some .int))) B.pre
  have hown : s.vm.findClass RX10 = some m.cls := findClass_of_methodNamed B.named
  have hlocks := B.notSynchronized
  subst hsz
  have hD := hD0.self (sz := s.heap.size)
  obtain ⟨A, hAe⟩ : ∃ A : Nat → Prop, A = va_A (mw cs q v_thrown a_tape v_taped v_size v_to v_kind v_from v_letters v_letterMany v_digits v_isBeyond v_suffix v_steps v_fault v_hasProgram a_text a_act a_guess a_take a_begin a_finish a_to1 a_one a_two a_what a_ats a_atVar a_atNumber a_atomSort a_atomKind a_atomValue v_wrong v_wrongAt v_variable v_number v_numberKind v_takes a_out v_outed a_varSort a_varKind a_varValue a_creature v_creatures a_arrayClass a_arrayFrom a_arrayLong v_arrays v_cells a_cellSort a_cellKind a_cellValue a_asideSort a_asideKind a_asideValue a_outcome v_marks v_came v_guessed v_right v_taken a_markSort a_markKind a_markClass a_markValue v_sort v_kindAt v_value a_index v_reached v_looked) s.heap.size := ⟨_, rfl⟩
  rw [← hAe] at hD hE
  have hA : ∀ q : Nat, s.heap.size ≤ q → A q := fun q h => by rw [hAe]; exact Or.inr h
  have hS : va_S A s.heap s.heap [] := va_S.rf
  have hl := lv_entry ([.ref (q 0), .int s9]) (n := 3) (Nat.le_of_ble_eq_true rfl)
  rw [lg_entry_eq]
  generalize (lg_sl ([.ref (q 0), .int s9]) ++ List.replicate (3 - (lg_sl ([.ref (q 0), .int s9])).length) Slot.unset).toArray = ls at hl ⊢
  have hl : lv_has ls 3 [(0, .ref (q 0)), (1, .int s9)] := hl
  refine wq (fun Q hQ => ?_)
  have hin : ∀ w ∈ wsX100, w ∈ (wG yX10_doStep cX10_doStep 3 (some .int)) := fun w h => List.mem_cons_of_mem _ (inlX10 w h)
  have kc0 : (0 : Int32).toInt = 0 := by decide
  have k_5_9 := hts (.fieldLink RX10 16 "ArrayTrainerModel" "act" "[I") (List.mem_cons_of_mem _ (wr5 _ (List.mem_of_getElem? (i := 9) rfl)))
  have k_5_14 := hts (.fieldLink RX10 31 "ArrayTrainerModel" "to1" "[I") (List.mem_cons_of_mem _ (wr5 _ (List.mem_of_getElem? (i := 14) rfl)))
  obtain ⟨H, hH⟩ : ∃ H : Heap, H = s.heap := ⟨_, rfl⟩
  obtain ⟨locs, hlc⟩ : ∃ L : List Loc, L = [] := ⟨_, rfl⟩
  have hP : va_P D vwCl (mw cs q v_thrown a_tape v_taped v_size v_to v_kind v_from v_letters v_letterMany v_digits v_isBeyond v_suffix v_steps v_fault v_hasProgram a_text a_act a_guess a_take a_begin a_finish a_to1 a_one a_two a_what a_ats a_atVar a_atNumber a_atomSort a_atomKind a_atomValue v_wrong v_wrongAt v_variable v_number v_numberKind v_takes a_out v_outed a_varSort a_varKind a_varValue a_creature v_creatures a_arrayClass a_arrayFrom a_arrayLong v_arrays v_cells a_cellSort a_cellKind a_cellValue a_asideSort a_asideKind a_asideValue a_outcome v_marks v_came v_guessed v_right v_taken a_markSort a_markKind a_markClass a_markValue v_sort v_kindAt v_value a_index v_reached v_looked) H := by rw [hH]; exact hP
  have hS : va_S A s.heap H locs := by rw [hH, hlc]; exact hS
  refine wHL hH hlc ?_
  have b_s9 := iB s9
  have hr9 := p_0.1
  have ht9 := p_3 s9.toNatClampNeg
  have ha9 := p_6 s9.toNatClampNeg
  obtain ⟨hs1, hs2⟩ := p_9
  refine lv_aload_n hx hb dX10_doStep_0 rfl (lv_at hl 0 rfl) ?_
  refine lv_iload_n hx hb dX10_doStep_1 rfl (lv_at hl 1 rfl) ?_
  refine call_i (As := [.int s9]) (rest := []) ⟨hx, hb, hml, hown, hts⟩ (tX10_readIndexes (l := l) s9 (by first | assumption | omega | (intros; omega) | decide) (by first | assumption | omega | (intros; omega) | decide) (by first | assumption | omega | (intros; omega) | decide) (by first | assumption | omega | (intros; omega) | decide)) (cwV 1 hts (gV (wr47 _ (List.mem_of_getElem? (i := 4) rfl)) (wr47 _ (List.mem_of_getElem? (i := 5) rfl)) (wr47 _ (List.mem_of_getElem? (i := 6) rfl)) (wr1 _ (List.mem_of_getElem? (i := 5) rfl)) (wr47 _ (List.mem_of_getElem? (i := 7) rfl))) rfl rfl rfl (by decide +kernel) ⟨Nat.le_of_ble_eq_true rfl, Nat.le_of_ble_eq_true rfl⟩) (va_recv hK hP (ci := 9) (q0 := 0) rfl rfl) hK hP hD hE hS hA rfl hl.1 rfl (Nat.le_of_ble_eq_true rfl) dX10_doStep_2 ⟨Nat.le_of_ble_eq_true rfl, Nat.le_of_ble_eq_true rfl⟩ (fun r2 w9 H locs hw2 hP hD hS => ?_)
  obtain ⟨a_index_2, rfl, hw2_0⟩ := hw2
  have b_r2 := iB r2
  refine lv_istore_n (lv' := [(2, .int r2), (0, .ref (q 0)), (1, .int s9)]) hx hb dX10_doStep_5 rfl hl (by decide) rfl (fun ls hl => ?_)
  refine lv_iload_n hx hb dX10_doStep_6 rfl (lv_at hl 0 rfl) ?_
  refine m_if_le (X := r2.toInt) (tgt := 12) hx hb dX10_doStep_7 (by decide) rfl (fun c7 => ?_) (fun c7 => ?_)
  · skip
    refine lv_aload_n hx hb dX10_doStep_12 rfl (lv_at hl 1 rfl) ?_
    refine va_get (D := D) (ci := 9) (v := .ref (q 3)) (C := RX10) (T := TX10) (N := 71) hx hb hts hin hown hK hP 0 rfl rfl 16 (by decide) k_5_9 (fun _ h9 => h9) rfl dX10_doStep_13 ?_
    refine lv_iload_n hx hb dX10_doStep_16 rfl (lv_at hl 2 rfl) ?_
    refine m_iald hx hb hK hP 3 0 rfl rfl (ix (by omega) (by omega)) dX10_doStep_17 (fun x17 e_x17 => ?_)
    have b_x17 := iB x17
    have hx17 := congrArg Int32.toInt e_x17
    have J208 : ∀ (H : Heap) (locs : List Loc) (ls : Array Slot), va_P D vwCl (mw cs q v_thrown a_tape v_taped v_size v_to v_kind v_from v_letters v_letterMany v_digits v_isBeyond v_suffix v_steps v_fault v_hasProgram a_text a_act a_guess a_take a_begin a_finish a_to1 a_one a_two a_what a_ats a_atVar a_atNumber a_atomSort a_atomKind a_atomValue v_wrong v_wrongAt v_variable v_number v_numberKind v_takes a_out v_outed a_varSort a_varKind a_varValue a_creature v_creatures a_arrayClass a_arrayFrom a_arrayLong v_arrays v_cells a_cellSort a_cellKind a_cellValue a_asideSort a_asideKind a_asideValue a_outcome v_marks v_came v_guessed v_right v_taken a_markSort a_markKind a_markClass a_markValue v_sort v_kindAt v_value a_index_2 v_reached v_looked) H → va_D A (mw cs q v_thrown a_tape v_taped v_size v_to v_kind v_from v_letters v_letterMany v_digits v_isBeyond v_suffix v_steps v_fault v_hasProgram a_text a_act a_guess a_take a_begin a_finish a_to1 a_one a_two a_what a_ats a_atVar a_atNumber a_atomSort a_atomKind a_atomValue v_wrong v_wrongAt v_variable v_number v_numberKind v_takes a_out v_outed a_varSort a_varKind a_varValue a_creature v_creatures a_arrayClass a_arrayFrom a_arrayLong v_arrays v_cells a_cellSort a_cellKind a_cellValue a_asideSort a_asideKind a_asideValue a_outcome v_marks v_came v_guessed v_right v_taken a_markSort a_markKind a_markClass a_markValue v_sort v_kindAt v_value a_index_2 v_reached v_looked) → va_S A s.heap H locs → lv_has ls 3 [(0, .ref (q 0)), (1, .int s9)] → W p l e (headSpec (wG yX10_doStep cX10_doStep 3 (some .int)) rmX10_doStep).room s m ([.ref (q 0), .int s9] : List Value).toArray below meth c H locs 0 0 Q (F0 m 208 ls []) := by
      intro H locs ls hP hD hS hl
      refine lv_aload_n hx hb dX10_doStep_208 rfl (lv_at hl 0 rfl) ?_
      refine lv_iload_n hx hb dX10_doStep_209 rfl (lv_at hl 1 rfl) ?_
      refine call_i (As := [.int s9]) (rest := []) ⟨hx, hb, hml, hown, hts⟩ (tX10_asks (l := l) s9 (by first | assumption | omega | (intros; omega) | decide) (by first | assumption | omega | (intros; omega) | decide) (by first | assumption | omega | (intros; omega) | decide) (by first | assumption | omega | (intros; omega) | decide) (by first | assumption | omega | (intros; omega) | decide) (by first | assumption | omega | (intros; omega) | decide)) (cwV 1 hts (gV (wr52 _ (List.mem_of_getElem? (i := 6) rfl)) (wr52 _ (List.mem_of_getElem? (i := 7) rfl)) (wr52 _ (List.mem_of_getElem? (i := 8) rfl)) (wr1 _ (List.mem_of_getElem? (i := 5) rfl)) (wr52 _ (List.mem_of_getElem? (i := 9) rfl))) rfl rfl rfl (by decide +kernel) ⟨Nat.le_of_ble_eq_true rfl, Nat.le_of_ble_eq_true rfl⟩) (va_recv hK hP (ci := 9) (q0 := 0) rfl rfl) hK hP hD hE hS hA rfl hl.1 rfl (Nat.le_of_ble_eq_true rfl) dX10_doStep_210 ⟨Nat.le_of_ble_eq_true rfl, Nat.le_of_ble_eq_true rfl⟩ (fun r210 w9 H locs hw210 hP hD hS => ?_)
      obtain ⟨a_varSort_210, a_varKind_210, a_varValue_210, v_sort_210, v_kindAt_210, v_value_210, v_reached_210, v_looked_210, rfl, hw210_0, hw210_1⟩ := hw210
      have b_v_sort_210 := iB v_sort_210
      have b_v_kindAt_210 := iB v_kindAt_210
      have b_v_value_210 := jB v_value_210
      have b_v_reached_210 := iB v_reached_210
      have b_v_looked_210 := iB v_looked_210
      have b_r210 := iB r210
      subst hAe
      rw [hQ]
      exact W.iret (v := r210) hx hb hr (fun t ht hW => ⟨⟨r210, _, rfl, ⟨a_varSort_210, a_varKind_210, a_varValue_210, a_creature, v_creatures, a_arrayClass, a_arrayFrom, a_arrayLong, v_arrays, v_cells, a_cellSort, a_cellKind, a_cellValue, a_asideSort, a_asideKind, a_asideValue, v_marks, a_markSort, a_markKind, a_markClass, a_markValue, v_sort_210, v_kindAt_210, v_value_210, a_index_2, v_reached_210, v_looked_210, rfl, by first | assumption | omega | (intros; omega) | decide, by first | assumption | omega | (intros; omega) | decide, by first | assumption | omega | (intros; omega) | decide, by first | assumption | omega | (intros; omega) | decide, by first | assumption | omega | (intros; omega) | decide, by first | assumption | omega | (intros; omega) | decide, by first | assumption | omega | (intros; omega) | decide⟩, by rw [ht]; exact hP, va_K.moved hW.alike hK, hD⟩, hS.F ht⟩) hS.2.2 dX10_doStep_213
    have J191 : ∀ (H : Heap) (locs : List Loc) (ls : Array Slot), va_P D vwCl (mw cs q v_thrown a_tape v_taped v_size v_to v_kind v_from v_letters v_letterMany v_digits v_isBeyond v_suffix v_steps v_fault v_hasProgram a_text a_act a_guess a_take a_begin a_finish a_to1 a_one a_two a_what a_ats a_atVar a_atNumber a_atomSort a_atomKind a_atomValue v_wrong v_wrongAt v_variable v_number v_numberKind v_takes a_out v_outed a_varSort a_varKind a_varValue a_creature v_creatures a_arrayClass a_arrayFrom a_arrayLong v_arrays v_cells a_cellSort a_cellKind a_cellValue a_asideSort a_asideKind a_asideValue a_outcome v_marks v_came v_guessed v_right v_taken a_markSort a_markKind a_markClass a_markValue v_sort v_kindAt v_value a_index_2 v_reached v_looked) H → va_D A (mw cs q v_thrown a_tape v_taped v_size v_to v_kind v_from v_letters v_letterMany v_digits v_isBeyond v_suffix v_steps v_fault v_hasProgram a_text a_act a_guess a_take a_begin a_finish a_to1 a_one a_two a_what a_ats a_atVar a_atNumber a_atomSort a_atomKind a_atomValue v_wrong v_wrongAt v_variable v_number v_numberKind v_takes a_out v_outed a_varSort a_varKind a_varValue a_creature v_creatures a_arrayClass a_arrayFrom a_arrayLong v_arrays v_cells a_cellSort a_cellKind a_cellValue a_asideSort a_asideKind a_asideValue a_outcome v_marks v_came v_guessed v_right v_taken a_markSort a_markKind a_markClass a_markValue v_sort v_kindAt v_value a_index_2 v_reached v_looked) → va_S A s.heap H locs → lv_has ls 3 [(0, .ref (q 0)), (1, .int s9)] → W p l e (headSpec (wG yX10_doStep cX10_doStep 3 (some .int)) rmX10_doStep).room s m ([.ref (q 0), .int s9] : List Value).toArray below meth c H locs 0 0 Q (F0 m 191 ls []) := by
      intro H locs ls hP hD hS hl
      refine lv_aload_n hx hb dX10_doStep_191 rfl (lv_at hl 0 rfl) ?_
      refine lv_iload_n hx hb dX10_doStep_192 rfl (lv_at hl 1 rfl) ?_
      refine call_i (As := [.int s9]) (rest := []) ⟨hx, hb, hml, hown, hts⟩ (tX10_turns (l := l) s9 (by first | assumption | omega | (intros; omega) | decide) (by first | assumption | omega | (intros; omega) | decide) (by first | assumption | omega | (intros; omega) | decide) (by first | assumption | omega | (intros; omega) | decide)) (cwV 1 hts (gV (wr51 _ (List.mem_of_getElem? (i := 18) rfl)) (wr51 _ (List.mem_of_getElem? (i := 19) rfl)) (wr51 _ (List.mem_of_getElem? (i := 20) rfl)) (wr1 _ (List.mem_of_getElem? (i := 5) rfl)) (wr51 _ (List.mem_of_getElem? (i := 21) rfl))) rfl rfl rfl (by decide +kernel) ⟨Nat.le_of_ble_eq_true rfl, Nat.le_of_ble_eq_true rfl⟩) (va_recv hK hP (ci := 9) (q0 := 0) rfl rfl) hK hP hD hE hS hA rfl hl.1 rfl (Nat.le_of_ble_eq_true rfl) dX10_doStep_193 ⟨Nat.le_of_ble_eq_true rfl, Nat.le_of_ble_eq_true rfl⟩ (fun r193 w9 H locs hw193 hP hD hS => ?_)
      obtain ⟨a_cellSort_193, a_cellKind_193, a_cellValue_193, v_sort_193, v_kindAt_193, v_value_193, v_reached_193, rfl, hw193_0, hw193_1⟩ := hw193
      have b_v_sort_193 := iB v_sort_193
      have b_v_kindAt_193 := iB v_kindAt_193
      have b_v_value_193 := jB v_value_193
      have b_v_reached_193 := iB v_reached_193
      have b_r193 := iB r193
      subst hAe
      rw [hQ]
      exact W.iret (v := r193) hx hb hr (fun t ht hW => ⟨⟨r193, _, rfl, ⟨a_varSort, a_varKind, a_varValue, a_creature, v_creatures, a_arrayClass, a_arrayFrom, a_arrayLong, v_arrays, v_cells, a_cellSort_193, a_cellKind_193, a_cellValue_193, a_asideSort, a_asideKind, a_asideValue, v_marks, a_markSort, a_markKind, a_markClass, a_markValue, v_sort_193, v_kindAt_193, v_value_193, a_index_2, v_reached_193, v_looked, rfl, by first | assumption | omega | (intros; omega) | decide, by first | assumption | omega | (intros; omega) | decide, by first | assumption | omega | (intros; omega) | decide, by first | assumption | omega | (intros; omega) | decide, by first | assumption | omega | (intros; omega) | decide, by first | assumption | omega | (intros; omega) | decide, by first | assumption | omega | (intros; omega) | decide⟩, by rw [ht]; exact hP, va_K.moved hW.alike hK, hD⟩, hS.F ht⟩) hS.2.2 dX10_doStep_196
    have J139 : ∀ (H : Heap) (locs : List Loc) (ls : Array Slot), (1 ≤ (a_ats s9.toNatClampNeg).toInt) → va_P D vwCl (mw cs q v_thrown a_tape v_taped v_size v_to v_kind v_from v_letters v_letterMany v_digits v_isBeyond v_suffix v_steps v_fault v_hasProgram a_text a_act a_guess a_take a_begin a_finish a_to1 a_one a_two a_what a_ats a_atVar a_atNumber a_atomSort a_atomKind a_atomValue v_wrong v_wrongAt v_variable v_number v_numberKind v_takes a_out v_outed a_varSort a_varKind a_varValue a_creature v_creatures a_arrayClass a_arrayFrom a_arrayLong v_arrays v_cells a_cellSort a_cellKind a_cellValue a_asideSort a_asideKind a_asideValue a_outcome v_marks v_came v_guessed v_right v_taken a_markSort a_markKind a_markClass a_markValue v_sort v_kindAt v_value a_index_2 v_reached v_looked) H → va_D A (mw cs q v_thrown a_tape v_taped v_size v_to v_kind v_from v_letters v_letterMany v_digits v_isBeyond v_suffix v_steps v_fault v_hasProgram a_text a_act a_guess a_take a_begin a_finish a_to1 a_one a_two a_what a_ats a_atVar a_atNumber a_atomSort a_atomKind a_atomValue v_wrong v_wrongAt v_variable v_number v_numberKind v_takes a_out v_outed a_varSort a_varKind a_varValue a_creature v_creatures a_arrayClass a_arrayFrom a_arrayLong v_arrays v_cells a_cellSort a_cellKind a_cellValue a_asideSort a_asideKind a_asideValue a_outcome v_marks v_came v_guessed v_right v_taken a_markSort a_markKind a_markClass a_markValue v_sort v_kindAt v_value a_index_2 v_reached v_looked) → va_S A s.heap H locs → lv_has ls 3 [(0, .ref (q 0)), (1, .int s9)] → W p l e (headSpec (wG yX10_doStep cX10_doStep 3 (some .int)) rmX10_doStep).room s m ([.ref (q 0), .int s9] : List Value).toArray below meth c H locs 0 0 Q (F0 m 139 ls []) := by
      intro H locs ls f139_0 hP hD hS hl
      refine lv_aload_n hx hb dX10_doStep_139 rfl (lv_at hl 0 rfl) ?_
      refine lv_iload_n hx hb dX10_doStep_140 rfl (lv_at hl 1 rfl) ?_
      refine call_i (As := [.int s9]) (rest := []) ⟨hx, hb, hml, hown, hts⟩ (tX10_writes (l := l) s9 (by first | assumption | omega | (intros; omega) | decide) (by first | assumption | omega | (intros; omega) | decide) (by first | assumption | omega | (intros; omega) | decide) (by first | assumption | omega | (intros; omega) | decide) (by first | assumption | omega | (intros; omega) | decide) (by first | assumption | omega | (intros; omega) | decide) (by first | assumption | omega | (intros; omega) | decide) (by first | assumption | omega | (intros; omega) | decide)) (cwV 1 hts (gV (wr49 _ (List.mem_of_getElem? (i := 10) rfl)) (wr49 _ (List.mem_of_getElem? (i := 11) rfl)) (wr49 _ (List.mem_of_getElem? (i := 12) rfl)) (wr1 _ (List.mem_of_getElem? (i := 5) rfl)) (wr49 _ (List.mem_of_getElem? (i := 13) rfl))) rfl rfl rfl (by decide +kernel) ⟨Nat.le_of_ble_eq_true rfl, Nat.le_of_ble_eq_true rfl⟩) (va_recv hK hP (ci := 9) (q0 := 0) rfl rfl) hK hP hD hE hS hA rfl hl.1 rfl (Nat.le_of_ble_eq_true rfl) dX10_doStep_141 ⟨Nat.le_of_ble_eq_true rfl, Nat.le_of_ble_eq_true rfl⟩ (fun r141 w9 H locs hw141 hP hD hS => ?_)
      obtain ⟨a_creature_141, v_creatures_141, a_cellSort_141, a_cellKind_141, a_cellValue_141, v_sort_141, v_kindAt_141, v_value_141, v_reached_141, rfl, hw141_0, hw141_1, hw141_2, hw141_3⟩ := hw141
      have b_v_creatures_141 := iB v_creatures_141
      have b_v_sort_141 := iB v_sort_141
      have b_v_kindAt_141 := iB v_kindAt_141
      have b_v_value_141 := jB v_value_141
      have b_v_reached_141 := iB v_reached_141
      have b_r141 := iB r141
      subst hAe
      rw [hQ]
      exact W.iret (v := r141) hx hb hr (fun t ht hW => ⟨⟨r141, _, rfl, ⟨a_varSort, a_varKind, a_varValue, a_creature_141, v_creatures_141, a_arrayClass, a_arrayFrom, a_arrayLong, v_arrays, v_cells, a_cellSort_141, a_cellKind_141, a_cellValue_141, a_asideSort, a_asideKind, a_asideValue, v_marks, a_markSort, a_markKind, a_markClass, a_markValue, v_sort_141, v_kindAt_141, v_value_141, a_index_2, v_reached_141, v_looked, rfl, by first | assumption | omega | (intros; omega) | decide, by first | assumption | omega | (intros; omega) | decide, by first | assumption | omega | (intros; omega) | decide, by first | assumption | omega | (intros; omega) | decide, by first | assumption | omega | (intros; omega) | decide, by first | assumption | omega | (intros; omega) | decide, by first | assumption | omega | (intros; omega) | decide⟩, by rw [ht]; exact hP, va_K.moved hW.alike hK, hD⟩, hS.F ht⟩) hS.2.2 dX10_doStep_144
    have J133 : ∀ (H : Heap) (locs : List Loc) (ls : Array Slot), (1 ≤ (a_ats s9.toNatClampNeg).toInt) → va_P D vwCl (mw cs q v_thrown a_tape v_taped v_size v_to v_kind v_from v_letters v_letterMany v_digits v_isBeyond v_suffix v_steps v_fault v_hasProgram a_text a_act a_guess a_take a_begin a_finish a_to1 a_one a_two a_what a_ats a_atVar a_atNumber a_atomSort a_atomKind a_atomValue v_wrong v_wrongAt v_variable v_number v_numberKind v_takes a_out v_outed a_varSort a_varKind a_varValue a_creature v_creatures a_arrayClass a_arrayFrom a_arrayLong v_arrays v_cells a_cellSort a_cellKind a_cellValue a_asideSort a_asideKind a_asideValue a_outcome v_marks v_came v_guessed v_right v_taken a_markSort a_markKind a_markClass a_markValue v_sort v_kindAt v_value a_index_2 v_reached v_looked) H → va_D A (mw cs q v_thrown a_tape v_taped v_size v_to v_kind v_from v_letters v_letterMany v_digits v_isBeyond v_suffix v_steps v_fault v_hasProgram a_text a_act a_guess a_take a_begin a_finish a_to1 a_one a_two a_what a_ats a_atVar a_atNumber a_atomSort a_atomKind a_atomValue v_wrong v_wrongAt v_variable v_number v_numberKind v_takes a_out v_outed a_varSort a_varKind a_varValue a_creature v_creatures a_arrayClass a_arrayFrom a_arrayLong v_arrays v_cells a_cellSort a_cellKind a_cellValue a_asideSort a_asideKind a_asideValue a_outcome v_marks v_came v_guessed v_right v_taken a_markSort a_markKind a_markClass a_markValue v_sort v_kindAt v_value a_index_2 v_reached v_looked) → va_S A s.heap H locs → lv_has ls 3 [(0, .ref (q 0)), (1, .int s9)] → W p l e (headSpec (wG yX10_doStep cX10_doStep 3 (some .int)) rmX10_doStep).room s m ([.ref (q 0), .int s9] : List Value).toArray below meth c H locs 0 0 Q (F0 m 133 ls []) := by
      intro H locs ls f133_0 hP hD hS hl
      refine lv_aload_n hx hb dX10_doStep_133 rfl (lv_at hl 0 rfl) ?_
      refine lv_iload_n hx hb dX10_doStep_134 rfl (lv_at hl 1 rfl) ?_
      refine call_i (As := [.int s9]) (rest := []) ⟨hx, hb, hml, hown, hts⟩ (tX10_reads (l := l) s9 (by first | assumption | omega | (intros; omega) | decide) (by first | assumption | omega | (intros; omega) | decide) (by first | assumption | omega | (intros; omega) | decide) (by first | assumption | omega | (intros; omega) | decide) (by first | assumption | omega | (intros; omega) | decide) (by first | assumption | omega | (intros; omega) | decide) (by first | assumption | omega | (intros; omega) | decide)) (cwV 1 hts (gV (wr48 _ (List.mem_of_getElem? (i := 7) rfl)) (wr48 _ (List.mem_of_getElem? (i := 8) rfl)) (wr48 _ (List.mem_of_getElem? (i := 9) rfl)) (wr1 _ (List.mem_of_getElem? (i := 5) rfl)) (wr48 _ (List.mem_of_getElem? (i := 10) rfl))) rfl rfl rfl (by decide +kernel) ⟨Nat.le_of_ble_eq_true rfl, Nat.le_of_ble_eq_true rfl⟩) (va_recv hK hP (ci := 9) (q0 := 0) rfl rfl) hK hP hD hE hS hA rfl hl.1 rfl (Nat.le_of_ble_eq_true rfl) dX10_doStep_135 ⟨Nat.le_of_ble_eq_true rfl, Nat.le_of_ble_eq_true rfl⟩ (fun r135 w9 H locs hw135 hP hD hS => ?_)
      obtain ⟨a_varSort_135, a_varKind_135, a_varValue_135, v_sort_135, v_kindAt_135, v_value_135, v_reached_135, rfl, hw135_0, hw135_1⟩ := hw135
      have b_v_sort_135 := iB v_sort_135
      have b_v_kindAt_135 := iB v_kindAt_135
      have b_v_value_135 := jB v_value_135
      have b_v_reached_135 := iB v_reached_135
      have b_r135 := iB r135
      subst hAe
      rw [hQ]
      exact W.iret (v := r135) hx hb hr (fun t ht hW => ⟨⟨r135, _, rfl, ⟨a_varSort_135, a_varKind_135, a_varValue_135, a_creature, v_creatures, a_arrayClass, a_arrayFrom, a_arrayLong, v_arrays, v_cells, a_cellSort, a_cellKind, a_cellValue, a_asideSort, a_asideKind, a_asideValue, v_marks, a_markSort, a_markKind, a_markClass, a_markValue, v_sort_135, v_kindAt_135, v_value_135, a_index_2, v_reached_135, v_looked, rfl, by first | assumption | omega | (intros; omega) | decide, by first | assumption | omega | (intros; omega) | decide, by first | assumption | omega | (intros; omega) | decide, by first | assumption | omega | (intros; omega) | decide, by first | assumption | omega | (intros; omega) | decide, by first | assumption | omega | (intros; omega) | decide, by first | assumption | omega | (intros; omega) | decide⟩, by rw [ht]; exact hP, va_K.moved hW.alike hK, hD⟩, hS.F ht⟩) hS.2.2 dX10_doStep_138
    rcases (show (x17.toInt < 1 ∨ 21 < x17.toInt) ∨ x17.toInt = 1 ∨ x17.toInt = 2 ∨ x17.toInt = 3 ∨ x17.toInt = 4 ∨ x17.toInt = 5 ∨ x17.toInt = 6 ∨ x17.toInt = 7 ∨ x17.toInt = 8 ∨ x17.toInt = 9 ∨ x17.toInt = 10 ∨ x17.toInt = 11 ∨ x17.toInt = 12 ∨ x17.toInt = 13 ∨ x17.toInt = 14 ∨ x17.toInt = 15 ∨ x17.toInt = 16 ∨ x17.toInt = 17 ∨ x17.toInt = 18 ∨ x17.toInt = 19 ∨ x17.toInt = 20 ∨ x17.toInt = 21 by omega) with c18 | c18 | c18 | c18 | c18 | c18 | c18 | c18 | c18 | c18 | c18 | c18 | c18 | c18 | c18 | c18 | c18 | c18 | c18 | c18 | c18 | c18
    · skip
      refine lv_tableOut (tgt := 208) hx hb dX10_doStep_18 c18 (by decide) ?_
      exact J208 H locs ls hP hD hS (lv_sub hl [1, 2] rfl)
    · skip
      refine lv_tableIn (tgt := 116) (off := 98) hx hb dX10_doStep_18 (by omega) (by omega) (by rw [c18]; rfl) (by decide) ?_
      refine lv_aload_n hx hb dX10_doStep_116 rfl (lv_at hl 1 rfl) ?_
      refine lv_iload_n hx hb dX10_doStep_117 rfl (lv_at hl 2 rfl) ?_
      refine call_v (As := [.int s9]) (rest := []) ⟨hx, hb, hml, hown, hts⟩ (tX10_atom (l := l) s9 (by first | assumption | omega | (intros; omega) | decide) (by first | assumption | omega | (intros; omega) | decide) (by first | assumption | omega | (intros; omega) | decide) (by first | assumption | omega | (intros; omega) | decide) (by first | assumption | omega | (intros; omega) | decide)) (cwV 1 hts (gV (wr47 _ (List.mem_of_getElem? (i := 8) rfl)) (wr47 _ (List.mem_of_getElem? (i := 9) rfl)) (wr47 _ (List.mem_of_getElem? (i := 10) rfl)) (wr1 _ (List.mem_of_getElem? (i := 5) rfl)) (wr47 _ (List.mem_of_getElem? (i := 11) rfl))) rfl rfl rfl (by decide +kernel) ⟨Nat.le_of_ble_eq_true rfl, Nat.le_of_ble_eq_true rfl⟩) (va_recv hK hP (ci := 9) (q0 := 0) rfl rfl) hK hP hD hE hS hA rfl hl.1 rfl (Nat.le_of_ble_eq_true rfl) dX10_doStep_118 ⟨Nat.le_of_ble_eq_true rfl, Nat.le_of_ble_eq_true rfl⟩ (fun w9 H locs hw118 hP hD hS => ?_)
      obtain ⟨a_creature_118, v_creatures_118, v_sort_118, v_kindAt_118, v_value_118, rfl, hw118_0, hw118_1, hw118_2, hw118_3⟩ := hw118
      have b_v_creatures_118 := iB v_creatures_118
      have b_v_sort_118 := iB v_sort_118
      have b_v_kindAt_118 := iB v_kindAt_118
      have b_v_value_118 := jB v_value_118
      refine lv_aload_n hx hb dX10_doStep_121 rfl (lv_at hl 1 rfl) ?_
      refine lv_aload_n hx hb dX10_doStep_122 rfl (lv_at hl 1 rfl) ?_
      refine va_get (D := D) (ci := 9) (v := .ref (q 8)) (C := RX10) (T := TX10) (N := 71) hx hb hts hin hown hK hP 0 rfl rfl 21 (by decide) k_5_14 (fun _ h9 => h9) rfl dX10_doStep_123 ?_
      refine lv_iload_n hx hb dX10_doStep_126 rfl (lv_at hl 2 rfl) ?_
      refine m_iald hx hb hK hP 8 0 rfl rfl (ix (by omega) (by omega)) dX10_doStep_127 (fun x127 e_x127 => ?_)
      have b_x127 := iB x127
      have hx127 := congrArg Int32.toInt e_x127
      refine call_v (As := [.int x127]) (rest := []) ⟨hx, hb, hml, hown, hts⟩ (tX10_toVar (l := l) x127 (by first | assumption | omega | (intros; omega) | decide) (by first | assumption | omega | (intros; omega) | decide) (by first | assumption | omega | (intros; omega) | decide) (by first | assumption | omega | (intros; omega) | decide)) (cwV 1 hts (gV (wr48 _ (List.mem_of_getElem? (i := 3) rfl)) (wr48 _ (List.mem_of_getElem? (i := 4) rfl)) (wr48 _ (List.mem_of_getElem? (i := 5) rfl)) (wr1 _ (List.mem_of_getElem? (i := 5) rfl)) (wr48 _ (List.mem_of_getElem? (i := 6) rfl))) rfl rfl rfl (by decide +kernel) ⟨Nat.le_of_ble_eq_true rfl, Nat.le_of_ble_eq_true rfl⟩) (va_recv hK hP (ci := 9) (q0 := 0) rfl rfl) hK hP hD hE hS hA rfl hl.1 rfl (Nat.le_of_ble_eq_true rfl) dX10_doStep_128 ⟨Nat.le_of_ble_eq_true rfl, Nat.le_of_ble_eq_true rfl⟩ (fun w9 H locs hw128 hP hD hS => ?_)
      obtain ⟨a_varSort_128, a_varKind_128, a_varValue_128, rfl, hw128_0⟩ := hw128
      refine lv_iconst (v := 0) hx hb dX10_doStep_131 (by decide) ?_
      subst hAe
      rw [hQ]
      exact W.iret (v := 0) hx hb hr (fun t ht hW => ⟨⟨0, _, rfl, ⟨a_varSort_128, a_varKind_128, a_varValue_128, a_creature_118, v_creatures_118, a_arrayClass, a_arrayFrom, a_arrayLong, v_arrays, v_cells, a_cellSort, a_cellKind, a_cellValue, a_asideSort, a_asideKind, a_asideValue, v_marks, a_markSort, a_markKind, a_markClass, a_markValue, v_sort_118, v_kindAt_118, v_value_118, a_index_2, v_reached, v_looked, rfl, by first | assumption | omega | (intros; omega) | decide, by first | assumption | omega | (intros; omega) | decide, by first | assumption | omega | (intros; omega) | decide, by first | assumption | omega | (intros; omega) | decide, by first | assumption | omega | (intros; omega) | decide, by first | assumption | omega | (intros; omega) | decide, by first | assumption | omega | (intros; omega) | decide⟩, by rw [ht]; exact hP, va_K.moved hW.alike hK, hD⟩, hS.F ht⟩) hS.2.2 dX10_doStep_132
    · skip
      refine lv_tableIn (tgt := 133) (off := 115) hx hb dX10_doStep_18 (by omega) (by omega) (by rw [c18]; rfl) (by decide) ?_
      exact J133 H locs ls (by first | assumption | omega | (intros; omega) | decide) hP hD hS (lv_sub hl [1, 2] rfl)
    · skip
      refine lv_tableIn (tgt := 139) (off := 121) hx hb dX10_doStep_18 (by omega) (by omega) (by rw [c18]; rfl) (by decide) ?_
      exact J139 H locs ls (by first | assumption | omega | (intros; omega) | decide) hP hD hS (lv_sub hl [1, 2] rfl)
    · skip
      refine lv_tableIn (tgt := 133) (off := 115) hx hb dX10_doStep_18 (by omega) (by omega) (by rw [c18]; rfl) (by decide) ?_
      exact J133 H locs ls (by first | assumption | omega | (intros; omega) | decide) hP hD hS (lv_sub hl [1, 2] rfl)
    · skip
      refine lv_tableIn (tgt := 139) (off := 121) hx hb dX10_doStep_18 (by omega) (by omega) (by rw [c18]; rfl) (by decide) ?_
      exact J139 H locs ls (by first | assumption | omega | (intros; omega) | decide) hP hD hS (lv_sub hl [1, 2] rfl)
    · skip
      refine lv_tableIn (tgt := 133) (off := 115) hx hb dX10_doStep_18 (by omega) (by omega) (by rw [c18]; rfl) (by decide) ?_
      exact J133 H locs ls (by first | assumption | omega | (intros; omega) | decide) hP hD hS (lv_sub hl [1, 2] rfl)
    · skip
      refine lv_tableIn (tgt := 139) (off := 121) hx hb dX10_doStep_18 (by omega) (by omega) (by rw [c18]; rfl) (by decide) ?_
      exact J139 H locs ls (by first | assumption | omega | (intros; omega) | decide) hP hD hS (lv_sub hl [1, 2] rfl)
    · skip
      refine lv_tableIn (tgt := 145) (off := 127) hx hb dX10_doStep_18 (by omega) (by omega) (by rw [c18]; rfl) (by decide) ?_
      refine lv_aload_n hx hb dX10_doStep_145 rfl (lv_at hl 1 rfl) ?_
      refine lv_iload_n hx hb dX10_doStep_146 rfl (lv_at hl 2 rfl) ?_
      refine call_i (As := [.int s9]) (rest := []) ⟨hx, hb, hml, hown, hts⟩ (tX10_make (l := l) s9 (by first | assumption | omega | (intros; omega) | decide) (by first | assumption | omega | (intros; omega) | decide) (by first | assumption | omega | (intros; omega) | decide) (by first | assumption | omega | (intros; omega) | decide) (by first | assumption | omega | (intros; omega) | decide) (by first | assumption | omega | (intros; omega) | decide) (by first | assumption | omega | (intros; omega) | decide)) (cwV 1 hts (gV (wr50 _ (List.mem_of_getElem? (i := 11) rfl)) (wr50 _ (List.mem_of_getElem? (i := 12) rfl)) (wr50 _ (List.mem_of_getElem? (i := 13) rfl)) (wr1 _ (List.mem_of_getElem? (i := 5) rfl)) (wr50 _ (List.mem_of_getElem? (i := 14) rfl))) rfl rfl rfl (by decide +kernel) ⟨Nat.le_of_ble_eq_true rfl, Nat.le_of_ble_eq_true rfl⟩) (va_recv hK hP (ci := 9) (q0 := 0) rfl rfl) hK hP hD hE hS hA rfl hl.1 rfl (Nat.le_of_ble_eq_true rfl) dX10_doStep_147 ⟨Nat.le_of_ble_eq_true rfl, Nat.le_of_ble_eq_true rfl⟩ (fun r147 w9 H locs hw147 hP hD hS => ?_)
      obtain ⟨a_arrayClass_147, a_arrayFrom_147, a_arrayLong_147, v_arrays_147, v_cells_147, a_cellSort_147, a_cellKind_147, a_cellValue_147, v_sort_147, v_kindAt_147, v_value_147, rfl, hw147_0, hw147_1⟩ := hw147
      have b_v_arrays_147 := iB v_arrays_147
      have b_v_cells_147 := iB v_cells_147
      have b_v_sort_147 := iB v_sort_147
      have b_v_kindAt_147 := iB v_kindAt_147
      have b_v_value_147 := jB v_value_147
      have b_r147 := iB r147
      refine lv_istore_n (lv' := [(2, .int r147), (0, .ref (q 0)), (1, .int s9)]) hx hb dX10_doStep_150 rfl hl (by decide) rfl (fun ls hl => ?_)
      refine lv_iload_n hx hb dX10_doStep_151 rfl (lv_at hl 0 rfl) ?_
      refine m_if_ne (X := r147.toInt) (tgt := 165) hx hb dX10_doStep_152 (by decide) rfl (fun c152 => ?_) (fun c152 => ?_)
      · skip
        refine lv_iload_n hx hb dX10_doStep_165 rfl (lv_at hl 0 rfl) ?_
        subst hAe
        rw [hQ]
        exact W.iret (v := r147) hx hb hr (fun t ht hW => ⟨⟨r147, _, rfl, ⟨a_varSort, a_varKind, a_varValue, a_creature, v_creatures, a_arrayClass_147, a_arrayFrom_147, a_arrayLong_147, v_arrays_147, v_cells_147, a_cellSort_147, a_cellKind_147, a_cellValue_147, a_asideSort, a_asideKind, a_asideValue, v_marks, a_markSort, a_markKind, a_markClass, a_markValue, v_sort_147, v_kindAt_147, v_value_147, a_index_2, v_reached, v_looked, rfl, by first | assumption | omega | (intros; omega) | decide, by first | assumption | omega | (intros; omega) | decide, by first | assumption | omega | (intros; omega) | decide, by first | assumption | omega | (intros; omega) | decide, by first | assumption | omega | (intros; omega) | decide, by first | assumption | omega | (intros; omega) | decide, by first | assumption | omega | (intros; omega) | decide⟩, by rw [ht]; exact hP, va_K.moved hW.alike hK, hD⟩, hS.F ht⟩) hS.2.2 dX10_doStep_166
      · skip
        refine lv_aload_n hx hb dX10_doStep_155 rfl (lv_at hl 1 rfl) ?_
        refine lv_aload_n hx hb dX10_doStep_156 rfl (lv_at hl 1 rfl) ?_
        refine va_get (D := D) (ci := 9) (v := .ref (q 8)) (C := RX10) (T := TX10) (N := 71) hx hb hts hin hown hK hP 0 rfl rfl 21 (by decide) k_5_14 (fun _ h9 => h9) rfl dX10_doStep_157 ?_
        refine lv_iload_n hx hb dX10_doStep_160 rfl (lv_at hl 2 rfl) ?_
        refine m_iald hx hb hK hP 8 0 rfl rfl (ix (by omega) (by omega)) dX10_doStep_161 (fun x161 e_x161 => ?_)
        have b_x161 := iB x161
        have hx161 := congrArg Int32.toInt e_x161
        refine call_v (As := [.int x161]) (rest := []) ⟨hx, hb, hml, hown, hts⟩ (tX10_toVar (l := l) x161 (by first | assumption | omega | (intros; omega) | decide) (by first | assumption | omega | (intros; omega) | decide) (by first | assumption | omega | (intros; omega) | decide) (by exact (hw147_1.resolve_right (fun q => by omega)).2)) (cwV 1 hts (gV (wr48 _ (List.mem_of_getElem? (i := 3) rfl)) (wr48 _ (List.mem_of_getElem? (i := 4) rfl)) (wr48 _ (List.mem_of_getElem? (i := 5) rfl)) (wr1 _ (List.mem_of_getElem? (i := 5) rfl)) (wr48 _ (List.mem_of_getElem? (i := 6) rfl))) rfl rfl rfl (by decide +kernel) ⟨Nat.le_of_ble_eq_true rfl, Nat.le_of_ble_eq_true rfl⟩) (va_recv hK hP (ci := 9) (q0 := 0) rfl rfl) hK hP hD hE hS hA rfl hl.1 rfl (Nat.le_of_ble_eq_true rfl) dX10_doStep_162 ⟨Nat.le_of_ble_eq_true rfl, Nat.le_of_ble_eq_true rfl⟩ (fun w9 H locs hw162 hP hD hS => ?_)
        obtain ⟨a_varSort_162, a_varKind_162, a_varValue_162, rfl, hw162_0⟩ := hw162
        refine lv_iload_n hx hb dX10_doStep_165 rfl (lv_at hl 0 rfl) ?_
        subst hAe
        rw [hQ]
        exact W.iret (v := r147) hx hb hr (fun t ht hW => ⟨⟨r147, _, rfl, ⟨a_varSort_162, a_varKind_162, a_varValue_162, a_creature, v_creatures, a_arrayClass_147, a_arrayFrom_147, a_arrayLong_147, v_arrays_147, v_cells_147, a_cellSort_147, a_cellKind_147, a_cellValue_147, a_asideSort, a_asideKind, a_asideValue, v_marks, a_markSort, a_markKind, a_markClass, a_markValue, v_sort_147, v_kindAt_147, v_value_147, a_index_2, v_reached, v_looked, rfl, by first | assumption | omega | (intros; omega) | decide, by first | assumption | omega | (intros; omega) | decide, by first | assumption | omega | (intros; omega) | decide, by first | assumption | omega | (intros; omega) | decide, by first | assumption | omega | (intros; omega) | decide, by first | assumption | omega | (intros; omega) | decide, by first | assumption | omega | (intros; omega) | decide⟩, by rw [ht]; exact hP, va_K.moved hW.alike hK, hD⟩, hS.F ht⟩) hS.2.2 dX10_doStep_166
    · skip
      refine lv_tableIn (tgt := 167) (off := 149) hx hb dX10_doStep_18 (by omega) (by omega) (by rw [c18]; rfl) (by decide) ?_
      refine lv_aload_n hx hb dX10_doStep_167 rfl (lv_at hl 1 rfl) ?_
      refine lv_iload_n hx hb dX10_doStep_168 rfl (lv_at hl 2 rfl) ?_
      refine call_i (As := [.int s9]) (rest := []) ⟨hx, hb, hml, hown, hts⟩ (tX10_clones (l := l) s9 (by first | assumption | omega | (intros; omega) | decide) (by first | assumption | omega | (intros; omega) | decide) (by first | assumption | omega | (intros; omega) | decide) (by first | assumption | omega | (intros; omega) | decide) (by first | assumption | omega | (intros; omega) | decide)) (cwV 1 hts (gV (wr51 _ (List.mem_of_getElem? (i := 2) rfl)) (wr51 _ (List.mem_of_getElem? (i := 3) rfl)) (wr51 _ (List.mem_of_getElem? (i := 4) rfl)) (wr1 _ (List.mem_of_getElem? (i := 5) rfl)) (wr51 _ (List.mem_of_getElem? (i := 5) rfl))) rfl rfl rfl (by decide +kernel) ⟨Nat.le_of_ble_eq_true rfl, Nat.le_of_ble_eq_true rfl⟩) (va_recv hK hP (ci := 9) (q0 := 0) rfl rfl) hK hP hD hE hS hA rfl hl.1 rfl (Nat.le_of_ble_eq_true rfl) dX10_doStep_169 ⟨Nat.le_of_ble_eq_true rfl, Nat.le_of_ble_eq_true rfl⟩ (fun r169 w9 H locs hw169 hP hD hS => ?_)
      obtain ⟨a_varSort_169, a_varKind_169, a_varValue_169, a_arrayClass_169, a_arrayFrom_169, a_arrayLong_169, v_arrays_169, v_cells_169, a_cellSort_169, a_cellKind_169, a_cellValue_169, v_sort_169, v_kindAt_169, v_value_169, v_reached_169, rfl, hw169_0, hw169_1⟩ := hw169
      have b_v_arrays_169 := iB v_arrays_169
      have b_v_cells_169 := iB v_cells_169
      have b_v_sort_169 := iB v_sort_169
      have b_v_kindAt_169 := iB v_kindAt_169
      have b_v_value_169 := jB v_value_169
      have b_v_reached_169 := iB v_reached_169
      have b_r169 := iB r169
      subst hAe
      rw [hQ]
      exact W.iret (v := r169) hx hb hr (fun t ht hW => ⟨⟨r169, _, rfl, ⟨a_varSort_169, a_varKind_169, a_varValue_169, a_creature, v_creatures, a_arrayClass_169, a_arrayFrom_169, a_arrayLong_169, v_arrays_169, v_cells_169, a_cellSort_169, a_cellKind_169, a_cellValue_169, a_asideSort, a_asideKind, a_asideValue, v_marks, a_markSort, a_markKind, a_markClass, a_markValue, v_sort_169, v_kindAt_169, v_value_169, a_index_2, v_reached_169, v_looked, rfl, by first | assumption | omega | (intros; omega) | decide, by first | assumption | omega | (intros; omega) | decide, by first | assumption | omega | (intros; omega) | decide, by first | assumption | omega | (intros; omega) | decide, by first | assumption | omega | (intros; omega) | decide, by first | assumption | omega | (intros; omega) | decide, by first | assumption | omega | (intros; omega) | decide⟩, by rw [ht]; exact hP, va_K.moved hW.alike hK, hD⟩, hS.F ht⟩) hS.2.2 dX10_doStep_172
    · skip
      refine lv_tableIn (tgt := 173) (off := 155) hx hb dX10_doStep_18 (by omega) (by omega) (by rw [c18]; rfl) (by decide) ?_
      refine lv_aload_n hx hb dX10_doStep_173 rfl (lv_at hl 1 rfl) ?_
      refine lv_iload_n hx hb dX10_doStep_174 rfl (lv_at hl 2 rfl) ?_
      refine call_i (As := [.int s9]) (rest := []) ⟨hx, hb, hml, hown, hts⟩ (tX10_casts (l := l) s9 (by first | assumption | omega | (intros; omega) | decide) (by first | assumption | omega | (intros; omega) | decide) (by first | assumption | omega | (intros; omega) | decide) (by first | assumption | omega | (intros; omega) | decide) (by first | assumption | omega | (intros; omega) | decide)) (cwV 1 hts (gV (wr51 _ (List.mem_of_getElem? (i := 6) rfl)) (wr51 _ (List.mem_of_getElem? (i := 7) rfl)) (wr51 _ (List.mem_of_getElem? (i := 8) rfl)) (wr1 _ (List.mem_of_getElem? (i := 5) rfl)) (wr51 _ (List.mem_of_getElem? (i := 9) rfl))) rfl rfl rfl (by decide +kernel) ⟨Nat.le_of_ble_eq_true rfl, Nat.le_of_ble_eq_true rfl⟩) (va_recv hK hP (ci := 9) (q0 := 0) rfl rfl) hK hP hD hE hS hA rfl hl.1 rfl (Nat.le_of_ble_eq_true rfl) dX10_doStep_175 ⟨Nat.le_of_ble_eq_true rfl, Nat.le_of_ble_eq_true rfl⟩ (fun r175 w9 H locs hw175 hP hD hS => ?_)
      obtain ⟨a_varSort_175, a_varKind_175, a_varValue_175, v_sort_175, v_kindAt_175, v_value_175, rfl, hw175_0, hw175_1⟩ := hw175
      have b_v_sort_175 := iB v_sort_175
      have b_v_kindAt_175 := iB v_kindAt_175
      have b_v_value_175 := jB v_value_175
      have b_r175 := iB r175
      subst hAe
      rw [hQ]
      exact W.iret (v := r175) hx hb hr (fun t ht hW => ⟨⟨r175, _, rfl, ⟨a_varSort_175, a_varKind_175, a_varValue_175, a_creature, v_creatures, a_arrayClass, a_arrayFrom, a_arrayLong, v_arrays, v_cells, a_cellSort, a_cellKind, a_cellValue, a_asideSort, a_asideKind, a_asideValue, v_marks, a_markSort, a_markKind, a_markClass, a_markValue, v_sort_175, v_kindAt_175, v_value_175, a_index_2, v_reached, v_looked, rfl, by first | assumption | omega | (intros; omega) | decide, by first | assumption | omega | (intros; omega) | decide, by first | assumption | omega | (intros; omega) | decide, by first | assumption | omega | (intros; omega) | decide, by first | assumption | omega | (intros; omega) | decide, by first | assumption | omega | (intros; omega) | decide, by first | assumption | omega | (intros; omega) | decide⟩, by rw [ht]; exact hP, va_K.moved hW.alike hK, hD⟩, hS.F ht⟩) hS.2.2 dX10_doStep_178
    · skip
      refine lv_tableIn (tgt := 208) (off := 190) hx hb dX10_doStep_18 (by omega) (by omega) (by rw [c18]; rfl) (by decide) ?_
      exact J208 H locs ls hP hD hS (lv_sub hl [1, 2] rfl)
    · skip
      refine lv_tableIn (tgt := 208) (off := 190) hx hb dX10_doStep_18 (by omega) (by omega) (by rw [c18]; rfl) (by decide) ?_
      exact J208 H locs ls hP hD hS (lv_sub hl [1, 2] rfl)
    · skip
      refine lv_tableIn (tgt := 208) (off := 190) hx hb dX10_doStep_18 (by omega) (by omega) (by rw [c18]; rfl) (by decide) ?_
      exact J208 H locs ls hP hD hS (lv_sub hl [1, 2] rfl)
    · skip
      refine lv_tableIn (tgt := 208) (off := 190) hx hb dX10_doStep_18 (by omega) (by omega) (by rw [c18]; rfl) (by decide) ?_
      exact J208 H locs ls hP hD hS (lv_sub hl [1, 2] rfl)
    · skip
      refine lv_tableIn (tgt := 208) (off := 190) hx hb dX10_doStep_18 (by omega) (by omega) (by rw [c18]; rfl) (by decide) ?_
      exact J208 H locs ls hP hD hS (lv_sub hl [1, 2] rfl)
    · skip
      refine lv_tableIn (tgt := 208) (off := 190) hx hb dX10_doStep_18 (by omega) (by omega) (by rw [c18]; rfl) (by decide) ?_
      exact J208 H locs ls hP hD hS (lv_sub hl [1, 2] rfl)
    · skip
      refine lv_tableIn (tgt := 179) (off := 161) hx hb dX10_doStep_18 (by omega) (by omega) (by rw [c18]; rfl) (by decide) ?_
      refine lv_aload_n hx hb dX10_doStep_179 rfl (lv_at hl 1 rfl) ?_
      refine lv_iload_n hx hb dX10_doStep_180 rfl (lv_at hl 2 rfl) ?_
      refine call_i (As := [.int s9]) (rest := []) ⟨hx, hb, hml, hown, hts⟩ (tX10_copies (l := l) s9 (by first | assumption | omega | (intros; omega) | decide) (by first | assumption | omega | (intros; omega) | decide) (by first | assumption | omega | (intros; omega) | decide) (by first | assumption | omega | (intros; omega) | decide) (by first | assumption | omega | (intros; omega) | decide)) (cwV 1 hts (gV (wr51 _ (List.mem_of_getElem? (i := 10) rfl)) (wr51 _ (List.mem_of_getElem? (i := 11) rfl)) (wr51 _ (List.mem_of_getElem? (i := 12) rfl)) (wr1 _ (List.mem_of_getElem? (i := 5) rfl)) (wr51 _ (List.mem_of_getElem? (i := 13) rfl))) rfl rfl rfl (by decide +kernel) ⟨Nat.le_of_ble_eq_true rfl, Nat.le_of_ble_eq_true rfl⟩) (va_recv hK hP (ci := 9) (q0 := 0) rfl rfl) hK hP hD hE hS hA rfl hl.1 rfl (Nat.le_of_ble_eq_true rfl) dX10_doStep_181 ⟨Nat.le_of_ble_eq_true rfl, Nat.le_of_ble_eq_true rfl⟩ (fun r181 w9 H locs hw181 hP hD hS => ?_)
      obtain ⟨a_cellSort_181, a_cellKind_181, a_cellValue_181, a_asideSort_181, a_asideKind_181, a_asideValue_181, v_sort_181, v_kindAt_181, v_value_181, rfl, hw181_0, hw181_1⟩ := hw181
      have b_v_sort_181 := iB v_sort_181
      have b_v_kindAt_181 := iB v_kindAt_181
      have b_v_value_181 := jB v_value_181
      have b_r181 := iB r181
      subst hAe
      rw [hQ]
      exact W.iret (v := r181) hx hb hr (fun t ht hW => ⟨⟨r181, _, rfl, ⟨a_varSort, a_varKind, a_varValue, a_creature, v_creatures, a_arrayClass, a_arrayFrom, a_arrayLong, v_arrays, v_cells, a_cellSort_181, a_cellKind_181, a_cellValue_181, a_asideSort_181, a_asideKind_181, a_asideValue_181, v_marks, a_markSort, a_markKind, a_markClass, a_markValue, v_sort_181, v_kindAt_181, v_value_181, a_index_2, v_reached, v_looked, rfl, by first | assumption | omega | (intros; omega) | decide, by first | assumption | omega | (intros; omega) | decide, by first | assumption | omega | (intros; omega) | decide, by first | assumption | omega | (intros; omega) | decide, by first | assumption | omega | (intros; omega) | decide, by first | assumption | omega | (intros; omega) | decide, by first | assumption | omega | (intros; omega) | decide⟩, by rw [ht]; exact hP, va_K.moved hW.alike hK, hD⟩, hS.F ht⟩) hS.2.2 dX10_doStep_184
    · skip
      refine lv_tableIn (tgt := 185) (off := 167) hx hb dX10_doStep_18 (by omega) (by omega) (by rw [c18]; rfl) (by decide) ?_
      refine lv_aload_n hx hb dX10_doStep_185 rfl (lv_at hl 1 rfl) ?_
      refine lv_iload_n hx hb dX10_doStep_186 rfl (lv_at hl 2 rfl) ?_
      refine call_i (As := [.int s9]) (rest := []) ⟨hx, hb, hml, hown, hts⟩ (tX10_fills (l := l) s9 (by first | assumption | omega | (intros; omega) | decide) (by first | assumption | omega | (intros; omega) | decide) (by first | assumption | omega | (intros; omega) | decide) (by first | assumption | omega | (intros; omega) | decide) (by first | assumption | omega | (intros; omega) | decide) (by first | assumption | omega | (intros; omega) | decide)) (cwV 1 hts (gV (wr51 _ (List.mem_of_getElem? (i := 14) rfl)) (wr51 _ (List.mem_of_getElem? (i := 15) rfl)) (wr51 _ (List.mem_of_getElem? (i := 16) rfl)) (wr1 _ (List.mem_of_getElem? (i := 5) rfl)) (wr51 _ (List.mem_of_getElem? (i := 17) rfl))) rfl rfl rfl (by decide +kernel) ⟨Nat.le_of_ble_eq_true rfl, Nat.le_of_ble_eq_true rfl⟩) (va_recv hK hP (ci := 9) (q0 := 0) rfl rfl) hK hP hD hE hS hA rfl hl.1 rfl (Nat.le_of_ble_eq_true rfl) dX10_doStep_187 ⟨Nat.le_of_ble_eq_true rfl, Nat.le_of_ble_eq_true rfl⟩ (fun r187 w9 H locs hw187 hP hD hS => ?_)
      obtain ⟨a_creature_187, v_creatures_187, a_cellSort_187, a_cellKind_187, a_cellValue_187, v_sort_187, v_kindAt_187, v_value_187, v_reached_187, rfl, hw187_0, hw187_1, hw187_2, hw187_3⟩ := hw187
      have b_v_creatures_187 := iB v_creatures_187
      have b_v_sort_187 := iB v_sort_187
      have b_v_kindAt_187 := iB v_kindAt_187
      have b_v_value_187 := jB v_value_187
      have b_v_reached_187 := iB v_reached_187
      have b_r187 := iB r187
      subst hAe
      rw [hQ]
      exact W.iret (v := r187) hx hb hr (fun t ht hW => ⟨⟨r187, _, rfl, ⟨a_varSort, a_varKind, a_varValue, a_creature_187, v_creatures_187, a_arrayClass, a_arrayFrom, a_arrayLong, v_arrays, v_cells, a_cellSort_187, a_cellKind_187, a_cellValue_187, a_asideSort, a_asideKind, a_asideValue, v_marks, a_markSort, a_markKind, a_markClass, a_markValue, v_sort_187, v_kindAt_187, v_value_187, a_index_2, v_reached_187, v_looked, rfl, by first | assumption | omega | (intros; omega) | decide, by first | assumption | omega | (intros; omega) | decide, by first | assumption | omega | (intros; omega) | decide, by first | assumption | omega | (intros; omega) | decide, by first | assumption | omega | (intros; omega) | decide, by first | assumption | omega | (intros; omega) | decide, by first | assumption | omega | (intros; omega) | decide⟩, by rw [ht]; exact hP, va_K.moved hW.alike hK, hD⟩, hS.F ht⟩) hS.2.2 dX10_doStep_190
    · skip
      refine lv_tableIn (tgt := 191) (off := 173) hx hb dX10_doStep_18 (by omega) (by omega) (by rw [c18]; rfl) (by decide) ?_
      exact J191 H locs ls hP hD hS (lv_sub hl [1, 2] rfl)
    · skip
      refine lv_tableIn (tgt := 191) (off := 173) hx hb dX10_doStep_18 (by omega) (by omega) (by rw [c18]; rfl) (by decide) ?_
      exact J191 H locs ls hP hD hS (lv_sub hl [1, 2] rfl)
    · skip
      refine lv_tableIn (tgt := 197) (off := 179) hx hb dX10_doStep_18 (by omega) (by omega) (by rw [c18]; rfl) (by decide) ?_
      refine lv_aload_n hx hb dX10_doStep_197 rfl (lv_at hl 1 rfl) ?_
      refine lv_iload_n hx hb dX10_doStep_198 rfl (lv_at hl 2 rfl) ?_
      refine call_v (As := [.int s9]) (rest := []) ⟨hx, hb, hml, hown, hts⟩ (tX10_atom (l := l) s9 (by first | assumption | omega | (intros; omega) | decide) (by first | assumption | omega | (intros; omega) | decide) (by first | assumption | omega | (intros; omega) | decide) (by first | assumption | omega | (intros; omega) | decide) (by first | assumption | omega | (intros; omega) | decide)) (cwV 1 hts (gV (wr47 _ (List.mem_of_getElem? (i := 8) rfl)) (wr47 _ (List.mem_of_getElem? (i := 9) rfl)) (wr47 _ (List.mem_of_getElem? (i := 10) rfl)) (wr1 _ (List.mem_of_getElem? (i := 5) rfl)) (wr47 _ (List.mem_of_getElem? (i := 11) rfl))) rfl rfl rfl (by decide +kernel) ⟨Nat.le_of_ble_eq_true rfl, Nat.le_of_ble_eq_true rfl⟩) (va_recv hK hP (ci := 9) (q0 := 0) rfl rfl) hK hP hD hE hS hA rfl hl.1 rfl (Nat.le_of_ble_eq_true rfl) dX10_doStep_199 ⟨Nat.le_of_ble_eq_true rfl, Nat.le_of_ble_eq_true rfl⟩ (fun w9 H locs hw199 hP hD hS => ?_)
      obtain ⟨a_creature_199, v_creatures_199, v_sort_199, v_kindAt_199, v_value_199, rfl, hw199_0, hw199_1, hw199_2, hw199_3⟩ := hw199
      have b_v_creatures_199 := iB v_creatures_199
      have b_v_sort_199 := iB v_sort_199
      have b_v_kindAt_199 := iB v_kindAt_199
      have b_v_value_199 := jB v_value_199
      refine lv_aload_n hx hb dX10_doStep_202 rfl (lv_at hl 1 rfl) ?_
      refine call_v (As := []) (rest := []) ⟨hx, hb, hml, hown, hts⟩ (tX10_marks (l := l)  (by first | assumption | omega | (intros; omega) | decide) (by first | assumption | omega | (intros; omega) | decide) (by first | assumption | omega | (intros; omega) | decide) (by first | assumption | omega | (intros; omega) | decide) (by first | assumption | omega | (intros; omega) | decide)) (cwV 0 hts (gV (wr52 _ (List.mem_of_getElem? (i := 2) rfl)) (wr52 _ (List.mem_of_getElem? (i := 3) rfl)) (wr52 _ (List.mem_of_getElem? (i := 4) rfl)) (wr1 _ (List.mem_of_getElem? (i := 5) rfl)) (wr52 _ (List.mem_of_getElem? (i := 5) rfl))) rfl rfl rfl (by decide +kernel) ⟨Nat.le_of_ble_eq_true rfl, Nat.le_of_ble_eq_true rfl⟩) (va_recv hK hP (ci := 9) (q0 := 0) rfl rfl) hK hP hD hE hS hA rfl hl.1 rfl (Nat.le_of_ble_eq_true rfl) dX10_doStep_203 ⟨Nat.le_of_ble_eq_true rfl, Nat.le_of_ble_eq_true rfl⟩ (fun w9 H locs hw203 hP hD hS => ?_)
      obtain ⟨v_marks_203, a_markSort_203, a_markKind_203, a_markClass_203, a_markValue_203, rfl, hw203_0, hw203_1⟩ := hw203
      have b_v_marks_203 := iB v_marks_203
      refine lv_iconst (v := 0) hx hb dX10_doStep_206 (by decide) ?_
      subst hAe
      rw [hQ]
      exact W.iret (v := 0) hx hb hr (fun t ht hW => ⟨⟨0, _, rfl, ⟨a_varSort, a_varKind, a_varValue, a_creature_199, v_creatures_199, a_arrayClass, a_arrayFrom, a_arrayLong, v_arrays, v_cells, a_cellSort, a_cellKind, a_cellValue, a_asideSort, a_asideKind, a_asideValue, v_marks_203, a_markSort_203, a_markKind_203, a_markClass_203, a_markValue_203, v_sort_199, v_kindAt_199, v_value_199, a_index_2, v_reached, v_looked, rfl, by first | assumption | omega | (intros; omega) | decide, by first | assumption | omega | (intros; omega) | decide, by first | assumption | omega | (intros; omega) | decide, by first | assumption | omega | (intros; omega) | decide, by first | assumption | omega | (intros; omega) | decide, by first | assumption | omega | (intros; omega) | decide, by first | assumption | omega | (intros; omega) | decide⟩, by rw [ht]; exact hP, va_K.moved hW.alike hK, hD⟩, hS.F ht⟩) hS.2.2 dX10_doStep_207
  · skip
    refine lv_iload_n hx hb dX10_doStep_10 rfl (lv_at hl 0 rfl) ?_
    subst hAe
    rw [hQ]
    exact W.iret (v := r2) hx hb hr (fun t ht hW => ⟨⟨r2, _, rfl, ⟨a_varSort, a_varKind, a_varValue, a_creature, v_creatures, a_arrayClass, a_arrayFrom, a_arrayLong, v_arrays, v_cells, a_cellSort, a_cellKind, a_cellValue, a_asideSort, a_asideKind, a_asideValue, v_marks, a_markSort, a_markKind, a_markClass, a_markValue, v_sort, v_kindAt, v_value, a_index_2, v_reached, v_looked, rfl, by first | assumption | omega | (intros; omega) | decide, by first | assumption | omega | (intros; omega) | decide, by first | assumption | omega | (intros; omega) | decide, by first | assumption | omega | (intros; omega) | decide, by first | assumption | omega | (intros; omega) | decide, by first | assumption | omega | (intros; omega) | decide, by first | assumption | omega | (intros; omega) | decide⟩, by rw [ht]; exact hP, va_K.moved hW.alike hK, hD⟩, hS.F ht⟩) hS.2.2 dX10_doStep_11

def rmX10_run : Room := { frames := 160, cells := 0, slots := 0, locals := 3200 }
set_option maxHeartbeats 4000000 in
set_option maxRecDepth 100000 in
theorem tX10_run {l : Launch} {D : va_G} {K : Nat → Nat → Nat} {cs : Nat → ClassId} {q : Nat → Nat} {v_thrown v_taped v_size v_to v_kind v_from v_letterMany v_isBeyond v_suffix v_steps v_fault v_hasProgram v_wrong v_wrongAt v_variable v_numberKind v_takes v_outed v_creatures v_arrays v_cells v_marks v_came v_guessed v_right v_taken v_sort v_kindAt v_reached v_looked : Int32} {a_tape a_text a_act a_guess a_take a_begin a_finish a_to1 a_one a_two a_what a_ats a_atVar a_atNumber a_atomSort a_atomKind a_out a_varSort a_varKind a_creature a_arrayClass a_arrayFrom a_arrayLong a_cellSort a_cellKind a_asideSort a_asideKind a_outcome a_markSort a_markKind a_markClass a_index : Nat → Int32} {v_letters v_digits v_number v_value : Int64} {a_atomValue a_varValue a_cellValue a_asideValue a_markValue : Nat → Int64} (p_0 : RUN a_varSort a_varKind a_varValue v_arrays v_cells v_creatures a_arrayClass a_arrayFrom a_arrayLong a_cellSort a_cellKind a_cellValue) (p_1 : R25 a_one) (p_2 : R25 a_two) (p_3 : R25 a_to1) (p_4 : R03 a_ats) (p_5 : Rm25 a_atVar) (p_6 : ATM a_atomSort a_atomKind a_atomValue) (p_7 : PRG a_act a_ats a_what a_begin a_finish a_text 3100 0 v_steps) (p_8 : 0 ≤ v_steps.toInt) (p_9 : v_steps.toInt ≤ 100) (p_10 : 0 ≤ v_marks.toInt) (p_11 : ∀ j : Nat, (a_markSort j).toInt = 1 → NumOK (a_markKind j) (a_markValue j)) : CtI l yX10_run (wG yX10_run cX10_run 2 (some .int)) rmX10_run D (mwT cs) K [.ref (q 0)] (mw cs q v_thrown a_tape v_taped v_size v_to v_kind v_from v_letters v_letterMany v_digits v_isBeyond v_suffix v_steps v_fault v_hasProgram a_text a_act a_guess a_take a_begin a_finish a_to1 a_one a_two a_what a_ats a_atVar a_atNumber a_atomSort a_atomKind a_atomValue v_wrong v_wrongAt v_variable v_number v_numberKind v_takes a_out v_outed a_varSort a_varKind a_varValue a_creature v_creatures a_arrayClass a_arrayFrom a_arrayLong v_arrays v_cells a_cellSort a_cellKind a_cellValue a_asideSort a_asideKind a_asideValue a_outcome v_marks v_came v_guessed v_right v_taken a_markSort a_markKind a_markClass a_markValue v_sort v_kindAt v_value a_index v_reached v_looked) (fun r w1 => ∃ (v_thrown' : Int32) (a_varSort' : Nat → Int32) (a_varKind' : Nat → Int32) (a_varValue' : Nat → Int64) (a_creature' : Nat → Int32) (v_creatures' : Int32) (a_arrayClass' : Nat → Int32) (a_arrayFrom' : Nat → Int32) (a_arrayLong' : Nat → Int32) (v_arrays' : Int32) (v_cells' : Int32) (a_cellSort' : Nat → Int32) (a_cellKind' : Nat → Int32) (a_cellValue' : Nat → Int64) (a_asideSort' : Nat → Int32) (a_asideKind' : Nat → Int32) (a_asideValue' : Nat → Int64) (a_outcome' : Nat → Int32) (v_marks' : Int32) (v_came' : Int32) (v_guessed' : Int32) (v_right' : Int32) (v_taken' : Int32) (a_markSort' : Nat → Int32) (a_markKind' : Nat → Int32) (a_markClass' : Nat → Int32) (a_markValue' : Nat → Int64) (v_sort' : Int32) (v_kindAt' : Int32) (v_value' : Int64) (a_index' : Nat → Int32) (v_reached' : Int32) (v_looked' : Int32), w1 = (mw cs q v_thrown' a_tape v_taped v_size v_to v_kind v_from v_letters v_letterMany v_digits v_isBeyond v_suffix v_steps v_fault v_hasProgram a_text a_act a_guess a_take a_begin a_finish a_to1 a_one a_two a_what a_ats a_atVar a_atNumber a_atomSort a_atomKind a_atomValue v_wrong v_wrongAt v_variable v_number v_numberKind v_takes a_out v_outed a_varSort' a_varKind' a_varValue' a_creature' v_creatures' a_arrayClass' a_arrayFrom' a_arrayLong' v_arrays' v_cells' a_cellSort' a_cellKind' a_cellValue' a_asideSort' a_asideKind' a_asideValue' a_outcome' v_marks' v_came' v_guessed' v_right' v_taken' a_markSort' a_markKind' a_markClass' a_markValue' v_sort' v_kindAt' v_value' a_index' v_reached' v_looked') ∧ (RUN a_varSort' a_varKind' a_varValue' v_arrays' v_cells' v_creatures' a_arrayClass' a_arrayFrom' a_arrayLong' a_cellSort' a_cellKind' a_cellValue') ∧ (0 ≤ v_marks'.toInt) ∧ (∀ j : Nat, (a_markSort' j).toInt = 1 → NumOK (a_markKind' j) (a_markValue' j))) 0 0 := by
  intro sz
  refine Met.ofW (cc := cX10_run) (maxL := 2) (ret := (some .int)) (by decide) rfl ?_
  intro p e s m args below meth c s₁ B hml hv
  obtain ⟨rfl, hsz, hP, hK, hD0, hE⟩ := hv
  have hx := B.exec
  have hb := B.bytes
  have hr := B.returns
  have hts := atoms_spec (ws := (wG yX10_run cX10_run 2 (some .int))) B.pre
  have hown : s.vm.findClass RX10 = some m.cls := findClass_of_methodNamed B.named
  have hlocks := B.notSynchronized
  subst hsz
  have hD := hD0.self (sz := s.heap.size)
  obtain ⟨A, hAe⟩ : ∃ A : Nat → Prop, A = va_A (mw cs q v_thrown a_tape v_taped v_size v_to v_kind v_from v_letters v_letterMany v_digits v_isBeyond v_suffix v_steps v_fault v_hasProgram a_text a_act a_guess a_take a_begin a_finish a_to1 a_one a_two a_what a_ats a_atVar a_atNumber a_atomSort a_atomKind a_atomValue v_wrong v_wrongAt v_variable v_number v_numberKind v_takes a_out v_outed a_varSort a_varKind a_varValue a_creature v_creatures a_arrayClass a_arrayFrom a_arrayLong v_arrays v_cells a_cellSort a_cellKind a_cellValue a_asideSort a_asideKind a_asideValue a_outcome v_marks v_came v_guessed v_right v_taken a_markSort a_markKind a_markClass a_markValue v_sort v_kindAt v_value a_index v_reached v_looked) s.heap.size := ⟨_, rfl⟩
  rw [← hAe] at hD hE
  have hA : ∀ q : Nat, s.heap.size ≤ q → A q := fun q h => by rw [hAe]; exact Or.inr h
  have hS : va_S A s.heap s.heap [] := va_S.rf
  have hl := lv_entry ([.ref (q 0)]) (n := 2) (Nat.le_of_ble_eq_true rfl)
  rw [lg_entry_eq]
  generalize (lg_sl ([.ref (q 0)]) ++ List.replicate (2 - (lg_sl ([.ref (q 0)])).length) Slot.unset).toArray = ls at hl ⊢
  have hl : lv_has ls 2 [(0, .ref (q 0))] := hl
  refine wq (fun Q hQ => ?_)
  have hin : ∀ w ∈ wsX100, w ∈ (wG yX10_run cX10_run 2 (some .int)) := fun w h => List.mem_cons_of_mem _ (inlX10 w h)
  have kc0 : (-1 : Int32).toInt = -1 := by decide
  have kc1 : (0 : Int32).toInt = 0 := by decide
  have kc2 : (1 : Int32).toInt = 1 := by decide
  have kc3 : (100 : Int32).toInt = 100 := by decide
  have k_22_19 := hts (.fieldLink RX10 458 "ArrayTrainerModel" "hasProgram" "Z") (List.mem_cons_of_mem _ (wr22 _ (List.mem_of_getElem? (i := 19) rfl)))
  have k_7_9 := hts (.fieldLink RX10 122 "ArrayTrainerModel" "thrown" "I") (List.mem_cons_of_mem _ (wr7 _ (List.mem_of_getElem? (i := 9) rfl)))
  have k_22_18 := hts (.fieldLink RX10 455 "ArrayTrainerModel" "steps" "I") (List.mem_cons_of_mem _ (wr22 _ (List.mem_of_getElem? (i := 18) rfl)))
  have k_31_7 := hts (.fieldLink RX10 481 "ArrayTrainerModel" "came" "I") (List.mem_cons_of_mem _ (wr31 _ (List.mem_of_getElem? (i := 7) rfl)))
  have k_6_14 := hts (.fieldLink RX10 104 "ArrayTrainerModel" "outcome" "[I") (List.mem_cons_of_mem _ (wr6 _ (List.mem_of_getElem? (i := 14) rfl)))
  have k_5_10 := hts (.fieldLink RX10 19 "ArrayTrainerModel" "guess" "[I") (List.mem_cons_of_mem _ (wr5 _ (List.mem_of_getElem? (i := 10) rfl)))
  have k_5_11 := hts (.fieldLink RX10 22 "ArrayTrainerModel" "take" "[I") (List.mem_cons_of_mem _ (wr5 _ (List.mem_of_getElem? (i := 11) rfl)))
  have k_31_10 := hts (.fieldLink RX10 490 "ArrayTrainerModel" "taken" "I") (List.mem_cons_of_mem _ (wr31 _ (List.mem_of_getElem? (i := 10) rfl)))
  have k_31_8 := hts (.fieldLink RX10 484 "ArrayTrainerModel" "guessed" "I") (List.mem_cons_of_mem _ (wr31 _ (List.mem_of_getElem? (i := 8) rfl)))
  have k_31_9 := hts (.fieldLink RX10 487 "ArrayTrainerModel" "right" "I") (List.mem_cons_of_mem _ (wr31 _ (List.mem_of_getElem? (i := 9) rfl)))
  obtain ⟨H, hH⟩ : ∃ H : Heap, H = s.heap := ⟨_, rfl⟩
  obtain ⟨locs, hlc⟩ : ∃ L : List Loc, L = [] := ⟨_, rfl⟩
  have hP : va_P D vwCl (mw cs q v_thrown a_tape v_taped v_size v_to v_kind v_from v_letters v_letterMany v_digits v_isBeyond v_suffix v_steps v_fault v_hasProgram a_text a_act a_guess a_take a_begin a_finish a_to1 a_one a_two a_what a_ats a_atVar a_atNumber a_atomSort a_atomKind a_atomValue v_wrong v_wrongAt v_variable v_number v_numberKind v_takes a_out v_outed a_varSort a_varKind a_varValue a_creature v_creatures a_arrayClass a_arrayFrom a_arrayLong v_arrays v_cells a_cellSort a_cellKind a_cellValue a_asideSort a_asideKind a_asideValue a_outcome v_marks v_came v_guessed v_right v_taken a_markSort a_markKind a_markClass a_markValue v_sort v_kindAt v_value a_index v_reached v_looked) H := by rw [hH]; exact hP
  have hS : va_S A s.heap H locs := by rw [hH, hlc]; exact hS
  refine wHL hH hlc ?_
  refine lv_aload_n hx hb dX10_run_0 rfl (lv_at hl 0 rfl) ?_
  refine lv_aload_n hx hb dX10_run_1 rfl (lv_at hl 0 rfl) ?_
  refine va_get (D := D) (ci := 9) (v := .int v_hasProgram) (C := RX10) (T := TX10) (N := 71) hx hb hts hin hown hK hP 0 rfl rfl 14 (by decide) k_22_19 (fun _ h9 => h9) rfl dX10_run_2 ?_
  have J13 : ∀ (s1_13 : Int32) (H : Heap) (locs : List Loc) (ls : Array Slot), (s1_13.toInt = 0 ∨ s1_13.toInt = 1) → va_P D vwCl (mw cs q v_thrown a_tape v_taped v_size v_to v_kind v_from v_letters v_letterMany v_digits v_isBeyond v_suffix v_steps v_fault v_hasProgram a_text a_act a_guess a_take a_begin a_finish a_to1 a_one a_two a_what a_ats a_atVar a_atNumber a_atomSort a_atomKind a_atomValue v_wrong v_wrongAt v_variable v_number v_numberKind v_takes a_out v_outed a_varSort a_varKind a_varValue a_creature v_creatures a_arrayClass a_arrayFrom a_arrayLong v_arrays v_cells a_cellSort a_cellKind a_cellValue a_asideSort a_asideKind a_asideValue a_outcome v_marks v_came v_guessed v_right v_taken a_markSort a_markKind a_markClass a_markValue v_sort v_kindAt v_value a_index v_reached v_looked) H → va_D A (mw cs q v_thrown a_tape v_taped v_size v_to v_kind v_from v_letters v_letterMany v_digits v_isBeyond v_suffix v_steps v_fault v_hasProgram a_text a_act a_guess a_take a_begin a_finish a_to1 a_one a_two a_what a_ats a_atVar a_atNumber a_atomSort a_atomKind a_atomValue v_wrong v_wrongAt v_variable v_number v_numberKind v_takes a_out v_outed a_varSort a_varKind a_varValue a_creature v_creatures a_arrayClass a_arrayFrom a_arrayLong v_arrays v_cells a_cellSort a_cellKind a_cellValue a_asideSort a_asideKind a_asideValue a_outcome v_marks v_came v_guessed v_right v_taken a_markSort a_markKind a_markClass a_markValue v_sort v_kindAt v_value a_index v_reached v_looked) → va_S A s.heap H locs → lv_has ls 2 [(0, .ref (q 0))] → W p l e (headSpec (wG yX10_run cX10_run 2 (some .int)) rmX10_run).room s m ([.ref (q 0)] : List Value).toArray below meth c H locs 0 0 Q (F0 m 13 ls [.int s1_13, .ref (q 0)]) := by
    intro s1_13 H locs ls f13_0 hP hD hS hl
    refine va_put (D := D) (ci := 9) (v := .int s1_13) (ty := .int) (C := RX10) (T := TX10) (N := 71) hx hb hts hin tyX10 tyX10_ok nmX10 hown hK hP hD hS 0 rfl rfl 0 (by decide) k_7_9 (fun _ h9 => h9) rfl (by decide +kernel) rfl rfl (Nat.le_of_ble_eq_true rfl) dX10_run_13 (fun H locs hP hD hS => ?_)
    have hP : va_P D vwCl (mw cs q s1_13 a_tape v_taped v_size v_to v_kind v_from v_letters v_letterMany v_digits v_isBeyond v_suffix v_steps v_fault v_hasProgram a_text a_act a_guess a_take a_begin a_finish a_to1 a_one a_two a_what a_ats a_atVar a_atNumber a_atomSort a_atomKind a_atomValue v_wrong v_wrongAt v_variable v_number v_numberKind v_takes a_out v_outed a_varSort a_varKind a_varValue a_creature v_creatures a_arrayClass a_arrayFrom a_arrayLong v_arrays v_cells a_cellSort a_cellKind a_cellValue a_asideSort a_asideKind a_asideValue a_outcome v_marks v_came v_guessed v_right v_taken a_markSort a_markKind a_markClass a_markValue v_sort v_kindAt v_value a_index v_reached v_looked) H := hP
    have hD : va_D A (mw cs q s1_13 a_tape v_taped v_size v_to v_kind v_from v_letters v_letterMany v_digits v_isBeyond v_suffix v_steps v_fault v_hasProgram a_text a_act a_guess a_take a_begin a_finish a_to1 a_one a_two a_what a_ats a_atVar a_atNumber a_atomSort a_atomKind a_atomValue v_wrong v_wrongAt v_variable v_number v_numberKind v_takes a_out v_outed a_varSort a_varKind a_varValue a_creature v_creatures a_arrayClass a_arrayFrom a_arrayLong v_arrays v_cells a_cellSort a_cellKind a_cellValue a_asideSort a_asideKind a_asideValue a_outcome v_marks v_came v_guessed v_right v_taken a_markSort a_markKind a_markClass a_markValue v_sort v_kindAt v_value a_index v_reached v_looked) := hD
    refine lv_aload_n hx hb dX10_run_16 rfl (lv_at hl 0 rfl) ?_
    refine va_get (D := D) (ci := 9) (v := .int s1_13) (C := RX10) (T := TX10) (N := 71) hx hb hts hin hown hK hP 0 rfl rfl 0 (by decide) k_7_9 (fun _ h9 => h9) rfl dX10_run_17 ?_
    refine m_if_le (X := s1_13.toInt) (tgt := 25) hx hb dX10_run_20 (by decide) rfl (fun c20 => ?_) (fun c20 => ?_)
    · skip
      refine lv_aload_n hx hb dX10_run_25 rfl (lv_at hl 0 rfl) ?_
      refine call_v (As := []) (rest := []) ⟨hx, hb, hml, hown, hts⟩ (tX10_forget (l := l) ) (cwV 0 hts (gV (wr30 _ (List.mem_of_getElem? (i := 23) rfl)) (wr31 _ (List.mem_of_getElem? (i := 0) rfl)) (wr31 _ (List.mem_of_getElem? (i := 1) rfl)) (wr1 _ (List.mem_of_getElem? (i := 5) rfl)) (wr31 _ (List.mem_of_getElem? (i := 2) rfl))) rfl rfl rfl (by decide +kernel) ⟨Nat.le_of_ble_eq_true rfl, Nat.le_of_ble_eq_true rfl⟩) (va_recv hK hP (ci := 9) (q0 := 0) rfl rfl) hK hP hD hE hS hA rfl hl.1 rfl (Nat.le_of_ble_eq_true rfl) dX10_run_26 ⟨Nat.le_of_ble_eq_true rfl, Nat.le_of_ble_eq_true rfl⟩ (fun w9 H locs hw26 hP hD hS => ?_)
      obtain ⟨a_varSort_26, v_creatures_26, v_arrays_26, v_cells_26, v_marks_26, v_came_26, v_guessed_26, v_right_26, v_taken_26, rfl, hw26_0, hw26_1, hw26_2, hw26_3, hw26_4⟩ := hw26
      have b_v_creatures_26 := iB v_creatures_26
      have b_v_arrays_26 := iB v_arrays_26
      have b_v_cells_26 := iB v_cells_26
      have b_v_marks_26 := iB v_marks_26
      have b_v_came_26 := iB v_came_26
      have b_v_guessed_26 := iB v_guessed_26
      have b_v_right_26 := iB v_right_26
      have b_v_taken_26 := iB v_taken_26
      refine lv_iconst (v := 0) hx hb dX10_run_29 (by decide) ?_
      refine lv_istore_n (lv' := [(1, .int 0), (0, .ref (q 0))]) hx hb dX10_run_30 rfl hl (by decide) rfl (fun ls hl => ?_)
      have J31 : ∀ (n31 : Nat) (l1_31 : Int32) (a_outcome_31 : Nat → Int32) (H : Heap) (locs : List Loc) (ls : Array Slot), (0 ≤ l1_31.toInt) → (l1_31.toInt ≤ 100) → (100 - l1_31.toInt < (n31 : Int)) → va_P D vwCl (mw cs q s1_13 a_tape v_taped v_size v_to v_kind v_from v_letters v_letterMany v_digits v_isBeyond v_suffix v_steps v_fault v_hasProgram a_text a_act a_guess a_take a_begin a_finish a_to1 a_one a_two a_what a_ats a_atVar a_atNumber a_atomSort a_atomKind a_atomValue v_wrong v_wrongAt v_variable v_number v_numberKind v_takes a_out v_outed a_varSort_26 a_varKind a_varValue a_creature v_creatures_26 a_arrayClass a_arrayFrom a_arrayLong v_arrays_26 v_cells_26 a_cellSort a_cellKind a_cellValue a_asideSort a_asideKind a_asideValue a_outcome_31 v_marks_26 v_came_26 v_guessed_26 v_right_26 v_taken_26 a_markSort a_markKind a_markClass a_markValue v_sort v_kindAt v_value a_index v_reached v_looked) H → va_D A (mw cs q s1_13 a_tape v_taped v_size v_to v_kind v_from v_letters v_letterMany v_digits v_isBeyond v_suffix v_steps v_fault v_hasProgram a_text a_act a_guess a_take a_begin a_finish a_to1 a_one a_two a_what a_ats a_atVar a_atNumber a_atomSort a_atomKind a_atomValue v_wrong v_wrongAt v_variable v_number v_numberKind v_takes a_out v_outed a_varSort_26 a_varKind a_varValue a_creature v_creatures_26 a_arrayClass a_arrayFrom a_arrayLong v_arrays_26 v_cells_26 a_cellSort a_cellKind a_cellValue a_asideSort a_asideKind a_asideValue a_outcome_31 v_marks_26 v_came_26 v_guessed_26 v_right_26 v_taken_26 a_markSort a_markKind a_markClass a_markValue v_sort v_kindAt v_value a_index v_reached v_looked) → va_S A s.heap H locs → lv_has ls 2 [(0, .ref (q 0)), (1, .int l1_31)] → W p l e (headSpec (wG yX10_run cX10_run 2 (some .int)) rmX10_run).room s m ([.ref (q 0)] : List Value).toArray below meth c H locs 0 0 Q (F0 m 31 ls []) := by
        intro n31
        induction n31 with
        | zero =>
          intro l1_31 a_outcome_31 H locs ls f31_0 f31_1 hm31
          exfalso
          omega
        | succ n31 ih31 =>
          intro l1_31 a_outcome_31 H locs ls f31_0 f31_1 hm31 hP hD hS hl
          refine lv_iload_n hx hb dX10_run_31 rfl (lv_at hl 1 rfl) ?_
          refine lv_bipush (v := 100) hx hb dX10_run_32 (by decide) ?_
          refine m_icmp_ge (X := l1_31.toInt) (Y := 100) (tgt := 50) hx hb dX10_run_34 (by decide) rfl (by decide) (fun c34 => ?_) (fun c34 => ?_)
          · skip
            refine lv_iconst (v := 0) hx hb dX10_run_50 (by decide) ?_
            refine lv_istore_n (lv' := [(1, .int 0), (0, .ref (q 0))]) hx hb dX10_run_51 rfl hl (by decide) rfl (fun ls hl => ?_)
            have J52 : ∀ (n52 : Nat) (l1_52 : Int32) (a_arrayClass_52 : Nat → Int32) (a_arrayFrom_52 : Nat → Int32) (a_arrayLong_52 : Nat → Int32) (v_arrays_52 : Int32) (a_asideKind_52 : Nat → Int32) (a_asideSort_52 : Nat → Int32) (a_asideValue_52 : Nat → Int64) (v_came_52 : Int32) (a_cellKind_52 : Nat → Int32) (a_cellSort_52 : Nat → Int32) (a_cellValue_52 : Nat → Int64) (v_cells_52 : Int32) (a_creature_52 : Nat → Int32) (v_creatures_52 : Int32) (v_guessed_52 : Int32) (a_index_52 : Nat → Int32) (v_kindAt_52 : Int32) (v_looked_52 : Int32) (a_markClass_52 : Nat → Int32) (a_markKind_52 : Nat → Int32) (a_markSort_52 : Nat → Int32) (a_markValue_52 : Nat → Int64) (v_marks_52 : Int32) (a_outcome_52 : Nat → Int32) (v_reached_52 : Int32) (v_right_52 : Int32) (v_sort_52 : Int32) (v_taken_52 : Int32) (v_value_52 : Int64) (a_varKind_52 : Nat → Int32) (a_varSort_52 : Nat → Int32) (a_varValue_52 : Nat → Int64) (H : Heap) (locs : List Loc) (ls : Array Slot), (0 ≤ l1_52.toInt) → (l1_52.toInt ≤ v_steps.toInt) → (RUN a_varSort_52 a_varKind_52 a_varValue_52 v_arrays_52 v_cells_52 v_creatures_52 a_arrayClass_52 a_arrayFrom_52 a_arrayLong_52 a_cellSort_52 a_cellKind_52 a_cellValue_52) → (v_creatures_52.toInt ≤ l1_52.toInt) → (0 ≤ v_marks_52.toInt) → (v_marks_52.toInt ≤ l1_52.toInt) → (∀ j : Nat, (a_markSort_52 j).toInt = 1 → NumOK (a_markKind_52 j) (a_markValue_52 j)) → (100 - l1_52.toInt < (n52 : Int)) → va_P D vwCl (mw cs q s1_13 a_tape v_taped v_size v_to v_kind v_from v_letters v_letterMany v_digits v_isBeyond v_suffix v_steps v_fault v_hasProgram a_text a_act a_guess a_take a_begin a_finish a_to1 a_one a_two a_what a_ats a_atVar a_atNumber a_atomSort a_atomKind a_atomValue v_wrong v_wrongAt v_variable v_number v_numberKind v_takes a_out v_outed a_varSort_52 a_varKind_52 a_varValue_52 a_creature_52 v_creatures_52 a_arrayClass_52 a_arrayFrom_52 a_arrayLong_52 v_arrays_52 v_cells_52 a_cellSort_52 a_cellKind_52 a_cellValue_52 a_asideSort_52 a_asideKind_52 a_asideValue_52 a_outcome_52 v_marks_52 v_came_52 v_guessed_52 v_right_52 v_taken_52 a_markSort_52 a_markKind_52 a_markClass_52 a_markValue_52 v_sort_52 v_kindAt_52 v_value_52 a_index_52 v_reached_52 v_looked_52) H → va_D A (mw cs q s1_13 a_tape v_taped v_size v_to v_kind v_from v_letters v_letterMany v_digits v_isBeyond v_suffix v_steps v_fault v_hasProgram a_text a_act a_guess a_take a_begin a_finish a_to1 a_one a_two a_what a_ats a_atVar a_atNumber a_atomSort a_atomKind a_atomValue v_wrong v_wrongAt v_variable v_number v_numberKind v_takes a_out v_outed a_varSort_52 a_varKind_52 a_varValue_52 a_creature_52 v_creatures_52 a_arrayClass_52 a_arrayFrom_52 a_arrayLong_52 v_arrays_52 v_cells_52 a_cellSort_52 a_cellKind_52 a_cellValue_52 a_asideSort_52 a_asideKind_52 a_asideValue_52 a_outcome_52 v_marks_52 v_came_52 v_guessed_52 v_right_52 v_taken_52 a_markSort_52 a_markKind_52 a_markClass_52 a_markValue_52 v_sort_52 v_kindAt_52 v_value_52 a_index_52 v_reached_52 v_looked_52) → va_S A s.heap H locs → lv_has ls 2 [(0, .ref (q 0)), (1, .int l1_52)] → W p l e (headSpec (wG yX10_run cX10_run 2 (some .int)) rmX10_run).room s m ([.ref (q 0)] : List Value).toArray below meth c H locs 0 0 Q (F0 m 52 ls []) := by
              intro n52
              induction n52 with
              | zero =>
                intro l1_52 a_arrayClass_52 a_arrayFrom_52 a_arrayLong_52 v_arrays_52 a_asideKind_52 a_asideSort_52 a_asideValue_52 v_came_52 a_cellKind_52 a_cellSort_52 a_cellValue_52 v_cells_52 a_creature_52 v_creatures_52 v_guessed_52 a_index_52 v_kindAt_52 v_looked_52 a_markClass_52 a_markKind_52 a_markSort_52 a_markValue_52 v_marks_52 a_outcome_52 v_reached_52 v_right_52 v_sort_52 v_taken_52 v_value_52 a_varKind_52 a_varSort_52 a_varValue_52 H locs ls f52_0 f52_1 f52_2 f52_3 f52_4 f52_5 f52_6 hm52
                exfalso
                omega
              | succ n52 ih52 =>
                intro l1_52 a_arrayClass_52 a_arrayFrom_52 a_arrayLong_52 v_arrays_52 a_asideKind_52 a_asideSort_52 a_asideValue_52 v_came_52 a_cellKind_52 a_cellSort_52 a_cellValue_52 v_cells_52 a_creature_52 v_creatures_52 v_guessed_52 a_index_52 v_kindAt_52 v_looked_52 a_markClass_52 a_markKind_52 a_markSort_52 a_markValue_52 v_marks_52 a_outcome_52 v_reached_52 v_right_52 v_sort_52 v_taken_52 v_value_52 a_varKind_52 a_varSort_52 a_varValue_52 H locs ls f52_0 f52_1 f52_2 f52_3 f52_4 f52_5 f52_6 hm52 hP hD hS hl
                refine lv_iload_n hx hb dX10_run_52 rfl (lv_at hl 1 rfl) ?_
                refine lv_aload_n hx hb dX10_run_53 rfl (lv_at hl 0 rfl) ?_
                refine va_get (D := D) (ci := 9) (v := .int v_steps) (C := RX10) (T := TX10) (N := 71) hx hb hts hin hown hK hP 0 rfl rfl 12 (by decide) k_22_18 (fun _ h9 => h9) rfl dX10_run_54 ?_
                refine m_icmp_ge (X := l1_52.toInt) (Y := v_steps.toInt) (tgt := 173) hx hb dX10_run_57 (by decide) rfl rfl (fun c57 => ?_) (fun c57 => ?_)
                · skip
                  refine lv_iconst (v := 0) hx hb dX10_run_173 (by decide) ?_
                  subst hAe
                  rw [hQ]
                  exact W.iret (v := 0) hx hb hr (fun t ht hW => ⟨⟨0, _, rfl, ⟨s1_13, a_varSort_52, a_varKind_52, a_varValue_52, a_creature_52, v_creatures_52, a_arrayClass_52, a_arrayFrom_52, a_arrayLong_52, v_arrays_52, v_cells_52, a_cellSort_52, a_cellKind_52, a_cellValue_52, a_asideSort_52, a_asideKind_52, a_asideValue_52, a_outcome_52, v_marks_52, v_came_52, v_guessed_52, v_right_52, v_taken_52, a_markSort_52, a_markKind_52, a_markClass_52, a_markValue_52, v_sort_52, v_kindAt_52, v_value_52, a_index_52, v_reached_52, v_looked_52, rfl, by first | assumption | omega | (intros; omega) | decide, by first | assumption | omega | (intros; omega) | decide, by first | assumption | omega | (intros; omega) | decide⟩, by rw [ht]; exact hP, va_K.moved hW.alike hK, hD⟩, hS.F ht⟩) hS.2.2 dX10_run_174
                · skip
                  refine lv_aload_n hx hb dX10_run_60 rfl (lv_at hl 0 rfl) ?_
                  refine lv_dup hx hb dX10_run_61 rfl ?_
                  refine va_get (D := D) (ci := 9) (v := .int v_came_52) (C := RX10) (T := TX10) (N := 71) hx hb hts hin hown hK hP 0 rfl rfl 57 (by decide) k_31_7 (fun _ h9 => h9) rfl dX10_run_62 ?_
                  refine lv_iconst (v := 1) hx hb dX10_run_65 (by decide) ?_
                  refine m_iadd (X := v_came_52.toInt) (Y := 1) hx hb dX10_run_66 rfl (by decide) (fun x66 e_x66 g9 => ?_)
                  obtain ⟨k_x66, g_x66⟩ := g9
                  have b_x66 := iB x66
                  try (have q_x66 : x66.toInt = v_came_52.toInt + 1 := (by omega); clear g_x66 k_x66)
                  refine va_put (D := D) (ci := 9) (v := .int x66) (ty := .int) (C := RX10) (T := TX10) (N := 71) hx hb hts hin tyX10 tyX10_ok nmX10 hown hK hP hD hS 0 rfl rfl 57 (by decide) k_31_7 (fun _ h9 => h9) rfl (by decide +kernel) rfl rfl (Nat.le_of_ble_eq_true rfl) dX10_run_67 (fun H locs hP hD hS => ?_)
                  have hP : va_P D vwCl (mw cs q s1_13 a_tape v_taped v_size v_to v_kind v_from v_letters v_letterMany v_digits v_isBeyond v_suffix v_steps v_fault v_hasProgram a_text a_act a_guess a_take a_begin a_finish a_to1 a_one a_two a_what a_ats a_atVar a_atNumber a_atomSort a_atomKind a_atomValue v_wrong v_wrongAt v_variable v_number v_numberKind v_takes a_out v_outed a_varSort_52 a_varKind_52 a_varValue_52 a_creature_52 v_creatures_52 a_arrayClass_52 a_arrayFrom_52 a_arrayLong_52 v_arrays_52 v_cells_52 a_cellSort_52 a_cellKind_52 a_cellValue_52 a_asideSort_52 a_asideKind_52 a_asideValue_52 a_outcome_52 v_marks_52 x66 v_guessed_52 v_right_52 v_taken_52 a_markSort_52 a_markKind_52 a_markClass_52 a_markValue_52 v_sort_52 v_kindAt_52 v_value_52 a_index_52 v_reached_52 v_looked_52) H := hP
                  have hD : va_D A (mw cs q s1_13 a_tape v_taped v_size v_to v_kind v_from v_letters v_letterMany v_digits v_isBeyond v_suffix v_steps v_fault v_hasProgram a_text a_act a_guess a_take a_begin a_finish a_to1 a_one a_two a_what a_ats a_atVar a_atNumber a_atomSort a_atomKind a_atomValue v_wrong v_wrongAt v_variable v_number v_numberKind v_takes a_out v_outed a_varSort_52 a_varKind_52 a_varValue_52 a_creature_52 v_creatures_52 a_arrayClass_52 a_arrayFrom_52 a_arrayLong_52 v_arrays_52 v_cells_52 a_cellSort_52 a_cellKind_52 a_cellValue_52 a_asideSort_52 a_asideKind_52 a_asideValue_52 a_outcome_52 v_marks_52 x66 v_guessed_52 v_right_52 v_taken_52 a_markSort_52 a_markKind_52 a_markClass_52 a_markValue_52 v_sort_52 v_kindAt_52 v_value_52 a_index_52 v_reached_52 v_looked_52) := hD
                  refine lv_aload_n hx hb dX10_run_70 rfl (lv_at hl 0 rfl) ?_
                  refine va_get (D := D) (ci := 9) (v := .ref (q 32)) (C := RX10) (T := TX10) (N := 71) hx hb hts hin hown hK hP 0 rfl rfl 55 (by decide) k_6_14 (fun _ h9 => h9) rfl dX10_run_71 ?_
                  refine lv_iload_n hx hb dX10_run_74 rfl (lv_at hl 1 rfl) ?_
                  refine lv_aload_n hx hb dX10_run_75 rfl (lv_at hl 0 rfl) ?_
                  refine lv_iload_n hx hb dX10_run_76 rfl (lv_at hl 1 rfl) ?_
                  have hst := (p_7 l1_52.toNatClampNeg (by have t9 := tn (i := l1_52) (by omega); omega)).1
                  rw [Nat.zero_add] at hst
                  have hr8 := f52_2.1
                  refine call_i (As := [.int l1_52]) (rest := [.int l1_52, .ref (q 32)]) ⟨hx, hb, hml, hown, hts⟩ (tX10_doStep (l := l) l1_52 (by first | assumption | omega | (intros; omega) | decide) (by first | assumption | omega | (intros; omega) | decide) (by first | assumption | omega | (intros; omega) | decide) (by first | assumption | omega | (intros; omega) | decide) (by first | assumption | omega | (intros; omega) | decide) (by first | assumption | omega | (intros; omega) | decide) (by first | assumption | omega | (intros; omega) | decide) (by first | assumption | omega | (intros; omega) | decide) (by first | assumption | omega | (intros; omega) | decide) (by first | assumption | omega | (intros; omega) | decide) (by first | assumption | omega | (intros; omega) | decide) (by first | assumption | omega | (intros; omega) | decide) (by first | assumption | omega | (intros; omega) | decide) (by first | assumption | omega | (intros; omega) | decide)) (cwV 1 hts (gV (wr47 _ (List.mem_of_getElem? (i := 0) rfl)) (wr47 _ (List.mem_of_getElem? (i := 1) rfl)) (wr47 _ (List.mem_of_getElem? (i := 2) rfl)) (wr1 _ (List.mem_of_getElem? (i := 5) rfl)) (wr47 _ (List.mem_of_getElem? (i := 3) rfl))) rfl rfl rfl (by decide +kernel) ⟨Nat.le_of_ble_eq_true rfl, Nat.le_of_ble_eq_true rfl⟩) (va_recv hK hP (ci := 9) (q0 := 0) rfl rfl) hK hP hD hE hS hA rfl hl.1 rfl (Nat.le_of_ble_eq_true rfl) dX10_run_77 ⟨Nat.le_of_ble_eq_true rfl, Nat.le_of_ble_eq_true rfl⟩ (fun r77 w9 H locs hw77 hP hD hS => ?_)
                  obtain ⟨a_varSort_77, a_varKind_77, a_varValue_77, a_creature_77, v_creatures_77, a_arrayClass_77, a_arrayFrom_77, a_arrayLong_77, v_arrays_77, v_cells_77, a_cellSort_77, a_cellKind_77, a_cellValue_77, a_asideSort_77, a_asideKind_77, a_asideValue_77, v_marks_77, a_markSort_77, a_markKind_77, a_markClass_77, a_markValue_77, v_sort_77, v_kindAt_77, v_value_77, a_index_77, v_reached_77, v_looked_77, rfl, hw77_0, hw77_1, hw77_2, hw77_3, hw77_4, hw77_5, hw77_6⟩ := hw77
                  have b_v_creatures_77 := iB v_creatures_77
                  have b_v_arrays_77 := iB v_arrays_77
                  have b_v_cells_77 := iB v_cells_77
                  have b_v_marks_77 := iB v_marks_77
                  have b_v_sort_77 := iB v_sort_77
                  have b_v_kindAt_77 := iB v_kindAt_77
                  have b_v_value_77 := jB v_value_77
                  have b_v_reached_77 := iB v_reached_77
                  have b_v_looked_77 := iB v_looked_77
                  have b_r77 := iB r77
                  refine va_iast hx hb hK hP hD hS 32 0 rfl rfl (ix (by omega) (by omega)) dX10_run_80 (fun H locs hP hD hS => ?_)
                  obtain ⟨a_outcome_80, e_a_outcome_80⟩ : ∃ g, g = upd a_outcome_52 l1_52.toNatClampNeg r77 := ⟨_, rfl⟩
                  have hP : va_P D vwCl (mw cs q s1_13 a_tape v_taped v_size v_to v_kind v_from v_letters v_letterMany v_digits v_isBeyond v_suffix v_steps v_fault v_hasProgram a_text a_act a_guess a_take a_begin a_finish a_to1 a_one a_two a_what a_ats a_atVar a_atNumber a_atomSort a_atomKind a_atomValue v_wrong v_wrongAt v_variable v_number v_numberKind v_takes a_out v_outed a_varSort_77 a_varKind_77 a_varValue_77 a_creature_77 v_creatures_77 a_arrayClass_77 a_arrayFrom_77 a_arrayLong_77 v_arrays_77 v_cells_77 a_cellSort_77 a_cellKind_77 a_cellValue_77 a_asideSort_77 a_asideKind_77 a_asideValue_77 a_outcome_80 v_marks_77 x66 v_guessed_52 v_right_52 v_taken_52 a_markSort_77 a_markKind_77 a_markClass_77 a_markValue_77 v_sort_77 v_kindAt_77 v_value_77 a_index_77 v_reached_77 v_looked_77) H := by rw [e_a_outcome_80]; exact hP
                  have hD : va_D A (mw cs q s1_13 a_tape v_taped v_size v_to v_kind v_from v_letters v_letterMany v_digits v_isBeyond v_suffix v_steps v_fault v_hasProgram a_text a_act a_guess a_take a_begin a_finish a_to1 a_one a_two a_what a_ats a_atVar a_atNumber a_atomSort a_atomKind a_atomValue v_wrong v_wrongAt v_variable v_number v_numberKind v_takes a_out v_outed a_varSort_77 a_varKind_77 a_varValue_77 a_creature_77 v_creatures_77 a_arrayClass_77 a_arrayFrom_77 a_arrayLong_77 v_arrays_77 v_cells_77 a_cellSort_77 a_cellKind_77 a_cellValue_77 a_asideSort_77 a_asideKind_77 a_asideValue_77 a_outcome_80 v_marks_77 x66 v_guessed_52 v_right_52 v_taken_52 a_markSort_77 a_markKind_77 a_markClass_77 a_markValue_77 v_sort_77 v_kindAt_77 v_value_77 a_index_77 v_reached_77 v_looked_77) := by rw [e_a_outcome_80]; exact hD
                  refine lv_aload_n hx hb dX10_run_81 rfl (lv_at hl 0 rfl) ?_
                  refine va_get (D := D) (ci := 9) (v := .ref (q 4)) (C := RX10) (T := TX10) (N := 71) hx hb hts hin hown hK hP 0 rfl rfl 17 (by decide) k_5_10 (fun _ h9 => h9) rfl dX10_run_82 ?_
                  refine lv_iload_n hx hb dX10_run_85 rfl (lv_at hl 1 rfl) ?_
                  refine m_iald hx hb hK hP 4 0 rfl rfl (ix (by omega) (by omega)) dX10_run_86 (fun x86 e_x86 => ?_)
                  have b_x86 := iB x86
                  refine lv_iconst (v := (-1)) hx hb dX10_run_87 (by decide) ?_
                  have J126 : ∀ (v_guessed_126 : Int32) (v_right_126 : Int32) (H : Heap) (locs : List Loc) (ls : Array Slot), (RUN a_varSort_77 a_varKind_77 a_varValue_77 v_arrays_77 v_cells_77 v_creatures_77 a_arrayClass_77 a_arrayFrom_77 a_arrayLong_77 a_cellSort_77 a_cellKind_77 a_cellValue_77) → (v_creatures_77.toInt ≤ l1_52.toInt + 1) → (0 ≤ v_marks_77.toInt) → (v_marks_77.toInt ≤ l1_52.toInt + 1) → (∀ j : Nat, (a_markSort_77 j).toInt = 1 → NumOK (a_markKind_77 j) (a_markValue_77 j)) → va_P D vwCl (mw cs q s1_13 a_tape v_taped v_size v_to v_kind v_from v_letters v_letterMany v_digits v_isBeyond v_suffix v_steps v_fault v_hasProgram a_text a_act a_guess a_take a_begin a_finish a_to1 a_one a_two a_what a_ats a_atVar a_atNumber a_atomSort a_atomKind a_atomValue v_wrong v_wrongAt v_variable v_number v_numberKind v_takes a_out v_outed a_varSort_77 a_varKind_77 a_varValue_77 a_creature_77 v_creatures_77 a_arrayClass_77 a_arrayFrom_77 a_arrayLong_77 v_arrays_77 v_cells_77 a_cellSort_77 a_cellKind_77 a_cellValue_77 a_asideSort_77 a_asideKind_77 a_asideValue_77 a_outcome_80 v_marks_77 x66 v_guessed_126 v_right_126 v_taken_52 a_markSort_77 a_markKind_77 a_markClass_77 a_markValue_77 v_sort_77 v_kindAt_77 v_value_77 a_index_77 v_reached_77 v_looked_77) H → va_D A (mw cs q s1_13 a_tape v_taped v_size v_to v_kind v_from v_letters v_letterMany v_digits v_isBeyond v_suffix v_steps v_fault v_hasProgram a_text a_act a_guess a_take a_begin a_finish a_to1 a_one a_two a_what a_ats a_atVar a_atNumber a_atomSort a_atomKind a_atomValue v_wrong v_wrongAt v_variable v_number v_numberKind v_takes a_out v_outed a_varSort_77 a_varKind_77 a_varValue_77 a_creature_77 v_creatures_77 a_arrayClass_77 a_arrayFrom_77 a_arrayLong_77 v_arrays_77 v_cells_77 a_cellSort_77 a_cellKind_77 a_cellValue_77 a_asideSort_77 a_asideKind_77 a_asideValue_77 a_outcome_80 v_marks_77 x66 v_guessed_126 v_right_126 v_taken_52 a_markSort_77 a_markKind_77 a_markClass_77 a_markValue_77 v_sort_77 v_kindAt_77 v_value_77 a_index_77 v_reached_77 v_looked_77) → va_S A s.heap H locs → lv_has ls 2 [(0, .ref (q 0)), (1, .int l1_52)] → W p l e (headSpec (wG yX10_run cX10_run 2 (some .int)) rmX10_run).room s m ([.ref (q 0)] : List Value).toArray below meth c H locs 0 0 Q (F0 m 126 ls []) := by
                    intro v_guessed_126 v_right_126 H locs ls f126_0 f126_1 f126_2 f126_3 f126_4 hP hD hS hl
                    refine lv_aload_n hx hb dX10_run_126 rfl (lv_at hl 0 rfl) ?_
                    refine va_get (D := D) (ci := 9) (v := .ref (q 32)) (C := RX10) (T := TX10) (N := 71) hx hb hts hin hown hK hP 0 rfl rfl 55 (by decide) k_6_14 (fun _ h9 => h9) rfl dX10_run_127 ?_
                    refine lv_iload_n hx hb dX10_run_130 rfl (lv_at hl 1 rfl) ?_
                    refine m_iald hx hb hK hP 32 0 rfl rfl (ix (by omega) (by omega)) dX10_run_131 (fun x131 e_x131 => ?_)
                    have b_x131 := iB x131
                    have J167 : ∀ (v_taken_167 : Int32) (H : Heap) (locs : List Loc) (ls : Array Slot), (True) → va_P D vwCl (mw cs q s1_13 a_tape v_taped v_size v_to v_kind v_from v_letters v_letterMany v_digits v_isBeyond v_suffix v_steps v_fault v_hasProgram a_text a_act a_guess a_take a_begin a_finish a_to1 a_one a_two a_what a_ats a_atVar a_atNumber a_atomSort a_atomKind a_atomValue v_wrong v_wrongAt v_variable v_number v_numberKind v_takes a_out v_outed a_varSort_77 a_varKind_77 a_varValue_77 a_creature_77 v_creatures_77 a_arrayClass_77 a_arrayFrom_77 a_arrayLong_77 v_arrays_77 v_cells_77 a_cellSort_77 a_cellKind_77 a_cellValue_77 a_asideSort_77 a_asideKind_77 a_asideValue_77 a_outcome_80 v_marks_77 x66 v_guessed_126 v_right_126 v_taken_167 a_markSort_77 a_markKind_77 a_markClass_77 a_markValue_77 v_sort_77 v_kindAt_77 v_value_77 a_index_77 v_reached_77 v_looked_77) H → va_D A (mw cs q s1_13 a_tape v_taped v_size v_to v_kind v_from v_letters v_letterMany v_digits v_isBeyond v_suffix v_steps v_fault v_hasProgram a_text a_act a_guess a_take a_begin a_finish a_to1 a_one a_two a_what a_ats a_atVar a_atNumber a_atomSort a_atomKind a_atomValue v_wrong v_wrongAt v_variable v_number v_numberKind v_takes a_out v_outed a_varSort_77 a_varKind_77 a_varValue_77 a_creature_77 v_creatures_77 a_arrayClass_77 a_arrayFrom_77 a_arrayLong_77 v_arrays_77 v_cells_77 a_cellSort_77 a_cellKind_77 a_cellValue_77 a_asideSort_77 a_asideKind_77 a_asideValue_77 a_outcome_80 v_marks_77 x66 v_guessed_126 v_right_126 v_taken_167 a_markSort_77 a_markKind_77 a_markClass_77 a_markValue_77 v_sort_77 v_kindAt_77 v_value_77 a_index_77 v_reached_77 v_looked_77) → va_S A s.heap H locs → lv_has ls 2 [(0, .ref (q 0)), (1, .int l1_52)] → W p l e (headSpec (wG yX10_run cX10_run 2 (some .int)) rmX10_run).room s m ([.ref (q 0)] : List Value).toArray below meth c H locs 0 0 Q (F0 m 167 ls []) := by
                      intro v_taken_167 H locs ls f167_0 hP hD hS hl
                      obtain ⟨x167, e_x167⟩ : ∃ z : Int32, z = l1_52 + (1 : Int32) := ⟨_, rfl⟩
                      obtain ⟨k_x167, g_x167⟩ : ∃ k : Int, x167.toInt = l1_52.toInt + (1) + k * 4294967296 := by rw [e_x167]; exact iAdd l1_52 (1)
                      have b_x167 := iB x167
                      try (have q_x167 : x167.toInt = l1_52.toInt + (1) := (by omega); clear g_x167 k_x167)
                      refine lv_iinc (v := x167) (lv' := [(1, .int x167), (0, .ref (q 0))]) hx hb dX10_run_167 hl (k := 1) rfl (by rw [e_x167]; rfl) (by decide) rfl (fun ls hl => ?_)
                      refine lv_goto (tgt := 52) hx hb dX10_run_170 (by decide) ?_
                      exact ih52 x167 a_arrayClass_77 a_arrayFrom_77 a_arrayLong_77 v_arrays_77 a_asideKind_77 a_asideSort_77 a_asideValue_77 x66 a_cellKind_77 a_cellSort_77 a_cellValue_77 v_cells_77 a_creature_77 v_creatures_77 v_guessed_126 a_index_77 v_kindAt_77 v_looked_77 a_markClass_77 a_markKind_77 a_markSort_77 a_markValue_77 v_marks_77 a_outcome_80 v_reached_77 v_right_126 v_sort_77 v_taken_167 v_value_77 a_varKind_77 a_varSort_77 a_varValue_77 H locs ls (by first | assumption | omega | (intros; omega) | decide) (by first | assumption | omega | (intros; omega) | decide) (by first | assumption | omega | (intros; omega) | decide) (by first | assumption | omega | (intros; omega) | decide) (by first | assumption | omega | (intros; omega) | decide) (by first | assumption | omega | (intros; omega) | decide) (by first | assumption | omega | (intros; omega) | decide) (by omega) hP hD hS (lv_sub hl [1, 0] rfl)
                    refine m_if_ne (X := x131.toInt) (tgt := 138) hx hb dX10_run_132 (by decide) rfl (fun c132 => ?_) (fun c132 => ?_)
                    · skip
                      refine lv_aload_n hx hb dX10_run_138 rfl (lv_at hl 0 rfl) ?_
                      refine va_get (D := D) (ci := 9) (v := .ref (q 5)) (C := RX10) (T := TX10) (N := 71) hx hb hts hin hown hK hP 0 rfl rfl 18 (by decide) k_5_11 (fun _ h9 => h9) rfl dX10_run_139 ?_
                      refine lv_iload_n hx hb dX10_run_142 rfl (lv_at hl 1 rfl) ?_
                      refine m_iald hx hb hK hP 5 0 rfl rfl (ix (by omega) (by omega)) dX10_run_143 (fun x143 e_x143 => ?_)
                      have b_x143 := iB x143
                      refine lv_aload_n hx hb dX10_run_144 rfl (lv_at hl 0 rfl) ?_
                      refine va_get (D := D) (ci := 9) (v := .ref (q 32)) (C := RX10) (T := TX10) (N := 71) hx hb hts hin hown hK hP 0 rfl rfl 55 (by decide) k_6_14 (fun _ h9 => h9) rfl dX10_run_145 ?_
                      refine lv_iload_n hx hb dX10_run_148 rfl (lv_at hl 1 rfl) ?_
                      refine m_iald hx hb hK hP 32 0 rfl rfl (ix (by omega) (by omega)) dX10_run_149 (fun x149 e_x149 => ?_)
                      have b_x149 := iB x149
                      refine m_icmp_eq (X := x143.toInt) (Y := x149.toInt) (tgt := 157) hx hb dX10_run_150 (by decide) rfl rfl (fun c150 => ?_) (fun c150 => ?_)
                      · skip
                        refine lv_aload_n hx hb dX10_run_157 rfl (lv_at hl 0 rfl) ?_
                        refine lv_dup hx hb dX10_run_158 rfl ?_
                        refine va_get (D := D) (ci := 9) (v := .int v_taken_52) (C := RX10) (T := TX10) (N := 71) hx hb hts hin hown hK hP 0 rfl rfl 60 (by decide) k_31_10 (fun _ h9 => h9) rfl dX10_run_159 ?_
                        refine lv_iconst (v := 1) hx hb dX10_run_162 (by decide) ?_
                        refine m_iadd (X := v_taken_52.toInt) (Y := 1) hx hb dX10_run_163 rfl (by decide) (fun x163 e_x163 g9 => ?_)
                        obtain ⟨k_x163, g_x163⟩ := g9
                        have b_x163 := iB x163
                        try (have q_x163 : x163.toInt = v_taken_52.toInt + 1 := (by omega); clear g_x163 k_x163)
                        refine va_put (D := D) (ci := 9) (v := .int x163) (ty := .int) (C := RX10) (T := TX10) (N := 71) hx hb hts hin tyX10 tyX10_ok nmX10 hown hK hP hD hS 0 rfl rfl 60 (by decide) k_31_10 (fun _ h9 => h9) rfl (by decide +kernel) rfl rfl (Nat.le_of_ble_eq_true rfl) dX10_run_164 (fun H locs hP hD hS => ?_)
                        have hP : va_P D vwCl (mw cs q s1_13 a_tape v_taped v_size v_to v_kind v_from v_letters v_letterMany v_digits v_isBeyond v_suffix v_steps v_fault v_hasProgram a_text a_act a_guess a_take a_begin a_finish a_to1 a_one a_two a_what a_ats a_atVar a_atNumber a_atomSort a_atomKind a_atomValue v_wrong v_wrongAt v_variable v_number v_numberKind v_takes a_out v_outed a_varSort_77 a_varKind_77 a_varValue_77 a_creature_77 v_creatures_77 a_arrayClass_77 a_arrayFrom_77 a_arrayLong_77 v_arrays_77 v_cells_77 a_cellSort_77 a_cellKind_77 a_cellValue_77 a_asideSort_77 a_asideKind_77 a_asideValue_77 a_outcome_80 v_marks_77 x66 v_guessed_126 v_right_126 x163 a_markSort_77 a_markKind_77 a_markClass_77 a_markValue_77 v_sort_77 v_kindAt_77 v_value_77 a_index_77 v_reached_77 v_looked_77) H := hP
                        have hD : va_D A (mw cs q s1_13 a_tape v_taped v_size v_to v_kind v_from v_letters v_letterMany v_digits v_isBeyond v_suffix v_steps v_fault v_hasProgram a_text a_act a_guess a_take a_begin a_finish a_to1 a_one a_two a_what a_ats a_atVar a_atNumber a_atomSort a_atomKind a_atomValue v_wrong v_wrongAt v_variable v_number v_numberKind v_takes a_out v_outed a_varSort_77 a_varKind_77 a_varValue_77 a_creature_77 v_creatures_77 a_arrayClass_77 a_arrayFrom_77 a_arrayLong_77 v_arrays_77 v_cells_77 a_cellSort_77 a_cellKind_77 a_cellValue_77 a_asideSort_77 a_asideKind_77 a_asideValue_77 a_outcome_80 v_marks_77 x66 v_guessed_126 v_right_126 x163 a_markSort_77 a_markKind_77 a_markClass_77 a_markValue_77 v_sort_77 v_kindAt_77 v_value_77 a_index_77 v_reached_77 v_looked_77) := hD
                        exact J167 x163 H locs ls (by first | assumption | omega | (intros; omega) | decide) hP hD hS (lv_sub hl [0, 1] rfl)
                      · skip
                        refine lv_iconst (v := 1) hx hb dX10_run_153 (by decide) ?_
                        refine lv_iload_n hx hb dX10_run_154 rfl (lv_at hl 1 rfl) ?_
                        refine m_iadd (X := 1) (Y := l1_52.toInt) hx hb dX10_run_155 (by decide) rfl (fun x155 e_x155 g9 => ?_)
                        obtain ⟨k_x155, g_x155⟩ := g9
                        have b_x155 := iB x155
                        try (have q_x155 : x155.toInt = 1 + l1_52.toInt := (by omega); clear g_x155 k_x155)
                        subst hAe
                        rw [hQ]
                        exact W.iret (v := x155) hx hb hr (fun t ht hW => ⟨⟨x155, _, rfl, ⟨s1_13, a_varSort_77, a_varKind_77, a_varValue_77, a_creature_77, v_creatures_77, a_arrayClass_77, a_arrayFrom_77, a_arrayLong_77, v_arrays_77, v_cells_77, a_cellSort_77, a_cellKind_77, a_cellValue_77, a_asideSort_77, a_asideKind_77, a_asideValue_77, a_outcome_80, v_marks_77, x66, v_guessed_126, v_right_126, v_taken_52, a_markSort_77, a_markKind_77, a_markClass_77, a_markValue_77, v_sort_77, v_kindAt_77, v_value_77, a_index_77, v_reached_77, v_looked_77, rfl, by first | assumption | omega | (intros; omega) | decide, by first | assumption | omega | (intros; omega) | decide, by first | assumption | omega | (intros; omega) | decide⟩, by rw [ht]; exact hP, va_K.moved hW.alike hK, hD⟩, hS.F ht⟩) hS.2.2 dX10_run_156
                    · skip
                      refine lv_goto (tgt := 167) hx hb dX10_run_135 (by decide) ?_
                      exact J167 v_taken_52 H locs ls (by first | assumption | omega | (intros; omega) | decide) hP hD hS (lv_sub hl [0, 1] rfl)
                  refine m_icmp_eq (X := x86.toInt) (Y := (-1)) (tgt := 126) hx hb dX10_run_88 (by decide) rfl (by decide) (fun c88 => ?_) (fun c88 => ?_)
                  · skip
                    exact J126 v_guessed_52 v_right_52 H locs ls (by first | assumption | omega | (intros; omega) | decide) (by first | assumption | omega | (intros; omega) | decide) (by first | assumption | omega | (intros; omega) | decide) (by first | assumption | omega | (intros; omega) | decide) (by first | assumption | omega | (intros; omega) | decide) hP hD hS (lv_sub hl [0, 1] rfl)
                  · skip
                    refine lv_aload_n hx hb dX10_run_91 rfl (lv_at hl 0 rfl) ?_
                    refine lv_dup hx hb dX10_run_92 rfl ?_
                    refine va_get (D := D) (ci := 9) (v := .int v_guessed_52) (C := RX10) (T := TX10) (N := 71) hx hb hts hin hown hK hP 0 rfl rfl 58 (by decide) k_31_8 (fun _ h9 => h9) rfl dX10_run_93 ?_
                    refine lv_iconst (v := 1) hx hb dX10_run_96 (by decide) ?_
                    refine m_iadd (X := v_guessed_52.toInt) (Y := 1) hx hb dX10_run_97 rfl (by decide) (fun x97 e_x97 g9 => ?_)
                    obtain ⟨k_x97, g_x97⟩ := g9
                    have b_x97 := iB x97
                    try (have q_x97 : x97.toInt = v_guessed_52.toInt + 1 := (by omega); clear g_x97 k_x97)
                    refine va_put (D := D) (ci := 9) (v := .int x97) (ty := .int) (C := RX10) (T := TX10) (N := 71) hx hb hts hin tyX10 tyX10_ok nmX10 hown hK hP hD hS 0 rfl rfl 58 (by decide) k_31_8 (fun _ h9 => h9) rfl (by decide +kernel) rfl rfl (Nat.le_of_ble_eq_true rfl) dX10_run_98 (fun H locs hP hD hS => ?_)
                    have hP : va_P D vwCl (mw cs q s1_13 a_tape v_taped v_size v_to v_kind v_from v_letters v_letterMany v_digits v_isBeyond v_suffix v_steps v_fault v_hasProgram a_text a_act a_guess a_take a_begin a_finish a_to1 a_one a_two a_what a_ats a_atVar a_atNumber a_atomSort a_atomKind a_atomValue v_wrong v_wrongAt v_variable v_number v_numberKind v_takes a_out v_outed a_varSort_77 a_varKind_77 a_varValue_77 a_creature_77 v_creatures_77 a_arrayClass_77 a_arrayFrom_77 a_arrayLong_77 v_arrays_77 v_cells_77 a_cellSort_77 a_cellKind_77 a_cellValue_77 a_asideSort_77 a_asideKind_77 a_asideValue_77 a_outcome_80 v_marks_77 x66 x97 v_right_52 v_taken_52 a_markSort_77 a_markKind_77 a_markClass_77 a_markValue_77 v_sort_77 v_kindAt_77 v_value_77 a_index_77 v_reached_77 v_looked_77) H := hP
                    have hD : va_D A (mw cs q s1_13 a_tape v_taped v_size v_to v_kind v_from v_letters v_letterMany v_digits v_isBeyond v_suffix v_steps v_fault v_hasProgram a_text a_act a_guess a_take a_begin a_finish a_to1 a_one a_two a_what a_ats a_atVar a_atNumber a_atomSort a_atomKind a_atomValue v_wrong v_wrongAt v_variable v_number v_numberKind v_takes a_out v_outed a_varSort_77 a_varKind_77 a_varValue_77 a_creature_77 v_creatures_77 a_arrayClass_77 a_arrayFrom_77 a_arrayLong_77 v_arrays_77 v_cells_77 a_cellSort_77 a_cellKind_77 a_cellValue_77 a_asideSort_77 a_asideKind_77 a_asideValue_77 a_outcome_80 v_marks_77 x66 x97 v_right_52 v_taken_52 a_markSort_77 a_markKind_77 a_markClass_77 a_markValue_77 v_sort_77 v_kindAt_77 v_value_77 a_index_77 v_reached_77 v_looked_77) := hD
                    refine lv_aload_n hx hb dX10_run_101 rfl (lv_at hl 0 rfl) ?_
                    refine va_get (D := D) (ci := 9) (v := .ref (q 4)) (C := RX10) (T := TX10) (N := 71) hx hb hts hin hown hK hP 0 rfl rfl 17 (by decide) k_5_10 (fun _ h9 => h9) rfl dX10_run_102 ?_
                    refine lv_iload_n hx hb dX10_run_105 rfl (lv_at hl 1 rfl) ?_
                    refine m_iald hx hb hK hP 4 0 rfl rfl (ix (by omega) (by omega)) dX10_run_106 (fun x106 e_x106 => ?_)
                    have b_x106 := iB x106
                    refine lv_aload_n hx hb dX10_run_107 rfl (lv_at hl 0 rfl) ?_
                    refine va_get (D := D) (ci := 9) (v := .ref (q 32)) (C := RX10) (T := TX10) (N := 71) hx hb hts hin hown hK hP 0 rfl rfl 55 (by decide) k_6_14 (fun _ h9 => h9) rfl dX10_run_108 ?_
                    refine lv_iload_n hx hb dX10_run_111 rfl (lv_at hl 1 rfl) ?_
                    refine m_iald hx hb hK hP 32 0 rfl rfl (ix (by omega) (by omega)) dX10_run_112 (fun x112 e_x112 => ?_)
                    have b_x112 := iB x112
                    refine m_icmp_ne (X := x106.toInt) (Y := x112.toInt) (tgt := 126) hx hb dX10_run_113 (by decide) rfl rfl (fun c113 => ?_) (fun c113 => ?_)
                    · skip
                      exact J126 x97 v_right_52 H locs ls (by first | assumption | omega | (intros; omega) | decide) (by first | assumption | omega | (intros; omega) | decide) (by first | assumption | omega | (intros; omega) | decide) (by first | assumption | omega | (intros; omega) | decide) (by first | assumption | omega | (intros; omega) | decide) hP hD hS (lv_sub hl [0, 1] rfl)
                    · skip
                      refine lv_aload_n hx hb dX10_run_116 rfl (lv_at hl 0 rfl) ?_
                      refine lv_dup hx hb dX10_run_117 rfl ?_
                      refine va_get (D := D) (ci := 9) (v := .int v_right_52) (C := RX10) (T := TX10) (N := 71) hx hb hts hin hown hK hP 0 rfl rfl 59 (by decide) k_31_9 (fun _ h9 => h9) rfl dX10_run_118 ?_
                      refine lv_iconst (v := 1) hx hb dX10_run_121 (by decide) ?_
                      refine m_iadd (X := v_right_52.toInt) (Y := 1) hx hb dX10_run_122 rfl (by decide) (fun x122 e_x122 g9 => ?_)
                      obtain ⟨k_x122, g_x122⟩ := g9
                      have b_x122 := iB x122
                      try (have q_x122 : x122.toInt = v_right_52.toInt + 1 := (by omega); clear g_x122 k_x122)
                      refine va_put (D := D) (ci := 9) (v := .int x122) (ty := .int) (C := RX10) (T := TX10) (N := 71) hx hb hts hin tyX10 tyX10_ok nmX10 hown hK hP hD hS 0 rfl rfl 59 (by decide) k_31_9 (fun _ h9 => h9) rfl (by decide +kernel) rfl rfl (Nat.le_of_ble_eq_true rfl) dX10_run_123 (fun H locs hP hD hS => ?_)
                      have hP : va_P D vwCl (mw cs q s1_13 a_tape v_taped v_size v_to v_kind v_from v_letters v_letterMany v_digits v_isBeyond v_suffix v_steps v_fault v_hasProgram a_text a_act a_guess a_take a_begin a_finish a_to1 a_one a_two a_what a_ats a_atVar a_atNumber a_atomSort a_atomKind a_atomValue v_wrong v_wrongAt v_variable v_number v_numberKind v_takes a_out v_outed a_varSort_77 a_varKind_77 a_varValue_77 a_creature_77 v_creatures_77 a_arrayClass_77 a_arrayFrom_77 a_arrayLong_77 v_arrays_77 v_cells_77 a_cellSort_77 a_cellKind_77 a_cellValue_77 a_asideSort_77 a_asideKind_77 a_asideValue_77 a_outcome_80 v_marks_77 x66 x97 x122 v_taken_52 a_markSort_77 a_markKind_77 a_markClass_77 a_markValue_77 v_sort_77 v_kindAt_77 v_value_77 a_index_77 v_reached_77 v_looked_77) H := hP
                      have hD : va_D A (mw cs q s1_13 a_tape v_taped v_size v_to v_kind v_from v_letters v_letterMany v_digits v_isBeyond v_suffix v_steps v_fault v_hasProgram a_text a_act a_guess a_take a_begin a_finish a_to1 a_one a_two a_what a_ats a_atVar a_atNumber a_atomSort a_atomKind a_atomValue v_wrong v_wrongAt v_variable v_number v_numberKind v_takes a_out v_outed a_varSort_77 a_varKind_77 a_varValue_77 a_creature_77 v_creatures_77 a_arrayClass_77 a_arrayFrom_77 a_arrayLong_77 v_arrays_77 v_cells_77 a_cellSort_77 a_cellKind_77 a_cellValue_77 a_asideSort_77 a_asideKind_77 a_asideValue_77 a_outcome_80 v_marks_77 x66 x97 x122 v_taken_52 a_markSort_77 a_markKind_77 a_markClass_77 a_markValue_77 v_sort_77 v_kindAt_77 v_value_77 a_index_77 v_reached_77 v_looked_77) := hD
                      exact J126 x97 x122 H locs ls (by first | assumption | omega | (intros; omega) | decide) (by first | assumption | omega | (intros; omega) | decide) (by first | assumption | omega | (intros; omega) | decide) (by first | assumption | omega | (intros; omega) | decide) (by first | assumption | omega | (intros; omega) | decide) hP hD hS (lv_sub hl [0, 1] rfl)
            exact J52 ((100 - (0 : Int32).toInt).toNat + 1) (0 : Int32) a_arrayClass a_arrayFrom a_arrayLong v_arrays_26 a_asideKind a_asideSort a_asideValue v_came_26 a_cellKind a_cellSort a_cellValue v_cells_26 a_creature v_creatures_26 v_guessed_26 a_index v_kindAt v_looked a_markClass a_markKind a_markSort a_markValue v_marks_26 a_outcome_31 v_reached v_right_26 v_sort v_taken_26 v_value a_varKind a_varSort_26 a_varValue H locs ls (by first | assumption | omega | (intros; omega) | decide) (by first | assumption | omega | (intros; omega) | decide) (by first | assumption | omega | (intros; omega) | decide) (by first | assumption | omega | (intros; omega) | decide) (by first | assumption | omega | (intros; omega) | decide) (by first | assumption | omega | (intros; omega) | decide) (by first | assumption | omega | (intros; omega) | decide) (by omega) hP hD hS (lv_sub hl [1, 0] rfl)
          · skip
            refine lv_aload_n hx hb dX10_run_37 rfl (lv_at hl 0 rfl) ?_
            refine va_get (D := D) (ci := 9) (v := .ref (q 32)) (C := RX10) (T := TX10) (N := 71) hx hb hts hin hown hK hP 0 rfl rfl 55 (by decide) k_6_14 (fun _ h9 => h9) rfl dX10_run_38 ?_
            refine lv_iload_n hx hb dX10_run_41 rfl (lv_at hl 1 rfl) ?_
            refine lv_iconst (v := (-1)) hx hb dX10_run_42 (by decide) ?_
            refine va_iast hx hb hK hP hD hS 32 0 rfl rfl (ix (by omega) (by omega)) dX10_run_43 (fun H locs hP hD hS => ?_)
            obtain ⟨a_outcome_43, e_a_outcome_43⟩ : ∃ g, g = upd a_outcome_31 l1_31.toNatClampNeg (-1 : Int32) := ⟨_, rfl⟩
            have hP : va_P D vwCl (mw cs q s1_13 a_tape v_taped v_size v_to v_kind v_from v_letters v_letterMany v_digits v_isBeyond v_suffix v_steps v_fault v_hasProgram a_text a_act a_guess a_take a_begin a_finish a_to1 a_one a_two a_what a_ats a_atVar a_atNumber a_atomSort a_atomKind a_atomValue v_wrong v_wrongAt v_variable v_number v_numberKind v_takes a_out v_outed a_varSort_26 a_varKind a_varValue a_creature v_creatures_26 a_arrayClass a_arrayFrom a_arrayLong v_arrays_26 v_cells_26 a_cellSort a_cellKind a_cellValue a_asideSort a_asideKind a_asideValue a_outcome_43 v_marks_26 v_came_26 v_guessed_26 v_right_26 v_taken_26 a_markSort a_markKind a_markClass a_markValue v_sort v_kindAt v_value a_index v_reached v_looked) H := by rw [e_a_outcome_43]; exact hP
            have hD : va_D A (mw cs q s1_13 a_tape v_taped v_size v_to v_kind v_from v_letters v_letterMany v_digits v_isBeyond v_suffix v_steps v_fault v_hasProgram a_text a_act a_guess a_take a_begin a_finish a_to1 a_one a_two a_what a_ats a_atVar a_atNumber a_atomSort a_atomKind a_atomValue v_wrong v_wrongAt v_variable v_number v_numberKind v_takes a_out v_outed a_varSort_26 a_varKind a_varValue a_creature v_creatures_26 a_arrayClass a_arrayFrom a_arrayLong v_arrays_26 v_cells_26 a_cellSort a_cellKind a_cellValue a_asideSort a_asideKind a_asideValue a_outcome_43 v_marks_26 v_came_26 v_guessed_26 v_right_26 v_taken_26 a_markSort a_markKind a_markClass a_markValue v_sort v_kindAt v_value a_index v_reached v_looked) := by rw [e_a_outcome_43]; exact hD
            obtain ⟨x44, e_x44⟩ : ∃ z : Int32, z = l1_31 + (1 : Int32) := ⟨_, rfl⟩
            obtain ⟨k_x44, g_x44⟩ : ∃ k : Int, x44.toInt = l1_31.toInt + (1) + k * 4294967296 := by rw [e_x44]; exact iAdd l1_31 (1)
            have b_x44 := iB x44
            try (have q_x44 : x44.toInt = l1_31.toInt + (1) := (by omega); clear g_x44 k_x44)
            refine lv_iinc (v := x44) (lv' := [(1, .int x44), (0, .ref (q 0))]) hx hb dX10_run_44 hl (k := 1) rfl (by rw [e_x44]; rfl) (by decide) rfl (fun ls hl => ?_)
            refine lv_goto (tgt := 31) hx hb dX10_run_47 (by decide) ?_
            exact ih31 x44 a_outcome_43 H locs ls (by first | assumption | omega | (intros; omega) | decide) (by first | assumption | omega | (intros; omega) | decide) (by omega) hP hD hS (lv_sub hl [1, 0] rfl)
      exact J31 ((100 - (0 : Int32).toInt).toNat + 1) (0 : Int32) a_outcome H locs ls (by first | assumption | omega | (intros; omega) | decide) (by first | assumption | omega | (intros; omega) | decide) (by omega) hP hD hS (lv_sub hl [1, 0] rfl)
    · skip
      refine lv_iconst (v := 0) hx hb dX10_run_23 (by decide) ?_
      subst hAe
      rw [hQ]
      exact W.iret (v := 0) hx hb hr (fun t ht hW => ⟨⟨0, _, rfl, ⟨s1_13, a_varSort, a_varKind, a_varValue, a_creature, v_creatures, a_arrayClass, a_arrayFrom, a_arrayLong, v_arrays, v_cells, a_cellSort, a_cellKind, a_cellValue, a_asideSort, a_asideKind, a_asideValue, a_outcome, v_marks, v_came, v_guessed, v_right, v_taken, a_markSort, a_markKind, a_markClass, a_markValue, v_sort, v_kindAt, v_value, a_index, v_reached, v_looked, rfl, by first | assumption | omega | (intros; omega) | decide, by first | assumption | omega | (intros; omega) | decide, by first | assumption | omega | (intros; omega) | decide⟩, by rw [ht]; exact hP, va_K.moved hW.alike hK, hD⟩, hS.F ht⟩) hS.2.2 dX10_run_24
  refine m_if_eq (X := v_hasProgram.toInt) (tgt := 12) hx hb dX10_run_5 (by decide) rfl (fun c5 => ?_) (fun c5 => ?_)
  · skip
    refine lv_iconst (v := 1) hx hb dX10_run_12 (by decide) ?_
    exact J13 (1 : Int32) H locs ls (by first | decide | omega) hP hD hS (lv_sub hl [0] rfl)
  · skip
    refine lv_iconst (v := 0) hx hb dX10_run_8 (by decide) ?_
    refine lv_goto (tgt := 13) hx hb dX10_run_9 (by decide) ?_
    exact J13 (0 : Int32) H locs ls (by first | decide | omega) hP hD hS (lv_sub hl [0] rfl)
