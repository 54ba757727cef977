def rmX10_step_ : Room := { frames := 40, cells := 0, slots := 0, locals := 800 }
set_option maxHeartbeats 4000000 in
set_option maxRecDepth 100000 in
theorem tX10_step_ {l : Launch} {D : va_G} {K : Nat → Nat → Nat} {cs : Nat → ClassId} {q : Nat → Nat} {v_thrown v_taped v_size v_to v_kind v_from v_letterMany v_isBeyond v_suffix v_steps v_fault v_hasProgram v_wrong v_wrongAt v_variable v_numberKind v_takes v_outed v_creatures v_arrays v_cells v_marks v_came v_guessed v_right v_taken v_sort v_kindAt v_reached v_looked : Int32} {a_tape a_text a_act a_guess a_take a_begin a_finish a_to1 a_one a_two a_what a_ats a_atVar a_atNumber a_atomSort a_atomKind a_out a_varSort a_varKind a_creature a_arrayClass a_arrayFrom a_arrayLong a_cellSort a_cellKind a_asideSort a_asideKind a_outcome a_markSort a_markKind a_markClass a_index : Nat → Int32} {v_letters v_digits v_number v_value : Int64} {a_atomValue a_varValue a_cellValue a_asideValue a_markValue : Nat → Int64} (i9 : Int32) (p_0 : RUN a_varSort a_varKind a_varValue v_arrays v_cells v_creatures a_arrayClass a_arrayFrom a_arrayLong a_cellSort a_cellKind a_cellValue) (p_1 : VOK v_arrays.toInt v_creatures.toInt v_sort v_kindAt v_value) : CtI l yX10_step_ (wG yX10_step_ cX10_step_ 2 (some .boolean)) rmX10_step_ D (mwT cs) K [.ref (q 0), .int i9] (mw cs q v_thrown a_tape v_taped v_size v_to v_kind v_from v_letters v_letterMany v_digits v_isBeyond v_suffix v_steps v_fault v_hasProgram a_text a_act a_guess a_take a_begin a_finish a_to1 a_one a_two a_what a_ats a_atVar a_atNumber a_atomSort a_atomKind a_atomValue v_wrong v_wrongAt v_variable v_number v_numberKind v_takes a_out v_outed a_varSort a_varKind a_varValue a_creature v_creatures a_arrayClass a_arrayFrom a_arrayLong v_arrays v_cells a_cellSort a_cellKind a_cellValue a_asideSort a_asideKind a_asideValue a_outcome v_marks v_came v_guessed v_right v_taken a_markSort a_markKind a_markClass a_markValue v_sort v_kindAt v_value a_index v_reached v_looked) (fun r w1 => ∃ (v_sort' : Int32) (v_kindAt' : Int32) (v_value' : Int64) (v_reached' : Int32), w1 = (mw cs q v_thrown a_tape v_taped v_size v_to v_kind v_from v_letters v_letterMany v_digits v_isBeyond v_suffix v_steps v_fault v_hasProgram a_text a_act a_guess a_take a_begin a_finish a_to1 a_one a_two a_what a_ats a_atVar a_atNumber a_atomSort a_atomKind a_atomValue v_wrong v_wrongAt v_variable v_number v_numberKind v_takes a_out v_outed a_varSort a_varKind a_varValue a_creature v_creatures a_arrayClass a_arrayFrom a_arrayLong v_arrays v_cells a_cellSort a_cellKind a_cellValue a_asideSort a_asideKind a_asideValue a_outcome v_marks v_came v_guessed v_right v_taken a_markSort a_markKind a_markClass a_markValue v_sort' v_kindAt' v_value' a_index v_reached' v_looked) ∧ (VOK v_arrays.toInt v_creatures.toInt v_sort' v_kindAt' v_value') ∧ (r.toInt = 0 ∨ r.toInt = 1)) 0 0 := by
  intro sz
  refine Met.ofW (cc := cX10_step_) (maxL := 2) (ret := (some .boolean)) (by decide) rfl ?_
  intro p e s m args below meth c s₁ B hml hv
  obtain ⟨rfl, hsz, hP, hK, hD0, hE⟩ := hv
  have hx := B.exec
  have hb := B.bytes
  have hr := B.returns
  have hts := atoms_spec (ws := (wG yX10_step_ cX10_step_ 2 (some .boolean))) B.pre
  have hown : s.vm.findClass RX10 = some m.cls := findClass_of_methodNamed B.named
  have hlocks := B.notSynchronized
  subst hsz
  have hD := hD0.self (sz := s.heap.size)
  obtain ⟨A, hAe⟩ : ∃ A : Nat → Prop, A = va_A (mw cs q v_thrown a_tape v_taped v_size v_to v_kind v_from v_letters v_letterMany v_digits v_isBeyond v_suffix v_steps v_fault v_hasProgram a_text a_act a_guess a_take a_begin a_finish a_to1 a_one a_two a_what a_ats a_atVar a_atNumber a_atomSort a_atomKind a_atomValue v_wrong v_wrongAt v_variable v_number v_numberKind v_takes a_out v_outed a_varSort a_varKind a_varValue a_creature v_creatures a_arrayClass a_arrayFrom a_arrayLong v_arrays v_cells a_cellSort a_cellKind a_cellValue a_asideSort a_asideKind a_asideValue a_outcome v_marks v_came v_guessed v_right v_taken a_markSort a_markKind a_markClass a_markValue v_sort v_kindAt v_value a_index v_reached v_looked) s.heap.size := ⟨_, rfl⟩
  rw [← hAe] at hD hE
  have hA : ∀ q : Nat, s.heap.size ≤ q → A q := fun q h => by rw [hAe]; exact Or.inr h
  have hS : va_S A s.heap s.heap [] := va_S.rf
  have hl := lv_entry ([.ref (q 0), .int i9]) (n := 2) (Nat.le_of_ble_eq_true rfl)
  rw [lg_entry_eq]
  generalize (lg_sl ([.ref (q 0), .int i9]) ++ List.replicate (2 - (lg_sl ([.ref (q 0), .int i9])).length) Slot.unset).toArray = ls at hl ⊢
  have hl : lv_has ls 2 [(0, .ref (q 0)), (1, .int i9)] := hl
  refine wq (fun Q hQ => ?_)
  have hin : ∀ w ∈ wsX100, w ∈ (wG yX10_step_ cX10_step_ 2 (some .boolean)) := fun w h => List.mem_cons_of_mem _ (inlX10 w h)
  have kc0 : (0 : Int32).toInt = 0 := by decide
  have kc1 : (1 : Int32).toInt = 1 := by decide
  have k_48_11 := hts (.fieldLink RX10 510 "ArrayTrainerModel" "reached" "I") (List.mem_cons_of_mem _ (wr48 _ (List.mem_of_getElem? (i := 11) rfl)))
  obtain ⟨H, hH⟩ : ∃ H : Heap, H = s.heap := ⟨_, rfl⟩
  obtain ⟨locs, hlc⟩ : ∃ L : List Loc, L = [] := ⟨_, rfl⟩
  have hP : va_P D vwCl (mw cs q v_thrown a_tape v_taped v_size v_to v_kind v_from v_letters v_letterMany v_digits v_isBeyond v_suffix v_steps v_fault v_hasProgram a_text a_act a_guess a_take a_begin a_finish a_to1 a_one a_two a_what a_ats a_atVar a_atNumber a_atomSort a_atomKind a_atomValue v_wrong v_wrongAt v_variable v_number v_numberKind v_takes a_out v_outed a_varSort a_varKind a_varValue a_creature v_creatures a_arrayClass a_arrayFrom a_arrayLong v_arrays v_cells a_cellSort a_cellKind a_cellValue a_asideSort a_asideKind a_asideValue a_outcome v_marks v_came v_guessed v_right v_taken a_markSort a_markKind a_markClass a_markValue v_sort v_kindAt v_value a_index v_reached v_looked) H := by rw [hH]; exact hP
  have hS : va_S A s.heap H locs := by rw [hH, hlc]; exact hS
  refine wHL hH hlc ?_
  have b_i9 := iB i9
  have hr9 := p_0.1
  refine lv_aload_n hx hb dX10_step__0 rfl (lv_at hl 0 rfl) ?_
  refine call_i (As := []) (rest := []) ⟨hx, hb, hml, hown, hts⟩ (tX10_asArray (l := l)  (by first | assumption | omega | (intros; omega) | decide) (by first | assumption | omega | (intros; omega) | decide)) (cwV 0 hts (gV (wr48 _ (List.mem_of_getElem? (i := 16) rfl)) (wr48 _ (List.mem_of_getElem? (i := 17) rfl)) (wr48 _ (List.mem_of_getElem? (i := 18) rfl)) (wr1 _ (List.mem_of_getElem? (i := 5) rfl)) (wr48 _ (List.mem_of_getElem? (i := 19) rfl))) rfl rfl rfl (by decide +kernel) ⟨Nat.le_of_ble_eq_true rfl, Nat.le_of_ble_eq_true rfl⟩) (va_recv hK hP (ci := 9) (q0 := 0) rfl rfl) hK hP hD hE hS hA rfl hl.1 rfl (Nat.le_of_ble_eq_true rfl) dX10_step__1 ⟨Nat.le_of_ble_eq_true rfl, Nat.le_of_ble_eq_true rfl⟩ (fun r1 w9 H locs hw1 hP hD hS => ?_)
  obtain ⟨v_reached_1, rfl, hw1_0⟩ := hw1
  have b_v_reached_1 := iB v_reached_1
  have b_r1 := iB r1
  refine m_if_ne (X := r1.toInt) (tgt := 15) hx hb dX10_step__4 (by decide) rfl (fun c4 => ?_) (fun c4 => ?_)
  · skip
    refine lv_iconst (v := 0) hx hb dX10_step__15 (by decide) ?_
    subst hAe
    rw [hQ]
    exact W.zret (v := 0) hx hb hr (by decide) (fun t ht hW => ⟨⟨0, _, rfl, ⟨v_sort, v_kindAt, v_value, v_reached_1, rfl, by first | assumption | omega | (intros; omega) | decide, by first | assumption | omega | (intros; omega) | decide⟩, by rw [ht]; exact hP, va_K.moved hW.alike hK, hD⟩, hS.F ht⟩) hS.2.2 dX10_step__16
  · skip
    refine lv_aload_n hx hb dX10_step__7 rfl (lv_at hl 0 rfl) ?_
    refine lv_iload_n hx hb dX10_step__8 rfl (lv_at hl 1 rfl) ?_
    refine call_i (As := [.int i9]) (rest := []) ⟨hx, hb, hml, hown, hts⟩ (tX10_isCell (l := l) i9 (by first | assumption | omega | (intros; omega) | decide) (by first | assumption | omega | (intros; omega) | decide)) (cwV 1 hts (gV (wr48 _ (List.mem_of_getElem? (i := 20) rfl)) (wr48 _ (List.mem_of_getElem? (i := 21) rfl)) (wr48 _ (List.mem_of_getElem? (i := 22) rfl)) (wr1 _ (List.mem_of_getElem? (i := 5) rfl)) (wr48 _ (List.mem_of_getElem? (i := 23) rfl))) rfl rfl rfl (by decide +kernel) ⟨Nat.le_of_ble_eq_true rfl, Nat.le_of_ble_eq_true rfl⟩) (va_recv hK hP (ci := 9) (q0 := 0) rfl rfl) hK hP hD hE hS hA rfl hl.1 rfl (Nat.le_of_ble_eq_true rfl) dX10_step__9 ⟨Nat.le_of_ble_eq_true rfl, Nat.le_of_ble_eq_true rfl⟩ (fun r9 w9 H locs hw9 hP hD hS => ?_)
    obtain ⟨rfl, hw9_0⟩ := hw9
    have b_r9 := iB r9
    refine m_if_ne (X := r9.toInt) (tgt := 17) hx hb dX10_step__12 (by decide) rfl (fun c12 => ?_) (fun c12 => ?_)
    · skip
      refine lv_aload_n hx hb dX10_step__17 rfl (lv_at hl 0 rfl) ?_
      refine lv_aload_n hx hb dX10_step__18 rfl (lv_at hl 0 rfl) ?_
      refine va_get (D := D) (ci := 9) (v := .int v_reached_1) (C := RX10) (T := TX10) (N := 71) hx hb hts hin hown hK hP 0 rfl rfl 69 (by decide) k_48_11 (fun _ h9 => h9) rfl dX10_step__19 ?_
      refine lv_iload_n hx hb dX10_step__22 rfl (lv_at hl 1 rfl) ?_
      refine call_v (As := [.int v_reached_1, .int i9]) (rest := []) ⟨hx, hb, hml, hown, hts⟩ (tX10_ofCell (l := l) v_reached_1 i9 (by first | assumption | omega | (intros; omega) | decide) (by first | assumption | omega | (intros; omega) | decide) (by first | assumption | omega | (intros; omega) | decide) (by first | assumption | omega | (intros; omega) | decide) (by first | assumption | omega | (intros; omega) | decide)) (cwV 2 hts (gV (wr49 _ (List.mem_of_getElem? (i := 0) rfl)) (wr49 _ (List.mem_of_getElem? (i := 1) rfl)) (wr49 _ (List.mem_of_getElem? (i := 2) rfl)) (wr1 _ (List.mem_of_getElem? (i := 5) rfl)) (wr49 _ (List.mem_of_getElem? (i := 3) rfl))) rfl rfl rfl (by decide +kernel) ⟨Nat.le_of_ble_eq_true rfl, Nat.le_of_ble_eq_true rfl⟩) (va_recv hK hP (ci := 9) (q0 := 0) rfl rfl) hK hP hD hE hS hA rfl hl.1 rfl (Nat.le_of_ble_eq_true rfl) dX10_step__23 ⟨Nat.le_of_ble_eq_true rfl, Nat.le_of_ble_eq_true rfl⟩ (fun w9 H locs hw23 hP hD hS => ?_)
      obtain ⟨v_sort_23, v_kindAt_23, v_value_23, rfl, hw23_0, hw23_1, hw23_2⟩ := hw23
      have b_v_sort_23 := iB v_sort_23
      have b_v_kindAt_23 := iB v_kindAt_23
      have b_v_value_23 := jB v_value_23
      refine lv_iconst (v := 1) hx hb dX10_step__26 (by decide) ?_
      subst hAe
      rw [hQ]
      exact W.zret (v := 1) hx hb hr (by decide) (fun t ht hW => ⟨⟨1, _, rfl, ⟨v_sort_23, v_kindAt_23, v_value_23, v_reached_1, rfl, by first | assumption | omega | (intros; omega) | decide, by first | assumption | omega | (intros; omega) | decide⟩, by rw [ht]; exact hP, va_K.moved hW.alike hK, hD⟩, hS.F ht⟩) hS.2.2 dX10_step__27
    · skip
      refine lv_iconst (v := 0) hx hb dX10_step__15 (by decide) ?_
      subst hAe
      rw [hQ]
      exact W.zret (v := 0) hx hb hr (by decide) (fun t ht hW => ⟨⟨0, _, rfl, ⟨v_sort, v_kindAt, v_value, v_reached_1, rfl, by first | assumption | omega | (intros; omega) | decide, by first | assumption | omega | (intros; omega) | decide⟩, by rw [ht]; exact hP, va_K.moved hW.alike hK, hD⟩, hS.F ht⟩) hS.2.2 dX10_step__16

def rmX10_goes : Room := { frames := 60, cells := 0, slots := 0, locals := 1200 }
set_option maxHeartbeats 4000000 in
set_option maxRecDepth 100000 in
theorem tX10_goes {l : Launch} {D : va_G} {K : Nat → Nat → Nat} {cs : Nat → ClassId} {q : Nat → Nat} {v_thrown v_taped v_size v_to v_kind v_from v_letterMany v_isBeyond v_suffix v_steps v_fault v_hasProgram v_wrong v_wrongAt v_variable v_numberKind v_takes v_outed v_creatures v_arrays v_cells v_marks v_came v_guessed v_right v_taken v_sort v_kindAt v_reached v_looked : Int32} {a_tape a_text a_act a_guess a_take a_begin a_finish a_to1 a_one a_two a_what a_ats a_atVar a_atNumber a_atomSort a_atomKind a_out a_varSort a_varKind a_creature a_arrayClass a_arrayFrom a_arrayLong a_cellSort a_cellKind a_asideSort a_asideKind a_outcome a_markSort a_markKind a_markClass a_index : Nat → Int32} {v_letters v_digits v_number v_value : Int64} {a_atomValue a_varValue a_cellValue a_asideValue a_markValue : Nat → Int64} (v9 : Int32) (i9 : Int32) (j9 : Int32) (k9 : Int32) (p_0 : RUN a_varSort a_varKind a_varValue v_arrays v_cells v_creatures a_arrayClass a_arrayFrom a_arrayLong a_cellSort a_cellKind a_cellValue) : CtI l yX10_goes (wG yX10_goes cX10_goes 5 (some .boolean)) rmX10_goes D (mwT cs) K [.ref (q 0), .int v9, .int i9, .int j9, .int k9] (mw cs q v_thrown a_tape v_taped v_size v_to v_kind v_from v_letters v_letterMany v_digits v_isBeyond v_suffix v_steps v_fault v_hasProgram a_text a_act a_guess a_take a_begin a_finish a_to1 a_one a_two a_what a_ats a_atVar a_atNumber a_atomSort a_atomKind a_atomValue v_wrong v_wrongAt v_variable v_number v_numberKind v_takes a_out v_outed a_varSort a_varKind a_varValue a_creature v_creatures a_arrayClass a_arrayFrom a_arrayLong v_arrays v_cells a_cellSort a_cellKind a_cellValue a_asideSort a_asideKind a_asideValue a_outcome v_marks v_came v_guessed v_right v_taken a_markSort a_markKind a_markClass a_markValue v_sort v_kindAt v_value a_index v_reached v_looked) (fun r w1 => ∃ (v_sort' : Int32) (v_kindAt' : Int32) (v_value' : Int64) (v_reached' : Int32), w1 = (mw cs q v_thrown a_tape v_taped v_size v_to v_kind v_from v_letters v_letterMany v_digits v_isBeyond v_suffix v_steps v_fault v_hasProgram a_text a_act a_guess a_take a_begin a_finish a_to1 a_one a_two a_what a_ats a_atVar a_atNumber a_atomSort a_atomKind a_atomValue v_wrong v_wrongAt v_variable v_number v_numberKind v_takes a_out v_outed a_varSort a_varKind a_varValue a_creature v_creatures a_arrayClass a_arrayFrom a_arrayLong v_arrays v_cells a_cellSort a_cellKind a_cellValue a_asideSort a_asideKind a_asideValue a_outcome v_marks v_came v_guessed v_right v_taken a_markSort a_markKind a_markClass a_markValue v_sort' v_kindAt' v_value' a_index v_reached' v_looked) ∧ ((r.toInt = 1 ∧ VOK v_arrays.toInt v_creatures.toInt v_sort' v_kindAt' v_value') ∨ r.toInt = 0)) 0 0 := by
  intro sz
  refine Met.ofW (cc := cX10_goes) (maxL := 5) (ret := (some .boolean)) (by decide) rfl ?_
  intro p e s m args below meth c s₁ B hml hv
  obtain ⟨rfl, hsz, hP, hK, hD0, hE⟩ := hv
  have hx := B.exec
  have hb := B.bytes
  have hr := B.returns
  have hts := atoms_spec (ws := (wG yX10_goes cX10_goes 5 (some .boolean))) B.pre
  have hown : s.vm.findClass RX10 = some m.cls := findClass_of_methodNamed B.named
  have hlocks := B.notSynchronized
  subst hsz
  have hD := hD0.self (sz := s.heap.size)
  obtain ⟨A, hAe⟩ : ∃ A : Nat → Prop, A = va_A (mw cs q v_thrown a_tape v_taped v_size v_to v_kind v_from v_letters v_letterMany v_digits v_isBeyond v_suffix v_steps v_fault v_hasProgram a_text a_act a_guess a_take a_begin a_finish a_to1 a_one a_two a_what a_ats a_atVar a_atNumber a_atomSort a_atomKind a_atomValue v_wrong v_wrongAt v_variable v_number v_numberKind v_takes a_out v_outed a_varSort a_varKind a_varValue a_creature v_creatures a_arrayClass a_arrayFrom a_arrayLong v_arrays v_cells a_cellSort a_cellKind a_cellValue a_asideSort a_asideKind a_asideValue a_outcome v_marks v_came v_guessed v_right v_taken a_markSort a_markKind a_markClass a_markValue v_sort v_kindAt v_value a_index v_reached v_looked) s.heap.size := ⟨_, rfl⟩
  rw [← hAe] at hD hE
  have hA : ∀ q : Nat, s.heap.size ≤ q → A q := fun q h => by rw [hAe]; exact Or.inr h
  have hS : va_S A s.heap s.heap [] := va_S.rf
  have hl := lv_entry ([.ref (q 0), .int v9, .int i9, .int j9, .int k9]) (n := 5) (Nat.le_of_ble_eq_true rfl)
  rw [lg_entry_eq]
  generalize (lg_sl ([.ref (q 0), .int v9, .int i9, .int j9, .int k9]) ++ List.replicate (5 - (lg_sl ([.ref (q 0), .int v9, .int i9, .int j9, .int k9])).length) Slot.unset).toArray = ls at hl ⊢
  have hl : lv_has ls 5 [(0, .ref (q 0)), (1, .int v9), (2, .int i9), (3, .int j9), (4, .int k9)] := hl
  refine wq (fun Q hQ => ?_)
  have hin : ∀ w ∈ wsX100, w ∈ (wG yX10_goes cX10_goes 5 (some .boolean)) := fun w h => List.mem_cons_of_mem _ (inlX10 w h)
  have kc0 : (-1 : Int32).toInt = -1 := by decide
  have kc1 : (0 : Int32).toInt = 0 := by decide
  have kc2 : (1 : Int32).toInt = 1 := by decide
  have kc3 : (25 : Int32).toInt = 25 := by decide
  obtain ⟨H, hH⟩ : ∃ H : Heap, H = s.heap := ⟨_, rfl⟩
  obtain ⟨locs, hlc⟩ : ∃ L : List Loc, L = [] := ⟨_, rfl⟩
  have hP : va_P D vwCl (mw cs q v_thrown a_tape v_taped v_size v_to v_kind v_from v_letters v_letterMany v_digits v_isBeyond v_suffix v_steps v_fault v_hasProgram a_text a_act a_guess a_take a_begin a_finish a_to1 a_one a_two a_what a_ats a_atVar a_atNumber a_atomSort a_atomKind a_atomValue v_wrong v_wrongAt v_variable v_number v_numberKind v_takes a_out v_outed a_varSort a_varKind a_varValue a_creature v_creatures a_arrayClass a_arrayFrom a_arrayLong v_arrays v_cells a_cellSort a_cellKind a_cellValue a_asideSort a_asideKind a_asideValue a_outcome v_marks v_came v_guessed v_right v_taken a_markSort a_markKind a_markClass a_markValue v_sort v_kindAt v_value a_index v_reached v_looked) H := by rw [hH]; exact hP
  have hS : va_S A s.heap H locs := by rw [hH, hlc]; exact hS
  refine wHL hH hlc ?_
  have b_v9 := iB v9
  have b_i9 := iB i9
  have b_j9 := iB j9
  have b_k9 := iB k9
  refine lv_iload_n hx hb dX10_goes_0 rfl (lv_at hl 1 rfl) ?_
  refine m_if_lt (X := v9.toInt) (tgt := 10) hx hb dX10_goes_1 (by decide) rfl (fun c1 => ?_) (fun c1 => ?_)
  · skip
    refine lv_iconst (v := 0) hx hb dX10_goes_10 (by decide) ?_
    subst hAe
    rw [hQ]
    exact W.zret (v := 0) hx hb hr (by decide) (fun t ht hW => ⟨⟨0, _, rfl, ⟨v_sort, v_kindAt, v_value, v_reached, rfl, by first | exact Or.inr (by decide) | exact Or.inl ⟨by decide, by assumption⟩ | exact Or.inl ⟨by decide, hw60_0⟩ | exact Or.inl ⟨by decide, hw43_0⟩⟩, by rw [ht]; exact hP, va_K.moved hW.alike hK, hD⟩, hS.F ht⟩) hS.2.2 dX10_goes_11
  · skip
    refine lv_iload_n hx hb dX10_goes_4 rfl (lv_at hl 1 rfl) ?_
    refine lv_bipush (v := 25) hx hb dX10_goes_5 (by decide) ?_
    refine m_icmp_le (X := v9.toInt) (Y := 25) (tgt := 12) hx hb dX10_goes_7 (by decide) rfl (by decide) (fun c7 => ?_) (fun c7 => ?_)
    · skip
      refine lv_aload_n hx hb dX10_goes_12 rfl (lv_at hl 0 rfl) ?_
      refine lv_iload_n hx hb dX10_goes_13 rfl (lv_at hl 1 rfl) ?_
      refine call_v (As := [.int v9]) (rest := []) ⟨hx, hb, hml, hown, hts⟩ (tX10_ofVar (l := l) v9 (by first | assumption | omega | (intros; omega) | decide) (by first | assumption | omega | (intros; omega) | decide) (by first | assumption | omega | (intros; omega) | decide)) (cwV 1 hts (gV (wr47 _ (List.mem_of_getElem? (i := 15) rfl)) (wr47 _ (List.mem_of_getElem? (i := 16) rfl)) (wr47 _ (List.mem_of_getElem? (i := 17) rfl)) (wr1 _ (List.mem_of_getElem? (i := 5) rfl)) (wr47 _ (List.mem_of_getElem? (i := 18) rfl))) rfl rfl rfl (by decide +kernel) ⟨Nat.le_of_ble_eq_true rfl, Nat.le_of_ble_eq_true rfl⟩) (va_recv hK hP (ci := 9) (q0 := 0) rfl rfl) hK hP hD hE hS hA rfl hl.1 rfl (Nat.le_of_ble_eq_true rfl) dX10_goes_14 ⟨Nat.le_of_ble_eq_true rfl, Nat.le_of_ble_eq_true rfl⟩ (fun w9 H locs hw14 hP hD hS => ?_)
      obtain ⟨v_sort_14, v_kindAt_14, v_value_14, rfl, hw14_0, hw14_1, hw14_2, hw14_3⟩ := hw14
      have b_v_sort_14 := iB v_sort_14
      have b_v_kindAt_14 := iB v_kindAt_14
      have b_v_value_14 := jB v_value_14
      refine lv_iload_n hx hb dX10_goes_17 rfl (lv_at hl 2 rfl) ?_
      refine lv_iconst (v := (-1)) hx hb dX10_goes_18 (by decide) ?_
      refine m_icmp_ne (X := i9.toInt) (Y := (-1)) (tgt := 24) hx hb dX10_goes_19 (by decide) rfl (by decide) (fun c19 => ?_) (fun c19 => ?_)
      · skip
        refine lv_aload_n hx hb dX10_goes_24 rfl (lv_at hl 0 rfl) ?_
        refine lv_iload_n hx hb dX10_goes_25 rfl (lv_at hl 2 rfl) ?_
        refine call_i (As := [.int i9]) (rest := []) ⟨hx, hb, hml, hown, hts⟩ (tX10_step_ (l := l) i9 (by first | assumption | omega | (intros; omega) | decide) (by first | assumption | omega | (intros; omega) | decide)) (cwV 1 hts (gV (wr54 _ (List.mem_of_getElem? (i := 14) rfl)) (wr54 _ (List.mem_of_getElem? (i := 15) rfl)) (wr54 _ (List.mem_of_getElem? (i := 16) rfl)) (wr1 _ (List.mem_of_getElem? (i := 5) rfl)) (wr54 _ (List.mem_of_getElem? (i := 17) rfl))) rfl rfl rfl (by decide +kernel) ⟨Nat.le_of_ble_eq_true rfl, Nat.le_of_ble_eq_true rfl⟩) (va_recv hK hP (ci := 9) (q0 := 0) rfl rfl) hK hP hD hE hS hA rfl hl.1 rfl (Nat.le_of_ble_eq_true rfl) dX10_goes_26 ⟨Nat.le_of_ble_eq_true rfl, Nat.le_of_ble_eq_true rfl⟩ (fun r26 w9 H locs hw26 hP hD hS => ?_)
        obtain ⟨v_sort_26, v_kindAt_26, v_value_26, v_reached_26, rfl, hw26_0, hw26_1⟩ := hw26
        have b_v_sort_26 := iB v_sort_26
        have b_v_kindAt_26 := iB v_kindAt_26
        have b_v_value_26 := jB v_value_26
        have b_v_reached_26 := iB v_reached_26
        have b_r26 := iB r26
        refine m_if_ne (X := r26.toInt) (tgt := 34) hx hb dX10_goes_29 (by decide) rfl (fun c29 => ?_) (fun c29 => ?_)
        · skip
          refine lv_iload_n hx hb dX10_goes_34 rfl (lv_at hl 3 rfl) ?_
          refine lv_iconst (v := (-1)) hx hb dX10_goes_35 (by decide) ?_
          refine m_icmp_ne (X := j9.toInt) (Y := (-1)) (tgt := 41) hx hb dX10_goes_36 (by decide) rfl (by decide) (fun c36 => ?_) (fun c36 => ?_)
          · skip
            refine lv_aload_n hx hb dX10_goes_41 rfl (lv_at hl 0 rfl) ?_
            refine lv_iload_n hx hb dX10_goes_42 rfl (lv_at hl 3 rfl) ?_
            refine call_i (As := [.int j9]) (rest := []) ⟨hx, hb, hml, hown, hts⟩ (tX10_step_ (l := l) j9 (by first | assumption | omega | (intros; omega) | decide) (by first | assumption | omega | (intros; omega) | decide)) (cwV 1 hts (gV (wr54 _ (List.mem_of_getElem? (i := 14) rfl)) (wr54 _ (List.mem_of_getElem? (i := 15) rfl)) (wr54 _ (List.mem_of_getElem? (i := 16) rfl)) (wr1 _ (List.mem_of_getElem? (i := 5) rfl)) (wr54 _ (List.mem_of_getElem? (i := 17) rfl))) rfl rfl rfl (by decide +kernel) ⟨Nat.le_of_ble_eq_true rfl, Nat.le_of_ble_eq_true rfl⟩) (va_recv hK hP (ci := 9) (q0 := 0) rfl rfl) hK hP hD hE hS hA rfl hl.1 rfl (Nat.le_of_ble_eq_true rfl) dX10_goes_43 ⟨Nat.le_of_ble_eq_true rfl, Nat.le_of_ble_eq_true rfl⟩ (fun r43 w9 H locs hw43 hP hD hS => ?_)
            obtain ⟨v_sort_43, v_kindAt_43, v_value_43, v_reached_43, rfl, hw43_0, hw43_1⟩ := hw43
            have b_v_sort_43 := iB v_sort_43
            have b_v_kindAt_43 := iB v_kindAt_43
            have b_v_value_43 := jB v_value_43
            have b_v_reached_43 := iB v_reached_43
            have b_r43 := iB r43
            refine m_if_ne (X := r43.toInt) (tgt := 51) hx hb dX10_goes_46 (by decide) rfl (fun c46 => ?_) (fun c46 => ?_)
            · skip
              refine lv_iload hx hb dX10_goes_51 (lv_at hl 4 rfl) ?_
              refine lv_iconst (v := (-1)) hx hb dX10_goes_53 (by decide) ?_
              refine m_icmp_eq (X := k9.toInt) (Y := (-1)) (tgt := 66) hx hb dX10_goes_54 (by decide) rfl (by decide) (fun c54 => ?_) (fun c54 => ?_)
              · skip
                refine lv_iconst (v := 1) hx hb dX10_goes_66 (by decide) ?_
                refine lv_goto (tgt := 71) hx hb dX10_goes_67 (by decide) ?_
                subst hAe
                rw [hQ]
                exact W.zret (v := 1) hx hb hr (by decide) (fun t ht hW => ⟨⟨1, _, rfl, ⟨v_sort_43, v_kindAt_43, v_value_43, v_reached_43, rfl, by first | exact Or.inr (by decide) | exact Or.inl ⟨by decide, by assumption⟩ | exact Or.inl ⟨by decide, hw60_0⟩ | exact Or.inl ⟨by decide, hw43_0⟩⟩, by rw [ht]; exact hP, va_K.moved hW.alike hK, hD⟩, hS.F ht⟩) hS.2.2 dX10_goes_71
              · skip
                refine lv_aload_n hx hb dX10_goes_57 rfl (lv_at hl 0 rfl) ?_
                refine lv_iload hx hb dX10_goes_58 (lv_at hl 4 rfl) ?_
                refine call_i (As := [.int k9]) (rest := []) ⟨hx, hb, hml, hown, hts⟩ (tX10_step_ (l := l) k9 (by first | assumption | omega | (intros; omega) | decide) (by first | assumption | omega | (intros; omega) | decide)) (cwV 1 hts (gV (wr54 _ (List.mem_of_getElem? (i := 14) rfl)) (wr54 _ (List.mem_of_getElem? (i := 15) rfl)) (wr54 _ (List.mem_of_getElem? (i := 16) rfl)) (wr1 _ (List.mem_of_getElem? (i := 5) rfl)) (wr54 _ (List.mem_of_getElem? (i := 17) rfl))) rfl rfl rfl (by decide +kernel) ⟨Nat.le_of_ble_eq_true rfl, Nat.le_of_ble_eq_true rfl⟩) (va_recv hK hP (ci := 9) (q0 := 0) rfl rfl) hK hP hD hE hS hA rfl hl.1 rfl (Nat.le_of_ble_eq_true rfl) dX10_goes_60 ⟨Nat.le_of_ble_eq_true rfl, Nat.le_of_ble_eq_true rfl⟩ (fun r60 w9 H locs hw60 hP hD hS => ?_)
                obtain ⟨v_sort_60, v_kindAt_60, v_value_60, v_reached_60, rfl, hw60_0, hw60_1⟩ := hw60
                have b_v_sort_60 := iB v_sort_60
                have b_v_kindAt_60 := iB v_kindAt_60
                have b_v_value_60 := jB v_value_60
                have b_v_reached_60 := iB v_reached_60
                have b_r60 := iB r60
                refine m_if_eq (X := r60.toInt) (tgt := 70) hx hb dX10_goes_63 (by decide) rfl (fun c63 => ?_) (fun c63 => ?_)
                · skip
                  refine lv_iconst (v := 0) hx hb dX10_goes_70 (by decide) ?_
                  subst hAe
                  rw [hQ]
                  exact W.zret (v := 0) hx hb hr (by decide) (fun t ht hW => ⟨⟨0, _, rfl, ⟨v_sort_60, v_kindAt_60, v_value_60, v_reached_60, rfl, by first | exact Or.inr (by decide) | exact Or.inl ⟨by decide, by assumption⟩ | exact Or.inl ⟨by decide, hw60_0⟩ | exact Or.inl ⟨by decide, hw43_0⟩⟩, by rw [ht]; exact hP, va_K.moved hW.alike hK, hD⟩, hS.F ht⟩) hS.2.2 dX10_goes_71
                · skip
                  refine lv_iconst (v := 1) hx hb dX10_goes_66 (by decide) ?_
                  refine lv_goto (tgt := 71) hx hb dX10_goes_67 (by decide) ?_
                  subst hAe
                  rw [hQ]
                  exact W.zret (v := 1) hx hb hr (by decide) (fun t ht hW => ⟨⟨1, _, rfl, ⟨v_sort_60, v_kindAt_60, v_value_60, v_reached_60, rfl, by first | exact Or.inr (by decide) | exact Or.inl ⟨by decide, by assumption⟩ | exact Or.inl ⟨by decide, hw60_0⟩ | exact Or.inl ⟨by decide, hw43_0⟩⟩, by rw [ht]; exact hP, va_K.moved hW.alike hK, hD⟩, hS.F ht⟩) hS.2.2 dX10_goes_71
            · skip
              refine lv_iconst (v := 0) hx hb dX10_goes_49 (by decide) ?_
              subst hAe
              rw [hQ]
              exact W.zret (v := 0) hx hb hr (by decide) (fun t ht hW => ⟨⟨0, _, rfl, ⟨v_sort_43, v_kindAt_43, v_value_43, v_reached_43, rfl, by first | exact Or.inr (by decide) | exact Or.inl ⟨by decide, by assumption⟩ | exact Or.inl ⟨by decide, hw60_0⟩ | exact Or.inl ⟨by decide, hw43_0⟩⟩, by rw [ht]; exact hP, va_K.moved hW.alike hK, hD⟩, hS.F ht⟩) hS.2.2 dX10_goes_50
          · skip
            refine lv_iconst (v := 1) hx hb dX10_goes_39 (by decide) ?_
            subst hAe
            rw [hQ]
            exact W.zret (v := 1) hx hb hr (by decide) (fun t ht hW => ⟨⟨1, _, rfl, ⟨v_sort_26, v_kindAt_26, v_value_26, v_reached_26, rfl, by first | exact Or.inr (by decide) | exact Or.inl ⟨by decide, by assumption⟩ | exact Or.inl ⟨by decide, hw60_0⟩ | exact Or.inl ⟨by decide, hw43_0⟩⟩, by rw [ht]; exact hP, va_K.moved hW.alike hK, hD⟩, hS.F ht⟩) hS.2.2 dX10_goes_40
        · skip
          refine lv_iconst (v := 0) hx hb dX10_goes_32 (by decide) ?_
          subst hAe
          rw [hQ]
          exact W.zret (v := 0) hx hb hr (by decide) (fun t ht hW => ⟨⟨0, _, rfl, ⟨v_sort_26, v_kindAt_26, v_value_26, v_reached_26, rfl, by first | exact Or.inr (by decide) | exact Or.inl ⟨by decide, by assumption⟩ | exact Or.inl ⟨by decide, hw60_0⟩ | exact Or.inl ⟨by decide, hw43_0⟩⟩, by rw [ht]; exact hP, va_K.moved hW.alike hK, hD⟩, hS.F ht⟩) hS.2.2 dX10_goes_33
      · skip
        refine lv_iconst (v := 1) hx hb dX10_goes_22 (by decide) ?_
        subst hAe
        rw [hQ]
        exact W.zret (v := 1) hx hb hr (by decide) (fun t ht hW => ⟨⟨1, _, rfl, ⟨v_sort_14, v_kindAt_14, v_value_14, v_reached, rfl, by first | exact Or.inr (by decide) | exact Or.inl ⟨by decide, by assumption⟩ | exact Or.inl ⟨by decide, hw60_0⟩ | exact Or.inl ⟨by decide, hw43_0⟩⟩, by rw [ht]; exact hP, va_K.moved hW.alike hK, hD⟩, hS.F ht⟩) hS.2.2 dX10_goes_23
    · skip
      refine lv_iconst (v := 0) hx hb dX10_goes_10 (by decide) ?_
      subst hAe
      rw [hQ]
      exact W.zret (v := 0) hx hb hr (by decide) (fun t ht hW => ⟨⟨0, _, rfl, ⟨v_sort, v_kindAt, v_value, v_reached, rfl, by first | exact Or.inr (by decide) | exact Or.inl ⟨by decide, by assumption⟩ | exact Or.inl ⟨by decide, hw60_0⟩ | exact Or.inl ⟨by decide, hw43_0⟩⟩, by rw [ht]; exact hP, va_K.moved hW.alike hK, hD⟩, hS.F ht⟩) hS.2.2 dX10_goes_11

def rmX10_look : Room := { frames := 80, cells := 0, slots := 0, locals := 1600 }
set_option maxHeartbeats 4000000 in
set_option maxRecDepth 100000 in
theorem tX10_look {l : Launch} {D : va_G} {K : Nat → Nat → Nat} {cs : Nat → ClassId} {q : Nat → Nat} {v_thrown v_taped v_size v_to v_kind v_from v_letterMany v_isBeyond v_suffix v_steps v_fault v_hasProgram v_wrong v_wrongAt v_variable v_numberKind v_takes v_outed v_creatures v_arrays v_cells v_marks v_came v_guessed v_right v_taken v_sort v_kindAt v_reached v_looked : Int32} {a_tape a_text a_act a_guess a_take a_begin a_finish a_to1 a_one a_two a_what a_ats a_atVar a_atNumber a_atomSort a_atomKind a_out a_varSort a_varKind a_creature a_arrayClass a_arrayFrom a_arrayLong a_cellSort a_cellKind a_asideSort a_asideKind a_outcome a_markSort a_markKind a_markClass a_index : Nat → Int32} {v_letters v_digits v_number v_value : Int64} {a_atomValue a_varValue a_cellValue a_asideValue a_markValue : Nat → Int64} (v9 : Int32) (i9 : Int32) (j9 : Int32) (k9 : Int32) (w9 : Int32) (p_0 : RUN a_varSort a_varKind a_varValue v_arrays v_cells v_creatures a_arrayClass a_arrayFrom a_arrayLong a_cellSort a_cellKind a_cellValue) : CtI l yX10_look (wG yX10_look cX10_look 7 (some .int)) rmX10_look D (mwT cs) K [.ref (q 0), .int v9, .int i9, .int j9, .int k9, .int w9] (mw cs q v_thrown a_tape v_taped v_size v_to v_kind v_from v_letters v_letterMany v_digits v_isBeyond v_suffix v_steps v_fault v_hasProgram a_text a_act a_guess a_take a_begin a_finish a_to1 a_one a_two a_what a_ats a_atVar a_atNumber a_atomSort a_atomKind a_atomValue v_wrong v_wrongAt v_variable v_number v_numberKind v_takes a_out v_outed a_varSort a_varKind a_varValue a_creature v_creatures a_arrayClass a_arrayFrom a_arrayLong v_arrays v_cells a_cellSort a_cellKind a_cellValue a_asideSort a_asideKind a_asideValue a_outcome v_marks v_came v_guessed v_right v_taken a_markSort a_markKind a_markClass a_markValue v_sort v_kindAt v_value a_index v_reached v_looked) (fun r w1 => ∃ (v_thrown' : Int32) (v_sort' : Int32) (v_kindAt' : Int32) (v_value' : Int64) (v_reached' : Int32), w1 = (mw cs q v_thrown' a_tape v_taped v_size v_to v_kind v_from v_letters v_letterMany v_digits v_isBeyond v_suffix v_steps v_fault v_hasProgram a_text a_act a_guess a_take a_begin a_finish a_to1 a_one a_two a_what a_ats a_atVar a_atNumber a_atomSort a_atomKind a_atomValue v_wrong v_wrongAt v_variable v_number v_numberKind v_takes a_out v_outed a_varSort a_varKind a_varValue a_creature v_creatures a_arrayClass a_arrayFrom a_arrayLong v_arrays v_cells a_cellSort a_cellKind a_cellValue a_asideSort a_asideKind a_asideValue a_outcome v_marks v_came v_guessed v_right v_taken a_markSort a_markKind a_markClass a_markValue v_sort' v_kindAt' v_value' a_index v_reached' v_looked)) 0 0 := by
  intro sz
  refine Met.ofW (cc := cX10_look) (maxL := 7) (ret := (some .int)) (by decide) rfl ?_
  intro p e s m args below meth c s₁ B hml hv
  obtain ⟨rfl, hsz, hP, hK, hD0, hE⟩ := hv
  have hx := B.exec
  have hb := B.bytes
  have hr := B.returns
  have hts := atoms_spec (ws := (wG yX10_look cX10_look 7 (some .int))) B.pre
  have hown : s.vm.findClass RX10 = some m.cls := findClass_of_methodNamed B.named
  have hlocks := B.notSynchronized
  subst hsz
  have hD := hD0.self (sz := s.heap.size)
  obtain ⟨A, hAe⟩ : ∃ A : Nat → Prop, A = va_A (mw cs q v_thrown a_tape v_taped v_size v_to v_kind v_from v_letters v_letterMany v_digits v_isBeyond v_suffix v_steps v_fault v_hasProgram a_text a_act a_guess a_take a_begin a_finish a_to1 a_one a_two a_what a_ats a_atVar a_atNumber a_atomSort a_atomKind a_atomValue v_wrong v_wrongAt v_variable v_number v_numberKind v_takes a_out v_outed a_varSort a_varKind a_varValue a_creature v_creatures a_arrayClass a_arrayFrom a_arrayLong v_arrays v_cells a_cellSort a_cellKind a_cellValue a_asideSort a_asideKind a_asideValue a_outcome v_marks v_came v_guessed v_right v_taken a_markSort a_markKind a_markClass a_markValue v_sort v_kindAt v_value a_index v_reached v_looked) s.heap.size := ⟨_, rfl⟩
  rw [← hAe] at hD hE
  have hA : ∀ q : Nat, s.heap.size ≤ q → A q := fun q h => by rw [hAe]; exact Or.inr h
  have hS : va_S A s.heap s.heap [] := va_S.rf
  have hl := lv_entry ([.ref (q 0), .int v9, .int i9, .int j9, .int k9, .int w9]) (n := 7) (Nat.le_of_ble_eq_true rfl)
  rw [lg_entry_eq]
  generalize (lg_sl ([.ref (q 0), .int v9, .int i9, .int j9, .int k9, .int w9]) ++ List.replicate (7 - (lg_sl ([.ref (q 0), .int v9, .int i9, .int j9, .int k9, .int w9])).length) Slot.unset).toArray = ls at hl ⊢
  have hl : lv_has ls 7 [(0, .ref (q 0)), (1, .int v9), (2, .int i9), (3, .int j9), (4, .int k9), (5, .int w9)] := hl
  refine wq (fun Q hQ => ?_)
  have hin : ∀ w ∈ wsX100, w ∈ (wG yX10_look cX10_look 7 (some .int)) := fun w h => List.mem_cons_of_mem _ (inlX10 w h)
  have kc0 : (-2 : Int32).toInt = -2 := by decide
  have kc1 : (-1 : Int32).toInt = -1 := by decide
  have kc2 : (0 : Int32).toInt = 0 := by decide
  have kc3 : (1 : Int32).toInt = 1 := by decide
  have kc4 : (3 : Int32).toInt = 3 := by decide
  have k_7_9 := hts (.fieldLink RX10 122 "ArrayTrainerModel" "thrown" "I") (List.mem_cons_of_mem _ (wr7 _ (List.mem_of_getElem? (i := 9) rfl)))
  have k_47_12 := hts (.fieldLink RX10 493 "ArrayTrainerModel" "sort" "I") (List.mem_cons_of_mem _ (wr47 _ (List.mem_of_getElem? (i := 12) rfl)))
  have k_6_7 := hts (.fieldLink RX10 83 "ArrayTrainerModel" "arrayLong" "[I") (List.mem_cons_of_mem _ (wr6 _ (List.mem_of_getElem? (i := 7) rfl)))
  have k_47_14 := hts (.fieldLink RX10 499 "ArrayTrainerModel" "value" "J") (List.mem_cons_of_mem _ (wr47 _ (List.mem_of_getElem? (i := 14) rfl)))
  obtain ⟨H, hH⟩ : ∃ H : Heap, H = s.heap := ⟨_, rfl⟩
  obtain ⟨locs, hlc⟩ : ∃ L : List Loc, L = [] := ⟨_, rfl⟩
  have hP : va_P D vwCl (mw cs q v_thrown a_tape v_taped v_size v_to v_kind v_from v_letters v_letterMany v_digits v_isBeyond v_suffix v_steps v_fault v_hasProgram a_text a_act a_guess a_take a_begin a_finish a_to1 a_one a_two a_what a_ats a_atVar a_atNumber a_atomSort a_atomKind a_atomValue v_wrong v_wrongAt v_variable v_number v_numberKind v_takes a_out v_outed a_varSort a_varKind a_varValue a_creature v_creatures a_arrayClass a_arrayFrom a_arrayLong v_arrays v_cells a_cellSort a_cellKind a_cellValue a_asideSort a_asideKind a_asideValue a_outcome v_marks v_came v_guessed v_right v_taken a_markSort a_markKind a_markClass a_markValue v_sort v_kindAt v_value a_index v_reached v_looked) H := by rw [hH]; exact hP
  have hS : va_S A s.heap H locs := by rw [hH, hlc]; exact hS
  refine wHL hH hlc ?_
  have b_v9 := iB v9
  have b_i9 := iB i9
  have b_j9 := iB j9
  have b_k9 := iB k9
  have b_w9 := iB w9
  have hr9 := p_0.1
  refine lv_aload_n hx hb dX10_look_0 rfl (lv_at hl 0 rfl) ?_
  refine lv_iconst (v := 0) hx hb dX10_look_1 (by decide) ?_
  refine va_put (D := D) (ci := 9) (v := .int 0) (ty := .int) (C := RX10) (T := TX10) (N := 71) hx hb hts hin tyX10 tyX10_ok nmX10 hown hK hP hD hS 0 rfl rfl 0 (by decide) k_7_9 (fun _ h9 => h9) rfl (by decide +kernel) rfl rfl (Nat.le_of_ble_eq_true rfl) dX10_look_2 (fun H locs hP hD hS => ?_)
  have hP : va_P D vwCl (mw cs q (0 : Int32) a_tape v_taped v_size v_to v_kind v_from v_letters v_letterMany v_digits v_isBeyond v_suffix v_steps v_fault v_hasProgram a_text a_act a_guess a_take a_begin a_finish a_to1 a_one a_two a_what a_ats a_atVar a_atNumber a_atomSort a_atomKind a_atomValue v_wrong v_wrongAt v_variable v_number v_numberKind v_takes a_out v_outed a_varSort a_varKind a_varValue a_creature v_creatures a_arrayClass a_arrayFrom a_arrayLong v_arrays v_cells a_cellSort a_cellKind a_cellValue a_asideSort a_asideKind a_asideValue a_outcome v_marks v_came v_guessed v_right v_taken a_markSort a_markKind a_markClass a_markValue v_sort v_kindAt v_value a_index v_reached v_looked) H := hP
  have hD : va_D A (mw cs q (0 : Int32) a_tape v_taped v_size v_to v_kind v_from v_letters v_letterMany v_digits v_isBeyond v_suffix v_steps v_fault v_hasProgram a_text a_act a_guess a_take a_begin a_finish a_to1 a_one a_two a_what a_ats a_atVar a_atNumber a_atomSort a_atomKind a_atomValue v_wrong v_wrongAt v_variable v_number v_numberKind v_takes a_out v_outed a_varSort a_varKind a_varValue a_creature v_creatures a_arrayClass a_arrayFrom a_arrayLong v_arrays v_cells a_cellSort a_cellKind a_cellValue a_asideSort a_asideKind a_asideValue a_outcome v_marks v_came v_guessed v_right v_taken a_markSort a_markKind a_markClass a_markValue v_sort v_kindAt v_value a_index v_reached v_looked) := hD
  refine lv_aload_n hx hb dX10_look_5 rfl (lv_at hl 0 rfl) ?_
  refine lv_iload_n hx hb dX10_look_6 rfl (lv_at hl 1 rfl) ?_
  refine lv_iload_n hx hb dX10_look_7 rfl (lv_at hl 2 rfl) ?_
  refine lv_iload_n hx hb dX10_look_8 rfl (lv_at hl 3 rfl) ?_
  refine lv_iload hx hb dX10_look_9 (lv_at hl 4 rfl) ?_
  refine call_i (As := [.int v9, .int i9, .int j9, .int k9]) (rest := []) ⟨hx, hb, hml, hown, hts⟩ (tX10_goes (l := l) v9 i9 j9 k9 (by first | assumption | omega | (intros; omega) | decide)) (cwV 4 hts (gV (wr54 _ (List.mem_of_getElem? (i := 10) rfl)) (wr54 _ (List.mem_of_getElem? (i := 11) rfl)) (wr54 _ (List.mem_of_getElem? (i := 12) rfl)) (wr1 _ (List.mem_of_getElem? (i := 5) rfl)) (wr54 _ (List.mem_of_getElem? (i := 13) rfl))) rfl rfl rfl (by decide +kernel) ⟨Nat.le_of_ble_eq_true rfl, Nat.le_of_ble_eq_true rfl⟩) (va_recv hK hP (ci := 9) (q0 := 0) rfl rfl) hK hP hD hE hS hA rfl hl.1 rfl (Nat.le_of_ble_eq_true rfl) dX10_look_11 ⟨Nat.le_of_ble_eq_true rfl, Nat.le_of_ble_eq_true rfl⟩ (fun r11 w9 H locs hw11 hP hD hS => ?_)
  obtain ⟨v_sort_11, v_kindAt_11, v_value_11, v_reached_11, rfl, hw11_0⟩ := hw11
  have b_v_sort_11 := iB v_sort_11
  have b_v_kindAt_11 := iB v_kindAt_11
  have b_v_value_11 := jB v_value_11
  have b_v_reached_11 := iB v_reached_11
  have b_r11 := iB r11
  refine lv_istore (lv' := [(6, .int r11), (0, .ref (q 0)), (1, .int v9), (2, .int i9), (3, .int j9), (4, .int k9), (5, .int w9)]) hx hb dX10_look_14 hl (by decide) rfl (fun ls hl => ?_)
  refine lv_iload hx hb dX10_look_16 (lv_at hl 6 rfl) ?_
  refine m_if_ne (X := w9.toInt) (tgt := 36) hx hb dX10_look_18 (by decide) rfl (fun c18 => ?_) (fun c18 => ?_)
  · skip
    refine lv_iload hx hb dX10_look_36 (lv_at hl 6 rfl) ?_
    refine lv_iconst (v := 1) hx hb dX10_look_38 (by decide) ?_
    refine m_icmp_ne (X := w9.toInt) (Y := 1) (tgt := 68) hx hb dX10_look_39 (by decide) rfl (by decide) (fun c39 => ?_) (fun c39 => ?_)
    · skip
      refine lv_iconst (v := (-1)) hx hb dX10_look_68 (by decide) ?_
      subst hAe
      rw [hQ]
      exact W.iret (v := (-1)) hx hb hr (fun t ht hW => ⟨⟨(-1), _, rfl, ⟨(0 : Int32), v_sort_11, v_kindAt_11, v_value_11, v_reached_11, rfl⟩, by rw [ht]; exact hP, va_K.moved hW.alike hK, hD⟩, hS.F ht⟩) hS.2.2 dX10_look_69
    · skip
      refine lv_iload hx hb dX10_look_42 (lv_at hl 0 rfl) ?_
      refine m_if_eq (X := r11.toInt) (tgt := 68) hx hb dX10_look_44 (by decide) rfl (fun c44 => ?_) (fun c44 => ?_)
      · skip
        refine lv_iconst (v := (-1)) hx hb dX10_look_68 (by decide) ?_
        subst hAe
        rw [hQ]
        exact W.iret (v := (-1)) hx hb hr (fun t ht hW => ⟨⟨(-1), _, rfl, ⟨(0 : Int32), v_sort_11, v_kindAt_11, v_value_11, v_reached_11, rfl⟩, by rw [ht]; exact hP, va_K.moved hW.alike hK, hD⟩, hS.F ht⟩) hS.2.2 dX10_look_69
      · skip
        refine lv_aload_n hx hb dX10_look_47 rfl (lv_at hl 1 rfl) ?_
        refine va_get (D := D) (ci := 9) (v := .int v_sort_11) (C := RX10) (T := TX10) (N := 71) hx hb hts hin hown hK hP 0 rfl rfl 65 (by decide) k_47_12 (fun _ h9 => h9) rfl dX10_look_48 ?_
        refine lv_iconst (v := 3) hx hb dX10_look_51 (by decide) ?_
        refine m_icmp_ne (X := v_sort_11.toInt) (Y := 3) (tgt := 68) hx hb dX10_look_52 (by decide) rfl (by decide) (fun c52 => ?_) (fun c52 => ?_)
        · skip
          refine lv_iconst (v := (-1)) hx hb dX10_look_68 (by decide) ?_
          subst hAe
          rw [hQ]
          exact W.iret (v := (-1)) hx hb hr (fun t ht hW => ⟨⟨(-1), _, rfl, ⟨(0 : Int32), v_sort_11, v_kindAt_11, v_value_11, v_reached_11, rfl⟩, by rw [ht]; exact hP, va_K.moved hW.alike hK, hD⟩, hS.F ht⟩) hS.2.2 dX10_look_69
        · skip
          refine lv_aload_n hx hb dX10_look_55 rfl (lv_at hl 1 rfl) ?_
          refine va_get (D := D) (ci := 9) (v := .ref (q 25)) (C := RX10) (T := TX10) (N := 71) hx hb hts hin hown hK hP 0 rfl rfl 46 (by decide) k_6_7 (fun _ h9 => h9) rfl dX10_look_56 ?_
          refine lv_aload_n hx hb dX10_look_59 rfl (lv_at hl 1 rfl) ?_
          refine va_get (D := D) (ci := 9) (v := .long v_value_11) (C := RX10) (T := TX10) (N := 71) hx hb hts hin hown hK hP 0 rfl rfl 67 (by decide) k_47_14 (fun _ h9 => h9) rfl dX10_look_60 ?_
          refine m_l2i hx hb dX10_look_63 (fun x63 e_x63 => ?_)
          have b_x63 := iB x63
          have hg := (hw11_0.resolve_right (fun q => by omega)).2
          have hv9 := hg.2.1 (by omega)
          have hx63 := l2iT e_x63 (by omega) (by omega)
          refine m_iald hx hb hK hP 25 0 rfl rfl (ix (by omega) (by omega)) dX10_look_64 (fun x64 e_x64 => ?_)
          have b_x64 := iB x64
          refine lv_goto (tgt := 69) hx hb dX10_look_65 (by decide) ?_
          subst hAe
          rw [hQ]
          exact W.iret (v := x64) hx hb hr (fun t ht hW => ⟨⟨x64, _, rfl, ⟨(0 : Int32), v_sort_11, v_kindAt_11, v_value_11, v_reached_11, rfl⟩, by rw [ht]; exact hP, va_K.moved hW.alike hK, hD⟩, hS.F ht⟩) hS.2.2 dX10_look_69
  · skip
    refine lv_iload hx hb dX10_look_21 (lv_at hl 0 rfl) ?_
    refine m_if_eq (X := r11.toInt) (tgt := 33) hx hb dX10_look_23 (by decide) rfl (fun c23 => ?_) (fun c23 => ?_)
    · skip
      refine lv_bipush (v := (-2)) hx hb dX10_look_33 (by decide) ?_
      subst hAe
      rw [hQ]
      exact W.iret (v := (-2)) hx hb hr (fun t ht hW => ⟨⟨(-2), _, rfl, ⟨(0 : Int32), v_sort_11, v_kindAt_11, v_value_11, v_reached_11, rfl⟩, by rw [ht]; exact hP, va_K.moved hW.alike hK, hD⟩, hS.F ht⟩) hS.2.2 dX10_look_35
    · skip
      refine lv_aload_n hx hb dX10_look_26 rfl (lv_at hl 1 rfl) ?_
      refine call_i (As := []) (rest := []) ⟨hx, hb, hml, hown, hts⟩ (tX10_classOf (l := l)  (by first | assumption | omega | (intros; omega) | decide) (by exact (hw11_0.resolve_right (fun q => by omega)).2)) (cwV 0 hts (gV (wr49 _ (List.mem_of_getElem? (i := 21) rfl)) (wr49 _ (List.mem_of_getElem? (i := 22) rfl)) (wr49 _ (List.mem_of_getElem? (i := 23) rfl)) (wr1 _ (List.mem_of_getElem? (i := 5) rfl)) (wr50 _ (List.mem_of_getElem? (i := 0) rfl))) rfl rfl rfl (by decide +kernel) ⟨Nat.le_of_ble_eq_true rfl, Nat.le_of_ble_eq_true rfl⟩) (va_recv hK hP (ci := 9) (q0 := 0) rfl rfl) hK hP hD hE hS hA rfl hl.1 rfl (Nat.le_of_ble_eq_true rfl) dX10_look_27 ⟨Nat.le_of_ble_eq_true rfl, Nat.le_of_ble_eq_true rfl⟩ (fun r27 w9 H locs hw27 hP hD hS => ?_)
      obtain ⟨rfl, hw27_0, hw27_1⟩ := hw27
      have b_r27 := iB r27
      refine lv_goto (tgt := 35) hx hb dX10_look_30 (by decide) ?_
      subst hAe
      rw [hQ]
      exact W.iret (v := r27) hx hb hr (fun t ht hW => ⟨⟨r27, _, rfl, ⟨(0 : Int32), v_sort_11, v_kindAt_11, v_value_11, v_reached_11, rfl⟩, by rw [ht]; exact hP, va_K.moved hW.alike hK, hD⟩, hS.F ht⟩) hS.2.2 dX10_look_35

def rmX10_value : Room := { frames := 80, cells := 0, slots := 0, locals := 1600 }
set_option maxHeartbeats 4000000 in
set_option maxRecDepth 100000 in
theorem tX10_value {l : Launch} {D : va_G} {K : Nat → Nat → Nat} {cs : Nat → ClassId} {q : Nat → Nat} {v_thrown v_taped v_size v_to v_kind v_from v_letterMany v_isBeyond v_suffix v_steps v_fault v_hasProgram v_wrong v_wrongAt v_variable v_numberKind v_takes v_outed v_creatures v_arrays v_cells v_marks v_came v_guessed v_right v_taken v_sort v_kindAt v_reached v_looked : Int32} {a_tape a_text a_act a_guess a_take a_begin a_finish a_to1 a_one a_two a_what a_ats a_atVar a_atNumber a_atomSort a_atomKind a_out a_varSort a_varKind a_creature a_arrayClass a_arrayFrom a_arrayLong a_cellSort a_cellKind a_asideSort a_asideKind a_outcome a_markSort a_markKind a_markClass a_index : Nat → Int32} {v_letters v_digits v_number v_value : Int64} {a_atomValue a_varValue a_cellValue a_asideValue a_markValue : Nat → Int64} (v9 : Int32) (i9 : Int32) (j9 : Int32) (k9 : Int32) (p_0 : RUN a_varSort a_varKind a_varValue v_arrays v_cells v_creatures a_arrayClass a_arrayFrom a_arrayLong a_cellSort a_cellKind a_cellValue) : CtJ l yX10_value (wG yX10_value cX10_value 6 (some .long)) rmX10_value D (mwT cs) K [.ref (q 0), .int v9, .int i9, .int j9, .int k9] (mw cs q v_thrown a_tape v_taped v_size v_to v_kind v_from v_letters v_letterMany v_digits v_isBeyond v_suffix v_steps v_fault v_hasProgram a_text a_act a_guess a_take a_begin a_finish a_to1 a_one a_two a_what a_ats a_atVar a_atNumber a_atomSort a_atomKind a_atomValue v_wrong v_wrongAt v_variable v_number v_numberKind v_takes a_out v_outed a_varSort a_varKind a_varValue a_creature v_creatures a_arrayClass a_arrayFrom a_arrayLong v_arrays v_cells a_cellSort a_cellKind a_cellValue a_asideSort a_asideKind a_asideValue a_outcome v_marks v_came v_guessed v_right v_taken a_markSort a_markKind a_markClass a_markValue v_sort v_kindAt v_value a_index v_reached v_looked) (fun r w1 => ∃ (v_thrown' : Int32) (v_sort' : Int32) (v_kindAt' : Int32) (v_value' : Int64) (v_reached' : Int32), w1 = (mw cs q v_thrown' a_tape v_taped v_size v_to v_kind v_from v_letters v_letterMany v_digits v_isBeyond v_suffix v_steps v_fault v_hasProgram a_text a_act a_guess a_take a_begin a_finish a_to1 a_one a_two a_what a_ats a_atVar a_atNumber a_atomSort a_atomKind a_atomValue v_wrong v_wrongAt v_variable v_number v_numberKind v_takes a_out v_outed a_varSort a_varKind a_varValue a_creature v_creatures a_arrayClass a_arrayFrom a_arrayLong v_arrays v_cells a_cellSort a_cellKind a_cellValue a_asideSort a_asideKind a_asideValue a_outcome v_marks v_came v_guessed v_right v_taken a_markSort a_markKind a_markClass a_markValue v_sort' v_kindAt' v_value' a_index v_reached' v_looked)) 0 0 := by
  intro sz
  refine Met.ofW (cc := cX10_value) (maxL := 6) (ret := (some .long)) (by decide) rfl ?_
  intro p e s m args below meth c s₁ B hml hv
  obtain ⟨rfl, hsz, hP, hK, hD0, hE⟩ := hv
  have hx := B.exec
  have hb := B.bytes
  have hr := B.returns
  have hts := atoms_spec (ws := (wG yX10_value cX10_value 6 (some .long))) B.pre
  have hown : s.vm.findClass RX10 = some m.cls := findClass_of_methodNamed B.named
  have hlocks := B.notSynchronized
  subst hsz
  have hD := hD0.self (sz := s.heap.size)
  obtain ⟨A, hAe⟩ : ∃ A : Nat → Prop, A = va_A (mw cs q v_thrown a_tape v_taped v_size v_to v_kind v_from v_letters v_letterMany v_digits v_isBeyond v_suffix v_steps v_fault v_hasProgram a_text a_act a_guess a_take a_begin a_finish a_to1 a_one a_two a_what a_ats a_atVar a_atNumber a_atomSort a_atomKind a_atomValue v_wrong v_wrongAt v_variable v_number v_numberKind v_takes a_out v_outed a_varSort a_varKind a_varValue a_creature v_creatures a_arrayClass a_arrayFrom a_arrayLong v_arrays v_cells a_cellSort a_cellKind a_cellValue a_asideSort a_asideKind a_asideValue a_outcome v_marks v_came v_guessed v_right v_taken a_markSort a_markKind a_markClass a_markValue v_sort v_kindAt v_value a_index v_reached v_looked) s.heap.size := ⟨_, rfl⟩
  rw [← hAe] at hD hE
  have hA : ∀ q : Nat, s.heap.size ≤ q → A q := fun q h => by rw [hAe]; exact Or.inr h
  have hS : va_S A s.heap s.heap [] := va_S.rf
  have hl := lv_entry ([.ref (q 0), .int v9, .int i9, .int j9, .int k9]) (n := 6) (Nat.le_of_ble_eq_true rfl)
  rw [lg_entry_eq]
  generalize (lg_sl ([.ref (q 0), .int v9, .int i9, .int j9, .int k9]) ++ List.replicate (6 - (lg_sl ([.ref (q 0), .int v9, .int i9, .int j9, .int k9])).length) Slot.unset).toArray = ls at hl ⊢
  have hl : lv_has ls 6 [(0, .ref (q 0)), (1, .int v9), (2, .int i9), (3, .int j9), (4, .int k9)] := hl
  refine wq (fun Q hQ => ?_)
  have hin : ∀ w ∈ wsX100, w ∈ (wG yX10_value cX10_value 6 (some .long)) := fun w h => List.mem_cons_of_mem _ (inlX10 w h)
  have kc0 : (0 : Int32).toInt = 0 := by decide
  have kc1 : (1 : Int32).toInt = 1 := by decide
  have kc2 : (0 : Int64).toInt = 0 := by decide
  have k_7_9 := hts (.fieldLink RX10 122 "ArrayTrainerModel" "thrown" "I") (List.mem_cons_of_mem _ (wr7 _ (List.mem_of_getElem? (i := 9) rfl)))
  have k_47_13 := hts (.fieldLink RX10 496 "ArrayTrainerModel" "kindAt" "I") (List.mem_cons_of_mem _ (wr47 _ (List.mem_of_getElem? (i := 13) rfl)))
  have k_47_14 := hts (.fieldLink RX10 499 "ArrayTrainerModel" "value" "J") (List.mem_cons_of_mem _ (wr47 _ (List.mem_of_getElem? (i := 14) rfl)))
  have k_47_12 := hts (.fieldLink RX10 493 "ArrayTrainerModel" "sort" "I") (List.mem_cons_of_mem _ (wr47 _ (List.mem_of_getElem? (i := 12) rfl)))
  obtain ⟨H, hH⟩ : ∃ H : Heap, H = s.heap := ⟨_, rfl⟩
  obtain ⟨locs, hlc⟩ : ∃ L : List Loc, L = [] := ⟨_, rfl⟩
  have hP : va_P D vwCl (mw cs q v_thrown a_tape v_taped v_size v_to v_kind v_from v_letters v_letterMany v_digits v_isBeyond v_suffix v_steps v_fault v_hasProgram a_text a_act a_guess a_take a_begin a_finish a_to1 a_one a_two a_what a_ats a_atVar a_atNumber a_atomSort a_atomKind a_atomValue v_wrong v_wrongAt v_variable v_number v_numberKind v_takes a_out v_outed a_varSort a_varKind a_varValue a_creature v_creatures a_arrayClass a_arrayFrom a_arrayLong v_arrays v_cells a_cellSort a_cellKind a_cellValue a_asideSort a_asideKind a_asideValue a_outcome v_marks v_came v_guessed v_right v_taken a_markSort a_markKind a_markClass a_markValue v_sort v_kindAt v_value a_index v_reached v_looked) H := by rw [hH]; exact hP
  have hS : va_S A s.heap H locs := by rw [hH, hlc]; exact hS
  refine wHL hH hlc ?_
  have b_v9 := iB v9
  have b_i9 := iB i9
  have b_j9 := iB j9
  have b_k9 := iB k9
  refine lv_aload_n hx hb dX10_value_0 rfl (lv_at hl 0 rfl) ?_
  refine lv_iload_n hx hb dX10_value_1 rfl (lv_at hl 1 rfl) ?_
  refine lv_iload_n hx hb dX10_value_2 rfl (lv_at hl 2 rfl) ?_
  refine lv_iload_n hx hb dX10_value_3 rfl (lv_at hl 3 rfl) ?_
  refine lv_iload hx hb dX10_value_4 (lv_at hl 4 rfl) ?_
  refine call_i (As := [.int v9, .int i9, .int j9, .int k9]) (rest := []) ⟨hx, hb, hml, hown, hts⟩ (tX10_goes (l := l) v9 i9 j9 k9 (by first | assumption | omega | (intros; omega) | decide)) (cwV 4 hts (gV (wr54 _ (List.mem_of_getElem? (i := 10) rfl)) (wr54 _ (List.mem_of_getElem? (i := 11) rfl)) (wr54 _ (List.mem_of_getElem? (i := 12) rfl)) (wr1 _ (List.mem_of_getElem? (i := 5) rfl)) (wr54 _ (List.mem_of_getElem? (i := 13) rfl))) rfl rfl rfl (by decide +kernel) ⟨Nat.le_of_ble_eq_true rfl, Nat.le_of_ble_eq_true rfl⟩) (va_recv hK hP (ci := 9) (q0 := 0) rfl rfl) hK hP hD hE hS hA rfl hl.1 rfl (Nat.le_of_ble_eq_true rfl) dX10_value_6 ⟨Nat.le_of_ble_eq_true rfl, Nat.le_of_ble_eq_true rfl⟩ (fun r6 w9 H locs hw6 hP hD hS => ?_)
  obtain ⟨v_sort_6, v_kindAt_6, v_value_6, v_reached_6, rfl, hw6_0⟩ := hw6
  have b_v_sort_6 := iB v_sort_6
  have b_v_kindAt_6 := iB v_kindAt_6
  have b_v_value_6 := jB v_value_6
  have b_v_reached_6 := iB v_reached_6
  have b_r6 := iB r6
  have J25 : ∀ (s0_25 : Int32) (H : Heap) (locs : List Loc) (ls : Array Slot), (s0_25.toInt = 0 ∨ s0_25.toInt = 1) → (s0_25.toInt = 0 ∨ (s0_25.toInt = 1 ∧ VOK v_arrays.toInt v_creatures.toInt v_sort_6 v_kindAt_6 v_value_6 ∧ v_sort_6.toInt = 1)) → va_P D vwCl (mw cs q v_thrown a_tape v_taped v_size v_to v_kind v_from v_letters v_letterMany v_digits v_isBeyond v_suffix v_steps v_fault v_hasProgram a_text a_act a_guess a_take a_begin a_finish a_to1 a_one a_two a_what a_ats a_atVar a_atNumber a_atomSort a_atomKind a_atomValue v_wrong v_wrongAt v_variable v_number v_numberKind v_takes a_out v_outed a_varSort a_varKind a_varValue a_creature v_creatures a_arrayClass a_arrayFrom a_arrayLong v_arrays v_cells a_cellSort a_cellKind a_cellValue a_asideSort a_asideKind a_asideValue a_outcome v_marks v_came v_guessed v_right v_taken a_markSort a_markKind a_markClass a_markValue v_sort_6 v_kindAt_6 v_value_6 a_index v_reached_6 v_looked) H → va_D A (mw cs q v_thrown a_tape v_taped v_size v_to v_kind v_from v_letters v_letterMany v_digits v_isBeyond v_suffix v_steps v_fault v_hasProgram a_text a_act a_guess a_take a_begin a_finish a_to1 a_one a_two a_what a_ats a_atVar a_atNumber a_atomSort a_atomKind a_atomValue v_wrong v_wrongAt v_variable v_number v_numberKind v_takes a_out v_outed a_varSort a_varKind a_varValue a_creature v_creatures a_arrayClass a_arrayFrom a_arrayLong v_arrays v_cells a_cellSort a_cellKind a_cellValue a_asideSort a_asideKind a_asideValue a_outcome v_marks v_came v_guessed v_right v_taken a_markSort a_markKind a_markClass a_markValue v_sort_6 v_kindAt_6 v_value_6 a_index v_reached_6 v_looked) → va_S A s.heap H locs → lv_has ls 6 [(0, .ref (q 0))] → W p l e (headSpec (wG yX10_value cX10_value 6 (some .long)) rmX10_value).room s m ([.ref (q 0), .int v9, .int i9, .int j9, .int k9] : List Value).toArray below meth c H locs 0 0 Q (F0 m 25 ls [.int s0_25]) := by
    intro s0_25 H locs ls f25_0 f25_1 hP hD hS hl
    refine lv_istore (lv' := [(5, .int s0_25), (0, .ref (q 0))]) hx hb dX10_value_25 hl (by decide) rfl (fun ls hl => ?_)
    refine lv_aload_n hx hb dX10_value_27 rfl (lv_at hl 1 rfl) ?_
    refine lv_iload hx hb dX10_value_28 (lv_at hl 0 rfl) ?_
    have J38 : ∀ (s1_38 : Int32) (H : Heap) (locs : List Loc) (ls : Array Slot), (s1_38.toInt = 0 ∨ s1_38.toInt = 1) → va_P D vwCl (mw cs q v_thrown a_tape v_taped v_size v_to v_kind v_from v_letters v_letterMany v_digits v_isBeyond v_suffix v_steps v_fault v_hasProgram a_text a_act a_guess a_take a_begin a_finish a_to1 a_one a_two a_what a_ats a_atVar a_atNumber a_atomSort a_atomKind a_atomValue v_wrong v_wrongAt v_variable v_number v_numberKind v_takes a_out v_outed a_varSort a_varKind a_varValue a_creature v_creatures a_arrayClass a_arrayFrom a_arrayLong v_arrays v_cells a_cellSort a_cellKind a_cellValue a_asideSort a_asideKind a_asideValue a_outcome v_marks v_came v_guessed v_right v_taken a_markSort a_markKind a_markClass a_markValue v_sort_6 v_kindAt_6 v_value_6 a_index v_reached_6 v_looked) H → va_D A (mw cs q v_thrown a_tape v_taped v_size v_to v_kind v_from v_letters v_letterMany v_digits v_isBeyond v_suffix v_steps v_fault v_hasProgram a_text a_act a_guess a_take a_begin a_finish a_to1 a_one a_two a_what a_ats a_atVar a_atNumber a_atomSort a_atomKind a_atomValue v_wrong v_wrongAt v_variable v_number v_numberKind v_takes a_out v_outed a_varSort a_varKind a_varValue a_creature v_creatures a_arrayClass a_arrayFrom a_arrayLong v_arrays v_cells a_cellSort a_cellKind a_cellValue a_asideSort a_asideKind a_asideValue a_outcome v_marks v_came v_guessed v_right v_taken a_markSort a_markKind a_markClass a_markValue v_sort_6 v_kindAt_6 v_value_6 a_index v_reached_6 v_looked) → va_S A s.heap H locs → lv_has ls 6 [(0, .ref (q 0)), (5, .int s0_25)] → W p l e (headSpec (wG yX10_value cX10_value 6 (some .long)) rmX10_value).room s m ([.ref (q 0), .int v9, .int i9, .int j9, .int k9] : List Value).toArray below meth c H locs 0 0 Q (F0 m 38 ls [.int s1_38, .ref (q 0)]) := by
      intro s1_38 H locs ls f38_0 hP hD hS hl
      refine va_put (D := D) (ci := 9) (v := .int s1_38) (ty := .int) (C := RX10) (T := TX10) (N := 71) hx hb hts hin tyX10 tyX10_ok nmX10 hown hK hP hD hS 0 rfl rfl 0 (by decide) k_7_9 (fun _ h9 => h9) rfl (by decide +kernel) rfl rfl (Nat.le_of_ble_eq_true rfl) dX10_value_38 (fun H locs hP hD hS => ?_)
      have hP : va_P D vwCl (mw cs q s1_38 a_tape v_taped v_size v_to v_kind v_from v_letters v_letterMany v_digits v_isBeyond v_suffix v_steps v_fault v_hasProgram a_text a_act a_guess a_take a_begin a_finish a_to1 a_one a_two a_what a_ats a_atVar a_atNumber a_atomSort a_atomKind a_atomValue v_wrong v_wrongAt v_variable v_number v_numberKind v_takes a_out v_outed a_varSort a_varKind a_varValue a_creature v_creatures a_arrayClass a_arrayFrom a_arrayLong v_arrays v_cells a_cellSort a_cellKind a_cellValue a_asideSort a_asideKind a_asideValue a_outcome v_marks v_came v_guessed v_right v_taken a_markSort a_markKind a_markClass a_markValue v_sort_6 v_kindAt_6 v_value_6 a_index v_reached_6 v_looked) H := hP
      have hD : va_D A (mw cs q s1_38 a_tape v_taped v_size v_to v_kind v_from v_letters v_letterMany v_digits v_isBeyond v_suffix v_steps v_fault v_hasProgram a_text a_act a_guess a_take a_begin a_finish a_to1 a_one a_two a_what a_ats a_atVar a_atNumber a_atomSort a_atomKind a_atomValue v_wrong v_wrongAt v_variable v_number v_numberKind v_takes a_out v_outed a_varSort a_varKind a_varValue a_creature v_creatures a_arrayClass a_arrayFrom a_arrayLong v_arrays v_cells a_cellSort a_cellKind a_cellValue a_asideSort a_asideKind a_asideValue a_outcome v_marks v_came v_guessed v_right v_taken a_markSort a_markKind a_markClass a_markValue v_sort_6 v_kindAt_6 v_value_6 a_index v_reached_6 v_looked) := hD
      refine lv_iload hx hb dX10_value_41 (lv_at hl 1 rfl) ?_
      refine m_if_eq (X := s0_25.toInt) (tgt := 60) hx hb dX10_value_43 (by decide) rfl (fun c43 => ?_) (fun c43 => ?_)
      · skip
        refine lv_lconst (v := 0) hx hb dX10_value_60 (by decide) ?_
        subst hAe
        rw [hQ]
        exact W.lret (v := 0) hx hb hr (fun t ht hW => ⟨⟨0, _, rfl, ⟨s1_38, v_sort_6, v_kindAt_6, v_value_6, v_reached_6, rfl⟩, by rw [ht]; exact hP, va_K.moved hW.alike hK, hD⟩, hS.F ht⟩) hS.2.2 dX10_value_61
      · skip
        refine lv_aload_n hx hb dX10_value_46 rfl (lv_at hl 0 rfl) ?_
        refine va_get (D := D) (ci := 9) (v := .int v_kindAt_6) (C := RX10) (T := TX10) (N := 71) hx hb hts hin hown hK hP 0 rfl rfl 66 (by decide) k_47_13 (fun _ h9 => h9) rfl dX10_value_47 ?_
        refine lv_aload_n hx hb dX10_value_50 rfl (lv_at hl 0 rfl) ?_
        refine va_get (D := D) (ci := 9) (v := .long v_value_6) (C := RX10) (T := TX10) (N := 71) hx hb hts hin hown hK hP 0 rfl rfl 67 (by decide) k_47_14 (fun _ h9 => h9) rfl dX10_value_51 ?_
        refine call_jSP (As := [.int v_kindAt_6, .long v_value_6]) (rest := []) ⟨hx, hb, hml, hown, hts⟩ (tX10_whole (l := l) v_kindAt_6 v_value_6 (by (have z := f25_1.resolve_left (fun q => by omega); exact z.2.1.2.2.2 z.2.2))) (va_cwS 2 hts (gS (wr52 _ (List.mem_of_getElem? (i := 15) rfl)) (wr52 _ (List.mem_of_getElem? (i := 16) rfl)) (wr1 _ (List.mem_of_getElem? (i := 5) rfl)) (wr52 _ (List.mem_of_getElem? (i := 17) rfl))) rfl rfl rfl (by decide +kernel) ⟨Nat.le_of_ble_eq_true rfl, Nat.le_of_ble_eq_true rfl⟩) (hK.sub [] rfl) hP hD hE hS hA rfl hl.1 rfl (Nat.le_of_ble_eq_true rfl) dX10_value_54 ⟨Nat.le_of_ble_eq_true rfl, Nat.le_of_ble_eq_true rfl⟩ (fun r54 w9 H locs hw54 hP hD hS => ?_)
        obtain ⟨rfl⟩ := hw54
        have b_r54 := jB r54
        refine lv_goto (tgt := 61) hx hb dX10_value_57 (by decide) ?_
        subst hAe
        rw [hQ]
        exact W.lret (v := r54) hx hb hr (fun t ht hW => ⟨⟨r54, _, rfl, ⟨s1_38, v_sort_6, v_kindAt_6, v_value_6, v_reached_6, rfl⟩, by rw [ht]; exact hP, va_K.moved hW.alike hK, hD⟩, hS.F ht⟩) hS.2.2 dX10_value_61
    refine m_if_eq (X := s0_25.toInt) (tgt := 37) hx hb dX10_value_30 (by decide) rfl (fun c30 => ?_) (fun c30 => ?_)
    · skip
      refine lv_iconst (v := 1) hx hb dX10_value_37 (by decide) ?_
      exact J38 (1 : Int32) H locs ls (by first | decide | omega) hP hD hS (lv_sub hl [1, 0] rfl)
    · skip
      refine lv_iconst (v := 0) hx hb dX10_value_33 (by decide) ?_
      refine lv_goto (tgt := 38) hx hb dX10_value_34 (by decide) ?_
      exact J38 (0 : Int32) H locs ls (by first | decide | omega) hP hD hS (lv_sub hl [1, 0] rfl)
  have J24 : ∀ (H : Heap) (locs : List Loc) (ls : Array Slot), va_P D vwCl (mw cs q v_thrown a_tape v_taped v_size v_to v_kind v_from v_letters v_letterMany v_digits v_isBeyond v_suffix v_steps v_fault v_hasProgram a_text a_act a_guess a_take a_begin a_finish a_to1 a_one a_two a_what a_ats a_atVar a_atNumber a_atomSort a_atomKind a_atomValue v_wrong v_wrongAt v_variable v_number v_numberKind v_takes a_out v_outed a_varSort a_varKind a_varValue a_creature v_creatures a_arrayClass a_arrayFrom a_arrayLong v_arrays v_cells a_cellSort a_cellKind a_cellValue a_asideSort a_asideKind a_asideValue a_outcome v_marks v_came v_guessed v_right v_taken a_markSort a_markKind a_markClass a_markValue v_sort_6 v_kindAt_6 v_value_6 a_index v_reached_6 v_looked) H → va_D A (mw cs q v_thrown a_tape v_taped v_size v_to v_kind v_from v_letters v_letterMany v_digits v_isBeyond v_suffix v_steps v_fault v_hasProgram a_text a_act a_guess a_take a_begin a_finish a_to1 a_one a_two a_what a_ats a_atVar a_atNumber a_atomSort a_atomKind a_atomValue v_wrong v_wrongAt v_variable v_number v_numberKind v_takes a_out v_outed a_varSort a_varKind a_varValue a_creature v_creatures a_arrayClass a_arrayFrom a_arrayLong v_arrays v_cells a_cellSort a_cellKind a_cellValue a_asideSort a_asideKind a_asideValue a_outcome v_marks v_came v_guessed v_right v_taken a_markSort a_markKind a_markClass a_markValue v_sort_6 v_kindAt_6 v_value_6 a_index v_reached_6 v_looked) → va_S A s.heap H locs → lv_has ls 6 [(0, .ref (q 0))] → W p l e (headSpec (wG yX10_value cX10_value 6 (some .long)) rmX10_value).room s m ([.ref (q 0), .int v9, .int i9, .int j9, .int k9] : List Value).toArray below meth c H locs 0 0 Q (F0 m 24 ls []) := by
    intro H locs ls hP hD hS hl
    refine lv_iconst (v := 0) hx hb dX10_value_24 (by decide) ?_
    exact J25 (0 : Int32) H locs ls (by first | decide | omega) (by first | exact Or.inl (by decide) | exact Or.inr ⟨by decide, (hw6_0.resolve_right (fun q => by omega)).2, by omega⟩) hP hD hS (lv_sub hl [0] rfl)
  refine m_if_eq (X := r6.toInt) (tgt := 24) hx hb dX10_value_9 (by decide) rfl (fun c9 => ?_) (fun c9 => ?_)
  · skip
    exact J24 H locs ls hP hD hS (lv_sub hl [0] rfl)
  · skip
    refine lv_aload_n hx hb dX10_value_12 rfl (lv_at hl 0 rfl) ?_
    refine va_get (D := D) (ci := 9) (v := .int v_sort_6) (C := RX10) (T := TX10) (N := 71) hx hb hts hin hown hK hP 0 rfl rfl 65 (by decide) k_47_12 (fun _ h9 => h9) rfl dX10_value_13 ?_
    refine lv_iconst (v := 1) hx hb dX10_value_16 (by decide) ?_
    refine m_icmp_ne (X := v_sort_6.toInt) (Y := 1) (tgt := 24) hx hb dX10_value_17 (by decide) rfl (by decide) (fun c17 => ?_) (fun c17 => ?_)
    · skip
      exact J24 H locs ls hP hD hS (lv_sub hl [0] rfl)
    · skip
      refine lv_iconst (v := 1) hx hb dX10_value_20 (by decide) ?_
      refine lv_goto (tgt := 25) hx hb dX10_value_21 (by decide) ?_
      exact J25 (1 : Int32) H locs ls (by first | decide | omega) (by first | exact Or.inl (by decide) | exact Or.inr ⟨by decide, (hw6_0.resolve_right (fun q => by omega)).2, by omega⟩) hP hD hS (lv_sub hl [0] rfl)

def rmX10_same : Room := { frames := 80, cells := 0, slots := 0, locals := 1600 }
set_option maxHeartbeats 4000000 in
set_option maxRecDepth 100000 in
theorem tX10_same {l : Launch} {D : va_G} {K : Nat → Nat → Nat} {cs : Nat → ClassId} {q : Nat → Nat} {v_thrown v_taped v_size v_to v_kind v_from v_letterMany v_isBeyond v_suffix v_steps v_fault v_hasProgram v_wrong v_wrongAt v_variable v_numberKind v_takes v_outed v_creatures v_arrays v_cells v_marks v_came v_guessed v_right v_taken v_sort v_kindAt v_reached v_looked : Int32} {a_tape a_text a_act a_guess a_take a_begin a_finish a_to1 a_one a_two a_what a_ats a_atVar a_atNumber a_atomSort a_atomKind a_out a_varSort a_varKind a_creature a_arrayClass a_arrayFrom a_arrayLong a_cellSort a_cellKind a_asideSort a_asideKind a_outcome a_markSort a_markKind a_markClass a_index : Nat → Int32} {v_letters v_digits v_number v_value : Int64} {a_atomValue a_varValue a_cellValue a_asideValue a_markValue : Nat → Int64} (v9 : Int32) (i9 : Int32) (w9 : Int32) (j9 : Int32) (p_0 : RUN a_varSort a_varKind a_varValue v_arrays v_cells v_creatures a_arrayClass a_arrayFrom a_arrayLong a_cellSort a_cellKind a_cellValue) : CtI l yX10_same (wG yX10_same cX10_same 8 (some .boolean)) rmX10_same D (mwT cs) K [.ref (q 0), .int v9, .int i9, .int w9, .int j9] (mw cs q v_thrown a_tape v_taped v_size v_to v_kind v_from v_letters v_letterMany v_digits v_isBeyond v_suffix v_steps v_fault v_hasProgram a_text a_act a_guess a_take a_begin a_finish a_to1 a_one a_two a_what a_ats a_atVar a_atNumber a_atomSort a_atomKind a_atomValue v_wrong v_wrongAt v_variable v_number v_numberKind v_takes a_out v_outed a_varSort a_varKind a_varValue a_creature v_creatures a_arrayClass a_arrayFrom a_arrayLong v_arrays v_cells a_cellSort a_cellKind a_cellValue a_asideSort a_asideKind a_asideValue a_outcome v_marks v_came v_guessed v_right v_taken a_markSort a_markKind a_markClass a_markValue v_sort v_kindAt v_value a_index v_reached v_looked) (fun r w1 => ∃ (v_thrown' : Int32) (v_sort' : Int32) (v_kindAt' : Int32) (v_value' : Int64) (v_reached' : Int32), w1 = (mw cs q v_thrown' a_tape v_taped v_size v_to v_kind v_from v_letters v_letterMany v_digits v_isBeyond v_suffix v_steps v_fault v_hasProgram a_text a_act a_guess a_take a_begin a_finish a_to1 a_one a_two a_what a_ats a_atVar a_atNumber a_atomSort a_atomKind a_atomValue v_wrong v_wrongAt v_variable v_number v_numberKind v_takes a_out v_outed a_varSort a_varKind a_varValue a_creature v_creatures a_arrayClass a_arrayFrom a_arrayLong v_arrays v_cells a_cellSort a_cellKind a_cellValue a_asideSort a_asideKind a_asideValue a_outcome v_marks v_came v_guessed v_right v_taken a_markSort a_markKind a_markClass a_markValue v_sort' v_kindAt' v_value' a_index v_reached' v_looked) ∧ (r.toInt = 0 ∨ r.toInt = 1)) 0 0 := by
  intro sz
  refine Met.ofW (cc := cX10_same) (maxL := 8) (ret := (some .boolean)) (by decide) rfl ?_
  intro p e s m args below meth c s₁ B hml hv
  obtain ⟨rfl, hsz, hP, hK, hD0, hE⟩ := hv
  have hx := B.exec
  have hb := B.bytes
  have hr := B.returns
  have hts := atoms_spec (ws := (wG yX10_same cX10_same 8 (some .boolean))) B.pre
  have hown : s.vm.findClass RX10 = some m.cls := findClass_of_methodNamed B.named
  have hlocks := B.notSynchronized
  subst hsz
  have hD := hD0.self (sz := s.heap.size)
  obtain ⟨A, hAe⟩ : ∃ A : Nat → Prop, A = va_A (mw cs q v_thrown a_tape v_taped v_size v_to v_kind v_from v_letters v_letterMany v_digits v_isBeyond v_suffix v_steps v_fault v_hasProgram a_text a_act a_guess a_take a_begin a_finish a_to1 a_one a_two a_what a_ats a_atVar a_atNumber a_atomSort a_atomKind a_atomValue v_wrong v_wrongAt v_variable v_number v_numberKind v_takes a_out v_outed a_varSort a_varKind a_varValue a_creature v_creatures a_arrayClass a_arrayFrom a_arrayLong v_arrays v_cells a_cellSort a_cellKind a_cellValue a_asideSort a_asideKind a_asideValue a_outcome v_marks v_came v_guessed v_right v_taken a_markSort a_markKind a_markClass a_markValue v_sort v_kindAt v_value a_index v_reached v_looked) s.heap.size := ⟨_, rfl⟩
  rw [← hAe] at hD hE
  have hA : ∀ q : Nat, s.heap.size ≤ q → A q := fun q h => by rw [hAe]; exact Or.inr h
  have hS : va_S A s.heap s.heap [] := va_S.rf
  have hl := lv_entry ([.ref (q 0), .int v9, .int i9, .int w9, .int j9]) (n := 8) (Nat.le_of_ble_eq_true rfl)
  rw [lg_entry_eq]
  generalize (lg_sl ([.ref (q 0), .int v9, .int i9, .int w9, .int j9]) ++ List.replicate (8 - (lg_sl ([.ref (q 0), .int v9, .int i9, .int w9, .int j9])).length) Slot.unset).toArray = ls at hl ⊢
  have hl : lv_has ls 8 [(0, .ref (q 0)), (1, .int v9), (2, .int i9), (3, .int w9), (4, .int j9)] := hl
  refine wq (fun Q hQ => ?_)
  have hin : ∀ w ∈ wsX100, w ∈ (wG yX10_same cX10_same 8 (some .boolean)) := fun w h => List.mem_cons_of_mem _ (inlX10 w h)
  have kc0 : (-1 : Int32).toInt = -1 := by decide
  have kc1 : (0 : Int32).toInt = 0 := by decide
  have kc2 : (1 : Int32).toInt = 1 := by decide
  have k_7_9 := hts (.fieldLink RX10 122 "ArrayTrainerModel" "thrown" "I") (List.mem_cons_of_mem _ (wr7 _ (List.mem_of_getElem? (i := 9) rfl)))
  have k_47_12 := hts (.fieldLink RX10 493 "ArrayTrainerModel" "sort" "I") (List.mem_cons_of_mem _ (wr47 _ (List.mem_of_getElem? (i := 12) rfl)))
  have k_47_14 := hts (.fieldLink RX10 499 "ArrayTrainerModel" "value" "J") (List.mem_cons_of_mem _ (wr47 _ (List.mem_of_getElem? (i := 14) rfl)))
  obtain ⟨H, hH⟩ : ∃ H : Heap, H = s.heap := ⟨_, rfl⟩
  obtain ⟨locs, hlc⟩ : ∃ L : List Loc, L = [] := ⟨_, rfl⟩
  have hP : va_P D vwCl (mw cs q v_thrown a_tape v_taped v_size v_to v_kind v_from v_letters v_letterMany v_digits v_isBeyond v_suffix v_steps v_fault v_hasProgram a_text a_act a_guess a_take a_begin a_finish a_to1 a_one a_two a_what a_ats a_atVar a_atNumber a_atomSort a_atomKind a_atomValue v_wrong v_wrongAt v_variable v_number v_numberKind v_takes a_out v_outed a_varSort a_varKind a_varValue a_creature v_creatures a_arrayClass a_arrayFrom a_arrayLong v_arrays v_cells a_cellSort a_cellKind a_cellValue a_asideSort a_asideKind a_asideValue a_outcome v_marks v_came v_guessed v_right v_taken a_markSort a_markKind a_markClass a_markValue v_sort v_kindAt v_value a_index v_reached v_looked) H := by rw [hH]; exact hP
  have hS : va_S A s.heap H locs := by rw [hH, hlc]; exact hS
  refine wHL hH hlc ?_
  have b_v9 := iB v9
  have b_i9 := iB i9
  have b_w9 := iB w9
  have b_j9 := iB j9
  refine lv_aload_n hx hb dX10_same_0 rfl (lv_at hl 0 rfl) ?_
  refine lv_iconst (v := 0) hx hb dX10_same_1 (by decide) ?_
  refine va_put (D := D) (ci := 9) (v := .int 0) (ty := .int) (C := RX10) (T := TX10) (N := 71) hx hb hts hin tyX10 tyX10_ok nmX10 hown hK hP hD hS 0 rfl rfl 0 (by decide) k_7_9 (fun _ h9 => h9) rfl (by decide +kernel) rfl rfl (Nat.le_of_ble_eq_true rfl) dX10_same_2 (fun H locs hP hD hS => ?_)
  have hP : va_P D vwCl (mw cs q (0 : Int32) a_tape v_taped v_size v_to v_kind v_from v_letters v_letterMany v_digits v_isBeyond v_suffix v_steps v_fault v_hasProgram a_text a_act a_guess a_take a_begin a_finish a_to1 a_one a_two a_what a_ats a_atVar a_atNumber a_atomSort a_atomKind a_atomValue v_wrong v_wrongAt v_variable v_number v_numberKind v_takes a_out v_outed a_varSort a_varKind a_varValue a_creature v_creatures a_arrayClass a_arrayFrom a_arrayLong v_arrays v_cells a_cellSort a_cellKind a_cellValue a_asideSort a_asideKind a_asideValue a_outcome v_marks v_came v_guessed v_right v_taken a_markSort a_markKind a_markClass a_markValue v_sort v_kindAt v_value a_index v_reached v_looked) H := hP
  have hD : va_D A (mw cs q (0 : Int32) a_tape v_taped v_size v_to v_kind v_from v_letters v_letterMany v_digits v_isBeyond v_suffix v_steps v_fault v_hasProgram a_text a_act a_guess a_take a_begin a_finish a_to1 a_one a_two a_what a_ats a_atVar a_atNumber a_atomSort a_atomKind a_atomValue v_wrong v_wrongAt v_variable v_number v_numberKind v_takes a_out v_outed a_varSort a_varKind a_varValue a_creature v_creatures a_arrayClass a_arrayFrom a_arrayLong v_arrays v_cells a_cellSort a_cellKind a_cellValue a_asideSort a_asideKind a_asideValue a_outcome v_marks v_came v_guessed v_right v_taken a_markSort a_markKind a_markClass a_markValue v_sort v_kindAt v_value a_index v_reached v_looked) := hD
  refine lv_aload_n hx hb dX10_same_5 rfl (lv_at hl 0 rfl) ?_
  refine lv_iload_n hx hb dX10_same_6 rfl (lv_at hl 1 rfl) ?_
  refine lv_iload_n hx hb dX10_same_7 rfl (lv_at hl 2 rfl) ?_
  refine lv_iconst (v := (-1)) hx hb dX10_same_8 (by decide) ?_
  refine lv_iconst (v := (-1)) hx hb dX10_same_9 (by decide) ?_
  refine call_i (As := [.int v9, .int i9, .int (-1), .int (-1)]) (rest := []) ⟨hx, hb, hml, hown, hts⟩ (tX10_goes (l := l) v9 i9 (-1 : Int32) (-1 : Int32) (by first | assumption | omega | (intros; omega) | decide)) (cwV 4 hts (gV (wr54 _ (List.mem_of_getElem? (i := 10) rfl)) (wr54 _ (List.mem_of_getElem? (i := 11) rfl)) (wr54 _ (List.mem_of_getElem? (i := 12) rfl)) (wr1 _ (List.mem_of_getElem? (i := 5) rfl)) (wr54 _ (List.mem_of_getElem? (i := 13) rfl))) rfl rfl rfl (by decide +kernel) ⟨Nat.le_of_ble_eq_true rfl, Nat.le_of_ble_eq_true rfl⟩) (va_recv hK hP (ci := 9) (q0 := 0) rfl rfl) hK hP hD hE hS hA rfl hl.1 rfl (Nat.le_of_ble_eq_true rfl) dX10_same_10 ⟨Nat.le_of_ble_eq_true rfl, Nat.le_of_ble_eq_true rfl⟩ (fun r10 w9 H locs hw10 hP hD hS => ?_)
  obtain ⟨v_sort_10, v_kindAt_10, v_value_10, v_reached_10, rfl, hw10_0⟩ := hw10
  have b_v_sort_10 := iB v_sort_10
  have b_v_kindAt_10 := iB v_kindAt_10
  have b_v_value_10 := jB v_value_10
  have b_v_reached_10 := iB v_reached_10
  have b_r10 := iB r10
  refine m_if_ne (X := r10.toInt) (tgt := 18) hx hb dX10_same_13 (by decide) rfl (fun c13 => ?_) (fun c13 => ?_)
  · skip
    refine lv_aload_n hx hb dX10_same_18 rfl (lv_at hl 0 rfl) ?_
    refine va_get (D := D) (ci := 9) (v := .int v_sort_10) (C := RX10) (T := TX10) (N := 71) hx hb hts hin hown hK hP 0 rfl rfl 65 (by decide) k_47_12 (fun _ h9 => h9) rfl dX10_same_19 ?_
    refine lv_istore (lv' := [(5, .int v_sort_10), (0, .ref (q 0)), (1, .int v9), (2, .int i9), (3, .int w9), (4, .int j9)]) hx hb dX10_same_22 hl (by decide) rfl (fun ls hl => ?_)
    refine lv_aload_n hx hb dX10_same_24 rfl (lv_at hl 1 rfl) ?_
    refine va_get (D := D) (ci := 9) (v := .long v_value_10) (C := RX10) (T := TX10) (N := 71) hx hb hts hin hown hK hP 0 rfl rfl 67 (by decide) k_47_14 (fun _ h9 => h9) rfl dX10_same_25 ?_
    refine lv_lstore (lv' := [(6, .long v_value_10), (5, .int v_sort_10), (0, .ref (q 0)), (1, .int v9), (2, .int i9), (3, .int w9), (4, .int j9)]) hx hb dX10_same_28 hl (by decide) rfl (fun ls hl => ?_)
    refine lv_aload_n hx hb dX10_same_30 rfl (lv_at hl 2 rfl) ?_
    refine lv_iload_n hx hb dX10_same_31 rfl (lv_at hl 5 rfl) ?_
    refine lv_iload hx hb dX10_same_32 (lv_at hl 6 rfl) ?_
    refine lv_iconst (v := (-1)) hx hb dX10_same_34 (by decide) ?_
    refine lv_iconst (v := (-1)) hx hb dX10_same_35 (by decide) ?_
    refine call_i (As := [.int w9, .int j9, .int (-1), .int (-1)]) (rest := []) ⟨hx, hb, hml, hown, hts⟩ (tX10_goes (l := l) w9 j9 (-1 : Int32) (-1 : Int32) (by first | assumption | omega | (intros; omega) | decide)) (cwV 4 hts (gV (wr54 _ (List.mem_of_getElem? (i := 10) rfl)) (wr54 _ (List.mem_of_getElem? (i := 11) rfl)) (wr54 _ (List.mem_of_getElem? (i := 12) rfl)) (wr1 _ (List.mem_of_getElem? (i := 5) rfl)) (wr54 _ (List.mem_of_getElem? (i := 13) rfl))) rfl rfl rfl (by decide +kernel) ⟨Nat.le_of_ble_eq_true rfl, Nat.le_of_ble_eq_true rfl⟩) (va_recv hK hP (ci := 9) (q0 := 0) rfl rfl) hK hP hD hE hS hA rfl hl.1 rfl (Nat.le_of_ble_eq_true rfl) dX10_same_36 ⟨Nat.le_of_ble_eq_true rfl, Nat.le_of_ble_eq_true rfl⟩ (fun r36 w9 H locs hw36 hP hD hS => ?_)
    obtain ⟨v_sort_36, v_kindAt_36, v_value_36, v_reached_36, rfl, hw36_0⟩ := hw36
    have b_v_sort_36 := iB v_sort_36
    have b_v_kindAt_36 := iB v_kindAt_36
    have b_v_value_36 := jB v_value_36
    have b_v_reached_36 := iB v_reached_36
    have b_r36 := iB r36
    refine m_if_eq (X := r36.toInt) (tgt := 71) hx hb dX10_same_39 (by decide) rfl (fun c39 => ?_) (fun c39 => ?_)
    · skip
      refine lv_iconst (v := 0) hx hb dX10_same_71 (by decide) ?_
      subst hAe
      rw [hQ]
      exact W.zret (v := 0) hx hb hr (by decide) (fun t ht hW => ⟨⟨0, _, rfl, ⟨(0 : Int32), v_sort_36, v_kindAt_36, v_value_36, v_reached_36, rfl, by first | assumption | omega | (intros; omega) | decide⟩, by rw [ht]; exact hP, va_K.moved hW.alike hK, hD⟩, hS.F ht⟩) hS.2.2 dX10_same_72
    · skip
      refine lv_iload hx hb dX10_same_42 (lv_at hl 1 rfl) ?_
      refine lv_iconst (v := 1) hx hb dX10_same_44 (by decide) ?_
      refine m_icmp_le (X := v_sort_10.toInt) (Y := 1) (tgt := 71) hx hb dX10_same_45 (by decide) rfl (by decide) (fun c45 => ?_) (fun c45 => ?_)
      · skip
        refine lv_iconst (v := 0) hx hb dX10_same_71 (by decide) ?_
        subst hAe
        rw [hQ]
        exact W.zret (v := 0) hx hb hr (by decide) (fun t ht hW => ⟨⟨0, _, rfl, ⟨(0 : Int32), v_sort_36, v_kindAt_36, v_value_36, v_reached_36, rfl, by first | assumption | omega | (intros; omega) | decide⟩, by rw [ht]; exact hP, va_K.moved hW.alike hK, hD⟩, hS.F ht⟩) hS.2.2 dX10_same_72
      · skip
        refine lv_iload hx hb dX10_same_48 (lv_at hl 1 rfl) ?_
        refine lv_aload_n hx hb dX10_same_50 rfl (lv_at hl 2 rfl) ?_
        refine va_get (D := D) (ci := 9) (v := .int v_sort_36) (C := RX10) (T := TX10) (N := 71) hx hb hts hin hown hK hP 0 rfl rfl 65 (by decide) k_47_12 (fun _ h9 => h9) rfl dX10_same_51 ?_
        refine m_icmp_ne (X := v_sort_10.toInt) (Y := v_sort_36.toInt) (tgt := 71) hx hb dX10_same_54 (by decide) rfl rfl (fun c54 => ?_) (fun c54 => ?_)
        · skip
          refine lv_iconst (v := 0) hx hb dX10_same_71 (by decide) ?_
          subst hAe
          rw [hQ]
          exact W.zret (v := 0) hx hb hr (by decide) (fun t ht hW => ⟨⟨0, _, rfl, ⟨(0 : Int32), v_sort_36, v_kindAt_36, v_value_36, v_reached_36, rfl, by first | assumption | omega | (intros; omega) | decide⟩, by rw [ht]; exact hP, va_K.moved hW.alike hK, hD⟩, hS.F ht⟩) hS.2.2 dX10_same_72
        · skip
          refine lv_lload hx hb dX10_same_57 (lv_at hl 0 rfl) ?_
          refine lv_aload_n hx hb dX10_same_59 rfl (lv_at hl 2 rfl) ?_
          refine va_get (D := D) (ci := 9) (v := .long v_value_36) (C := RX10) (T := TX10) (N := 71) hx hb hts hin hown hK hP 0 rfl rfl 67 (by decide) k_47_14 (fun _ h9 => h9) rfl dX10_same_60 ?_
          refine m_lcmp (X := v_value_10.toInt) (Y := v_value_36.toInt) hx hb dX10_same_63 rfl rfl (fun x63 g_x63 => ?_)
          refine m_if_ne (X := x63.toInt) (tgt := 71) hx hb dX10_same_64 (by decide) rfl (fun c64 => ?_) (fun c64 => ?_)
          · skip
            refine lv_iconst (v := 0) hx hb dX10_same_71 (by decide) ?_
            subst hAe
            rw [hQ]
            exact W.zret (v := 0) hx hb hr (by decide) (fun t ht hW => ⟨⟨0, _, rfl, ⟨(0 : Int32), v_sort_36, v_kindAt_36, v_value_36, v_reached_36, rfl, by first | assumption | omega | (intros; omega) | decide⟩, by rw [ht]; exact hP, va_K.moved hW.alike hK, hD⟩, hS.F ht⟩) hS.2.2 dX10_same_72
          · skip
            refine lv_iconst (v := 1) hx hb dX10_same_67 (by decide) ?_
            refine lv_goto (tgt := 72) hx hb dX10_same_68 (by decide) ?_
            subst hAe
            rw [hQ]
            exact W.zret (v := 1) hx hb hr (by decide) (fun t ht hW => ⟨⟨1, _, rfl, ⟨(0 : Int32), v_sort_36, v_kindAt_36, v_value_36, v_reached_36, rfl, by first | assumption | omega | (intros; omega) | decide⟩, by rw [ht]; exact hP, va_K.moved hW.alike hK, hD⟩, hS.F ht⟩) hS.2.2 dX10_same_72
  · skip
    refine lv_iconst (v := 0) hx hb dX10_same_16 (by decide) ?_
    subst hAe
    rw [hQ]
    exact W.zret (v := 0) hx hb hr (by decide) (fun t ht hW => ⟨⟨0, _, rfl, ⟨(0 : Int32), v_sort_10, v_kindAt_10, v_value_10, v_reached_10, rfl, by first | assumption | omega | (intros; omega) | decide⟩, by rw [ht]; exact hP, va_K.moved hW.alike hK, hD⟩, hS.F ht⟩) hS.2.2 dX10_same_17

def rmX10_marked : Room := { frames := 40, cells := 0, slots := 0, locals := 800 }
set_option maxHeartbeats 4000000 in
set_option maxRecDepth 100000 in
theorem tX10_marked {l : Launch} {D : va_G} {K : Nat → Nat → Nat} {cs : Nat → ClassId} {q : Nat → Nat} {v_thrown v_taped v_size v_to v_kind v_from v_letterMany v_isBeyond v_suffix v_steps v_fault v_hasProgram v_wrong v_wrongAt v_variable v_numberKind v_takes v_outed v_creatures v_arrays v_cells v_marks v_came v_guessed v_right v_taken v_sort v_kindAt v_reached v_looked : Int32} {a_tape a_text a_act a_guess a_take a_begin a_finish a_to1 a_one a_two a_what a_ats a_atVar a_atNumber a_atomSort a_atomKind a_out a_varSort a_varKind a_creature a_arrayClass a_arrayFrom a_arrayLong a_cellSort a_cellKind a_asideSort a_asideKind a_outcome a_markSort a_markKind a_markClass a_index : Nat → Int32} {v_letters v_digits v_number v_value : Int64} {a_atomValue a_varValue a_cellValue a_asideValue a_markValue : Nat → Int64} (k9 : Int32) (p_0 : ∀ j : Nat, (a_markSort j).toInt = 1 → NumOK (a_markKind j) (a_markValue j)) : CtJ l yX10_marked (wG yX10_marked cX10_marked 3 (some .long)) rmX10_marked D (mwT cs) K [.ref (q 0), .int k9] (mw cs q v_thrown a_tape v_taped v_size v_to v_kind v_from v_letters v_letterMany v_digits v_isBeyond v_suffix v_steps v_fault v_hasProgram a_text a_act a_guess a_take a_begin a_finish a_to1 a_one a_two a_what a_ats a_atVar a_atNumber a_atomSort a_atomKind a_atomValue v_wrong v_wrongAt v_variable v_number v_numberKind v_takes a_out v_outed a_varSort a_varKind a_varValue a_creature v_creatures a_arrayClass a_arrayFrom a_arrayLong v_arrays v_cells a_cellSort a_cellKind a_cellValue a_asideSort a_asideKind a_asideValue a_outcome v_marks v_came v_guessed v_right v_taken a_markSort a_markKind a_markClass a_markValue v_sort v_kindAt v_value a_index v_reached v_looked) (fun r w1 => ∃ (v_thrown' : Int32), w1 = (mw cs q v_thrown' a_tape v_taped v_size v_to v_kind v_from v_letters v_letterMany v_digits v_isBeyond v_suffix v_steps v_fault v_hasProgram a_text a_act a_guess a_take a_begin a_finish a_to1 a_one a_two a_what a_ats a_atVar a_atNumber a_atomSort a_atomKind a_atomValue v_wrong v_wrongAt v_variable v_number v_numberKind v_takes a_out v_outed a_varSort a_varKind a_varValue a_creature v_creatures a_arrayClass a_arrayFrom a_arrayLong v_arrays v_cells a_cellSort a_cellKind a_cellValue a_asideSort a_asideKind a_asideValue a_outcome v_marks v_came v_guessed v_right v_taken a_markSort a_markKind a_markClass a_markValue v_sort v_kindAt v_value a_index v_reached v_looked)) 0 0 := by
  intro sz
  refine Met.ofW (cc := cX10_marked) (maxL := 3) (ret := (some .long)) (by decide) rfl ?_
  intro p e s m args below meth c s₁ B hml hv
  obtain ⟨rfl, hsz, hP, hK, hD0, hE⟩ := hv
  have hx := B.exec
  have hb := B.bytes
  have hr := B.returns
  have hts := atoms_spec (ws := (wG yX10_marked cX10_marked 3 (some .long))) B.pre
  have hown : s.vm.findClass RX10 = some m.cls := findClass_of_methodNamed B.named
  have hlocks := B.notSynchronized
  subst hsz
  have hD := hD0.self (sz := s.heap.size)
  obtain ⟨A, hAe⟩ : ∃ A : Nat → Prop, A = va_A (mw cs q v_thrown a_tape v_taped v_size v_to v_kind v_from v_letters v_letterMany v_digits v_isBeyond v_suffix v_steps v_fault v_hasProgram a_text a_act a_guess a_take a_begin a_finish a_to1 a_one a_two a_what a_ats a_atVar a_atNumber a_atomSort a_atomKind a_atomValue v_wrong v_wrongAt v_variable v_number v_numberKind v_takes a_out v_outed a_varSort a_varKind a_varValue a_creature v_creatures a_arrayClass a_arrayFrom a_arrayLong v_arrays v_cells a_cellSort a_cellKind a_cellValue a_asideSort a_asideKind a_asideValue a_outcome v_marks v_came v_guessed v_right v_taken a_markSort a_markKind a_markClass a_markValue v_sort v_kindAt v_value a_index v_reached v_looked) s.heap.size := ⟨_, rfl⟩
  rw [← hAe] at hD hE
  have hA : ∀ q : Nat, s.heap.size ≤ q → A q := fun q h => by rw [hAe]; exact Or.inr h
  have hS : va_S A s.heap s.heap [] := va_S.rf
  have hl := lv_entry ([.ref (q 0), .int k9]) (n := 3) (Nat.le_of_ble_eq_true rfl)
  rw [lg_entry_eq]
  generalize (lg_sl ([.ref (q 0), .int k9]) ++ List.replicate (3 - (lg_sl ([.ref (q 0), .int k9])).length) Slot.unset).toArray = ls at hl ⊢
  have hl : lv_has ls 3 [(0, .ref (q 0)), (1, .int k9)] := hl
  refine wq (fun Q hQ => ?_)
  have hin : ∀ w ∈ wsX100, w ∈ (wG yX10_marked cX10_marked 3 (some .long)) := fun w h => List.mem_cons_of_mem _ (inlX10 w h)
  have kc0 : (0 : Int32).toInt = 0 := by decide
  have kc1 : (1 : Int32).toInt = 1 := by decide
  have kc2 : (50 : Int32).toInt = 50 := by decide
  have kc3 : (0 : Int64).toInt = 0 := by decide
  have k_7_9 := hts (.fieldLink RX10 122 "ArrayTrainerModel" "thrown" "I") (List.mem_cons_of_mem _ (wr7 _ (List.mem_of_getElem? (i := 9) rfl)))
  have k_6_16 := hts (.fieldLink RX10 110 "ArrayTrainerModel" "markKind" "[I") (List.mem_cons_of_mem _ (wr6 _ (List.mem_of_getElem? (i := 16) rfl)))
  have k_6_18 := hts (.fieldLink RX10 116 "ArrayTrainerModel" "markValue" "[J") (List.mem_cons_of_mem _ (wr6 _ (List.mem_of_getElem? (i := 18) rfl)))
  have k_31_6 := hts (.fieldLink RX10 478 "ArrayTrainerModel" "marks" "I") (List.mem_cons_of_mem _ (wr31 _ (List.mem_of_getElem? (i := 6) rfl)))
  have k_6_15 := hts (.fieldLink RX10 107 "ArrayTrainerModel" "markSort" "[I") (List.mem_cons_of_mem _ (wr6 _ (List.mem_of_getElem? (i := 15) rfl)))
  obtain ⟨H, hH⟩ : ∃ H : Heap, H = s.heap := ⟨_, rfl⟩
  obtain ⟨locs, hlc⟩ : ∃ L : List Loc, L = [] := ⟨_, rfl⟩
  have hP : va_P D vwCl (mw cs q v_thrown a_tape v_taped v_size v_to v_kind v_from v_letters v_letterMany v_digits v_isBeyond v_suffix v_steps v_fault v_hasProgram a_text a_act a_guess a_take a_begin a_finish a_to1 a_one a_two a_what a_ats a_atVar a_atNumber a_atomSort a_atomKind a_atomValue v_wrong v_wrongAt v_variable v_number v_numberKind v_takes a_out v_outed a_varSort a_varKind a_varValue a_creature v_creatures a_arrayClass a_arrayFrom a_arrayLong v_arrays v_cells a_cellSort a_cellKind a_cellValue a_asideSort a_asideKind a_asideValue a_outcome v_marks v_came v_guessed v_right v_taken a_markSort a_markKind a_markClass a_markValue v_sort v_kindAt v_value a_index v_reached v_looked) H := by rw [hH]; exact hP
  have hS : va_S A s.heap H locs := by rw [hH, hlc]; exact hS
  refine wHL hH hlc ?_
  have b_k9 := iB k9
  refine lv_iload_n hx hb dX10_marked_0 rfl (lv_at hl 1 rfl) ?_
  have J33 : ∀ (s0_33 : Int32) (H : Heap) (locs : List Loc) (ls : Array Slot), (s0_33.toInt = 0 ∨ s0_33.toInt = 1) → (s0_33.toInt = 0 ∨ (s0_33.toInt = 1 ∧ 0 ≤ k9.toInt ∧ k9.toInt < 50 ∧ (a_markSort k9.toNatClampNeg).toInt = 1)) → va_P D vwCl (mw cs q v_thrown a_tape v_taped v_size v_to v_kind v_from v_letters v_letterMany v_digits v_isBeyond v_suffix v_steps v_fault v_hasProgram a_text a_act a_guess a_take a_begin a_finish a_to1 a_one a_two a_what a_ats a_atVar a_atNumber a_atomSort a_atomKind a_atomValue v_wrong v_wrongAt v_variable v_number v_numberKind v_takes a_out v_outed a_varSort a_varKind a_varValue a_creature v_creatures a_arrayClass a_arrayFrom a_arrayLong v_arrays v_cells a_cellSort a_cellKind a_cellValue a_asideSort a_asideKind a_asideValue a_outcome v_marks v_came v_guessed v_right v_taken a_markSort a_markKind a_markClass a_markValue v_sort v_kindAt v_value a_index v_reached v_looked) H → va_D A (mw cs q v_thrown a_tape v_taped v_size v_to v_kind v_from v_letters v_letterMany v_digits v_isBeyond v_suffix v_steps v_fault v_hasProgram a_text a_act a_guess a_take a_begin a_finish a_to1 a_one a_two a_what a_ats a_atVar a_atNumber a_atomSort a_atomKind a_atomValue v_wrong v_wrongAt v_variable v_number v_numberKind v_takes a_out v_outed a_varSort a_varKind a_varValue a_creature v_creatures a_arrayClass a_arrayFrom a_arrayLong v_arrays v_cells a_cellSort a_cellKind a_cellValue a_asideSort a_asideKind a_asideValue a_outcome v_marks v_came v_guessed v_right v_taken a_markSort a_markKind a_markClass a_markValue v_sort v_kindAt v_value a_index v_reached v_looked) → va_S A s.heap H locs → lv_has ls 3 [(0, .ref (q 0)), (1, .int k9)] → W p l e (headSpec (wG yX10_marked cX10_marked 3 (some .long)) rmX10_marked).room s m ([.ref (q 0), .int k9] : List Value).toArray below meth c H locs 0 0 Q (F0 m 33 ls [.int s0_33]) := by
    intro s0_33 H locs ls f33_0 f33_1 hP hD hS hl
    refine lv_istore_n (lv' := [(2, .int s0_33), (0, .ref (q 0)), (1, .int k9)]) hx hb dX10_marked_33 rfl hl (by decide) rfl (fun ls hl => ?_)
    refine lv_aload_n hx hb dX10_marked_34 rfl (lv_at hl 1 rfl) ?_
    refine lv_iload_n hx hb dX10_marked_35 rfl (lv_at hl 0 rfl) ?_
    have J44 : ∀ (s1_44 : Int32) (H : Heap) (locs : List Loc) (ls : Array Slot), (s1_44.toInt = 0 ∨ s1_44.toInt = 1) → va_P D vwCl (mw cs q v_thrown a_tape v_taped v_size v_to v_kind v_from v_letters v_letterMany v_digits v_isBeyond v_suffix v_steps v_fault v_hasProgram a_text a_act a_guess a_take a_begin a_finish a_to1 a_one a_two a_what a_ats a_atVar a_atNumber a_atomSort a_atomKind a_atomValue v_wrong v_wrongAt v_variable v_number v_numberKind v_takes a_out v_outed a_varSort a_varKind a_varValue a_creature v_creatures a_arrayClass a_arrayFrom a_arrayLong v_arrays v_cells a_cellSort a_cellKind a_cellValue a_asideSort a_asideKind a_asideValue a_outcome v_marks v_came v_guessed v_right v_taken a_markSort a_markKind a_markClass a_markValue v_sort v_kindAt v_value a_index v_reached v_looked) H → va_D A (mw cs q v_thrown a_tape v_taped v_size v_to v_kind v_from v_letters v_letterMany v_digits v_isBeyond v_suffix v_steps v_fault v_hasProgram a_text a_act a_guess a_take a_begin a_finish a_to1 a_one a_two a_what a_ats a_atVar a_atNumber a_atomSort a_atomKind a_atomValue v_wrong v_wrongAt v_variable v_number v_numberKind v_takes a_out v_outed a_varSort a_varKind a_varValue a_creature v_creatures a_arrayClass a_arrayFrom a_arrayLong v_arrays v_cells a_cellSort a_cellKind a_cellValue a_asideSort a_asideKind a_asideValue a_outcome v_marks v_came v_guessed v_right v_taken a_markSort a_markKind a_markClass a_markValue v_sort v_kindAt v_value a_index v_reached v_looked) → va_S A s.heap H locs → lv_has ls 3 [(0, .ref (q 0)), (1, .int k9), (2, .int s0_33)] → W p l e (headSpec (wG yX10_marked cX10_marked 3 (some .long)) rmX10_marked).room s m ([.ref (q 0), .int k9] : List Value).toArray below meth c H locs 0 0 Q (F0 m 44 ls [.int s1_44, .ref (q 0)]) := by
      intro s1_44 H locs ls f44_0 hP hD hS hl
      refine va_put (D := D) (ci := 9) (v := .int s1_44) (ty := .int) (C := RX10) (T := TX10) (N := 71) hx hb hts hin tyX10 tyX10_ok nmX10 hown hK hP hD hS 0 rfl rfl 0 (by decide) k_7_9 (fun _ h9 => h9) rfl (by decide +kernel) rfl rfl (Nat.le_of_ble_eq_true rfl) dX10_marked_44 (fun H locs hP hD hS => ?_)
      have hP : va_P D vwCl (mw cs q s1_44 a_tape v_taped v_size v_to v_kind v_from v_letters v_letterMany v_digits v_isBeyond v_suffix v_steps v_fault v_hasProgram a_text a_act a_guess a_take a_begin a_finish a_to1 a_one a_two a_what a_ats a_atVar a_atNumber a_atomSort a_atomKind a_atomValue v_wrong v_wrongAt v_variable v_number v_numberKind v_takes a_out v_outed a_varSort a_varKind a_varValue a_creature v_creatures a_arrayClass a_arrayFrom a_arrayLong v_arrays v_cells a_cellSort a_cellKind a_cellValue a_asideSort a_asideKind a_asideValue a_outcome v_marks v_came v_guessed v_right v_taken a_markSort a_markKind a_markClass a_markValue v_sort v_kindAt v_value a_index v_reached v_looked) H := hP
      have hD : va_D A (mw cs q s1_44 a_tape v_taped v_size v_to v_kind v_from v_letters v_letterMany v_digits v_isBeyond v_suffix v_steps v_fault v_hasProgram a_text a_act a_guess a_take a_begin a_finish a_to1 a_one a_two a_what a_ats a_atVar a_atNumber a_atomSort a_atomKind a_atomValue v_wrong v_wrongAt v_variable v_number v_numberKind v_takes a_out v_outed a_varSort a_varKind a_varValue a_creature v_creatures a_arrayClass a_arrayFrom a_arrayLong v_arrays v_cells a_cellSort a_cellKind a_cellValue a_asideSort a_asideKind a_asideValue a_outcome v_marks v_came v_guessed v_right v_taken a_markSort a_markKind a_markClass a_markValue v_sort v_kindAt v_value a_index v_reached v_looked) := hD
      refine lv_iload_n hx hb dX10_marked_47 rfl (lv_at hl 2 rfl) ?_
      refine m_if_eq (X := s0_33.toInt) (tgt := 69) hx hb dX10_marked_48 (by decide) rfl (fun c48 => ?_) (fun c48 => ?_)
      · skip
        refine lv_lconst (v := 0) hx hb dX10_marked_69 (by decide) ?_
        subst hAe
        rw [hQ]
        exact W.lret (v := 0) hx hb hr (fun t ht hW => ⟨⟨0, _, rfl, ⟨s1_44, rfl⟩, by rw [ht]; exact hP, va_K.moved hW.alike hK, hD⟩, hS.F ht⟩) hS.2.2 dX10_marked_70
      · skip
        refine lv_aload_n hx hb dX10_marked_51 rfl (lv_at hl 0 rfl) ?_
        refine va_get (D := D) (ci := 9) (v := .ref (q 34)) (C := RX10) (T := TX10) (N := 71) hx hb hts hin hown hK hP 0 rfl rfl 62 (by decide) k_6_16 (fun _ h9 => h9) rfl dX10_marked_52 ?_
        refine lv_iload_n hx hb dX10_marked_55 rfl (lv_at hl 1 rfl) ?_
        refine m_iald hx hb hK hP 34 0 rfl rfl (ix (by omega) (by omega)) dX10_marked_56 (fun x56 e_x56 => ?_)
        have b_x56 := iB x56
        refine lv_aload_n hx hb dX10_marked_57 rfl (lv_at hl 0 rfl) ?_
        refine va_get (D := D) (ci := 9) (v := .ref (q 36)) (C := RX10) (T := TX10) (N := 71) hx hb hts hin hown hK hP 0 rfl rfl 64 (by decide) k_6_18 (fun _ h9 => h9) rfl dX10_marked_58 ?_
        refine lv_iload_n hx hb dX10_marked_61 rfl (lv_at hl 1 rfl) ?_
        refine m_lald hx hb hK hP 36 1 rfl rfl (ix (by omega) (by omega)) dX10_marked_62 (fun x62 e_x62 => ?_)
        have b_x62 := jB x62
        refine call_jSP (As := [.int x56, .long x62]) (rest := []) ⟨hx, hb, hml, hown, hts⟩ (tX10_whole (l := l) x56 x62 (by (rw [e_x56, e_x62]; exact p_0 _ (f33_1.resolve_left (fun q => by omega)).2.2.2))) (va_cwS 2 hts (gS (wr52 _ (List.mem_of_getElem? (i := 15) rfl)) (wr52 _ (List.mem_of_getElem? (i := 16) rfl)) (wr1 _ (List.mem_of_getElem? (i := 5) rfl)) (wr52 _ (List.mem_of_getElem? (i := 17) rfl))) rfl rfl rfl (by decide +kernel) ⟨Nat.le_of_ble_eq_true rfl, Nat.le_of_ble_eq_true rfl⟩) (hK.sub [] rfl) hP hD hE hS hA rfl hl.1 rfl (Nat.le_of_ble_eq_true rfl) dX10_marked_63 ⟨Nat.le_of_ble_eq_true rfl, Nat.le_of_ble_eq_true rfl⟩ (fun r63 w9 H locs hw63 hP hD hS => ?_)
        obtain ⟨rfl⟩ := hw63
        have b_r63 := jB r63
        refine lv_goto (tgt := 70) hx hb dX10_marked_66 (by decide) ?_
        subst hAe
        rw [hQ]
        exact W.lret (v := r63) hx hb hr (fun t ht hW => ⟨⟨r63, _, rfl, ⟨s1_44, rfl⟩, by rw [ht]; exact hP, va_K.moved hW.alike hK, hD⟩, hS.F ht⟩) hS.2.2 dX10_marked_70
    refine m_if_eq (X := s0_33.toInt) (tgt := 43) hx hb dX10_marked_36 (by decide) rfl (fun c36 => ?_) (fun c36 => ?_)
    · skip
      refine lv_iconst (v := 1) hx hb dX10_marked_43 (by decide) ?_
      exact J44 (1 : Int32) H locs ls (by first | decide | omega) hP hD hS (lv_sub hl [1, 2, 0] rfl)
    · skip
      refine lv_iconst (v := 0) hx hb dX10_marked_39 (by decide) ?_
      refine lv_goto (tgt := 44) hx hb dX10_marked_40 (by decide) ?_
      exact J44 (0 : Int32) H locs ls (by first | decide | omega) hP hD hS (lv_sub hl [1, 2, 0] rfl)
  have J32 : ∀ (H : Heap) (locs : List Loc) (ls : Array Slot), va_P D vwCl (mw cs q v_thrown a_tape v_taped v_size v_to v_kind v_from v_letters v_letterMany v_digits v_isBeyond v_suffix v_steps v_fault v_hasProgram a_text a_act a_guess a_take a_begin a_finish a_to1 a_one a_two a_what a_ats a_atVar a_atNumber a_atomSort a_atomKind a_atomValue v_wrong v_wrongAt v_variable v_number v_numberKind v_takes a_out v_outed a_varSort a_varKind a_varValue a_creature v_creatures a_arrayClass a_arrayFrom a_arrayLong v_arrays v_cells a_cellSort a_cellKind a_cellValue a_asideSort a_asideKind a_asideValue a_outcome v_marks v_came v_guessed v_right v_taken a_markSort a_markKind a_markClass a_markValue v_sort v_kindAt v_value a_index v_reached v_looked) H → va_D A (mw cs q v_thrown a_tape v_taped v_size v_to v_kind v_from v_letters v_letterMany v_digits v_isBeyond v_suffix v_steps v_fault v_hasProgram a_text a_act a_guess a_take a_begin a_finish a_to1 a_one a_two a_what a_ats a_atVar a_atNumber a_atomSort a_atomKind a_atomValue v_wrong v_wrongAt v_variable v_number v_numberKind v_takes a_out v_outed a_varSort a_varKind a_varValue a_creature v_creatures a_arrayClass a_arrayFrom a_arrayLong v_arrays v_cells a_cellSort a_cellKind a_cellValue a_asideSort a_asideKind a_asideValue a_outcome v_marks v_came v_guessed v_right v_taken a_markSort a_markKind a_markClass a_markValue v_sort v_kindAt v_value a_index v_reached v_looked) → va_S A s.heap H locs → lv_has ls 3 [(0, .ref (q 0)), (1, .int k9)] → W p l e (headSpec (wG yX10_marked cX10_marked 3 (some .long)) rmX10_marked).room s m ([.ref (q 0), .int k9] : List Value).toArray below meth c H locs 0 0 Q (F0 m 32 ls []) := by
    intro H locs ls hP hD hS hl
    refine lv_iconst (v := 0) hx hb dX10_marked_32 (by decide) ?_
    exact J33 (0 : Int32) H locs ls (by first | decide | omega) (by first | exact Or.inl (by decide) | exact Or.inr ⟨by decide, by omega, by omega, by omega⟩) hP hD hS (lv_sub hl [0, 1] rfl)
  refine m_if_lt (X := k9.toInt) (tgt := 32) hx hb dX10_marked_1 (by decide) rfl (fun c1 => ?_) (fun c1 => ?_)
  · skip
    exact J32 H locs ls hP hD hS (lv_sub hl [0, 1] rfl)
  · skip
    refine lv_iload_n hx hb dX10_marked_4 rfl (lv_at hl 1 rfl) ?_
    refine lv_aload_n hx hb dX10_marked_5 rfl (lv_at hl 0 rfl) ?_
    refine va_get (D := D) (ci := 9) (v := .int v_marks) (C := RX10) (T := TX10) (N := 71) hx hb hts hin hown hK hP 0 rfl rfl 56 (by decide) k_31_6 (fun _ h9 => h9) rfl dX10_marked_6 ?_
    refine m_icmp_ge (X := k9.toInt) (Y := v_marks.toInt) (tgt := 32) hx hb dX10_marked_9 (by decide) rfl rfl (fun c9 => ?_) (fun c9 => ?_)
    · skip
      exact J32 H locs ls hP hD hS (lv_sub hl [0, 1] rfl)
    · skip
      refine lv_iload_n hx hb dX10_marked_12 rfl (lv_at hl 1 rfl) ?_
      refine lv_bipush (v := 50) hx hb dX10_marked_13 (by decide) ?_
      refine m_icmp_ge (X := k9.toInt) (Y := 50) (tgt := 32) hx hb dX10_marked_15 (by decide) rfl (by decide) (fun c15 => ?_) (fun c15 => ?_)
      · skip
        exact J32 H locs ls hP hD hS (lv_sub hl [0, 1] rfl)
      · skip
        refine lv_aload_n hx hb dX10_marked_18 rfl (lv_at hl 0 rfl) ?_
        refine va_get (D := D) (ci := 9) (v := .ref (q 33)) (C := RX10) (T := TX10) (N := 71) hx hb hts hin hown hK hP 0 rfl rfl 61 (by decide) k_6_15 (fun _ h9 => h9) rfl dX10_marked_19 ?_
        refine lv_iload_n hx hb dX10_marked_22 rfl (lv_at hl 1 rfl) ?_
        refine m_iald hx hb hK hP 33 0 rfl rfl (ix (by omega) (by omega)) dX10_marked_23 (fun x23 e_x23 => ?_)
        have b_x23 := iB x23
        have hx23 := congrArg Int32.toInt e_x23
        refine lv_iconst (v := 1) hx hb dX10_marked_24 (by decide) ?_
        refine m_icmp_ne (X := x23.toInt) (Y := 1) (tgt := 32) hx hb dX10_marked_25 (by decide) rfl (by decide) (fun c25 => ?_) (fun c25 => ?_)
        · skip
          exact J32 H locs ls hP hD hS (lv_sub hl [0, 1] rfl)
        · skip
          refine lv_iconst (v := 1) hx hb dX10_marked_28 (by decide) ?_
          refine lv_goto (tgt := 33) hx hb dX10_marked_29 (by decide) ?_
          exact J33 (1 : Int32) H locs ls (by first | decide | omega) (by first | exact Or.inl (by decide) | exact Or.inr ⟨by decide, by omega, by omega, by omega⟩) hP hD hS (lv_sub hl [0, 1] rfl)

def rmX10_name : Room := { frames := 100, cells := 0, slots := 0, locals := 2000 }
set_option maxHeartbeats 4000000 in
set_option maxRecDepth 100000 in
theorem tX10_name {l : Launch} {D : va_G} {K : Nat → Nat → Nat} {cs : Nat → ClassId} {q : Nat → Nat} {v_thrown v_taped v_size v_to v_kind v_from v_letterMany v_isBeyond v_suffix v_steps v_fault v_hasProgram v_wrong v_wrongAt v_variable v_numberKind v_takes v_outed v_creatures v_arrays v_cells v_marks v_came v_guessed v_right v_taken v_sort v_kindAt v_reached v_looked : Int32} {a_tape a_text a_act a_guess a_take a_begin a_finish a_to1 a_one a_two a_what a_ats a_atVar a_atNumber a_atomSort a_atomKind a_out a_varSort a_varKind a_creature a_arrayClass a_arrayFrom a_arrayLong a_cellSort a_cellKind a_asideSort a_asideKind a_outcome a_markSort a_markKind a_markClass a_index : Nat → Int32} {v_letters v_digits v_number v_value : Int64} {a_atomValue a_varValue a_cellValue a_asideValue a_markValue : Nat → Int64} (n9 : Int32) (i9 : Int32) : CtI l yX10_name (wG yX10_name cX10_name 5 (some .int)) rmX10_name D (mwT cs) K [.ref (q 0), .int n9, .int i9] (mw cs q v_thrown a_tape v_taped v_size v_to v_kind v_from v_letters v_letterMany v_digits v_isBeyond v_suffix v_steps v_fault v_hasProgram a_text a_act a_guess a_take a_begin a_finish a_to1 a_one a_two a_what a_ats a_atVar a_atNumber a_atomSort a_atomKind a_atomValue v_wrong v_wrongAt v_variable v_number v_numberKind v_takes a_out v_outed a_varSort a_varKind a_varValue a_creature v_creatures a_arrayClass a_arrayFrom a_arrayLong v_arrays v_cells a_cellSort a_cellKind a_cellValue a_asideSort a_asideKind a_asideValue a_outcome v_marks v_came v_guessed v_right v_taken a_markSort a_markKind a_markClass a_markValue v_sort v_kindAt v_value a_index v_reached v_looked) (fun r w1 => ∃ (v_thrown' : Int32), w1 = (mw cs q v_thrown' a_tape v_taped v_size v_to v_kind v_from v_letters v_letterMany v_digits v_isBeyond v_suffix v_steps v_fault v_hasProgram a_text a_act a_guess a_take a_begin a_finish a_to1 a_one a_two a_what a_ats a_atVar a_atNumber a_atomSort a_atomKind a_atomValue v_wrong v_wrongAt v_variable v_number v_numberKind v_takes a_out v_outed a_varSort a_varKind a_varValue a_creature v_creatures a_arrayClass a_arrayFrom a_arrayLong v_arrays v_cells a_cellSort a_cellKind a_cellValue a_asideSort a_asideKind a_asideValue a_outcome v_marks v_came v_guessed v_right v_taken a_markSort a_markKind a_markClass a_markValue v_sort v_kindAt v_value a_index v_reached v_looked) ∧ (NMq n9.toInt i9.toInt r.toInt)) 0 0 := by
  intro sz
  refine Met.ofW (cc := cX10_name) (maxL := 5) (ret := (some .int)) (by decide) rfl ?_
  intro p e s m args below meth c s₁ B hml hv
  obtain ⟨rfl, hsz, hP, hK, hD0, hE⟩ := hv
  have hx := B.exec
  have hb := B.bytes
  have hr := B.returns
  have hts := atoms_spec (ws := (wG yX10_name cX10_name 5 (some .int))) B.pre
  have hown : s.vm.findClass RX10 = some m.cls := findClass_of_methodNamed B.named
  have hlocks := B.notSynchronized
  subst hsz
  have hD := hD0.self (sz := s.heap.size)
  obtain ⟨A, hAe⟩ : ∃ A : Nat → Prop, A = va_A (mw cs q v_thrown a_tape v_taped v_size v_to v_kind v_from v_letters v_letterMany v_digits v_isBeyond v_suffix v_steps v_fault v_hasProgram a_text a_act a_guess a_take a_begin a_finish a_to1 a_one a_two a_what a_ats a_atVar a_atNumber a_atomSort a_atomKind a_atomValue v_wrong v_wrongAt v_variable v_number v_numberKind v_takes a_out v_outed a_varSort a_varKind a_varValue a_creature v_creatures a_arrayClass a_arrayFrom a_arrayLong v_arrays v_cells a_cellSort a_cellKind a_cellValue a_asideSort a_asideKind a_asideValue a_outcome v_marks v_came v_guessed v_right v_taken a_markSort a_markKind a_markClass a_markValue v_sort v_kindAt v_value a_index v_reached v_looked) s.heap.size := ⟨_, rfl⟩
  rw [← hAe] at hD hE
  have hA : ∀ q : Nat, s.heap.size ≤ q → A q := fun q h => by rw [hAe]; exact Or.inr h
  have hS : va_S A s.heap s.heap [] := va_S.rf
  have hl := lv_entry ([.ref (q 0), .int n9, .int i9]) (n := 5) (Nat.le_of_ble_eq_true rfl)
  rw [lg_entry_eq]
  generalize (lg_sl ([.ref (q 0), .int n9, .int i9]) ++ List.replicate (5 - (lg_sl ([.ref (q 0), .int n9, .int i9])).length) Slot.unset).toArray = ls at hl ⊢
  have hl : lv_has ls 5 [(0, .ref (q 0)), (1, .int n9), (2, .int i9)] := hl
  refine wq (fun Q hQ => ?_)
  have hin : ∀ w ∈ wsX100, w ∈ (wG yX10_name cX10_name 5 (some .int)) := fun w h => List.mem_cons_of_mem _ (inlX10 w h)
  have kc0 : (-1 : Int32).toInt = -1 := by decide
  have kc1 : (0 : Int32).toInt = 0 := by decide
  have kc2 : (2 : Int32).toInt = 2 := by decide
  have kc3 : (20 : Int32).toInt = 20 := by decide
  have kc4 : (91 : Int32).toInt = 91 := by decide
  have kc5 : (93 : Int32).toInt = 93 := by decide
  have k_7_9 := hts (.fieldLink RX10 122 "ArrayTrainerModel" "thrown" "I") (List.mem_cons_of_mem _ (wr7 _ (List.mem_of_getElem? (i := 9) rfl)))
  obtain ⟨H, hH⟩ : ∃ H : Heap, H = s.heap := ⟨_, rfl⟩
  obtain ⟨locs, hlc⟩ : ∃ L : List Loc, L = [] := ⟨_, rfl⟩
  have hP : va_P D vwCl (mw cs q v_thrown a_tape v_taped v_size v_to v_kind v_from v_letters v_letterMany v_digits v_isBeyond v_suffix v_steps v_fault v_hasProgram a_text a_act a_guess a_take a_begin a_finish a_to1 a_one a_two a_what a_ats a_atVar a_atNumber a_atomSort a_atomKind a_atomValue v_wrong v_wrongAt v_variable v_number v_numberKind v_takes a_out v_outed a_varSort a_varKind a_varValue a_creature v_creatures a_arrayClass a_arrayFrom a_arrayLong v_arrays v_cells a_cellSort a_cellKind a_cellValue a_asideSort a_asideKind a_asideValue a_outcome v_marks v_came v_guessed v_right v_taken a_markSort a_markKind a_markClass a_markValue v_sort v_kindAt v_value a_index v_reached v_looked) H := by rw [hH]; exact hP
  have hS : va_S A s.heap H locs := by rw [hH, hlc]; exact hS
  refine wHL hH hlc ?_
  have b_n9 := iB n9
  have b_i9 := iB i9
  refine lv_aload_n hx hb dX10_name_0 rfl (lv_at hl 0 rfl) ?_
  refine lv_iconst (v := 0) hx hb dX10_name_1 (by decide) ?_
  refine va_put (D := D) (ci := 9) (v := .int 0) (ty := .int) (C := RX10) (T := TX10) (N := 71) hx hb hts hin tyX10 tyX10_ok nmX10 hown hK hP hD hS 0 rfl rfl 0 (by decide) k_7_9 (fun _ h9 => h9) rfl (by decide +kernel) rfl rfl (Nat.le_of_ble_eq_true rfl) dX10_name_2 (fun H locs hP hD hS => ?_)
  have hP : va_P D vwCl (mw cs q (0 : Int32) a_tape v_taped v_size v_to v_kind v_from v_letters v_letterMany v_digits v_isBeyond v_suffix v_steps v_fault v_hasProgram a_text a_act a_guess a_take a_begin a_finish a_to1 a_one a_two a_what a_ats a_atVar a_atNumber a_atomSort a_atomKind a_atomValue v_wrong v_wrongAt v_variable v_number v_numberKind v_takes a_out v_outed a_varSort a_varKind a_varValue a_creature v_creatures a_arrayClass a_arrayFrom a_arrayLong v_arrays v_cells a_cellSort a_cellKind a_cellValue a_asideSort a_asideKind a_asideValue a_outcome v_marks v_came v_guessed v_right v_taken a_markSort a_markKind a_markClass a_markValue v_sort v_kindAt v_value a_index v_reached v_looked) H := hP
  have hD : va_D A (mw cs q (0 : Int32) a_tape v_taped v_size v_to v_kind v_from v_letters v_letterMany v_digits v_isBeyond v_suffix v_steps v_fault v_hasProgram a_text a_act a_guess a_take a_begin a_finish a_to1 a_one a_two a_what a_ats a_atVar a_atNumber a_atomSort a_atomKind a_atomValue v_wrong v_wrongAt v_variable v_number v_numberKind v_takes a_out v_outed a_varSort a_varKind a_varValue a_creature v_creatures a_arrayClass a_arrayFrom a_arrayLong v_arrays v_cells a_cellSort a_cellKind a_cellValue a_asideSort a_asideKind a_asideValue a_outcome v_marks v_came v_guessed v_right v_taken a_markSort a_markKind a_markClass a_markValue v_sort v_kindAt v_value a_index v_reached v_looked) := hD
  refine lv_iload_n hx hb dX10_name_5 rfl (lv_at hl 1 rfl) ?_
  refine call_iSP (As := [.int n9]) (rest := []) ⟨hx, hb, hml, hown, hts⟩ (tX10_isClass (l := l) n9) (va_cwS 1 hts (gS (wr58 _ (List.mem_of_getElem? (i := 8) rfl)) (wr58 _ (List.mem_of_getElem? (i := 9) rfl)) (wr1 _ (List.mem_of_getElem? (i := 5) rfl)) (wr58 _ (List.mem_of_getElem? (i := 10) rfl))) rfl rfl rfl (by decide +kernel) ⟨Nat.le_of_ble_eq_true rfl, Nat.le_of_ble_eq_true rfl⟩) (hK.sub [] rfl) hP hD hE hS hA rfl hl.1 rfl (Nat.le_of_ble_eq_true rfl) dX10_name_6 ⟨Nat.le_of_ble_eq_true rfl, Nat.le_of_ble_eq_true rfl⟩ (fun r6 w9 H locs hw6 hP hD hS => ?_)
  obtain ⟨rfl, hw6_0⟩ := hw6
  have b_r6 := iB r6
  refine m_if_eq (X := r6.toInt) (tgt := 16) hx hb dX10_name_9 (by decide) rfl (fun c9 => ?_) (fun c9 => ?_)
  · skip
    refine lv_iconst (v := (-1)) hx hb dX10_name_16 (by decide) ?_
    subst hAe
    rw [hQ]
    exact W.iret (v := (-1)) hx hb hr (fun t ht hW => ⟨⟨(-1), _, rfl, ⟨(0 : Int32), rfl, by first | exact NMq.bad (by decide) (fun q => (hw6_0.resolve_left (fun z => by omega)).2 q.1) | exact NMq.bad (by decide) (fun q => by have z := q.2; omega) | (have hc := (hw6_0.resolve_right (fun z => by omega)).2; have hi9 := id hc; unfold ICp at hi9; have hx9 : x21.toInt = n9.toInt % 20 := (by omega); have hk9 : tx_r22 = kwL.getD (n9.toInt % 20).toNat [] := (by rw [hw22_0 (by omega) (by omega), tnN (i := x21) (by omega), hx9]); first | exact NMq.out hc (by omega) hk9 (by omega) (by omega) (by decide) | exact NMq.opn hc (by omega) hk9 (by omega) (by omega) (by omega) (by decide) | exact NMq.cls hc (by omega) hk9 (by omega) (by omega) (by omega) (by decide) | exact NMq.chr hc (by omega) hk9 (by omega) (by rw [hw36_0, tnN (i := i9) (by omega)]))⟩, by rw [ht]; exact hP, va_K.moved hW.alike hK, hD⟩, hS.F ht⟩) hS.2.2 dX10_name_17
  · skip
    refine lv_iload_n hx hb dX10_name_12 rfl (lv_at hl 2 rfl) ?_
    refine m_if_ge (X := i9.toInt) (tgt := 18) hx hb dX10_name_13 (by decide) rfl (fun c13 => ?_) (fun c13 => ?_)
    · skip
      refine lv_iload_n hx hb dX10_name_18 rfl (lv_at hl 1 rfl) ?_
      refine lv_bipush (v := 20) hx hb dX10_name_19 (by decide) ?_
      refine m_irem hx hb dX10_name_21 (by decide) (fun x21 e_x21 => ?_)
      have b_x21 := iB x21
      obtain ⟨k_x21, g_x21⟩ := iRemL (x := n9) (y := (20 : Int32)) (z := x21) (Y := 20) (by decide) (by decide) e_x21
      refine call_rSP (As := [.int x21]) (rest := []) ⟨hx, hb, hml, hown, hts⟩ (tX10_kindWord (l := l) x21) (va_cwS 1 hts (gS (wr29 _ (List.mem_of_getElem? (i := 1) rfl)) (wr29 _ (List.mem_of_getElem? (i := 2) rfl)) (wr1 _ (List.mem_of_getElem? (i := 5) rfl)) (wr29 _ (List.mem_of_getElem? (i := 3) rfl))) rfl rfl rfl (by decide +kernel) ⟨Nat.le_of_ble_eq_true rfl, Nat.le_of_ble_eq_true rfl⟩) (hK.sub [] rfl) hP hD hE hS hA rfl hl.1 rfl (Nat.le_of_ble_eq_true rfl) dX10_name_22 ⟨Nat.le_of_ble_eq_true rfl, Nat.le_of_ble_eq_true rfl⟩ (fun r22 w9 H locs hw22 hP hD hS => ?_)
      obtain ⟨rfl, i_r22, tx_r22, rfl, so_r22, hw22_0⟩ := hw22
      have ln_r22 := sOf_len so_r22
      refine lv_astore_n (lv' := [(3, .ref (K 0 i_r22)), (0, .ref (q 0)), (1, .int n9), (2, .int i9)]) hx hb dX10_name_25 rfl hl (by decide) rfl (fun ls hl => ?_)
      refine lv_iload_n hx hb dX10_name_26 rfl (lv_at hl 3 rfl) ?_
      refine lv_aload_n hx hb dX10_name_27 rfl (lv_at hl 0 rfl) ?_
      refine call_iP (As := []) (rest := [.int i9]) ⟨hx, hb, hml, hown, hts⟩ (tJ0_length_8abf5 (l := l) i_r22 so_r22 ) (cwV 0 hts (gV (wr24 _ (List.mem_of_getElem? (i := 15) rfl)) (wr11 _ (List.mem_of_getElem? (i := 0) rfl)) (wr11 _ (List.mem_of_getElem? (i := 1) rfl)) (wr10 _ (List.mem_of_getElem? (i := 10) rfl)) (wr11 _ (List.mem_of_getElem? (i := 2) rfl))) rfl rfl rfl (by decide +kernel) ⟨Nat.le_of_ble_eq_true rfl, Nat.le_of_ble_eq_true rfl⟩) (sRecv (hE.str so_r22) hS) (hK.sub [] rfl) hP hD hE hS hA rfl hl.1 rfl (Nat.le_of_ble_eq_true rfl) dX10_name_28 ⟨Nat.le_of_ble_eq_true rfl, Nat.le_of_ble_eq_true rfl⟩ (fun r28 w9 H locs hw28 hP hD hS => ?_)
      obtain ⟨rfl, hw28_0⟩ := hw28
      have b_r28 := iB r28
      refine m_icmp_ge (X := i9.toInt) (Y := r28.toInt) (tgt := 40) hx hb dX10_name_31 (by decide) rfl rfl (fun c31 => ?_) (fun c31 => ?_)
      · skip
        refine lv_iload_n hx hb dX10_name_40 rfl (lv_at hl 3 rfl) ?_
        refine lv_aload_n hx hb dX10_name_41 rfl (lv_at hl 0 rfl) ?_
        refine call_iP (As := []) (rest := [.int i9]) ⟨hx, hb, hml, hown, hts⟩ (tJ0_length_8abf5 (l := l) i_r22 so_r22 ) (cwV 0 hts (gV (wr24 _ (List.mem_of_getElem? (i := 15) rfl)) (wr11 _ (List.mem_of_getElem? (i := 0) rfl)) (wr11 _ (List.mem_of_getElem? (i := 1) rfl)) (wr10 _ (List.mem_of_getElem? (i := 10) rfl)) (wr11 _ (List.mem_of_getElem? (i := 2) rfl))) rfl rfl rfl (by decide +kernel) ⟨Nat.le_of_ble_eq_true rfl, Nat.le_of_ble_eq_true rfl⟩) (sRecv (hE.str so_r22) hS) (hK.sub [] rfl) hP hD hE hS hA rfl hl.1 rfl (Nat.le_of_ble_eq_true rfl) dX10_name_42 ⟨Nat.le_of_ble_eq_true rfl, Nat.le_of_ble_eq_true rfl⟩ (fun r42 w9 H locs hw42 hP hD hS => ?_)
        obtain ⟨rfl, hw42_0⟩ := hw42
        have b_r42 := iB r42
        refine m_isub (X := i9.toInt) (Y := r42.toInt) hx hb dX10_name_45 rfl rfl (fun x45 e_x45 g9 => ?_)
        obtain ⟨k_x45, g_x45⟩ := g9
        have b_x45 := iB x45
        try (have q_x45 : x45.toInt = i9.toInt - r42.toInt := (by omega); clear g_x45 k_x45)
        refine lv_istore (lv' := [(4, .int x45), (3, .ref (K 0 i_r22)), (0, .ref (q 0)), (1, .int n9), (2, .int i9)]) hx hb dX10_name_46 hl (by decide) rfl (fun ls hl => ?_)
        refine lv_iload hx hb dX10_name_48 (lv_at hl 0 rfl) ?_
        refine lv_iload_n hx hb dX10_name_50 rfl (lv_at hl 3 rfl) ?_
        refine lv_bipush (v := 20) hx hb dX10_name_51 (by decide) ?_
        refine m_idiv hx hb dX10_name_53 (by decide) (fun x53 e_x53 => ?_)
        have b_x53 := iB x53
        obtain ⟨k_x53, g_x53⟩ := iDivL (x := n9) (y := (20 : Int32)) (z := x53) (Y := 20) (by decide) (by decide) e_x53
        refine lv_iconst (v := 2) hx hb dX10_name_54 (by decide) ?_
        refine m_imul (X := x53.toInt) (Y := 2) hx hb dX10_name_55 rfl (by decide) (fun x55 e_x55 g9 => ?_)
        obtain ⟨k_x55, g_x55⟩ := g9
        have b_x55 := iB x55
        try (have q_x55 : x55.toInt = x53.toInt * 2 := (by omega); clear g_x55 k_x55)
        refine m_icmp_lt (X := x45.toInt) (Y := x55.toInt) (tgt := 63) hx hb dX10_name_56 (by decide) rfl rfl (fun c56 => ?_) (fun c56 => ?_)
        · skip
          refine lv_iload hx hb dX10_name_63 (lv_at hl 0 rfl) ?_
          refine lv_iconst (v := 2) hx hb dX10_name_65 (by decide) ?_
          refine m_irem hx hb dX10_name_66 (by decide) (fun x66 e_x66 => ?_)
          have b_x66 := iB x66
          obtain ⟨k_x66, g_x66⟩ := iRemL (x := x45) (y := (2 : Int32)) (z := x66) (Y := 2) (by decide) (by decide) e_x66
          refine m_if_ne (X := x66.toInt) (tgt := 75) hx hb dX10_name_67 (by decide) rfl (fun c67 => ?_) (fun c67 => ?_)
          · skip
            refine lv_bipush (v := 93) hx hb dX10_name_75 (by decide) ?_
            subst hAe
            rw [hQ]
            exact W.iret (v := 93) hx hb hr (fun t ht hW => ⟨⟨93, _, rfl, ⟨(0 : Int32), rfl, by first | exact NMq.bad (by decide) (fun q => (hw6_0.resolve_left (fun z => by omega)).2 q.1) | exact NMq.bad (by decide) (fun q => by have z := q.2; omega) | (have hc := (hw6_0.resolve_right (fun z => by omega)).2; have hi9 := id hc; unfold ICp at hi9; have hx9 : x21.toInt = n9.toInt % 20 := (by omega); have hk9 : tx_r22 = kwL.getD (n9.toInt % 20).toNat [] := (by rw [hw22_0 (by omega) (by omega), tnN (i := x21) (by omega), hx9]); first | exact NMq.out hc (by omega) hk9 (by omega) (by omega) (by decide) | exact NMq.opn hc (by omega) hk9 (by omega) (by omega) (by omega) (by decide) | exact NMq.cls hc (by omega) hk9 (by omega) (by omega) (by omega) (by decide) | exact NMq.chr hc (by omega) hk9 (by omega) (by rw [hw36_0, tnN (i := i9) (by omega)]))⟩, by rw [ht]; exact hP, va_K.moved hW.alike hK, hD⟩, hS.F ht⟩) hS.2.2 dX10_name_77
          · skip
            refine lv_bipush (v := 91) hx hb dX10_name_70 (by decide) ?_
            refine lv_goto (tgt := 77) hx hb dX10_name_72 (by decide) ?_
            subst hAe
            rw [hQ]
            exact W.iret (v := 91) hx hb hr (fun t ht hW => ⟨⟨91, _, rfl, ⟨(0 : Int32), rfl, by first | exact NMq.bad (by decide) (fun q => (hw6_0.resolve_left (fun z => by omega)).2 q.1) | exact NMq.bad (by decide) (fun q => by have z := q.2; omega) | (have hc := (hw6_0.resolve_right (fun z => by omega)).2; have hi9 := id hc; unfold ICp at hi9; have hx9 : x21.toInt = n9.toInt % 20 := (by omega); have hk9 : tx_r22 = kwL.getD (n9.toInt % 20).toNat [] := (by rw [hw22_0 (by omega) (by omega), tnN (i := x21) (by omega), hx9]); first | exact NMq.out hc (by omega) hk9 (by omega) (by omega) (by decide) | exact NMq.opn hc (by omega) hk9 (by omega) (by omega) (by omega) (by decide) | exact NMq.cls hc (by omega) hk9 (by omega) (by omega) (by omega) (by decide) | exact NMq.chr hc (by omega) hk9 (by omega) (by rw [hw36_0, tnN (i := i9) (by omega)]))⟩, by rw [ht]; exact hP, va_K.moved hW.alike hK, hD⟩, hS.F ht⟩) hS.2.2 dX10_name_77
        · skip
          refine lv_iconst (v := (-1)) hx hb dX10_name_59 (by decide) ?_
          refine lv_goto (tgt := 77) hx hb dX10_name_60 (by decide) ?_
          subst hAe
          rw [hQ]
          exact W.iret (v := (-1)) hx hb hr (fun t ht hW => ⟨⟨(-1), _, rfl, ⟨(0 : Int32), rfl, by first | exact NMq.bad (by decide) (fun q => (hw6_0.resolve_left (fun z => by omega)).2 q.1) | exact NMq.bad (by decide) (fun q => by have z := q.2; omega) | (have hc := (hw6_0.resolve_right (fun z => by omega)).2; have hi9 := id hc; unfold ICp at hi9; have hx9 : x21.toInt = n9.toInt % 20 := (by omega); have hk9 : tx_r22 = kwL.getD (n9.toInt % 20).toNat [] := (by rw [hw22_0 (by omega) (by omega), tnN (i := x21) (by omega), hx9]); first | exact NMq.out hc (by omega) hk9 (by omega) (by omega) (by decide) | exact NMq.opn hc (by omega) hk9 (by omega) (by omega) (by omega) (by decide) | exact NMq.cls hc (by omega) hk9 (by omega) (by omega) (by omega) (by decide) | exact NMq.chr hc (by omega) hk9 (by omega) (by rw [hw36_0, tnN (i := i9) (by omega)]))⟩, by rw [ht]; exact hP, va_K.moved hW.alike hK, hD⟩, hS.F ht⟩) hS.2.2 dX10_name_77
      · skip
        refine lv_aload_n hx hb dX10_name_34 rfl (lv_at hl 0 rfl) ?_
        refine lv_iload_n hx hb dX10_name_35 rfl (lv_at hl 3 rfl) ?_
        refine call_iP (As := [.int i9]) (rest := []) ⟨hx, hb, hml, hown, hts⟩ (tJ0_charAt_5068e (l := l) i_r22 so_r22 i9 (by first | assumption | omega | (intros; omega) | decide) (by first | assumption | omega | (intros; omega) | decide)) (cwV 1 hts (gV (wr24 _ (List.mem_of_getElem? (i := 16) rfl)) (wr14 _ (List.mem_of_getElem? (i := 17) rfl)) (wr14 _ (List.mem_of_getElem? (i := 18) rfl)) (wr10 _ (List.mem_of_getElem? (i := 10) rfl)) (wr14 _ (List.mem_of_getElem? (i := 19) rfl))) rfl rfl rfl (by decide +kernel) ⟨Nat.le_of_ble_eq_true rfl, Nat.le_of_ble_eq_true rfl⟩) (sRecv (hE.str so_r22) hS) (hK.sub [] rfl) hP hD hE hS hA rfl hl.1 rfl (Nat.le_of_ble_eq_true rfl) dX10_name_36 ⟨Nat.le_of_ble_eq_true rfl, Nat.le_of_ble_eq_true rfl⟩ (fun r36 w9 H locs hw36 hP hD hS => ?_)
        obtain ⟨rfl, hw36_0⟩ := hw36
        have b_r36 := iB r36
        subst hAe
        rw [hQ]
        exact W.iret (v := r36) hx hb hr (fun t ht hW => ⟨⟨r36, _, rfl, ⟨(0 : Int32), rfl, by first | exact NMq.bad (by decide) (fun q => (hw6_0.resolve_left (fun z => by omega)).2 q.1) | exact NMq.bad (by decide) (fun q => by have z := q.2; omega) | (have hc := (hw6_0.resolve_right (fun z => by omega)).2; have hi9 := id hc; unfold ICp at hi9; have hx9 : x21.toInt = n9.toInt % 20 := (by omega); have hk9 : tx_r22 = kwL.getD (n9.toInt % 20).toNat [] := (by rw [hw22_0 (by omega) (by omega), tnN (i := x21) (by omega), hx9]); first | exact NMq.out hc (by omega) hk9 (by omega) (by omega) (by decide) | exact NMq.opn hc (by omega) hk9 (by omega) (by omega) (by omega) (by decide) | exact NMq.cls hc (by omega) hk9 (by omega) (by omega) (by omega) (by decide) | exact NMq.chr hc (by omega) hk9 (by omega) (by rw [hw36_0, tnN (i := i9) (by omega)]))⟩, by rw [ht]; exact hP, va_K.moved hW.alike hK, hD⟩, hS.F ht⟩) hS.2.2 dX10_name_39
    · skip
      refine lv_iconst (v := (-1)) hx hb dX10_name_16 (by decide) ?_
      subst hAe
      rw [hQ]
      exact W.iret (v := (-1)) hx hb hr (fun t ht hW => ⟨⟨(-1), _, rfl, ⟨(0 : Int32), rfl, by first | exact NMq.bad (by decide) (fun q => (hw6_0.resolve_left (fun z => by omega)).2 q.1) | exact NMq.bad (by decide) (fun q => by have z := q.2; omega) | (have hc := (hw6_0.resolve_right (fun z => by omega)).2; have hi9 := id hc; unfold ICp at hi9; have hx9 : x21.toInt = n9.toInt % 20 := (by omega); have hk9 : tx_r22 = kwL.getD (n9.toInt % 20).toNat [] := (by rw [hw22_0 (by omega) (by omega), tnN (i := x21) (by omega), hx9]); first | exact NMq.out hc (by omega) hk9 (by omega) (by omega) (by decide) | exact NMq.opn hc (by omega) hk9 (by omega) (by omega) (by omega) (by decide) | exact NMq.cls hc (by omega) hk9 (by omega) (by omega) (by omega) (by decide) | exact NMq.chr hc (by omega) hk9 (by omega) (by rw [hw36_0, tnN (i := i9) (by omega)]))⟩, by rw [ht]; exact hP, va_K.moved hW.alike hK, hD⟩, hS.F ht⟩) hS.2.2 dX10_name_17

def rmX10_below : Room := { frames := 60, cells := 0, slots := 0, locals := 1200 }
set_option maxHeartbeats 4000000 in
set_option maxRecDepth 100000 in
theorem tX10_below {l : Launch} {D : va_G} {K : Nat → Nat → Nat} {cs : Nat → ClassId} {q : Nat → Nat} {v_thrown v_taped v_size v_to v_kind v_from v_letterMany v_isBeyond v_suffix v_steps v_fault v_hasProgram v_wrong v_wrongAt v_variable v_numberKind v_takes v_outed v_creatures v_arrays v_cells v_marks v_came v_guessed v_right v_taken v_sort v_kindAt v_reached v_looked : Int32} {a_tape a_text a_act a_guess a_take a_begin a_finish a_to1 a_one a_two a_what a_ats a_atVar a_atNumber a_atomSort a_atomKind a_out a_varSort a_varKind a_creature a_arrayClass a_arrayFrom a_arrayLong a_cellSort a_cellKind a_asideSort a_asideKind a_outcome a_markSort a_markKind a_markClass a_index : Nat → Int32} {v_letters v_digits v_number v_value : Int64} {a_atomValue a_varValue a_cellValue a_asideValue a_markValue : Nat → Int64} (a9 : Int32) (b9 : Int32) : CtI l yX10_below (wG yX10_below cX10_below 3 (some .boolean)) rmX10_below D (mwT cs) K [.ref (q 0), .int a9, .int b9] (mw cs q v_thrown a_tape v_taped v_size v_to v_kind v_from v_letters v_letterMany v_digits v_isBeyond v_suffix v_steps v_fault v_hasProgram a_text a_act a_guess a_take a_begin a_finish a_to1 a_one a_two a_what a_ats a_atVar a_atNumber a_atomSort a_atomKind a_atomValue v_wrong v_wrongAt v_variable v_number v_numberKind v_takes a_out v_outed a_varSort a_varKind a_varValue a_creature v_creatures a_arrayClass a_arrayFrom a_arrayLong v_arrays v_cells a_cellSort a_cellKind a_cellValue a_asideSort a_asideKind a_asideValue a_outcome v_marks v_came v_guessed v_right v_taken a_markSort a_markKind a_markClass a_markValue v_sort v_kindAt v_value a_index v_reached v_looked) (fun r w1 => ∃ (v_thrown' : Int32), w1 = (mw cs q v_thrown' a_tape v_taped v_size v_to v_kind v_from v_letters v_letterMany v_digits v_isBeyond v_suffix v_steps v_fault v_hasProgram a_text a_act a_guess a_take a_begin a_finish a_to1 a_one a_two a_what a_ats a_atVar a_atNumber a_atomSort a_atomKind a_atomValue v_wrong v_wrongAt v_variable v_number v_numberKind v_takes a_out v_outed a_varSort a_varKind a_varValue a_creature v_creatures a_arrayClass a_arrayFrom a_arrayLong v_arrays v_cells a_cellSort a_cellKind a_cellValue a_asideSort a_asideKind a_asideValue a_outcome v_marks v_came v_guessed v_right v_taken a_markSort a_markKind a_markClass a_markValue v_sort v_kindAt v_value a_index v_reached v_looked) ∧ ((r.toInt = 1 ∧ (ICp a9.toInt ∧ ICp b9.toInt ∧ BLp a9.toInt b9.toInt)) ∨ (r.toInt = 0 ∧ ¬ (ICp a9.toInt ∧ ICp b9.toInt ∧ BLp a9.toInt b9.toInt)))) 0 0 := by
  intro sz
  refine Met.ofW (cc := cX10_below) (maxL := 3) (ret := (some .boolean)) (by decide) rfl ?_
  intro p e s m args below meth c s₁ B hml hv
  obtain ⟨rfl, hsz, hP, hK, hD0, hE⟩ := hv
  have hx := B.exec
  have hb := B.bytes
  have hr := B.returns
  have hts := atoms_spec (ws := (wG yX10_below cX10_below 3 (some .boolean))) B.pre
  have hown : s.vm.findClass RX10 = some m.cls := findClass_of_methodNamed B.named
  have hlocks := B.notSynchronized
  subst hsz
  have hD := hD0.self (sz := s.heap.size)
  obtain ⟨A, hAe⟩ : ∃ A : Nat → Prop, A = va_A (mw cs q v_thrown a_tape v_taped v_size v_to v_kind v_from v_letters v_letterMany v_digits v_isBeyond v_suffix v_steps v_fault v_hasProgram a_text a_act a_guess a_take a_begin a_finish a_to1 a_one a_two a_what a_ats a_atVar a_atNumber a_atomSort a_atomKind a_atomValue v_wrong v_wrongAt v_variable v_number v_numberKind v_takes a_out v_outed a_varSort a_varKind a_varValue a_creature v_creatures a_arrayClass a_arrayFrom a_arrayLong v_arrays v_cells a_cellSort a_cellKind a_cellValue a_asideSort a_asideKind a_asideValue a_outcome v_marks v_came v_guessed v_right v_taken a_markSort a_markKind a_markClass a_markValue v_sort v_kindAt v_value a_index v_reached v_looked) s.heap.size := ⟨_, rfl⟩
  rw [← hAe] at hD hE
  have hA : ∀ q : Nat, s.heap.size ≤ q → A q := fun q h => by rw [hAe]; exact Or.inr h
  have hS : va_S A s.heap s.heap [] := va_S.rf
  have hl := lv_entry ([.ref (q 0), .int a9, .int b9]) (n := 3) (Nat.le_of_ble_eq_true rfl)
  rw [lg_entry_eq]
  generalize (lg_sl ([.ref (q 0), .int a9, .int b9]) ++ List.replicate (3 - (lg_sl ([.ref (q 0), .int a9, .int b9])).length) Slot.unset).toArray = ls at hl ⊢
  have hl : lv_has ls 3 [(0, .ref (q 0)), (1, .int a9), (2, .int b9)] := hl
  refine wq (fun Q hQ => ?_)
  have hin : ∀ w ∈ wsX100, w ∈ (wG yX10_below cX10_below 3 (some .boolean)) := fun w h => List.mem_cons_of_mem _ (inlX10 w h)
  have kc0 : (0 : Int32).toInt = 0 := by decide
  have kc1 : (1 : Int32).toInt = 1 := by decide
  have k_7_9 := hts (.fieldLink RX10 122 "ArrayTrainerModel" "thrown" "I") (List.mem_cons_of_mem _ (wr7 _ (List.mem_of_getElem? (i := 9) rfl)))
  obtain ⟨H, hH⟩ : ∃ H : Heap, H = s.heap := ⟨_, rfl⟩
  obtain ⟨locs, hlc⟩ : ∃ L : List Loc, L = [] := ⟨_, rfl⟩
  have hP : va_P D vwCl (mw cs q v_thrown a_tape v_taped v_size v_to v_kind v_from v_letters v_letterMany v_digits v_isBeyond v_suffix v_steps v_fault v_hasProgram a_text a_act a_guess a_take a_begin a_finish a_to1 a_one a_two a_what a_ats a_atVar a_atNumber a_atomSort a_atomKind a_atomValue v_wrong v_wrongAt v_variable v_number v_numberKind v_takes a_out v_outed a_varSort a_varKind a_varValue a_creature v_creatures a_arrayClass a_arrayFrom a_arrayLong v_arrays v_cells a_cellSort a_cellKind a_cellValue a_asideSort a_asideKind a_asideValue a_outcome v_marks v_came v_guessed v_right v_taken a_markSort a_markKind a_markClass a_markValue v_sort v_kindAt v_value a_index v_reached v_looked) H := by rw [hH]; exact hP
  have hS : va_S A s.heap H locs := by rw [hH, hlc]; exact hS
  refine wHL hH hlc ?_
  have b_a9 := iB a9
  have b_b9 := iB b9
  refine lv_aload_n hx hb dX10_below_0 rfl (lv_at hl 0 rfl) ?_
  refine lv_iconst (v := 0) hx hb dX10_below_1 (by decide) ?_
  refine va_put (D := D) (ci := 9) (v := .int 0) (ty := .int) (C := RX10) (T := TX10) (N := 71) hx hb hts hin tyX10 tyX10_ok nmX10 hown hK hP hD hS 0 rfl rfl 0 (by decide) k_7_9 (fun _ h9 => h9) rfl (by decide +kernel) rfl rfl (Nat.le_of_ble_eq_true rfl) dX10_below_2 (fun H locs hP hD hS => ?_)
  have hP : va_P D vwCl (mw cs q (0 : Int32) a_tape v_taped v_size v_to v_kind v_from v_letters v_letterMany v_digits v_isBeyond v_suffix v_steps v_fault v_hasProgram a_text a_act a_guess a_take a_begin a_finish a_to1 a_one a_two a_what a_ats a_atVar a_atNumber a_atomSort a_atomKind a_atomValue v_wrong v_wrongAt v_variable v_number v_numberKind v_takes a_out v_outed a_varSort a_varKind a_varValue a_creature v_creatures a_arrayClass a_arrayFrom a_arrayLong v_arrays v_cells a_cellSort a_cellKind a_cellValue a_asideSort a_asideKind a_asideValue a_outcome v_marks v_came v_guessed v_right v_taken a_markSort a_markKind a_markClass a_markValue v_sort v_kindAt v_value a_index v_reached v_looked) H := hP
  have hD : va_D A (mw cs q (0 : Int32) a_tape v_taped v_size v_to v_kind v_from v_letters v_letterMany v_digits v_isBeyond v_suffix v_steps v_fault v_hasProgram a_text a_act a_guess a_take a_begin a_finish a_to1 a_one a_two a_what a_ats a_atVar a_atNumber a_atomSort a_atomKind a_atomValue v_wrong v_wrongAt v_variable v_number v_numberKind v_takes a_out v_outed a_varSort a_varKind a_varValue a_creature v_creatures a_arrayClass a_arrayFrom a_arrayLong v_arrays v_cells a_cellSort a_cellKind a_cellValue a_asideSort a_asideKind a_asideValue a_outcome v_marks v_came v_guessed v_right v_taken a_markSort a_markKind a_markClass a_markValue v_sort v_kindAt v_value a_index v_reached v_looked) := hD
  refine lv_iload_n hx hb dX10_below_5 rfl (lv_at hl 1 rfl) ?_
  refine call_iSP (As := [.int a9]) (rest := []) ⟨hx, hb, hml, hown, hts⟩ (tX10_isClass (l := l) a9) (va_cwS 1 hts (gS (wr58 _ (List.mem_of_getElem? (i := 8) rfl)) (wr58 _ (List.mem_of_getElem? (i := 9) rfl)) (wr1 _ (List.mem_of_getElem? (i := 5) rfl)) (wr58 _ (List.mem_of_getElem? (i := 10) rfl))) rfl rfl rfl (by decide +kernel) ⟨Nat.le_of_ble_eq_true rfl, Nat.le_of_ble_eq_true rfl⟩) (hK.sub [] rfl) hP hD hE hS hA rfl hl.1 rfl (Nat.le_of_ble_eq_true rfl) dX10_below_6 ⟨Nat.le_of_ble_eq_true rfl, Nat.le_of_ble_eq_true rfl⟩ (fun r6 w9 H locs hw6 hP hD hS => ?_)
  obtain ⟨rfl, hw6_0⟩ := hw6
  have b_r6 := iB r6
  refine m_if_eq (X := r6.toInt) (tgt := 31) hx hb dX10_below_9 (by decide) rfl (fun c9 => ?_) (fun c9 => ?_)
  · skip
    refine lv_iconst (v := 0) hx hb dX10_below_31 (by decide) ?_
    subst hAe
    rw [hQ]
    exact W.zret (v := 0) hx hb hr (by decide) (fun t ht hW => ⟨⟨0, _, rfl, ⟨(0 : Int32), rfl, by first | exact Or.inl ⟨by decide, (hw6_0.resolve_right (fun q => by omega)).2, (hw13_0.resolve_right (fun q => by omega)).2, ((hw21_1 (ICp.nn (hw6_0.resolve_right (fun q => by omega)).2) (ICp.nn (hw13_0.resolve_right (fun q => by omega)).2)).resolve_right (fun q => by omega)).2⟩ | exact Or.inr ⟨by decide, fun q => (hw6_0.resolve_left (fun q => by omega)).2 q.1⟩ | exact Or.inr ⟨by decide, fun q => (hw13_0.resolve_left (fun q => by omega)).2 q.2.1⟩ | exact Or.inr ⟨by decide, fun q => ((hw21_1 (ICp.nn q.1) (ICp.nn q.2.1)).resolve_left (fun q => by omega)).2 q.2.2⟩⟩, by rw [ht]; exact hP, va_K.moved hW.alike hK, hD⟩, hS.F ht⟩) hS.2.2 dX10_below_32
  · skip
    refine lv_iload_n hx hb dX10_below_12 rfl (lv_at hl 2 rfl) ?_
    refine call_iSP (As := [.int b9]) (rest := []) ⟨hx, hb, hml, hown, hts⟩ (tX10_isClass (l := l) b9) (va_cwS 1 hts (gS (wr58 _ (List.mem_of_getElem? (i := 8) rfl)) (wr58 _ (List.mem_of_getElem? (i := 9) rfl)) (wr1 _ (List.mem_of_getElem? (i := 5) rfl)) (wr58 _ (List.mem_of_getElem? (i := 10) rfl))) rfl rfl rfl (by decide +kernel) ⟨Nat.le_of_ble_eq_true rfl, Nat.le_of_ble_eq_true rfl⟩) (hK.sub [] rfl) hP hD hE hS hA rfl hl.1 rfl (Nat.le_of_ble_eq_true rfl) dX10_below_13 ⟨Nat.le_of_ble_eq_true rfl, Nat.le_of_ble_eq_true rfl⟩ (fun r13 w9 H locs hw13 hP hD hS => ?_)
    obtain ⟨rfl, hw13_0⟩ := hw13
    have b_r13 := iB r13
    refine m_if_eq (X := r13.toInt) (tgt := 31) hx hb dX10_below_16 (by decide) rfl (fun c16 => ?_) (fun c16 => ?_)
    · skip
      refine lv_iconst (v := 0) hx hb dX10_below_31 (by decide) ?_
      subst hAe
      rw [hQ]
      exact W.zret (v := 0) hx hb hr (by decide) (fun t ht hW => ⟨⟨0, _, rfl, ⟨(0 : Int32), rfl, by first | exact Or.inl ⟨by decide, (hw6_0.resolve_right (fun q => by omega)).2, (hw13_0.resolve_right (fun q => by omega)).2, ((hw21_1 (ICp.nn (hw6_0.resolve_right (fun q => by omega)).2) (ICp.nn (hw13_0.resolve_right (fun q => by omega)).2)).resolve_right (fun q => by omega)).2⟩ | exact Or.inr ⟨by decide, fun q => (hw6_0.resolve_left (fun q => by omega)).2 q.1⟩ | exact Or.inr ⟨by decide, fun q => (hw13_0.resolve_left (fun q => by omega)).2 q.2.1⟩ | exact Or.inr ⟨by decide, fun q => ((hw21_1 (ICp.nn q.1) (ICp.nn q.2.1)).resolve_left (fun q => by omega)).2 q.2.2⟩⟩, by rw [ht]; exact hP, va_K.moved hW.alike hK, hD⟩, hS.F ht⟩) hS.2.2 dX10_below_32
    · skip
      refine lv_iload_n hx hb dX10_below_19 rfl (lv_at hl 1 rfl) ?_
      refine lv_iload_n hx hb dX10_below_20 rfl (lv_at hl 2 rfl) ?_
      refine call_iSP (As := [.int a9, .int b9]) (rest := []) ⟨hx, hb, hml, hown, hts⟩ (tX10_isBelow (l := l) a9 b9) (va_cwS 2 hts (gS (wr50 _ (List.mem_of_getElem? (i := 1) rfl)) (wr50 _ (List.mem_of_getElem? (i := 2) rfl)) (wr1 _ (List.mem_of_getElem? (i := 5) rfl)) (wr50 _ (List.mem_of_getElem? (i := 3) rfl))) rfl rfl rfl (by decide +kernel) ⟨Nat.le_of_ble_eq_true rfl, Nat.le_of_ble_eq_true rfl⟩) (hK.sub [] rfl) hP hD hE hS hA rfl hl.1 rfl (Nat.le_of_ble_eq_true rfl) dX10_below_21 ⟨Nat.le_of_ble_eq_true rfl, Nat.le_of_ble_eq_true rfl⟩ (fun r21 w9 H locs hw21 hP hD hS => ?_)
      obtain ⟨rfl, hw21_0, hw21_1⟩ := hw21
      have b_r21 := iB r21
      refine m_if_eq (X := r21.toInt) (tgt := 31) hx hb dX10_below_24 (by decide) rfl (fun c24 => ?_) (fun c24 => ?_)
      · skip
        refine lv_iconst (v := 0) hx hb dX10_below_31 (by decide) ?_
        subst hAe
        rw [hQ]
        exact W.zret (v := 0) hx hb hr (by decide) (fun t ht hW => ⟨⟨0, _, rfl, ⟨(0 : Int32), rfl, by first | exact Or.inl ⟨by decide, (hw6_0.resolve_right (fun q => by omega)).2, (hw13_0.resolve_right (fun q => by omega)).2, ((hw21_1 (ICp.nn (hw6_0.resolve_right (fun q => by omega)).2) (ICp.nn (hw13_0.resolve_right (fun q => by omega)).2)).resolve_right (fun q => by omega)).2⟩ | exact Or.inr ⟨by decide, fun q => (hw6_0.resolve_left (fun q => by omega)).2 q.1⟩ | exact Or.inr ⟨by decide, fun q => (hw13_0.resolve_left (fun q => by omega)).2 q.2.1⟩ | exact Or.inr ⟨by decide, fun q => ((hw21_1 (ICp.nn q.1) (ICp.nn q.2.1)).resolve_left (fun q => by omega)).2 q.2.2⟩⟩, by rw [ht]; exact hP, va_K.moved hW.alike hK, hD⟩, hS.F ht⟩) hS.2.2 dX10_below_32
      · skip
        refine lv_iconst (v := 1) hx hb dX10_below_27 (by decide) ?_
        refine lv_goto (tgt := 32) hx hb dX10_below_28 (by decide) ?_
        subst hAe
        rw [hQ]
        exact W.zret (v := 1) hx hb hr (by decide) (fun t ht hW => ⟨⟨1, _, rfl, ⟨(0 : Int32), rfl, by first | exact Or.inl ⟨by decide, (hw6_0.resolve_right (fun q => by omega)).2, (hw13_0.resolve_right (fun q => by omega)).2, ((hw21_1 (ICp.nn (hw6_0.resolve_right (fun q => by omega)).2) (ICp.nn (hw13_0.resolve_right (fun q => by omega)).2)).resolve_right (fun q => by omega)).2⟩ | exact Or.inr ⟨by decide, fun q => (hw6_0.resolve_left (fun q => by omega)).2 q.1⟩ | exact Or.inr ⟨by decide, fun q => (hw13_0.resolve_left (fun q => by omega)).2 q.2.1⟩ | exact Or.inr ⟨by decide, fun q => ((hw21_1 (ICp.nn q.1) (ICp.nn q.2.1)).resolve_left (fun q => by omega)).2 q.2.2⟩⟩, by rw [ht]; exact hP, va_K.moved hW.alike hK, hD⟩, hS.F ht⟩) hS.2.2 dX10_below_32

def rmX10_stores : Room := { frames := 60, cells := 0, slots := 0, locals := 1200 }
set_option maxHeartbeats 4000000 in
set_option maxRecDepth 100000 in
theorem tX10_stores {l : Launch} {D : va_G} {K : Nat → Nat → Nat} {cs : Nat → ClassId} {q : Nat → Nat} {v_thrown v_taped v_size v_to v_kind v_from v_letterMany v_isBeyond v_suffix v_steps v_fault v_hasProgram v_wrong v_wrongAt v_variable v_numberKind v_takes v_outed v_creatures v_arrays v_cells v_marks v_came v_guessed v_right v_taken v_sort v_kindAt v_reached v_looked : Int32} {a_tape a_text a_act a_guess a_take a_begin a_finish a_to1 a_one a_two a_what a_ats a_atVar a_atNumber a_atomSort a_atomKind a_out a_varSort a_varKind a_creature a_arrayClass a_arrayFrom a_arrayLong a_cellSort a_cellKind a_asideSort a_asideKind a_outcome a_markSort a_markKind a_markClass a_index : Nat → Int32} {v_letters v_digits v_number v_value : Int64} {a_atomValue a_varValue a_cellValue a_asideValue a_markValue : Nat → Int64} (a9 : Int32) (b9 : Int32) : CtI l yX10_stores (wG yX10_stores cX10_stores 3 (some .int)) rmX10_stores D (mwT cs) K [.ref (q 0), .int a9, .int b9] (mw cs q v_thrown a_tape v_taped v_size v_to v_kind v_from v_letters v_letterMany v_digits v_isBeyond v_suffix v_steps v_fault v_hasProgram a_text a_act a_guess a_take a_begin a_finish a_to1 a_one a_two a_what a_ats a_atVar a_atNumber a_atomSort a_atomKind a_atomValue v_wrong v_wrongAt v_variable v_number v_numberKind v_takes a_out v_outed a_varSort a_varKind a_varValue a_creature v_creatures a_arrayClass a_arrayFrom a_arrayLong v_arrays v_cells a_cellSort a_cellKind a_cellValue a_asideSort a_asideKind a_asideValue a_outcome v_marks v_came v_guessed v_right v_taken a_markSort a_markKind a_markClass a_markValue v_sort v_kindAt v_value a_index v_reached v_looked) (fun r w1 => ∃ (v_thrown' : Int32), w1 = (mw cs q v_thrown' a_tape v_taped v_size v_to v_kind v_from v_letters v_letterMany v_digits v_isBeyond v_suffix v_steps v_fault v_hasProgram a_text a_act a_guess a_take a_begin a_finish a_to1 a_one a_two a_what a_ats a_atVar a_atNumber a_atomSort a_atomKind a_atomValue v_wrong v_wrongAt v_variable v_number v_numberKind v_takes a_out v_outed a_varSort a_varKind a_varValue a_creature v_creatures a_arrayClass a_arrayFrom a_arrayLong v_arrays v_cells a_cellSort a_cellKind a_cellValue a_asideSort a_asideKind a_asideValue a_outcome v_marks v_came v_guessed v_right v_taken a_markSort a_markKind a_markClass a_markValue v_sort v_kindAt v_value a_index v_reached v_looked) ∧ (STq a9.toInt b9.toInt r.toInt)) 0 0 := by
  intro sz
  refine Met.ofW (cc := cX10_stores) (maxL := 3) (ret := (some .int)) (by decide) rfl ?_
  intro p e s m args below meth c s₁ B hml hv
  obtain ⟨rfl, hsz, hP, hK, hD0, hE⟩ := hv
  have hx := B.exec
  have hb := B.bytes
  have hr := B.returns
  have hts := atoms_spec (ws := (wG yX10_stores cX10_stores 3 (some .int))) B.pre
  have hown : s.vm.findClass RX10 = some m.cls := findClass_of_methodNamed B.named
  have hlocks := B.notSynchronized
  subst hsz
  have hD := hD0.self (sz := s.heap.size)
  obtain ⟨A, hAe⟩ : ∃ A : Nat → Prop, A = va_A (mw cs q v_thrown a_tape v_taped v_size v_to v_kind v_from v_letters v_letterMany v_digits v_isBeyond v_suffix v_steps v_fault v_hasProgram a_text a_act a_guess a_take a_begin a_finish a_to1 a_one a_two a_what a_ats a_atVar a_atNumber a_atomSort a_atomKind a_atomValue v_wrong v_wrongAt v_variable v_number v_numberKind v_takes a_out v_outed a_varSort a_varKind a_varValue a_creature v_creatures a_arrayClass a_arrayFrom a_arrayLong v_arrays v_cells a_cellSort a_cellKind a_cellValue a_asideSort a_asideKind a_asideValue a_outcome v_marks v_came v_guessed v_right v_taken a_markSort a_markKind a_markClass a_markValue v_sort v_kindAt v_value a_index v_reached v_looked) s.heap.size := ⟨_, rfl⟩
  rw [← hAe] at hD hE
  have hA : ∀ q : Nat, s.heap.size ≤ q → A q := fun q h => by rw [hAe]; exact Or.inr h
  have hS : va_S A s.heap s.heap [] := va_S.rf
  have hl := lv_entry ([.ref (q 0), .int a9, .int b9]) (n := 3) (Nat.le_of_ble_eq_true rfl)
  rw [lg_entry_eq]
  generalize (lg_sl ([.ref (q 0), .int a9, .int b9]) ++ List.replicate (3 - (lg_sl ([.ref (q 0), .int a9, .int b9])).length) Slot.unset).toArray = ls at hl ⊢
  have hl : lv_has ls 3 [(0, .ref (q 0)), (1, .int a9), (2, .int b9)] := hl
  refine wq (fun Q hQ => ?_)
  have hin : ∀ w ∈ wsX100, w ∈ (wG yX10_stores cX10_stores 3 (some .int)) := fun w h => List.mem_cons_of_mem _ (inlX10 w h)
  have kc0 : (-1 : Int32).toInt = -1 := by decide
  have kc1 : (0 : Int32).toInt = 0 := by decide
  have kc2 : (4 : Int32).toInt = 4 := by decide
  have kc3 : (6 : Int32).toInt = 6 := by decide
  have kc4 : (8 : Int32).toInt = 8 := by decide
  have kc5 : (20 : Int32).toInt = 20 := by decide
  have k_7_9 := hts (.fieldLink RX10 122 "ArrayTrainerModel" "thrown" "I") (List.mem_cons_of_mem _ (wr7 _ (List.mem_of_getElem? (i := 9) rfl)))
  obtain ⟨H, hH⟩ : ∃ H : Heap, H = s.heap := ⟨_, rfl⟩
  obtain ⟨locs, hlc⟩ : ∃ L : List Loc, L = [] := ⟨_, rfl⟩
  have hP : va_P D vwCl (mw cs q v_thrown a_tape v_taped v_size v_to v_kind v_from v_letters v_letterMany v_digits v_isBeyond v_suffix v_steps v_fault v_hasProgram a_text a_act a_guess a_take a_begin a_finish a_to1 a_one a_two a_what a_ats a_atVar a_atNumber a_atomSort a_atomKind a_atomValue v_wrong v_wrongAt v_variable v_number v_numberKind v_takes a_out v_outed a_varSort a_varKind a_varValue a_creature v_creatures a_arrayClass a_arrayFrom a_arrayLong v_arrays v_cells a_cellSort a_cellKind a_cellValue a_asideSort a_asideKind a_asideValue a_outcome v_marks v_came v_guessed v_right v_taken a_markSort a_markKind a_markClass a_markValue v_sort v_kindAt v_value a_index v_reached v_looked) H := by rw [hH]; exact hP
  have hS : va_S A s.heap H locs := by rw [hH, hlc]; exact hS
  refine wHL hH hlc ?_
  have b_a9 := iB a9
  have b_b9 := iB b9
  refine lv_aload_n hx hb dX10_stores_0 rfl (lv_at hl 0 rfl) ?_
  refine lv_iconst (v := 0) hx hb dX10_stores_1 (by decide) ?_
  refine va_put (D := D) (ci := 9) (v := .int 0) (ty := .int) (C := RX10) (T := TX10) (N := 71) hx hb hts hin tyX10 tyX10_ok nmX10 hown hK hP hD hS 0 rfl rfl 0 (by decide) k_7_9 (fun _ h9 => h9) rfl (by decide +kernel) rfl rfl (Nat.le_of_ble_eq_true rfl) dX10_stores_2 (fun H locs hP hD hS => ?_)
  have hP : va_P D vwCl (mw cs q (0 : Int32) a_tape v_taped v_size v_to v_kind v_from v_letters v_letterMany v_digits v_isBeyond v_suffix v_steps v_fault v_hasProgram a_text a_act a_guess a_take a_begin a_finish a_to1 a_one a_two a_what a_ats a_atVar a_atNumber a_atomSort a_atomKind a_atomValue v_wrong v_wrongAt v_variable v_number v_numberKind v_takes a_out v_outed a_varSort a_varKind a_varValue a_creature v_creatures a_arrayClass a_arrayFrom a_arrayLong v_arrays v_cells a_cellSort a_cellKind a_cellValue a_asideSort a_asideKind a_asideValue a_outcome v_marks v_came v_guessed v_right v_taken a_markSort a_markKind a_markClass a_markValue v_sort v_kindAt v_value a_index v_reached v_looked) H := hP
  have hD : va_D A (mw cs q (0 : Int32) a_tape v_taped v_size v_to v_kind v_from v_letters v_letterMany v_digits v_isBeyond v_suffix v_steps v_fault v_hasProgram a_text a_act a_guess a_take a_begin a_finish a_to1 a_one a_two a_what a_ats a_atVar a_atNumber a_atomSort a_atomKind a_atomValue v_wrong v_wrongAt v_variable v_number v_numberKind v_takes a_out v_outed a_varSort a_varKind a_varValue a_creature v_creatures a_arrayClass a_arrayFrom a_arrayLong v_arrays v_cells a_cellSort a_cellKind a_cellValue a_asideSort a_asideKind a_asideValue a_outcome v_marks v_came v_guessed v_right v_taken a_markSort a_markKind a_markClass a_markValue v_sort v_kindAt v_value a_index v_reached v_looked) := hD
  refine lv_iload_n hx hb dX10_stores_5 rfl (lv_at hl 1 rfl) ?_
  refine call_iSP (As := [.int a9]) (rest := []) ⟨hx, hb, hml, hown, hts⟩ (tX10_isClass (l := l) a9) (va_cwS 1 hts (gS (wr58 _ (List.mem_of_getElem? (i := 8) rfl)) (wr58 _ (List.mem_of_getElem? (i := 9) rfl)) (wr1 _ (List.mem_of_getElem? (i := 5) rfl)) (wr58 _ (List.mem_of_getElem? (i := 10) rfl))) rfl rfl rfl (by decide +kernel) ⟨Nat.le_of_ble_eq_true rfl, Nat.le_of_ble_eq_true rfl⟩) (hK.sub [] rfl) hP hD hE hS hA rfl hl.1 rfl (Nat.le_of_ble_eq_true rfl) dX10_stores_6 ⟨Nat.le_of_ble_eq_true rfl, Nat.le_of_ble_eq_true rfl⟩ (fun r6 w9 H locs hw6 hP hD hS => ?_)
  obtain ⟨rfl, hw6_0⟩ := hw6
  have b_r6 := iB r6
  refine m_if_eq (X := r6.toInt) (tgt := 25) hx hb dX10_stores_9 (by decide) rfl (fun c9 => ?_) (fun c9 => ?_)
  · skip
    refine lv_iconst (v := (-1)) hx hb dX10_stores_25 (by decide) ?_
    subst hAe
    rw [hQ]
    exact W.iret (v := (-1)) hx hb hr (fun t ht hW => ⟨⟨(-1), _, rfl, ⟨(0 : Int32), rfl, by first | exact STq.bad (by decide) (fun q => (hw6_0.resolve_left (fun z => by omega)).2 q.2.1) | exact STq.bad (by decide) (fun q => by have z := q.1; omega) | exact STq.bad (by decide) (fun q => (hw19_0.resolve_left (fun z => by omega)).2 q.2.2) | exact STq.ok ⟨by omega, (hw6_0.resolve_right (fun z => by omega)).2, (hw19_0.resolve_right (fun z => by omega)).2⟩ (WRq.a (by omega) (by omega) (e42 ▸ (hw45_0.resolve_right (fun z => by omega)).2) (by decide)) | exact STq.ok ⟨by omega, (hw6_0.resolve_right (fun z => by omega)).2, (hw19_0.resolve_right (fun z => by omega)).2⟩ (WRq.b (by omega) (fun q => by have z := q.1; omega) (by decide)) | exact STq.ok ⟨by omega, (hw6_0.resolve_right (fun z => by omega)).2, (hw19_0.resolve_right (fun z => by omega)).2⟩ (WRq.b (by omega) (fun q => (hw45_0.resolve_left (fun z => by omega)).2 (e42.symm ▸ q.2)) (by decide)) | exact STq.ok ⟨by omega, (hw6_0.resolve_right (fun z => by omega)).2, (hw19_0.resolve_right (fun z => by omega)).2⟩ (WRq.c (by omega) (by omega) (by decide)) | exact STq.ok ⟨by omega, (hw6_0.resolve_right (fun z => by omega)).2, (hw19_0.resolve_right (fun z => by omega)).2⟩ (WRq.d (by omega) (by omega) (e69 ▸ ((hw72_1 (ICp.nn (hw19_0.resolve_right (fun z => by omega)).2) (by omega)).resolve_right (fun z => by omega)).2) (by decide)) | exact STq.ok ⟨by omega, (hw6_0.resolve_right (fun z => by omega)).2, (hw19_0.resolve_right (fun z => by omega)).2⟩ (WRq.e (by omega) (by omega) (fun q => ((hw72_1 (ICp.nn (hw19_0.resolve_right (fun z => by omega)).2) (by omega)).resolve_left (fun z => by omega)).2 (e69.symm ▸ q)) (by decide))⟩, by rw [ht]; exact hP, va_K.moved hW.alike hK, hD⟩, hS.F ht⟩) hS.2.2 dX10_stores_26
  · skip
    refine lv_iload_n hx hb dX10_stores_12 rfl (lv_at hl 1 rfl) ?_
    refine lv_bipush (v := 20) hx hb dX10_stores_13 (by decide) ?_
    refine m_icmp_lt (X := a9.toInt) (Y := 20) (tgt := 25) hx hb dX10_stores_15 (by decide) rfl (by decide) (fun c15 => ?_) (fun c15 => ?_)
    · skip
      refine lv_iconst (v := (-1)) hx hb dX10_stores_25 (by decide) ?_
      subst hAe
      rw [hQ]
      exact W.iret (v := (-1)) hx hb hr (fun t ht hW => ⟨⟨(-1), _, rfl, ⟨(0 : Int32), rfl, by first | exact STq.bad (by decide) (fun q => (hw6_0.resolve_left (fun z => by omega)).2 q.2.1) | exact STq.bad (by decide) (fun q => by have z := q.1; omega) | exact STq.bad (by decide) (fun q => (hw19_0.resolve_left (fun z => by omega)).2 q.2.2) | exact STq.ok ⟨by omega, (hw6_0.resolve_right (fun z => by omega)).2, (hw19_0.resolve_right (fun z => by omega)).2⟩ (WRq.a (by omega) (by omega) (e42 ▸ (hw45_0.resolve_right (fun z => by omega)).2) (by decide)) | exact STq.ok ⟨by omega, (hw6_0.resolve_right (fun z => by omega)).2, (hw19_0.resolve_right (fun z => by omega)).2⟩ (WRq.b (by omega) (fun q => by have z := q.1; omega) (by decide)) | exact STq.ok ⟨by omega, (hw6_0.resolve_right (fun z => by omega)).2, (hw19_0.resolve_right (fun z => by omega)).2⟩ (WRq.b (by omega) (fun q => (hw45_0.resolve_left (fun z => by omega)).2 (e42.symm ▸ q.2)) (by decide)) | exact STq.ok ⟨by omega, (hw6_0.resolve_right (fun z => by omega)).2, (hw19_0.resolve_right (fun z => by omega)).2⟩ (WRq.c (by omega) (by omega) (by decide)) | exact STq.ok ⟨by omega, (hw6_0.resolve_right (fun z => by omega)).2, (hw19_0.resolve_right (fun z => by omega)).2⟩ (WRq.d (by omega) (by omega) (e69 ▸ ((hw72_1 (ICp.nn (hw19_0.resolve_right (fun z => by omega)).2) (by omega)).resolve_right (fun z => by omega)).2) (by decide)) | exact STq.ok ⟨by omega, (hw6_0.resolve_right (fun z => by omega)).2, (hw19_0.resolve_right (fun z => by omega)).2⟩ (WRq.e (by omega) (by omega) (fun q => ((hw72_1 (ICp.nn (hw19_0.resolve_right (fun z => by omega)).2) (by omega)).resolve_left (fun z => by omega)).2 (e69.symm ▸ q)) (by decide))⟩, by rw [ht]; exact hP, va_K.moved hW.alike hK, hD⟩, hS.F ht⟩) hS.2.2 dX10_stores_26
    · skip
      refine lv_iload_n hx hb dX10_stores_18 rfl (lv_at hl 2 rfl) ?_
      refine call_iSP (As := [.int b9]) (rest := []) ⟨hx, hb, hml, hown, hts⟩ (tX10_isClass (l := l) b9) (va_cwS 1 hts (gS (wr58 _ (List.mem_of_getElem? (i := 8) rfl)) (wr58 _ (List.mem_of_getElem? (i := 9) rfl)) (wr1 _ (List.mem_of_getElem? (i := 5) rfl)) (wr58 _ (List.mem_of_getElem? (i := 10) rfl))) rfl rfl rfl (by decide +kernel) ⟨Nat.le_of_ble_eq_true rfl, Nat.le_of_ble_eq_true rfl⟩) (hK.sub [] rfl) hP hD hE hS hA rfl hl.1 rfl (Nat.le_of_ble_eq_true rfl) dX10_stores_19 ⟨Nat.le_of_ble_eq_true rfl, Nat.le_of_ble_eq_true rfl⟩ (fun r19 w9 H locs hw19 hP hD hS => ?_)
      obtain ⟨rfl, hw19_0⟩ := hw19
      have b_r19 := iB r19
      refine m_if_ne (X := r19.toInt) (tgt := 27) hx hb dX10_stores_22 (by decide) rfl (fun c22 => ?_) (fun c22 => ?_)
      · skip
        refine lv_iload_n hx hb dX10_stores_27 rfl (lv_at hl 1 rfl) ?_
        refine call_iSP (As := [.int a9]) (rest := []) ⟨hx, hb, hml, hown, hts⟩ (tX10_isOfNumbers (l := l) a9) (va_cwS 1 hts (gS (wr49 _ (List.mem_of_getElem? (i := 4) rfl)) (wr49 _ (List.mem_of_getElem? (i := 5) rfl)) (wr1 _ (List.mem_of_getElem? (i := 5) rfl)) (wr49 _ (List.mem_of_getElem? (i := 6) rfl))) rfl rfl rfl (by decide +kernel) ⟨Nat.le_of_ble_eq_true rfl, Nat.le_of_ble_eq_true rfl⟩) (hK.sub [] rfl) hP hD hE hS hA rfl hl.1 rfl (Nat.le_of_ble_eq_true rfl) dX10_stores_28 ⟨Nat.le_of_ble_eq_true rfl, Nat.le_of_ble_eq_true rfl⟩ (fun r28 w9 H locs hw28 hP hD hS => ?_)
        obtain ⟨rfl, hw28_0⟩ := hw28
        have b_r28 := iB r28
        refine m_if_eq (X := r28.toInt) (tgt := 58) hx hb dX10_stores_31 (by decide) rfl (fun c31 => ?_) (fun c31 => ?_)
        · skip
          refine lv_iload_n hx hb dX10_stores_58 rfl (lv_at hl 2 rfl) ?_
          refine lv_bipush (v := 8) hx hb dX10_stores_59 (by decide) ?_
          refine m_icmp_ge (X := b9.toInt) (Y := 8) (tgt := 67) hx hb dX10_stores_61 (by decide) rfl (by decide) (fun c61 => ?_) (fun c61 => ?_)
          · skip
            refine lv_iload_n hx hb dX10_stores_67 rfl (lv_at hl 2 rfl) ?_
            refine lv_iload_n hx hb dX10_stores_68 rfl (lv_at hl 1 rfl) ?_
            refine call_iSP (As := [.int a9]) (rest := [.int b9]) ⟨hx, hb, hml, hown, hts⟩ (tX10_elements (l := l) a9) (va_cwS 1 hts (gS (wr49 _ (List.mem_of_getElem? (i := 18) rfl)) (wr49 _ (List.mem_of_getElem? (i := 19) rfl)) (wr1 _ (List.mem_of_getElem? (i := 5) rfl)) (wr49 _ (List.mem_of_getElem? (i := 20) rfl))) rfl rfl rfl (by decide +kernel) ⟨Nat.le_of_ble_eq_true rfl, Nat.le_of_ble_eq_true rfl⟩) (hK.sub [] rfl) hP hD hE hS hA rfl hl.1 rfl (Nat.le_of_ble_eq_true rfl) dX10_stores_69 ⟨Nat.le_of_ble_eq_true rfl, Nat.le_of_ble_eq_true rfl⟩ (fun r69 w9 H locs hw69 hP hD hS => ?_)
            obtain ⟨rfl, hw69_0⟩ := hw69
            have b_r69 := iB r69
            have e69 := hw69_0 (by omega)
            refine call_iSP (As := [.int b9, .int r69]) (rest := []) ⟨hx, hb, hml, hown, hts⟩ (tX10_isBelow (l := l) b9 r69) (va_cwS 2 hts (gS (wr50 _ (List.mem_of_getElem? (i := 1) rfl)) (wr50 _ (List.mem_of_getElem? (i := 2) rfl)) (wr1 _ (List.mem_of_getElem? (i := 5) rfl)) (wr50 _ (List.mem_of_getElem? (i := 3) rfl))) rfl rfl rfl (by decide +kernel) ⟨Nat.le_of_ble_eq_true rfl, Nat.le_of_ble_eq_true rfl⟩) (hK.sub [] rfl) hP hD hE hS hA rfl hl.1 rfl (Nat.le_of_ble_eq_true rfl) dX10_stores_72 ⟨Nat.le_of_ble_eq_true rfl, Nat.le_of_ble_eq_true rfl⟩ (fun r72 w9 H locs hw72 hP hD hS => ?_)
            obtain ⟨rfl, hw72_0, hw72_1⟩ := hw72
            have b_r72 := iB r72
            refine m_if_eq (X := r72.toInt) (tgt := 82) hx hb dX10_stores_75 (by decide) rfl (fun c75 => ?_) (fun c75 => ?_)
            · skip
              refine lv_iconst (v := 4) hx hb dX10_stores_82 (by decide) ?_
              subst hAe
              rw [hQ]
              exact W.iret (v := 4) hx hb hr (fun t ht hW => ⟨⟨4, _, rfl, ⟨(0 : Int32), rfl, by first | exact STq.bad (by decide) (fun q => (hw6_0.resolve_left (fun z => by omega)).2 q.2.1) | exact STq.bad (by decide) (fun q => by have z := q.1; omega) | exact STq.bad (by decide) (fun q => (hw19_0.resolve_left (fun z => by omega)).2 q.2.2) | exact STq.ok ⟨by omega, (hw6_0.resolve_right (fun z => by omega)).2, (hw19_0.resolve_right (fun z => by omega)).2⟩ (WRq.a (by omega) (by omega) (e42 ▸ (hw45_0.resolve_right (fun z => by omega)).2) (by decide)) | exact STq.ok ⟨by omega, (hw6_0.resolve_right (fun z => by omega)).2, (hw19_0.resolve_right (fun z => by omega)).2⟩ (WRq.b (by omega) (fun q => by have z := q.1; omega) (by decide)) | exact STq.ok ⟨by omega, (hw6_0.resolve_right (fun z => by omega)).2, (hw19_0.resolve_right (fun z => by omega)).2⟩ (WRq.b (by omega) (fun q => (hw45_0.resolve_left (fun z => by omega)).2 (e42.symm ▸ q.2)) (by decide)) | exact STq.ok ⟨by omega, (hw6_0.resolve_right (fun z => by omega)).2, (hw19_0.resolve_right (fun z => by omega)).2⟩ (WRq.c (by omega) (by omega) (by decide)) | exact STq.ok ⟨by omega, (hw6_0.resolve_right (fun z => by omega)).2, (hw19_0.resolve_right (fun z => by omega)).2⟩ (WRq.d (by omega) (by omega) (e69 ▸ ((hw72_1 (ICp.nn (hw19_0.resolve_right (fun z => by omega)).2) (by omega)).resolve_right (fun z => by omega)).2) (by decide)) | exact STq.ok ⟨by omega, (hw6_0.resolve_right (fun z => by omega)).2, (hw19_0.resolve_right (fun z => by omega)).2⟩ (WRq.e (by omega) (by omega) (fun q => ((hw72_1 (ICp.nn (hw19_0.resolve_right (fun z => by omega)).2) (by omega)).resolve_left (fun z => by omega)).2 (e69.symm ▸ q)) (by decide))⟩, by rw [ht]; exact hP, va_K.moved hW.alike hK, hD⟩, hS.F ht⟩) hS.2.2 dX10_stores_83
            · skip
              refine lv_iconst (v := 0) hx hb dX10_stores_78 (by decide) ?_
              refine lv_goto (tgt := 83) hx hb dX10_stores_79 (by decide) ?_
              subst hAe
              rw [hQ]
              exact W.iret (v := 0) hx hb hr (fun t ht hW => ⟨⟨0, _, rfl, ⟨(0 : Int32), rfl, by first | exact STq.bad (by decide) (fun q => (hw6_0.resolve_left (fun z => by omega)).2 q.2.1) | exact STq.bad (by decide) (fun q => by have z := q.1; omega) | exact STq.bad (by decide) (fun q => (hw19_0.resolve_left (fun z => by omega)).2 q.2.2) | exact STq.ok ⟨by omega, (hw6_0.resolve_right (fun z => by omega)).2, (hw19_0.resolve_right (fun z => by omega)).2⟩ (WRq.a (by omega) (by omega) (e42 ▸ (hw45_0.resolve_right (fun z => by omega)).2) (by decide)) | exact STq.ok ⟨by omega, (hw6_0.resolve_right (fun z => by omega)).2, (hw19_0.resolve_right (fun z => by omega)).2⟩ (WRq.b (by omega) (fun q => by have z := q.1; omega) (by decide)) | exact STq.ok ⟨by omega, (hw6_0.resolve_right (fun z => by omega)).2, (hw19_0.resolve_right (fun z => by omega)).2⟩ (WRq.b (by omega) (fun q => (hw45_0.resolve_left (fun z => by omega)).2 (e42.symm ▸ q.2)) (by decide)) | exact STq.ok ⟨by omega, (hw6_0.resolve_right (fun z => by omega)).2, (hw19_0.resolve_right (fun z => by omega)).2⟩ (WRq.c (by omega) (by omega) (by decide)) | exact STq.ok ⟨by omega, (hw6_0.resolve_right (fun z => by omega)).2, (hw19_0.resolve_right (fun z => by omega)).2⟩ (WRq.d (by omega) (by omega) (e69 ▸ ((hw72_1 (ICp.nn (hw19_0.resolve_right (fun z => by omega)).2) (by omega)).resolve_right (fun z => by omega)).2) (by decide)) | exact STq.ok ⟨by omega, (hw6_0.resolve_right (fun z => by omega)).2, (hw19_0.resolve_right (fun z => by omega)).2⟩ (WRq.e (by omega) (by omega) (fun q => ((hw72_1 (ICp.nn (hw19_0.resolve_right (fun z => by omega)).2) (by omega)).resolve_left (fun z => by omega)).2 (e69.symm ▸ q)) (by decide))⟩, by rw [ht]; exact hP, va_K.moved hW.alike hK, hD⟩, hS.F ht⟩) hS.2.2 dX10_stores_83
          · skip
            refine lv_bipush (v := 6) hx hb dX10_stores_64 (by decide) ?_
            subst hAe
            rw [hQ]
            exact W.iret (v := 6) hx hb hr (fun t ht hW => ⟨⟨6, _, rfl, ⟨(0 : Int32), rfl, by first | exact STq.bad (by decide) (fun q => (hw6_0.resolve_left (fun z => by omega)).2 q.2.1) | exact STq.bad (by decide) (fun q => by have z := q.1; omega) | exact STq.bad (by decide) (fun q => (hw19_0.resolve_left (fun z => by omega)).2 q.2.2) | exact STq.ok ⟨by omega, (hw6_0.resolve_right (fun z => by omega)).2, (hw19_0.resolve_right (fun z => by omega)).2⟩ (WRq.a (by omega) (by omega) (e42 ▸ (hw45_0.resolve_right (fun z => by omega)).2) (by decide)) | exact STq.ok ⟨by omega, (hw6_0.resolve_right (fun z => by omega)).2, (hw19_0.resolve_right (fun z => by omega)).2⟩ (WRq.b (by omega) (fun q => by have z := q.1; omega) (by decide)) | exact STq.ok ⟨by omega, (hw6_0.resolve_right (fun z => by omega)).2, (hw19_0.resolve_right (fun z => by omega)).2⟩ (WRq.b (by omega) (fun q => (hw45_0.resolve_left (fun z => by omega)).2 (e42.symm ▸ q.2)) (by decide)) | exact STq.ok ⟨by omega, (hw6_0.resolve_right (fun z => by omega)).2, (hw19_0.resolve_right (fun z => by omega)).2⟩ (WRq.c (by omega) (by omega) (by decide)) | exact STq.ok ⟨by omega, (hw6_0.resolve_right (fun z => by omega)).2, (hw19_0.resolve_right (fun z => by omega)).2⟩ (WRq.d (by omega) (by omega) (e69 ▸ ((hw72_1 (ICp.nn (hw19_0.resolve_right (fun z => by omega)).2) (by omega)).resolve_right (fun z => by omega)).2) (by decide)) | exact STq.ok ⟨by omega, (hw6_0.resolve_right (fun z => by omega)).2, (hw19_0.resolve_right (fun z => by omega)).2⟩ (WRq.e (by omega) (by omega) (fun q => ((hw72_1 (ICp.nn (hw19_0.resolve_right (fun z => by omega)).2) (by omega)).resolve_left (fun z => by omega)).2 (e69.symm ▸ q)) (by decide))⟩, by rw [ht]; exact hP, va_K.moved hW.alike hK, hD⟩, hS.F ht⟩) hS.2.2 dX10_stores_66
        · skip
          refine lv_iload_n hx hb dX10_stores_34 rfl (lv_at hl 2 rfl) ?_
          refine lv_bipush (v := 8) hx hb dX10_stores_35 (by decide) ?_
          refine m_icmp_ge (X := b9.toInt) (Y := 8) (tgt := 55) hx hb dX10_stores_37 (by decide) rfl (by decide) (fun c37 => ?_) (fun c37 => ?_)
          · skip
            refine lv_bipush (v := 6) hx hb dX10_stores_55 (by decide) ?_
            subst hAe
            rw [hQ]
            exact W.iret (v := 6) hx hb hr (fun t ht hW => ⟨⟨6, _, rfl, ⟨(0 : Int32), rfl, by first | exact STq.bad (by decide) (fun q => (hw6_0.resolve_left (fun z => by omega)).2 q.2.1) | exact STq.bad (by decide) (fun q => by have z := q.1; omega) | exact STq.bad (by decide) (fun q => (hw19_0.resolve_left (fun z => by omega)).2 q.2.2) | exact STq.ok ⟨by omega, (hw6_0.resolve_right (fun z => by omega)).2, (hw19_0.resolve_right (fun z => by omega)).2⟩ (WRq.a (by omega) (by omega) (e42 ▸ (hw45_0.resolve_right (fun z => by omega)).2) (by decide)) | exact STq.ok ⟨by omega, (hw6_0.resolve_right (fun z => by omega)).2, (hw19_0.resolve_right (fun z => by omega)).2⟩ (WRq.b (by omega) (fun q => by have z := q.1; omega) (by decide)) | exact STq.ok ⟨by omega, (hw6_0.resolve_right (fun z => by omega)).2, (hw19_0.resolve_right (fun z => by omega)).2⟩ (WRq.b (by omega) (fun q => (hw45_0.resolve_left (fun z => by omega)).2 (e42.symm ▸ q.2)) (by decide)) | exact STq.ok ⟨by omega, (hw6_0.resolve_right (fun z => by omega)).2, (hw19_0.resolve_right (fun z => by omega)).2⟩ (WRq.c (by omega) (by omega) (by decide)) | exact STq.ok ⟨by omega, (hw6_0.resolve_right (fun z => by omega)).2, (hw19_0.resolve_right (fun z => by omega)).2⟩ (WRq.d (by omega) (by omega) (e69 ▸ ((hw72_1 (ICp.nn (hw19_0.resolve_right (fun z => by omega)).2) (by omega)).resolve_right (fun z => by omega)).2) (by decide)) | exact STq.ok ⟨by omega, (hw6_0.resolve_right (fun z => by omega)).2, (hw19_0.resolve_right (fun z => by omega)).2⟩ (WRq.e (by omega) (by omega) (fun q => ((hw72_1 (ICp.nn (hw19_0.resolve_right (fun z => by omega)).2) (by omega)).resolve_left (fun z => by omega)).2 (e69.symm ▸ q)) (by decide))⟩, by rw [ht]; exact hP, va_K.moved hW.alike hK, hD⟩, hS.F ht⟩) hS.2.2 dX10_stores_57
          · skip
            refine lv_iload_n hx hb dX10_stores_40 rfl (lv_at hl 2 rfl) ?_
            refine lv_iload_n hx hb dX10_stores_41 rfl (lv_at hl 1 rfl) ?_
            refine call_iSP (As := [.int a9]) (rest := [.int b9]) ⟨hx, hb, hml, hown, hts⟩ (tX10_elements (l := l) a9) (va_cwS 1 hts (gS (wr49 _ (List.mem_of_getElem? (i := 18) rfl)) (wr49 _ (List.mem_of_getElem? (i := 19) rfl)) (wr1 _ (List.mem_of_getElem? (i := 5) rfl)) (wr49 _ (List.mem_of_getElem? (i := 20) rfl))) rfl rfl rfl (by decide +kernel) ⟨Nat.le_of_ble_eq_true rfl, Nat.le_of_ble_eq_true rfl⟩) (hK.sub [] rfl) hP hD hE hS hA rfl hl.1 rfl (Nat.le_of_ble_eq_true rfl) dX10_stores_42 ⟨Nat.le_of_ble_eq_true rfl, Nat.le_of_ble_eq_true rfl⟩ (fun r42 w9 H locs hw42 hP hD hS => ?_)
            obtain ⟨rfl, hw42_0⟩ := hw42
            have b_r42 := iB r42
            have e42 := hw42_0 (by omega)
            refine call_iSP (As := [.int b9, .int r42]) (rest := []) ⟨hx, hb, hml, hown, hts⟩ (tX10_widens (l := l) b9 r42) (va_cwS 2 hts (gS (wr49 _ (List.mem_of_getElem? (i := 7) rfl)) (wr49 _ (List.mem_of_getElem? (i := 8) rfl)) (wr1 _ (List.mem_of_getElem? (i := 5) rfl)) (wr49 _ (List.mem_of_getElem? (i := 9) rfl))) rfl rfl rfl (by decide +kernel) ⟨Nat.le_of_ble_eq_true rfl, Nat.le_of_ble_eq_true rfl⟩) (hK.sub [] rfl) hP hD hE hS hA rfl hl.1 rfl (Nat.le_of_ble_eq_true rfl) dX10_stores_45 ⟨Nat.le_of_ble_eq_true rfl, Nat.le_of_ble_eq_true rfl⟩ (fun r45 w9 H locs hw45 hP hD hS => ?_)
            obtain ⟨rfl, hw45_0⟩ := hw45
            have b_r45 := iB r45
            refine m_if_eq (X := r45.toInt) (tgt := 55) hx hb dX10_stores_48 (by decide) rfl (fun c48 => ?_) (fun c48 => ?_)
            · skip
              refine lv_bipush (v := 6) hx hb dX10_stores_55 (by decide) ?_
              subst hAe
              rw [hQ]
              exact W.iret (v := 6) hx hb hr (fun t ht hW => ⟨⟨6, _, rfl, ⟨(0 : Int32), rfl, by first | exact STq.bad (by decide) (fun q => (hw6_0.resolve_left (fun z => by omega)).2 q.2.1) | exact STq.bad (by decide) (fun q => by have z := q.1; omega) | exact STq.bad (by decide) (fun q => (hw19_0.resolve_left (fun z => by omega)).2 q.2.2) | exact STq.ok ⟨by omega, (hw6_0.resolve_right (fun z => by omega)).2, (hw19_0.resolve_right (fun z => by omega)).2⟩ (WRq.a (by omega) (by omega) (e42 ▸ (hw45_0.resolve_right (fun z => by omega)).2) (by decide)) | exact STq.ok ⟨by omega, (hw6_0.resolve_right (fun z => by omega)).2, (hw19_0.resolve_right (fun z => by omega)).2⟩ (WRq.b (by omega) (fun q => by have z := q.1; omega) (by decide)) | exact STq.ok ⟨by omega, (hw6_0.resolve_right (fun z => by omega)).2, (hw19_0.resolve_right (fun z => by omega)).2⟩ (WRq.b (by omega) (fun q => (hw45_0.resolve_left (fun z => by omega)).2 (e42.symm ▸ q.2)) (by decide)) | exact STq.ok ⟨by omega, (hw6_0.resolve_right (fun z => by omega)).2, (hw19_0.resolve_right (fun z => by omega)).2⟩ (WRq.c (by omega) (by omega) (by decide)) | exact STq.ok ⟨by omega, (hw6_0.resolve_right (fun z => by omega)).2, (hw19_0.resolve_right (fun z => by omega)).2⟩ (WRq.d (by omega) (by omega) (e69 ▸ ((hw72_1 (ICp.nn (hw19_0.resolve_right (fun z => by omega)).2) (by omega)).resolve_right (fun z => by omega)).2) (by decide)) | exact STq.ok ⟨by omega, (hw6_0.resolve_right (fun z => by omega)).2, (hw19_0.resolve_right (fun z => by omega)).2⟩ (WRq.e (by omega) (by omega) (fun q => ((hw72_1 (ICp.nn (hw19_0.resolve_right (fun z => by omega)).2) (by omega)).resolve_left (fun z => by omega)).2 (e69.symm ▸ q)) (by decide))⟩, by rw [ht]; exact hP, va_K.moved hW.alike hK, hD⟩, hS.F ht⟩) hS.2.2 dX10_stores_57
            · skip
              refine lv_iconst (v := 0) hx hb dX10_stores_51 (by decide) ?_
              refine lv_goto (tgt := 57) hx hb dX10_stores_52 (by decide) ?_
              subst hAe
              rw [hQ]
              exact W.iret (v := 0) hx hb hr (fun t ht hW => ⟨⟨0, _, rfl, ⟨(0 : Int32), rfl, by first | exact STq.bad (by decide) (fun q => (hw6_0.resolve_left (fun z => by omega)).2 q.2.1) | exact STq.bad (by decide) (fun q => by have z := q.1; omega) | exact STq.bad (by decide) (fun q => (hw19_0.resolve_left (fun z => by omega)).2 q.2.2) | exact STq.ok ⟨by omega, (hw6_0.resolve_right (fun z => by omega)).2, (hw19_0.resolve_right (fun z => by omega)).2⟩ (WRq.a (by omega) (by omega) (e42 ▸ (hw45_0.resolve_right (fun z => by omega)).2) (by decide)) | exact STq.ok ⟨by omega, (hw6_0.resolve_right (fun z => by omega)).2, (hw19_0.resolve_right (fun z => by omega)).2⟩ (WRq.b (by omega) (fun q => by have z := q.1; omega) (by decide)) | exact STq.ok ⟨by omega, (hw6_0.resolve_right (fun z => by omega)).2, (hw19_0.resolve_right (fun z => by omega)).2⟩ (WRq.b (by omega) (fun q => (hw45_0.resolve_left (fun z => by omega)).2 (e42.symm ▸ q.2)) (by decide)) | exact STq.ok ⟨by omega, (hw6_0.resolve_right (fun z => by omega)).2, (hw19_0.resolve_right (fun z => by omega)).2⟩ (WRq.c (by omega) (by omega) (by decide)) | exact STq.ok ⟨by omega, (hw6_0.resolve_right (fun z => by omega)).2, (hw19_0.resolve_right (fun z => by omega)).2⟩ (WRq.d (by omega) (by omega) (e69 ▸ ((hw72_1 (ICp.nn (hw19_0.resolve_right (fun z => by omega)).2) (by omega)).resolve_right (fun z => by omega)).2) (by decide)) | exact STq.ok ⟨by omega, (hw6_0.resolve_right (fun z => by omega)).2, (hw19_0.resolve_right (fun z => by omega)).2⟩ (WRq.e (by omega) (by omega) (fun q => ((hw72_1 (ICp.nn (hw19_0.resolve_right (fun z => by omega)).2) (by omega)).resolve_left (fun z => by omega)).2 (e69.symm ▸ q)) (by decide))⟩, by rw [ht]; exact hP, va_K.moved hW.alike hK, hD⟩, hS.F ht⟩) hS.2.2 dX10_stores_57
      · skip
        refine lv_iconst (v := (-1)) hx hb dX10_stores_25 (by decide) ?_
        subst hAe
        rw [hQ]
        exact W.iret (v := (-1)) hx hb hr (fun t ht hW => ⟨⟨(-1), _, rfl, ⟨(0 : Int32), rfl, by first | exact STq.bad (by decide) (fun q => (hw6_0.resolve_left (fun z => by omega)).2 q.2.1) | exact STq.bad (by decide) (fun q => by have z := q.1; omega) | exact STq.bad (by decide) (fun q => (hw19_0.resolve_left (fun z => by omega)).2 q.2.2) | exact STq.ok ⟨by omega, (hw6_0.resolve_right (fun z => by omega)).2, (hw19_0.resolve_right (fun z => by omega)).2⟩ (WRq.a (by omega) (by omega) (e42 ▸ (hw45_0.resolve_right (fun z => by omega)).2) (by decide)) | exact STq.ok ⟨by omega, (hw6_0.resolve_right (fun z => by omega)).2, (hw19_0.resolve_right (fun z => by omega)).2⟩ (WRq.b (by omega) (fun q => by have z := q.1; omega) (by decide)) | exact STq.ok ⟨by omega, (hw6_0.resolve_right (fun z => by omega)).2, (hw19_0.resolve_right (fun z => by omega)).2⟩ (WRq.b (by omega) (fun q => (hw45_0.resolve_left (fun z => by omega)).2 (e42.symm ▸ q.2)) (by decide)) | exact STq.ok ⟨by omega, (hw6_0.resolve_right (fun z => by omega)).2, (hw19_0.resolve_right (fun z => by omega)).2⟩ (WRq.c (by omega) (by omega) (by decide)) | exact STq.ok ⟨by omega, (hw6_0.resolve_right (fun z => by omega)).2, (hw19_0.resolve_right (fun z => by omega)).2⟩ (WRq.d (by omega) (by omega) (e69 ▸ ((hw72_1 (ICp.nn (hw19_0.resolve_right (fun z => by omega)).2) (by omega)).resolve_right (fun z => by omega)).2) (by decide)) | exact STq.ok ⟨by omega, (hw6_0.resolve_right (fun z => by omega)).2, (hw19_0.resolve_right (fun z => by omega)).2⟩ (WRq.e (by omega) (by omega) (fun q => ((hw72_1 (ICp.nn (hw19_0.resolve_right (fun z => by omega)).2) (by omega)).resolve_left (fun z => by omega)).2 (e69.symm ▸ q)) (by decide))⟩, by rw [ht]; exact hP, va_K.moved hW.alike hK, hD⟩, hS.F ht⟩) hS.2.2 dX10_stores_26

def rmX10_copies_ : Room := { frames := 80, cells := 0, slots := 0, locals := 1600 }
set_option maxHeartbeats 4000000 in
set_option maxRecDepth 100000 in
theorem tX10_copies_ {l : Launch} {D : va_G} {K : Nat → Nat → Nat} {cs : Nat → ClassId} {q : Nat → Nat} {v_thrown v_taped v_size v_to v_kind v_from v_letterMany v_isBeyond v_suffix v_steps v_fault v_hasProgram v_wrong v_wrongAt v_variable v_numberKind v_takes v_outed v_creatures v_arrays v_cells v_marks v_came v_guessed v_right v_taken v_sort v_kindAt v_reached v_looked : Int32} {a_tape a_text a_act a_guess a_take a_begin a_finish a_to1 a_one a_two a_what a_ats a_atVar a_atNumber a_atomSort a_atomKind a_out a_varSort a_varKind a_creature a_arrayClass a_arrayFrom a_arrayLong a_cellSort a_cellKind a_asideSort a_asideKind a_outcome a_markSort a_markKind a_markClass a_index : Nat → Int32} {v_letters v_digits v_number v_value : Int64} {a_atomValue a_varValue a_cellValue a_asideValue a_markValue : Nat → Int64} (a9 : Int32) (b9 : Int32) (d9 : Int32) : CtI l yX10_copies_ (wG yX10_copies_ cX10_copies_ 4 (some .int)) rmX10_copies_ D (mwT cs) K [.ref (q 0), .int a9, .int b9, .int d9] (mw cs q v_thrown a_tape v_taped v_size v_to v_kind v_from v_letters v_letterMany v_digits v_isBeyond v_suffix v_steps v_fault v_hasProgram a_text a_act a_guess a_take a_begin a_finish a_to1 a_one a_two a_what a_ats a_atVar a_atNumber a_atomSort a_atomKind a_atomValue v_wrong v_wrongAt v_variable v_number v_numberKind v_takes a_out v_outed a_varSort a_varKind a_varValue a_creature v_creatures a_arrayClass a_arrayFrom a_arrayLong v_arrays v_cells a_cellSort a_cellKind a_cellValue a_asideSort a_asideKind a_asideValue a_outcome v_marks v_came v_guessed v_right v_taken a_markSort a_markKind a_markClass a_markValue v_sort v_kindAt v_value a_index v_reached v_looked) (fun r w1 => ∃ (v_thrown' : Int32), w1 = (mw cs q v_thrown' a_tape v_taped v_size v_to v_kind v_from v_letters v_letterMany v_digits v_isBeyond v_suffix v_steps v_fault v_hasProgram a_text a_act a_guess a_take a_begin a_finish a_to1 a_one a_two a_what a_ats a_atVar a_atNumber a_atomSort a_atomKind a_atomValue v_wrong v_wrongAt v_variable v_number v_numberKind v_takes a_out v_outed a_varSort a_varKind a_varValue a_creature v_creatures a_arrayClass a_arrayFrom a_arrayLong v_arrays v_cells a_cellSort a_cellKind a_cellValue a_asideSort a_asideKind a_asideValue a_outcome v_marks v_came v_guessed v_right v_taken a_markSort a_markKind a_markClass a_markValue v_sort v_kindAt v_value a_index v_reached v_looked) ∧ (CPq a9.toInt b9.toInt d9.toInt r.toInt)) 0 0 := by
  intro sz
  refine Met.ofW (cc := cX10_copies_) (maxL := 4) (ret := (some .int)) (by decide) rfl ?_
  intro p e s m args below meth c s₁ B hml hv
  obtain ⟨rfl, hsz, hP, hK, hD0, hE⟩ := hv
  have hx := B.exec
  have hb := B.bytes
  have hr := B.returns
  have hts := atoms_spec (ws := (wG yX10_copies_ cX10_copies_ 4 (some .int))) B.pre
  have hown : s.vm.findClass RX10 = some m.cls := findClass_of_methodNamed B.named
  have hlocks := B.notSynchronized
  subst hsz
  have hD := hD0.self (sz := s.heap.size)
  obtain ⟨A, hAe⟩ : ∃ A : Nat → Prop, A = va_A (mw cs q v_thrown a_tape v_taped v_size v_to v_kind v_from v_letters v_letterMany v_digits v_isBeyond v_suffix v_steps v_fault v_hasProgram a_text a_act a_guess a_take a_begin a_finish a_to1 a_one a_two a_what a_ats a_atVar a_atNumber a_atomSort a_atomKind a_atomValue v_wrong v_wrongAt v_variable v_number v_numberKind v_takes a_out v_outed a_varSort a_varKind a_varValue a_creature v_creatures a_arrayClass a_arrayFrom a_arrayLong v_arrays v_cells a_cellSort a_cellKind a_cellValue a_asideSort a_asideKind a_asideValue a_outcome v_marks v_came v_guessed v_right v_taken a_markSort a_markKind a_markClass a_markValue v_sort v_kindAt v_value a_index v_reached v_looked) s.heap.size := ⟨_, rfl⟩
  rw [← hAe] at hD hE
  have hA : ∀ q : Nat, s.heap.size ≤ q → A q := fun q h => by rw [hAe]; exact Or.inr h
  have hS : va_S A s.heap s.heap [] := va_S.rf
  have hl := lv_entry ([.ref (q 0), .int a9, .int b9, .int d9]) (n := 4) (Nat.le_of_ble_eq_true rfl)
  rw [lg_entry_eq]
  generalize (lg_sl ([.ref (q 0), .int a9, .int b9, .int d9]) ++ List.replicate (4 - (lg_sl ([.ref (q 0), .int a9, .int b9, .int d9])).length) Slot.unset).toArray = ls at hl ⊢
  have hl : lv_has ls 4 [(0, .ref (q 0)), (1, .int a9), (2, .int b9), (3, .int d9)] := hl
  refine wq (fun Q hQ => ?_)
  have hin : ∀ w ∈ wsX100, w ∈ (wG yX10_copies_ cX10_copies_ 4 (some .int)) := fun w h => List.mem_cons_of_mem _ (inlX10 w h)
  have kc0 : (-1 : Int32).toInt = -1 := by decide
  have kc1 : (0 : Int32).toInt = 0 := by decide
  have kc2 : (4 : Int32).toInt = 4 := by decide
  have kc3 : (6 : Int32).toInt = 6 := by decide
  have kc4 : (20 : Int32).toInt = 20 := by decide
  have k_7_9 := hts (.fieldLink RX10 122 "ArrayTrainerModel" "thrown" "I") (List.mem_cons_of_mem _ (wr7 _ (List.mem_of_getElem? (i := 9) rfl)))
  obtain ⟨H, hH⟩ : ∃ H : Heap, H = s.heap := ⟨_, rfl⟩
  obtain ⟨locs, hlc⟩ : ∃ L : List Loc, L = [] := ⟨_, rfl⟩
  have hP : va_P D vwCl (mw cs q v_thrown a_tape v_taped v_size v_to v_kind v_from v_letters v_letterMany v_digits v_isBeyond v_suffix v_steps v_fault v_hasProgram a_text a_act a_guess a_take a_begin a_finish a_to1 a_one a_two a_what a_ats a_atVar a_atNumber a_atomSort a_atomKind a_atomValue v_wrong v_wrongAt v_variable v_number v_numberKind v_takes a_out v_outed a_varSort a_varKind a_varValue a_creature v_creatures a_arrayClass a_arrayFrom a_arrayLong v_arrays v_cells a_cellSort a_cellKind a_cellValue a_asideSort a_asideKind a_asideValue a_outcome v_marks v_came v_guessed v_right v_taken a_markSort a_markKind a_markClass a_markValue v_sort v_kindAt v_value a_index v_reached v_looked) H := by rw [hH]; exact hP
  have hS : va_S A s.heap H locs := by rw [hH, hlc]; exact hS
  refine wHL hH hlc ?_
  have b_a9 := iB a9
  have b_b9 := iB b9
  have b_d9 := iB d9
  refine lv_aload_n hx hb dX10_copies__0 rfl (lv_at hl 0 rfl) ?_
  refine lv_iconst (v := 0) hx hb dX10_copies__1 (by decide) ?_
  refine va_put (D := D) (ci := 9) (v := .int 0) (ty := .int) (C := RX10) (T := TX10) (N := 71) hx hb hts hin tyX10 tyX10_ok nmX10 hown hK hP hD hS 0 rfl rfl 0 (by decide) k_7_9 (fun _ h9 => h9) rfl (by decide +kernel) rfl rfl (Nat.le_of_ble_eq_true rfl) dX10_copies__2 (fun H locs hP hD hS => ?_)
  have hP : va_P D vwCl (mw cs q (0 : Int32) a_tape v_taped v_size v_to v_kind v_from v_letters v_letterMany v_digits v_isBeyond v_suffix v_steps v_fault v_hasProgram a_text a_act a_guess a_take a_begin a_finish a_to1 a_one a_two a_what a_ats a_atVar a_atNumber a_atomSort a_atomKind a_atomValue v_wrong v_wrongAt v_variable v_number v_numberKind v_takes a_out v_outed a_varSort a_varKind a_varValue a_creature v_creatures a_arrayClass a_arrayFrom a_arrayLong v_arrays v_cells a_cellSort a_cellKind a_cellValue a_asideSort a_asideKind a_asideValue a_outcome v_marks v_came v_guessed v_right v_taken a_markSort a_markKind a_markClass a_markValue v_sort v_kindAt v_value a_index v_reached v_looked) H := hP
  have hD : va_D A (mw cs q (0 : Int32) a_tape v_taped v_size v_to v_kind v_from v_letters v_letterMany v_digits v_isBeyond v_suffix v_steps v_fault v_hasProgram a_text a_act a_guess a_take a_begin a_finish a_to1 a_one a_two a_what a_ats a_atVar a_atNumber a_atomSort a_atomKind a_atomValue v_wrong v_wrongAt v_variable v_number v_numberKind v_takes a_out v_outed a_varSort a_varKind a_varValue a_creature v_creatures a_arrayClass a_arrayFrom a_arrayLong v_arrays v_cells a_cellSort a_cellKind a_cellValue a_asideSort a_asideKind a_asideValue a_outcome v_marks v_came v_guessed v_right v_taken a_markSort a_markKind a_markClass a_markValue v_sort v_kindAt v_value a_index v_reached v_looked) := hD
  refine lv_aload_n hx hb dX10_copies__5 rfl (lv_at hl 0 rfl) ?_
  refine lv_iload_n hx hb dX10_copies__6 rfl (lv_at hl 1 rfl) ?_
  refine lv_iload_n hx hb dX10_copies__7 rfl (lv_at hl 2 rfl) ?_
  refine call_i (As := [.int a9, .int b9]) (rest := []) ⟨hx, hb, hml, hown, hts⟩ (tX10_stores (l := l) a9 b9) (cwV 2 hts (gV (wr59 _ (List.mem_of_getElem? (i := 21) rfl)) (wr59 _ (List.mem_of_getElem? (i := 7) rfl)) (wr59 _ (List.mem_of_getElem? (i := 8) rfl)) (wr1 _ (List.mem_of_getElem? (i := 5) rfl)) (wr59 _ (List.mem_of_getElem? (i := 9) rfl))) rfl rfl rfl (by decide +kernel) ⟨Nat.le_of_ble_eq_true rfl, Nat.le_of_ble_eq_true rfl⟩) (va_recv hK hP (ci := 9) (q0 := 0) rfl rfl) hK hP hD hE hS hA rfl hl.1 rfl (Nat.le_of_ble_eq_true rfl) dX10_copies__8 ⟨Nat.le_of_ble_eq_true rfl, Nat.le_of_ble_eq_true rfl⟩ (fun r8 w9 H locs hw8 hP hD hS => ?_)
  obtain ⟨v_thrown_8, rfl, hw8_0⟩ := hw8
  have b_v_thrown_8 := iB v_thrown_8
  have b_r8 := iB r8
  refine m_if_ne (X := r8.toInt) (tgt := 27) hx hb dX10_copies__11 (by decide) rfl (fun c11 => ?_) (fun c11 => ?_)
  · skip
    refine lv_iconst (v := (-1)) hx hb dX10_copies__27 (by decide) ?_
    subst hAe
    rw [hQ]
    exact W.iret (v := (-1)) hx hb hr (fun t ht hW => ⟨⟨(-1), _, rfl, ⟨v_thrown_8, rfl, by first | exact CPq.bad (by decide) (fun q => absurd (STq.uniq hw8_0 q.1) (by omega)) | exact CPq.bad (by decide) (fun q => (hw15_0.resolve_left (fun z => by omega)).2 q.2.2) | exact CPq.bad (by decide) (fun q => by have z := q.2.1; omega) | (have hs9 : STq a9.toInt b9.toInt 0 := (show r8.toInt = 0 by omega) ▸ hw8_0; have hv9 : CVq a9.toInt b9.toInt d9.toInt := ⟨hs9, by omega, (hw15_0.resolve_right (fun z => by omega)).2⟩; have ha9 := hs9.val.1.1; have hB9 := ICp.nn hs9.val.1.2.2; exact CPq.eq hv9 (by omega) (by omega) (by decide)) | (have hs9 : STq a9.toInt b9.toInt 0 := (show r8.toInt = 0 by omega) ▸ hw8_0; have hv9 : CVq a9.toInt b9.toInt d9.toInt := ⟨hs9, by omega, (hw15_0.resolve_right (fun z => by omega)).2⟩; have ha9 := hs9.val.1.1; have hB9 := ICp.nn hs9.val.1.2.2; exact CPq.ne hv9 (by omega) (by omega) (by decide)) | (have hs9 : STq a9.toInt b9.toInt 0 := (show r8.toInt = 0 by omega) ▸ hw8_0; have hv9 : CVq a9.toInt b9.toInt d9.toInt := ⟨hs9, by omega, (hw15_0.resolve_right (fun z => by omega)).2⟩; have ha9 := hs9.val.1.1; have hB9 := ICp.nn hs9.val.1.2.2; exact CPq.yes hv9 (by omega) (by omega) (e57 ▸ ((hw60_1 hB9 (by omega)).resolve_right (fun z => by omega)).2) (by decide)) | (have hs9 : STq a9.toInt b9.toInt 0 := (show r8.toInt = 0 by omega) ▸ hw8_0; have hv9 : CVq a9.toInt b9.toInt d9.toInt := ⟨hs9, by omega, (hw15_0.resolve_right (fun z => by omega)).2⟩; have ha9 := hs9.val.1.1; have hB9 := ICp.nn hs9.val.1.2.2; exact CPq.not hv9 (by omega) (by omega) (fun q => ((hw60_1 hB9 (by omega)).resolve_left (fun z => by omega)).2 (e57.symm ▸ q)) (by decide))⟩, by rw [ht]; exact hP, va_K.moved hW.alike hK, hD⟩, hS.F ht⟩) hS.2.2 dX10_copies__28
  · skip
    refine lv_iload_n hx hb dX10_copies__14 rfl (lv_at hl 3 rfl) ?_
    refine call_iSP (As := [.int d9]) (rest := []) ⟨hx, hb, hml, hown, hts⟩ (tX10_isClass (l := l) d9) (va_cwS 1 hts (gS (wr58 _ (List.mem_of_getElem? (i := 8) rfl)) (wr58 _ (List.mem_of_getElem? (i := 9) rfl)) (wr1 _ (List.mem_of_getElem? (i := 5) rfl)) (wr58 _ (List.mem_of_getElem? (i := 10) rfl))) rfl rfl rfl (by decide +kernel) ⟨Nat.le_of_ble_eq_true rfl, Nat.le_of_ble_eq_true rfl⟩) (hK.sub [] rfl) hP hD hE hS hA rfl hl.1 rfl (Nat.le_of_ble_eq_true rfl) dX10_copies__15 ⟨Nat.le_of_ble_eq_true rfl, Nat.le_of_ble_eq_true rfl⟩ (fun r15 w9 H locs hw15 hP hD hS => ?_)
    obtain ⟨rfl, hw15_0⟩ := hw15
    have b_r15 := iB r15
    refine m_if_eq (X := r15.toInt) (tgt := 27) hx hb dX10_copies__18 (by decide) rfl (fun c18 => ?_) (fun c18 => ?_)
    · skip
      refine lv_iconst (v := (-1)) hx hb dX10_copies__27 (by decide) ?_
      subst hAe
      rw [hQ]
      exact W.iret (v := (-1)) hx hb hr (fun t ht hW => ⟨⟨(-1), _, rfl, ⟨v_thrown_8, rfl, by first | exact CPq.bad (by decide) (fun q => absurd (STq.uniq hw8_0 q.1) (by omega)) | exact CPq.bad (by decide) (fun q => (hw15_0.resolve_left (fun z => by omega)).2 q.2.2) | exact CPq.bad (by decide) (fun q => by have z := q.2.1; omega) | (have hs9 : STq a9.toInt b9.toInt 0 := (show r8.toInt = 0 by omega) ▸ hw8_0; have hv9 : CVq a9.toInt b9.toInt d9.toInt := ⟨hs9, by omega, (hw15_0.resolve_right (fun z => by omega)).2⟩; have ha9 := hs9.val.1.1; have hB9 := ICp.nn hs9.val.1.2.2; exact CPq.eq hv9 (by omega) (by omega) (by decide)) | (have hs9 : STq a9.toInt b9.toInt 0 := (show r8.toInt = 0 by omega) ▸ hw8_0; have hv9 : CVq a9.toInt b9.toInt d9.toInt := ⟨hs9, by omega, (hw15_0.resolve_right (fun z => by omega)).2⟩; have ha9 := hs9.val.1.1; have hB9 := ICp.nn hs9.val.1.2.2; exact CPq.ne hv9 (by omega) (by omega) (by decide)) | (have hs9 : STq a9.toInt b9.toInt 0 := (show r8.toInt = 0 by omega) ▸ hw8_0; have hv9 : CVq a9.toInt b9.toInt d9.toInt := ⟨hs9, by omega, (hw15_0.resolve_right (fun z => by omega)).2⟩; have ha9 := hs9.val.1.1; have hB9 := ICp.nn hs9.val.1.2.2; exact CPq.yes hv9 (by omega) (by omega) (e57 ▸ ((hw60_1 hB9 (by omega)).resolve_right (fun z => by omega)).2) (by decide)) | (have hs9 : STq a9.toInt b9.toInt 0 := (show r8.toInt = 0 by omega) ▸ hw8_0; have hv9 : CVq a9.toInt b9.toInt d9.toInt := ⟨hs9, by omega, (hw15_0.resolve_right (fun z => by omega)).2⟩; have ha9 := hs9.val.1.1; have hB9 := ICp.nn hs9.val.1.2.2; exact CPq.not hv9 (by omega) (by omega) (fun q => ((hw60_1 hB9 (by omega)).resolve_left (fun z => by omega)).2 (e57.symm ▸ q)) (by decide))⟩, by rw [ht]; exact hP, va_K.moved hW.alike hK, hD⟩, hS.F ht⟩) hS.2.2 dX10_copies__28
    · skip
      refine lv_iload_n hx hb dX10_copies__21 rfl (lv_at hl 3 rfl) ?_
      refine lv_bipush (v := 20) hx hb dX10_copies__22 (by decide) ?_
      refine m_icmp_ge (X := d9.toInt) (Y := 20) (tgt := 29) hx hb dX10_copies__24 (by decide) rfl (by decide) (fun c24 => ?_) (fun c24 => ?_)
      · skip
        refine lv_iload_n hx hb dX10_copies__29 rfl (lv_at hl 1 rfl) ?_
        refine call_iSP (As := [.int a9]) (rest := []) ⟨hx, hb, hml, hown, hts⟩ (tX10_isOfNumbers (l := l) a9) (va_cwS 1 hts (gS (wr49 _ (List.mem_of_getElem? (i := 4) rfl)) (wr49 _ (List.mem_of_getElem? (i := 5) rfl)) (wr1 _ (List.mem_of_getElem? (i := 5) rfl)) (wr49 _ (List.mem_of_getElem? (i := 6) rfl))) rfl rfl rfl (by decide +kernel) ⟨Nat.le_of_ble_eq_true rfl, Nat.le_of_ble_eq_true rfl⟩) (hK.sub [] rfl) hP hD hE hS hA rfl hl.1 rfl (Nat.le_of_ble_eq_true rfl) dX10_copies__30 ⟨Nat.le_of_ble_eq_true rfl, Nat.le_of_ble_eq_true rfl⟩ (fun r30 w9 H locs hw30 hP hD hS => ?_)
        obtain ⟨rfl, hw30_0⟩ := hw30
        have b_r30 := iB r30
        refine m_if_ne (X := r30.toInt) (tgt := 43) hx hb dX10_copies__33 (by decide) rfl (fun c33 => ?_) (fun c33 => ?_)
        · skip
          refine lv_iload_n hx hb dX10_copies__43 rfl (lv_at hl 1 rfl) ?_
          refine lv_iload_n hx hb dX10_copies__44 rfl (lv_at hl 3 rfl) ?_
          refine m_icmp_ne (X := a9.toInt) (Y := d9.toInt) (tgt := 52) hx hb dX10_copies__45 (by decide) rfl rfl (fun c45 => ?_) (fun c45 => ?_)
          · skip
            refine lv_bipush (v := 6) hx hb dX10_copies__52 (by decide) ?_
            subst hAe
            rw [hQ]
            exact W.iret (v := 6) hx hb hr (fun t ht hW => ⟨⟨6, _, rfl, ⟨v_thrown_8, rfl, by first | exact CPq.bad (by decide) (fun q => absurd (STq.uniq hw8_0 q.1) (by omega)) | exact CPq.bad (by decide) (fun q => (hw15_0.resolve_left (fun z => by omega)).2 q.2.2) | exact CPq.bad (by decide) (fun q => by have z := q.2.1; omega) | (have hs9 : STq a9.toInt b9.toInt 0 := (show r8.toInt = 0 by omega) ▸ hw8_0; have hv9 : CVq a9.toInt b9.toInt d9.toInt := ⟨hs9, by omega, (hw15_0.resolve_right (fun z => by omega)).2⟩; have ha9 := hs9.val.1.1; have hB9 := ICp.nn hs9.val.1.2.2; exact CPq.eq hv9 (by omega) (by omega) (by decide)) | (have hs9 : STq a9.toInt b9.toInt 0 := (show r8.toInt = 0 by omega) ▸ hw8_0; have hv9 : CVq a9.toInt b9.toInt d9.toInt := ⟨hs9, by omega, (hw15_0.resolve_right (fun z => by omega)).2⟩; have ha9 := hs9.val.1.1; have hB9 := ICp.nn hs9.val.1.2.2; exact CPq.ne hv9 (by omega) (by omega) (by decide)) | (have hs9 : STq a9.toInt b9.toInt 0 := (show r8.toInt = 0 by omega) ▸ hw8_0; have hv9 : CVq a9.toInt b9.toInt d9.toInt := ⟨hs9, by omega, (hw15_0.resolve_right (fun z => by omega)).2⟩; have ha9 := hs9.val.1.1; have hB9 := ICp.nn hs9.val.1.2.2; exact CPq.yes hv9 (by omega) (by omega) (e57 ▸ ((hw60_1 hB9 (by omega)).resolve_right (fun z => by omega)).2) (by decide)) | (have hs9 : STq a9.toInt b9.toInt 0 := (show r8.toInt = 0 by omega) ▸ hw8_0; have hv9 : CVq a9.toInt b9.toInt d9.toInt := ⟨hs9, by omega, (hw15_0.resolve_right (fun z => by omega)).2⟩; have ha9 := hs9.val.1.1; have hB9 := ICp.nn hs9.val.1.2.2; exact CPq.not hv9 (by omega) (by omega) (fun q => ((hw60_1 hB9 (by omega)).resolve_left (fun z => by omega)).2 (e57.symm ▸ q)) (by decide))⟩, by rw [ht]; exact hP, va_K.moved hW.alike hK, hD⟩, hS.F ht⟩) hS.2.2 dX10_copies__54
          · skip
            refine lv_iconst (v := 0) hx hb dX10_copies__48 (by decide) ?_
            refine lv_goto (tgt := 54) hx hb dX10_copies__49 (by decide) ?_
            subst hAe
            rw [hQ]
            exact W.iret (v := 0) hx hb hr (fun t ht hW => ⟨⟨0, _, rfl, ⟨v_thrown_8, rfl, by first | exact CPq.bad (by decide) (fun q => absurd (STq.uniq hw8_0 q.1) (by omega)) | exact CPq.bad (by decide) (fun q => (hw15_0.resolve_left (fun z => by omega)).2 q.2.2) | exact CPq.bad (by decide) (fun q => by have z := q.2.1; omega) | (have hs9 : STq a9.toInt b9.toInt 0 := (show r8.toInt = 0 by omega) ▸ hw8_0; have hv9 : CVq a9.toInt b9.toInt d9.toInt := ⟨hs9, by omega, (hw15_0.resolve_right (fun z => by omega)).2⟩; have ha9 := hs9.val.1.1; have hB9 := ICp.nn hs9.val.1.2.2; exact CPq.eq hv9 (by omega) (by omega) (by decide)) | (have hs9 : STq a9.toInt b9.toInt 0 := (show r8.toInt = 0 by omega) ▸ hw8_0; have hv9 : CVq a9.toInt b9.toInt d9.toInt := ⟨hs9, by omega, (hw15_0.resolve_right (fun z => by omega)).2⟩; have ha9 := hs9.val.1.1; have hB9 := ICp.nn hs9.val.1.2.2; exact CPq.ne hv9 (by omega) (by omega) (by decide)) | (have hs9 : STq a9.toInt b9.toInt 0 := (show r8.toInt = 0 by omega) ▸ hw8_0; have hv9 : CVq a9.toInt b9.toInt d9.toInt := ⟨hs9, by omega, (hw15_0.resolve_right (fun z => by omega)).2⟩; have ha9 := hs9.val.1.1; have hB9 := ICp.nn hs9.val.1.2.2; exact CPq.yes hv9 (by omega) (by omega) (e57 ▸ ((hw60_1 hB9 (by omega)).resolve_right (fun z => by omega)).2) (by decide)) | (have hs9 : STq a9.toInt b9.toInt 0 := (show r8.toInt = 0 by omega) ▸ hw8_0; have hv9 : CVq a9.toInt b9.toInt d9.toInt := ⟨hs9, by omega, (hw15_0.resolve_right (fun z => by omega)).2⟩; have ha9 := hs9.val.1.1; have hB9 := ICp.nn hs9.val.1.2.2; exact CPq.not hv9 (by omega) (by omega) (fun q => ((hw60_1 hB9 (by omega)).resolve_left (fun z => by omega)).2 (e57.symm ▸ q)) (by decide))⟩, by rw [ht]; exact hP, va_K.moved hW.alike hK, hD⟩, hS.F ht⟩) hS.2.2 dX10_copies__54
        · skip
          refine lv_iload_n hx hb dX10_copies__36 rfl (lv_at hl 3 rfl) ?_
          refine call_iSP (As := [.int d9]) (rest := []) ⟨hx, hb, hml, hown, hts⟩ (tX10_isOfNumbers (l := l) d9) (va_cwS 1 hts (gS (wr49 _ (List.mem_of_getElem? (i := 4) rfl)) (wr49 _ (List.mem_of_getElem? (i := 5) rfl)) (wr1 _ (List.mem_of_getElem? (i := 5) rfl)) (wr49 _ (List.mem_of_getElem? (i := 6) rfl))) rfl rfl rfl (by decide +kernel) ⟨Nat.le_of_ble_eq_true rfl, Nat.le_of_ble_eq_true rfl⟩) (hK.sub [] rfl) hP hD hE hS hA rfl hl.1 rfl (Nat.le_of_ble_eq_true rfl) dX10_copies__37 ⟨Nat.le_of_ble_eq_true rfl, Nat.le_of_ble_eq_true rfl⟩ (fun r37 w9 H locs hw37 hP hD hS => ?_)
          obtain ⟨rfl, hw37_0⟩ := hw37
          have b_r37 := iB r37
          refine m_if_eq (X := r37.toInt) (tgt := 55) hx hb dX10_copies__40 (by decide) rfl (fun c40 => ?_) (fun c40 => ?_)
          · skip
            refine lv_iload_n hx hb dX10_copies__55 rfl (lv_at hl 2 rfl) ?_
            refine lv_iload_n hx hb dX10_copies__56 rfl (lv_at hl 3 rfl) ?_
            refine call_iSP (As := [.int d9]) (rest := [.int b9]) ⟨hx, hb, hml, hown, hts⟩ (tX10_elements (l := l) d9) (va_cwS 1 hts (gS (wr49 _ (List.mem_of_getElem? (i := 18) rfl)) (wr49 _ (List.mem_of_getElem? (i := 19) rfl)) (wr1 _ (List.mem_of_getElem? (i := 5) rfl)) (wr49 _ (List.mem_of_getElem? (i := 20) rfl))) rfl rfl rfl (by decide +kernel) ⟨Nat.le_of_ble_eq_true rfl, Nat.le_of_ble_eq_true rfl⟩) (hK.sub [] rfl) hP hD hE hS hA rfl hl.1 rfl (Nat.le_of_ble_eq_true rfl) dX10_copies__57 ⟨Nat.le_of_ble_eq_true rfl, Nat.le_of_ble_eq_true rfl⟩ (fun r57 w9 H locs hw57 hP hD hS => ?_)
            obtain ⟨rfl, hw57_0⟩ := hw57
            have b_r57 := iB r57
            have e57 := hw57_0 (by omega)
            refine call_iSP (As := [.int b9, .int r57]) (rest := []) ⟨hx, hb, hml, hown, hts⟩ (tX10_isBelow (l := l) b9 r57) (va_cwS 2 hts (gS (wr50 _ (List.mem_of_getElem? (i := 1) rfl)) (wr50 _ (List.mem_of_getElem? (i := 2) rfl)) (wr1 _ (List.mem_of_getElem? (i := 5) rfl)) (wr50 _ (List.mem_of_getElem? (i := 3) rfl))) rfl rfl rfl (by decide +kernel) ⟨Nat.le_of_ble_eq_true rfl, Nat.le_of_ble_eq_true rfl⟩) (hK.sub [] rfl) hP hD hE hS hA rfl hl.1 rfl (Nat.le_of_ble_eq_true rfl) dX10_copies__60 ⟨Nat.le_of_ble_eq_true rfl, Nat.le_of_ble_eq_true rfl⟩ (fun r60 w9 H locs hw60 hP hD hS => ?_)
            obtain ⟨rfl, hw60_0, hw60_1⟩ := hw60
            have b_r60 := iB r60
            refine m_if_eq (X := r60.toInt) (tgt := 70) hx hb dX10_copies__63 (by decide) rfl (fun c63 => ?_) (fun c63 => ?_)
            · skip
              refine lv_iconst (v := 4) hx hb dX10_copies__70 (by decide) ?_
              subst hAe
              rw [hQ]
              exact W.iret (v := 4) hx hb hr (fun t ht hW => ⟨⟨4, _, rfl, ⟨v_thrown_8, rfl, by first | exact CPq.bad (by decide) (fun q => absurd (STq.uniq hw8_0 q.1) (by omega)) | exact CPq.bad (by decide) (fun q => (hw15_0.resolve_left (fun z => by omega)).2 q.2.2) | exact CPq.bad (by decide) (fun q => by have z := q.2.1; omega) | (have hs9 : STq a9.toInt b9.toInt 0 := (show r8.toInt = 0 by omega) ▸ hw8_0; have hv9 : CVq a9.toInt b9.toInt d9.toInt := ⟨hs9, by omega, (hw15_0.resolve_right (fun z => by omega)).2⟩; have ha9 := hs9.val.1.1; have hB9 := ICp.nn hs9.val.1.2.2; exact CPq.eq hv9 (by omega) (by omega) (by decide)) | (have hs9 : STq a9.toInt b9.toInt 0 := (show r8.toInt = 0 by omega) ▸ hw8_0; have hv9 : CVq a9.toInt b9.toInt d9.toInt := ⟨hs9, by omega, (hw15_0.resolve_right (fun z => by omega)).2⟩; have ha9 := hs9.val.1.1; have hB9 := ICp.nn hs9.val.1.2.2; exact CPq.ne hv9 (by omega) (by omega) (by decide)) | (have hs9 : STq a9.toInt b9.toInt 0 := (show r8.toInt = 0 by omega) ▸ hw8_0; have hv9 : CVq a9.toInt b9.toInt d9.toInt := ⟨hs9, by omega, (hw15_0.resolve_right (fun z => by omega)).2⟩; have ha9 := hs9.val.1.1; have hB9 := ICp.nn hs9.val.1.2.2; exact CPq.yes hv9 (by omega) (by omega) (e57 ▸ ((hw60_1 hB9 (by omega)).resolve_right (fun z => by omega)).2) (by decide)) | (have hs9 : STq a9.toInt b9.toInt 0 := (show r8.toInt = 0 by omega) ▸ hw8_0; have hv9 : CVq a9.toInt b9.toInt d9.toInt := ⟨hs9, by omega, (hw15_0.resolve_right (fun z => by omega)).2⟩; have ha9 := hs9.val.1.1; have hB9 := ICp.nn hs9.val.1.2.2; exact CPq.not hv9 (by omega) (by omega) (fun q => ((hw60_1 hB9 (by omega)).resolve_left (fun z => by omega)).2 (e57.symm ▸ q)) (by decide))⟩, by rw [ht]; exact hP, va_K.moved hW.alike hK, hD⟩, hS.F ht⟩) hS.2.2 dX10_copies__71
            · skip
              refine lv_iconst (v := 0) hx hb dX10_copies__66 (by decide) ?_
              refine lv_goto (tgt := 71) hx hb dX10_copies__67 (by decide) ?_
              subst hAe
              rw [hQ]
              exact W.iret (v := 0) hx hb hr (fun t ht hW => ⟨⟨0, _, rfl, ⟨v_thrown_8, rfl, by first | exact CPq.bad (by decide) (fun q => absurd (STq.uniq hw8_0 q.1) (by omega)) | exact CPq.bad (by decide) (fun q => (hw15_0.resolve_left (fun z => by omega)).2 q.2.2) | exact CPq.bad (by decide) (fun q => by have z := q.2.1; omega) | (have hs9 : STq a9.toInt b9.toInt 0 := (show r8.toInt = 0 by omega) ▸ hw8_0; have hv9 : CVq a9.toInt b9.toInt d9.toInt := ⟨hs9, by omega, (hw15_0.resolve_right (fun z => by omega)).2⟩; have ha9 := hs9.val.1.1; have hB9 := ICp.nn hs9.val.1.2.2; exact CPq.eq hv9 (by omega) (by omega) (by decide)) | (have hs9 : STq a9.toInt b9.toInt 0 := (show r8.toInt = 0 by omega) ▸ hw8_0; have hv9 : CVq a9.toInt b9.toInt d9.toInt := ⟨hs9, by omega, (hw15_0.resolve_right (fun z => by omega)).2⟩; have ha9 := hs9.val.1.1; have hB9 := ICp.nn hs9.val.1.2.2; exact CPq.ne hv9 (by omega) (by omega) (by decide)) | (have hs9 : STq a9.toInt b9.toInt 0 := (show r8.toInt = 0 by omega) ▸ hw8_0; have hv9 : CVq a9.toInt b9.toInt d9.toInt := ⟨hs9, by omega, (hw15_0.resolve_right (fun z => by omega)).2⟩; have ha9 := hs9.val.1.1; have hB9 := ICp.nn hs9.val.1.2.2; exact CPq.yes hv9 (by omega) (by omega) (e57 ▸ ((hw60_1 hB9 (by omega)).resolve_right (fun z => by omega)).2) (by decide)) | (have hs9 : STq a9.toInt b9.toInt 0 := (show r8.toInt = 0 by omega) ▸ hw8_0; have hv9 : CVq a9.toInt b9.toInt d9.toInt := ⟨hs9, by omega, (hw15_0.resolve_right (fun z => by omega)).2⟩; have ha9 := hs9.val.1.1; have hB9 := ICp.nn hs9.val.1.2.2; exact CPq.not hv9 (by omega) (by omega) (fun q => ((hw60_1 hB9 (by omega)).resolve_left (fun z => by omega)).2 (e57.symm ▸ q)) (by decide))⟩, by rw [ht]; exact hP, va_K.moved hW.alike hK, hD⟩, hS.F ht⟩) hS.2.2 dX10_copies__71
          · skip
            refine lv_iload_n hx hb dX10_copies__43 rfl (lv_at hl 1 rfl) ?_
            refine lv_iload_n hx hb dX10_copies__44 rfl (lv_at hl 3 rfl) ?_
            refine m_icmp_ne (X := a9.toInt) (Y := d9.toInt) (tgt := 52) hx hb dX10_copies__45 (by decide) rfl rfl (fun c45 => ?_) (fun c45 => ?_)
            · skip
              refine lv_bipush (v := 6) hx hb dX10_copies__52 (by decide) ?_
              subst hAe
              rw [hQ]
              exact W.iret (v := 6) hx hb hr (fun t ht hW => ⟨⟨6, _, rfl, ⟨v_thrown_8, rfl, by first | exact CPq.bad (by decide) (fun q => absurd (STq.uniq hw8_0 q.1) (by omega)) | exact CPq.bad (by decide) (fun q => (hw15_0.resolve_left (fun z => by omega)).2 q.2.2) | exact CPq.bad (by decide) (fun q => by have z := q.2.1; omega) | (have hs9 : STq a9.toInt b9.toInt 0 := (show r8.toInt = 0 by omega) ▸ hw8_0; have hv9 : CVq a9.toInt b9.toInt d9.toInt := ⟨hs9, by omega, (hw15_0.resolve_right (fun z => by omega)).2⟩; have ha9 := hs9.val.1.1; have hB9 := ICp.nn hs9.val.1.2.2; exact CPq.eq hv9 (by omega) (by omega) (by decide)) | (have hs9 : STq a9.toInt b9.toInt 0 := (show r8.toInt = 0 by omega) ▸ hw8_0; have hv9 : CVq a9.toInt b9.toInt d9.toInt := ⟨hs9, by omega, (hw15_0.resolve_right (fun z => by omega)).2⟩; have ha9 := hs9.val.1.1; have hB9 := ICp.nn hs9.val.1.2.2; exact CPq.ne hv9 (by omega) (by omega) (by decide)) | (have hs9 : STq a9.toInt b9.toInt 0 := (show r8.toInt = 0 by omega) ▸ hw8_0; have hv9 : CVq a9.toInt b9.toInt d9.toInt := ⟨hs9, by omega, (hw15_0.resolve_right (fun z => by omega)).2⟩; have ha9 := hs9.val.1.1; have hB9 := ICp.nn hs9.val.1.2.2; exact CPq.yes hv9 (by omega) (by omega) (e57 ▸ ((hw60_1 hB9 (by omega)).resolve_right (fun z => by omega)).2) (by decide)) | (have hs9 : STq a9.toInt b9.toInt 0 := (show r8.toInt = 0 by omega) ▸ hw8_0; have hv9 : CVq a9.toInt b9.toInt d9.toInt := ⟨hs9, by omega, (hw15_0.resolve_right (fun z => by omega)).2⟩; have ha9 := hs9.val.1.1; have hB9 := ICp.nn hs9.val.1.2.2; exact CPq.not hv9 (by omega) (by omega) (fun q => ((hw60_1 hB9 (by omega)).resolve_left (fun z => by omega)).2 (e57.symm ▸ q)) (by decide))⟩, by rw [ht]; exact hP, va_K.moved hW.alike hK, hD⟩, hS.F ht⟩) hS.2.2 dX10_copies__54
            · skip
              refine lv_iconst (v := 0) hx hb dX10_copies__48 (by decide) ?_
              refine lv_goto (tgt := 54) hx hb dX10_copies__49 (by decide) ?_
              subst hAe
              rw [hQ]
              exact W.iret (v := 0) hx hb hr (fun t ht hW => ⟨⟨0, _, rfl, ⟨v_thrown_8, rfl, by first | exact CPq.bad (by decide) (fun q => absurd (STq.uniq hw8_0 q.1) (by omega)) | exact CPq.bad (by decide) (fun q => (hw15_0.resolve_left (fun z => by omega)).2 q.2.2) | exact CPq.bad (by decide) (fun q => by have z := q.2.1; omega) | (have hs9 : STq a9.toInt b9.toInt 0 := (show r8.toInt = 0 by omega) ▸ hw8_0; have hv9 : CVq a9.toInt b9.toInt d9.toInt := ⟨hs9, by omega, (hw15_0.resolve_right (fun z => by omega)).2⟩; have ha9 := hs9.val.1.1; have hB9 := ICp.nn hs9.val.1.2.2; exact CPq.eq hv9 (by omega) (by omega) (by decide)) | (have hs9 : STq a9.toInt b9.toInt 0 := (show r8.toInt = 0 by omega) ▸ hw8_0; have hv9 : CVq a9.toInt b9.toInt d9.toInt := ⟨hs9, by omega, (hw15_0.resolve_right (fun z => by omega)).2⟩; have ha9 := hs9.val.1.1; have hB9 := ICp.nn hs9.val.1.2.2; exact CPq.ne hv9 (by omega) (by omega) (by decide)) | (have hs9 : STq a9.toInt b9.toInt 0 := (show r8.toInt = 0 by omega) ▸ hw8_0; have hv9 : CVq a9.toInt b9.toInt d9.toInt := ⟨hs9, by omega, (hw15_0.resolve_right (fun z => by omega)).2⟩; have ha9 := hs9.val.1.1; have hB9 := ICp.nn hs9.val.1.2.2; exact CPq.yes hv9 (by omega) (by omega) (e57 ▸ ((hw60_1 hB9 (by omega)).resolve_right (fun z => by omega)).2) (by decide)) | (have hs9 : STq a9.toInt b9.toInt 0 := (show r8.toInt = 0 by omega) ▸ hw8_0; have hv9 : CVq a9.toInt b9.toInt d9.toInt := ⟨hs9, by omega, (hw15_0.resolve_right (fun z => by omega)).2⟩; have ha9 := hs9.val.1.1; have hB9 := ICp.nn hs9.val.1.2.2; exact CPq.not hv9 (by omega) (by omega) (fun q => ((hw60_1 hB9 (by omega)).resolve_left (fun z => by omega)).2 (e57.symm ▸ q)) (by decide))⟩, by rw [ht]; exact hP, va_K.moved hW.alike hK, hD⟩, hS.F ht⟩) hS.2.2 dX10_copies__54
      · skip
        refine lv_iconst (v := (-1)) hx hb dX10_copies__27 (by decide) ?_
        subst hAe
        rw [hQ]
        exact W.iret (v := (-1)) hx hb hr (fun t ht hW => ⟨⟨(-1), _, rfl, ⟨v_thrown_8, rfl, by first | exact CPq.bad (by decide) (fun q => absurd (STq.uniq hw8_0 q.1) (by omega)) | exact CPq.bad (by decide) (fun q => (hw15_0.resolve_left (fun z => by omega)).2 q.2.2) | exact CPq.bad (by decide) (fun q => by have z := q.2.1; omega) | (have hs9 : STq a9.toInt b9.toInt 0 := (show r8.toInt = 0 by omega) ▸ hw8_0; have hv9 : CVq a9.toInt b9.toInt d9.toInt := ⟨hs9, by omega, (hw15_0.resolve_right (fun z => by omega)).2⟩; have ha9 := hs9.val.1.1; have hB9 := ICp.nn hs9.val.1.2.2; exact CPq.eq hv9 (by omega) (by omega) (by decide)) | (have hs9 : STq a9.toInt b9.toInt 0 := (show r8.toInt = 0 by omega) ▸ hw8_0; have hv9 : CVq a9.toInt b9.toInt d9.toInt := ⟨hs9, by omega, (hw15_0.resolve_right (fun z => by omega)).2⟩; have ha9 := hs9.val.1.1; have hB9 := ICp.nn hs9.val.1.2.2; exact CPq.ne hv9 (by omega) (by omega) (by decide)) | (have hs9 : STq a9.toInt b9.toInt 0 := (show r8.toInt = 0 by omega) ▸ hw8_0; have hv9 : CVq a9.toInt b9.toInt d9.toInt := ⟨hs9, by omega, (hw15_0.resolve_right (fun z => by omega)).2⟩; have ha9 := hs9.val.1.1; have hB9 := ICp.nn hs9.val.1.2.2; exact CPq.yes hv9 (by omega) (by omega) (e57 ▸ ((hw60_1 hB9 (by omega)).resolve_right (fun z => by omega)).2) (by decide)) | (have hs9 : STq a9.toInt b9.toInt 0 := (show r8.toInt = 0 by omega) ▸ hw8_0; have hv9 : CVq a9.toInt b9.toInt d9.toInt := ⟨hs9, by omega, (hw15_0.resolve_right (fun z => by omega)).2⟩; have ha9 := hs9.val.1.1; have hB9 := ICp.nn hs9.val.1.2.2; exact CPq.not hv9 (by omega) (by omega) (fun q => ((hw60_1 hB9 (by omega)).resolve_left (fun z => by omega)).2 (e57.symm ▸ q)) (by decide))⟩, by rw [ht]; exact hP, va_K.moved hW.alike hK, hD⟩, hS.F ht⟩) hS.2.2 dX10_copies__28
