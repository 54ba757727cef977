def rmX10_hash_q0 : Room := { frames := 40, cells := 0, slots := 0, locals := 800 }
set_option maxHeartbeats 4000000 in
set_option maxRecDepth 100000 in
theorem tX10_hash_q0 {l : Launch} {D : va_G} {K : Nat → Nat → Nat} {cs : Nat → ClassId} {q : Nat → Nat} {v_thrown v_taped v_size v_to v_kind v_from v_letterMany v_isBeyond v_suffix v_steps v_fault v_hasProgram v_wrong v_wrongAt v_variable v_numberKind v_takes v_outed v_creatures v_arrays v_cells v_marks v_came v_guessed v_right v_taken v_sort v_kindAt v_reached v_looked : Int32} {a_tape a_text a_act a_guess a_take a_begin a_finish a_to1 a_one a_two a_what a_ats a_atVar a_atNumber a_atomSort a_atomKind a_out a_varSort a_varKind a_creature a_arrayClass a_arrayFrom a_arrayLong a_cellSort a_cellKind a_asideSort a_asideKind a_outcome a_markSort a_markKind a_markClass a_index : Nat → Int32} {v_letters v_digits v_number v_value : Int64} {a_atomValue a_varValue a_cellValue a_asideValue a_markValue : Nat → Int64} (p_0 : RUN a_varSort a_varKind a_varValue v_arrays v_cells v_creatures a_arrayClass a_arrayFrom a_arrayLong a_cellSort a_cellKind a_cellValue) (p_1 : VOK v_arrays.toInt v_creatures.toInt v_sort v_kindAt v_value) (p_2 : v_sort.toInt = 3 → (a_arrayClass v_value.toInt.toNat).toInt / 20 ≤ 0) : CtI l yX10_hash (wG yX10_hash cX10_hash 4 (some .int)) rmX10_hash_q0 D (mwT cs) K [.ref (q 0)] (mw cs q v_thrown a_tape v_taped v_size v_to v_kind v_from v_letters v_letterMany v_digits v_isBeyond v_suffix v_steps v_fault v_hasProgram a_text a_act a_guess a_take a_begin a_finish a_to1 a_one a_two a_what a_ats a_atVar a_atNumber a_atomSort a_atomKind a_atomValue v_wrong v_wrongAt v_variable v_number v_numberKind v_takes a_out v_outed a_varSort a_varKind a_varValue a_creature v_creatures a_arrayClass a_arrayFrom a_arrayLong v_arrays v_cells a_cellSort a_cellKind a_cellValue a_asideSort a_asideKind a_asideValue a_outcome v_marks v_came v_guessed v_right v_taken a_markSort a_markKind a_markClass a_markValue v_sort v_kindAt v_value a_index v_reached v_looked) (fun r w1 => w1 = (mw cs q v_thrown a_tape v_taped v_size v_to v_kind v_from v_letters v_letterMany v_digits v_isBeyond v_suffix v_steps v_fault v_hasProgram a_text a_act a_guess a_take a_begin a_finish a_to1 a_one a_two a_what a_ats a_atVar a_atNumber a_atomSort a_atomKind a_atomValue v_wrong v_wrongAt v_variable v_number v_numberKind v_takes a_out v_outed a_varSort a_varKind a_varValue a_creature v_creatures a_arrayClass a_arrayFrom a_arrayLong v_arrays v_cells a_cellSort a_cellKind a_cellValue a_asideSort a_asideKind a_asideValue a_outcome v_marks v_came v_guessed v_right v_taken a_markSort a_markKind a_markClass a_markValue v_sort v_kindAt v_value a_index v_reached v_looked)) 0 0 := by
  intro sz
  refine Met.ofW (cc := cX10_hash) (maxL := 4) (ret := (some .int)) (by decide) rfl ?_
  intro p e s m args below meth c s₁ B hml hv
  obtain ⟨rfl, hsz, hP, hK, hD0, hE⟩ := hv
  have hx := B.exec
  have hb := B.bytes
  have hr := B.returns
  have hts := atoms_spec (ws := (wG yX10_hash cX10_hash 4 (some .int))) B.pre
  have hown : s.vm.findClass RX10 = some m.cls := findClass_of_methodNamed B.named
  have hlocks := B.notSynchronized
  subst hsz
  have hD := hD0.self (sz := s.heap.size)
  obtain ⟨A, hAe⟩ : ∃ A : Nat → Prop, A = va_A (mw cs q v_thrown a_tape v_taped v_size v_to v_kind v_from v_letters v_letterMany v_digits v_isBeyond v_suffix v_steps v_fault v_hasProgram a_text a_act a_guess a_take a_begin a_finish a_to1 a_one a_two a_what a_ats a_atVar a_atNumber a_atomSort a_atomKind a_atomValue v_wrong v_wrongAt v_variable v_number v_numberKind v_takes a_out v_outed a_varSort a_varKind a_varValue a_creature v_creatures a_arrayClass a_arrayFrom a_arrayLong v_arrays v_cells a_cellSort a_cellKind a_cellValue a_asideSort a_asideKind a_asideValue a_outcome v_marks v_came v_guessed v_right v_taken a_markSort a_markKind a_markClass a_markValue v_sort v_kindAt v_value a_index v_reached v_looked) s.heap.size := ⟨_, rfl⟩
  rw [← hAe] at hD hE
  have hA : ∀ q : Nat, s.heap.size ≤ q → A q := fun q h => by rw [hAe]; exact Or.inr h
  have hS : va_S A s.heap s.heap [] := va_S.rf
  have hl := lv_entry ([.ref (q 0)]) (n := 4) (Nat.le_of_ble_eq_true rfl)
  rw [lg_entry_eq]
  generalize (lg_sl ([.ref (q 0)]) ++ List.replicate (4 - (lg_sl ([.ref (q 0)])).length) Slot.unset).toArray = ls at hl ⊢
  have hl : lv_has ls 4 [(0, .ref (q 0))] := hl
  refine wq (fun Q hQ => ?_)
  have hin : ∀ w ∈ wsX100, w ∈ (wG yX10_hash cX10_hash 4 (some .int)) := fun w h => List.mem_cons_of_mem _ (inlX10 w h)
  have kc0 : (0 : Int32).toInt = 0 := by decide
  have kc1 : (1 : Int32).toInt = 1 := by decide
  have kc2 : (2 : Int32).toInt = 2 := by decide
  have kc3 : (32 : Int32).toInt = 32 := by decide
  have k_47_12 := hts (.fieldLink RX10 493 "ArrayTrainerModel" "sort" "I") (List.mem_cons_of_mem _ (wr47 _ (List.mem_of_getElem? (i := 12) rfl)))
  have k_6_4 := hts (.fieldLink RX10 74 "ArrayTrainerModel" "creature" "[I") (List.mem_cons_of_mem _ (wr6 _ (List.mem_of_getElem? (i := 4) rfl)))
  have k_47_14 := hts (.fieldLink RX10 499 "ArrayTrainerModel" "value" "J") (List.mem_cons_of_mem _ (wr47 _ (List.mem_of_getElem? (i := 14) rfl)))
  have k_47_13 := hts (.fieldLink RX10 496 "ArrayTrainerModel" "kindAt" "I") (List.mem_cons_of_mem _ (wr47 _ (List.mem_of_getElem? (i := 13) rfl)))
  obtain ⟨H, hH⟩ : ∃ H : Heap, H = s.heap := ⟨_, rfl⟩
  obtain ⟨locs, hlc⟩ : ∃ L : List Loc, L = [] := ⟨_, rfl⟩
  have hP : va_P D vwCl (mw cs q v_thrown a_tape v_taped v_size v_to v_kind v_from v_letters v_letterMany v_digits v_isBeyond v_suffix v_steps v_fault v_hasProgram a_text a_act a_guess a_take a_begin a_finish a_to1 a_one a_two a_what a_ats a_atVar a_atNumber a_atomSort a_atomKind a_atomValue v_wrong v_wrongAt v_variable v_number v_numberKind v_takes a_out v_outed a_varSort a_varKind a_varValue a_creature v_creatures a_arrayClass a_arrayFrom a_arrayLong v_arrays v_cells a_cellSort a_cellKind a_cellValue a_asideSort a_asideKind a_asideValue a_outcome v_marks v_came v_guessed v_right v_taken a_markSort a_markKind a_markClass a_markValue v_sort v_kindAt v_value a_index v_reached v_looked) H := by rw [hH]; exact hP
  have hS : va_S A s.heap H locs := by rw [hH, hlc]; exact hS
  refine wHL hH hlc ?_
  have hr9 := p_0.1
  obtain ⟨hv0, hv1, hv2, hv3⟩ := id p_1
  refine lv_aload_n hx hb dX10_hash_0 rfl (lv_at hl 0 rfl) ?_
  refine va_get (D := D) (ci := 9) (v := .int v_sort) (C := RX10) (T := TX10) (N := 71) hx hb hts hin hown hK hP 0 rfl rfl 65 (by decide) k_47_12 (fun _ h9 => h9) rfl dX10_hash_1 ?_
  refine m_if_ne (X := v_sort.toInt) (tgt := 9) hx hb dX10_hash_4 (by decide) rfl (fun c4 => ?_) (fun c4 => ?_)
  · skip
    refine lv_aload_n hx hb dX10_hash_9 rfl (lv_at hl 0 rfl) ?_
    refine va_get (D := D) (ci := 9) (v := .int v_sort) (C := RX10) (T := TX10) (N := 71) hx hb hts hin hown hK hP 0 rfl rfl 65 (by decide) k_47_12 (fun _ h9 => h9) rfl dX10_hash_10 ?_
    refine lv_iconst (v := 1) hx hb dX10_hash_13 (by decide) ?_
    refine m_icmp_ne (X := v_sort.toInt) (Y := 1) (tgt := 37) hx hb dX10_hash_14 (by decide) rfl (by decide) (fun c14 => ?_) (fun c14 => ?_)
    · skip
      refine lv_aload_n hx hb dX10_hash_37 rfl (lv_at hl 0 rfl) ?_
      refine va_get (D := D) (ci := 9) (v := .int v_sort) (C := RX10) (T := TX10) (N := 71) hx hb hts hin hown hK hP 0 rfl rfl 65 (by decide) k_47_12 (fun _ h9 => h9) rfl dX10_hash_38 ?_
      refine lv_iconst (v := 2) hx hb dX10_hash_41 (by decide) ?_
      refine m_icmp_ne (X := v_sort.toInt) (Y := 2) (tgt := 56) hx hb dX10_hash_42 (by decide) rfl (by decide) (fun c42 => ?_) (fun c42 => ?_)
      · skip
        exfalso
        (have h3 := hv1 (by omega); have h4 := (p_0.2.1 v_value.toInt.toNat (by omega)).1; have h5 := p_2 (by omega); omega)
      · skip
        refine lv_aload_n hx hb dX10_hash_45 rfl (lv_at hl 0 rfl) ?_
        refine va_get (D := D) (ci := 9) (v := .ref (q 22)) (C := RX10) (T := TX10) (N := 71) hx hb hts hin hown hK hP 0 rfl rfl 42 (by decide) k_6_4 (fun _ h9 => h9) rfl dX10_hash_46 ?_
        refine lv_aload_n hx hb dX10_hash_49 rfl (lv_at hl 0 rfl) ?_
        refine va_get (D := D) (ci := 9) (v := .long v_value) (C := RX10) (T := TX10) (N := 71) hx hb hts hin hown hK hP 0 rfl rfl 67 (by decide) k_47_14 (fun _ h9 => h9) rfl dX10_hash_50 ?_
        refine m_l2i hx hb dX10_hash_53 (fun x53 e_x53 => ?_)
        have b_x53 := iB x53
        have hv9 := hv2 (by omega)
        have hx53 := l2iT e_x53 (by omega) (by omega)
        refine m_iald hx hb hK hP 22 0 rfl rfl (ix (by omega) (by omega)) dX10_hash_54 (fun x54 e_x54 => ?_)
        have b_x54 := iB x54
        subst hAe
        rw [hQ]
        exact W.iret (v := x54) hx hb hr (fun t ht hW => ⟨⟨x54, _, rfl, rfl, by rw [ht]; exact hP, va_K.moved hW.alike hK, hD⟩, hS.F ht⟩) hS.2.2 dX10_hash_55
    · skip
      refine lv_aload_n hx hb dX10_hash_17 rfl (lv_at hl 0 rfl) ?_
      refine va_get (D := D) (ci := 9) (v := .int v_kindAt) (C := RX10) (T := TX10) (N := 71) hx hb hts hin hown hK hP 0 rfl rfl 66 (by decide) k_47_13 (fun _ h9 => h9) rfl dX10_hash_18 ?_
      refine lv_aload_n hx hb dX10_hash_21 rfl (lv_at hl 0 rfl) ?_
      refine va_get (D := D) (ci := 9) (v := .long v_value) (C := RX10) (T := TX10) (N := 71) hx hb hts hin hown hK hP 0 rfl rfl 67 (by decide) k_47_14 (fun _ h9 => h9) rfl dX10_hash_22 ?_
      refine call_jSP (As := [.int v_kindAt, .long v_value]) (rest := []) ⟨hx, hb, hml, hown, hts⟩ (tX10_whole (l := l) v_kindAt v_value (by exact hv3 (by omega))) (va_cwS 2 hts (gS (wr52 _ (List.mem_of_getElem? (i := 15) rfl)) (wr52 _ (List.mem_of_getElem? (i := 16) rfl)) (wr1 _ (List.mem_of_getElem? (i := 5) rfl)) (wr52 _ (List.mem_of_getElem? (i := 17) rfl))) rfl rfl rfl (by decide +kernel) ⟨Nat.le_of_ble_eq_true rfl, Nat.le_of_ble_eq_true rfl⟩) (hK.sub [] rfl) hP hD hE hS hA rfl hl.1 rfl (Nat.le_of_ble_eq_true rfl) dX10_hash_25 ⟨Nat.le_of_ble_eq_true rfl, Nat.le_of_ble_eq_true rfl⟩ (fun r25 w9 H locs hw25 hP hD hS => ?_)
      obtain ⟨rfl⟩ := hw25
      have b_r25 := jB r25
      refine lv_lstore_n (lv' := [(1, .long r25), (0, .ref (q 0))]) hx hb dX10_hash_28 rfl hl (by decide) rfl (fun ls hl => ?_)
      refine lv_lload_n hx hb dX10_hash_29 rfl (lv_at hl 0 rfl) ?_
      refine lv_lload_n hx hb dX10_hash_30 rfl (lv_at hl 0 rfl) ?_
      refine lv_bipush (v := 32) hx hb dX10_hash_31 (by decide) ?_
      refine m_lushr hx hb dX10_hash_33 (fun x33 e_x33 => ?_)
      have b_x33 := jB x33
      refine m_lxor hx hb dX10_hash_34 (fun x34 e_x34 => ?_)
      have b_x34 := jB x34
      refine m_l2i hx hb dX10_hash_35 (fun x35 e_x35 => ?_)
      have b_x35 := iB x35
      subst hAe
      rw [hQ]
      exact W.iret (v := x35) hx hb hr (fun t ht hW => ⟨⟨x35, _, rfl, rfl, by rw [ht]; exact hP, va_K.moved hW.alike hK, hD⟩, hS.F ht⟩) hS.2.2 dX10_hash_36
  · skip
    refine lv_iconst (v := 0) hx hb dX10_hash_7 (by decide) ?_
    subst hAe
    rw [hQ]
    exact W.iret (v := 0) hx hb hr (fun t ht hW => ⟨⟨0, _, rfl, rfl, by rw [ht]; exact hP, va_K.moved hW.alike hK, hD⟩, hS.F ht⟩) hS.2.2 dX10_hash_8

def rmX10_hash_q1 : Room := { frames := 60, cells := 0, slots := 0, locals := 1200 }
set_option maxHeartbeats 4000000 in
set_option maxRecDepth 100000 in
theorem tX10_hash_q1 {l : Launch} {D : va_G} {K : Nat → Nat → Nat} {cs : Nat → ClassId} {q : Nat → Nat} {v_thrown v_taped v_size v_to v_kind v_from v_letterMany v_isBeyond v_suffix v_steps v_fault v_hasProgram v_wrong v_wrongAt v_variable v_numberKind v_takes v_outed v_creatures v_arrays v_cells v_marks v_came v_guessed v_right v_taken v_sort v_kindAt v_reached v_looked : Int32} {a_tape a_text a_act a_guess a_take a_begin a_finish a_to1 a_one a_two a_what a_ats a_atVar a_atNumber a_atomSort a_atomKind a_out a_varSort a_varKind a_creature a_arrayClass a_arrayFrom a_arrayLong a_cellSort a_cellKind a_asideSort a_asideKind a_outcome a_markSort a_markKind a_markClass a_index : Nat → Int32} {v_letters v_digits v_number v_value : Int64} {a_atomValue a_varValue a_cellValue a_asideValue a_markValue : Nat → Int64} (p_0 : RUN a_varSort a_varKind a_varValue v_arrays v_cells v_creatures a_arrayClass a_arrayFrom a_arrayLong a_cellSort a_cellKind a_cellValue) (p_1 : VOK v_arrays.toInt v_creatures.toInt v_sort v_kindAt v_value) (p_2 : v_sort.toInt = 3 → (a_arrayClass v_value.toInt.toNat).toInt / 20 ≤ 1) : CtI l yX10_hash (wG yX10_hash cX10_hash 4 (some .int)) rmX10_hash_q1 D (mwT cs) K [.ref (q 0)] (mw cs q v_thrown a_tape v_taped v_size v_to v_kind v_from v_letters v_letterMany v_digits v_isBeyond v_suffix v_steps v_fault v_hasProgram a_text a_act a_guess a_take a_begin a_finish a_to1 a_one a_two a_what a_ats a_atVar a_atNumber a_atomSort a_atomKind a_atomValue v_wrong v_wrongAt v_variable v_number v_numberKind v_takes a_out v_outed a_varSort a_varKind a_varValue a_creature v_creatures a_arrayClass a_arrayFrom a_arrayLong v_arrays v_cells a_cellSort a_cellKind a_cellValue a_asideSort a_asideKind a_asideValue a_outcome v_marks v_came v_guessed v_right v_taken a_markSort a_markKind a_markClass a_markValue v_sort v_kindAt v_value a_index v_reached v_looked) (fun r w1 => ∃ (v_sort' : Int32) (v_kindAt' : Int32) (v_value' : Int64) (v_looked' : Int32), w1 = (mw cs q v_thrown a_tape v_taped v_size v_to v_kind v_from v_letters v_letterMany v_digits v_isBeyond v_suffix v_steps v_fault v_hasProgram a_text a_act a_guess a_take a_begin a_finish a_to1 a_one a_two a_what a_ats a_atVar a_atNumber a_atomSort a_atomKind a_atomValue v_wrong v_wrongAt v_variable v_number v_numberKind v_takes a_out v_outed a_varSort a_varKind a_varValue a_creature v_creatures a_arrayClass a_arrayFrom a_arrayLong v_arrays v_cells a_cellSort a_cellKind a_cellValue a_asideSort a_asideKind a_asideValue a_outcome v_marks v_came v_guessed v_right v_taken a_markSort a_markKind a_markClass a_markValue v_sort' v_kindAt' v_value' a_index v_reached v_looked')) 0 0 := by
  intro sz
  refine Met.ofW (cc := cX10_hash) (maxL := 4) (ret := (some .int)) (by decide) rfl ?_
  intro p e s m args below meth c s₁ B hml hv
  obtain ⟨rfl, hsz, hP, hK, hD0, hE⟩ := hv
  have hx := B.exec
  have hb := B.bytes
  have hr := B.returns
  have hts := atoms_spec (ws := (wG yX10_hash cX10_hash 4 (some .int))) B.pre
  have hown : s.vm.findClass RX10 = some m.cls := findClass_of_methodNamed B.named
  have hlocks := B.notSynchronized
  subst hsz
  have hD := hD0.self (sz := s.heap.size)
  obtain ⟨A, hAe⟩ : ∃ A : Nat → Prop, A = va_A (mw cs q v_thrown a_tape v_taped v_size v_to v_kind v_from v_letters v_letterMany v_digits v_isBeyond v_suffix v_steps v_fault v_hasProgram a_text a_act a_guess a_take a_begin a_finish a_to1 a_one a_two a_what a_ats a_atVar a_atNumber a_atomSort a_atomKind a_atomValue v_wrong v_wrongAt v_variable v_number v_numberKind v_takes a_out v_outed a_varSort a_varKind a_varValue a_creature v_creatures a_arrayClass a_arrayFrom a_arrayLong v_arrays v_cells a_cellSort a_cellKind a_cellValue a_asideSort a_asideKind a_asideValue a_outcome v_marks v_came v_guessed v_right v_taken a_markSort a_markKind a_markClass a_markValue v_sort v_kindAt v_value a_index v_reached v_looked) s.heap.size := ⟨_, rfl⟩
  rw [← hAe] at hD hE
  have hA : ∀ q : Nat, s.heap.size ≤ q → A q := fun q h => by rw [hAe]; exact Or.inr h
  have hS : va_S A s.heap s.heap [] := va_S.rf
  have hl := lv_entry ([.ref (q 0)]) (n := 4) (Nat.le_of_ble_eq_true rfl)
  rw [lg_entry_eq]
  generalize (lg_sl ([.ref (q 0)]) ++ List.replicate (4 - (lg_sl ([.ref (q 0)])).length) Slot.unset).toArray = ls at hl ⊢
  have hl : lv_has ls 4 [(0, .ref (q 0))] := hl
  refine wq (fun Q hQ => ?_)
  have hin : ∀ w ∈ wsX100, w ∈ (wG yX10_hash cX10_hash 4 (some .int)) := fun w h => List.mem_cons_of_mem _ (inlX10 w h)
  have kc0 : (0 : Int32).toInt = 0 := by decide
  have kc1 : (1 : Int32).toInt = 1 := by decide
  have kc2 : (2 : Int32).toInt = 2 := by decide
  have kc3 : (31 : Int32).toInt = 31 := by decide
  have kc4 : (32 : Int32).toInt = 32 := by decide
  have kc5 : (20000 : Int32).toInt = 20000 := by decide
  have k_47_12 := hts (.fieldLink RX10 493 "ArrayTrainerModel" "sort" "I") (List.mem_cons_of_mem _ (wr47 _ (List.mem_of_getElem? (i := 12) rfl)))
  have k_47_14 := hts (.fieldLink RX10 499 "ArrayTrainerModel" "value" "J") (List.mem_cons_of_mem _ (wr47 _ (List.mem_of_getElem? (i := 14) rfl)))
  have k_6_5 := hts (.fieldLink RX10 77 "ArrayTrainerModel" "arrayClass" "[I") (List.mem_cons_of_mem _ (wr6 _ (List.mem_of_getElem? (i := 5) rfl)))
  have k_6_7 := hts (.fieldLink RX10 83 "ArrayTrainerModel" "arrayLong" "[I") (List.mem_cons_of_mem _ (wr6 _ (List.mem_of_getElem? (i := 7) rfl)))
  have k_52_10 := hts (.fieldLink RX10 558 "ArrayTrainerModel" "looked" "I") (List.mem_cons_of_mem _ (wr52 _ (List.mem_of_getElem? (i := 10) rfl)))
  have k_6_4 := hts (.fieldLink RX10 74 "ArrayTrainerModel" "creature" "[I") (List.mem_cons_of_mem _ (wr6 _ (List.mem_of_getElem? (i := 4) rfl)))
  have k_47_13 := hts (.fieldLink RX10 496 "ArrayTrainerModel" "kindAt" "I") (List.mem_cons_of_mem _ (wr47 _ (List.mem_of_getElem? (i := 13) rfl)))
  obtain ⟨H, hH⟩ : ∃ H : Heap, H = s.heap := ⟨_, rfl⟩
  obtain ⟨locs, hlc⟩ : ∃ L : List Loc, L = [] := ⟨_, rfl⟩
  have hP : va_P D vwCl (mw cs q v_thrown a_tape v_taped v_size v_to v_kind v_from v_letters v_letterMany v_digits v_isBeyond v_suffix v_steps v_fault v_hasProgram a_text a_act a_guess a_take a_begin a_finish a_to1 a_one a_two a_what a_ats a_atVar a_atNumber a_atomSort a_atomKind a_atomValue v_wrong v_wrongAt v_variable v_number v_numberKind v_takes a_out v_outed a_varSort a_varKind a_varValue a_creature v_creatures a_arrayClass a_arrayFrom a_arrayLong v_arrays v_cells a_cellSort a_cellKind a_cellValue a_asideSort a_asideKind a_asideValue a_outcome v_marks v_came v_guessed v_right v_taken a_markSort a_markKind a_markClass a_markValue v_sort v_kindAt v_value a_index v_reached v_looked) H := by rw [hH]; exact hP
  have hS : va_S A s.heap H locs := by rw [hH, hlc]; exact hS
  refine wHL hH hlc ?_
  have hr9 := p_0.1
  obtain ⟨hv0, hv1, hv2, hv3⟩ := id p_1
  refine lv_aload_n hx hb dX10_hash_0 rfl (lv_at hl 0 rfl) ?_
  refine va_get (D := D) (ci := 9) (v := .int v_sort) (C := RX10) (T := TX10) (N := 71) hx hb hts hin hown hK hP 0 rfl rfl 65 (by decide) k_47_12 (fun _ h9 => h9) rfl dX10_hash_1 ?_
  refine m_if_ne (X := v_sort.toInt) (tgt := 9) hx hb dX10_hash_4 (by decide) rfl (fun c4 => ?_) (fun c4 => ?_)
  · skip
    refine lv_aload_n hx hb dX10_hash_9 rfl (lv_at hl 0 rfl) ?_
    refine va_get (D := D) (ci := 9) (v := .int v_sort) (C := RX10) (T := TX10) (N := 71) hx hb hts hin hown hK hP 0 rfl rfl 65 (by decide) k_47_12 (fun _ h9 => h9) rfl dX10_hash_10 ?_
    refine lv_iconst (v := 1) hx hb dX10_hash_13 (by decide) ?_
    refine m_icmp_ne (X := v_sort.toInt) (Y := 1) (tgt := 37) hx hb dX10_hash_14 (by decide) rfl (by decide) (fun c14 => ?_) (fun c14 => ?_)
    · skip
      refine lv_aload_n hx hb dX10_hash_37 rfl (lv_at hl 0 rfl) ?_
      refine va_get (D := D) (ci := 9) (v := .int v_sort) (C := RX10) (T := TX10) (N := 71) hx hb hts hin hown hK hP 0 rfl rfl 65 (by decide) k_47_12 (fun _ h9 => h9) rfl dX10_hash_38 ?_
      refine lv_iconst (v := 2) hx hb dX10_hash_41 (by decide) ?_
      refine m_icmp_ne (X := v_sort.toInt) (Y := 2) (tgt := 56) hx hb dX10_hash_42 (by decide) rfl (by decide) (fun c42 => ?_) (fun c42 => ?_)
      · skip
        refine lv_aload_n hx hb dX10_hash_56 rfl (lv_at hl 0 rfl) ?_
        refine va_get (D := D) (ci := 9) (v := .long v_value) (C := RX10) (T := TX10) (N := 71) hx hb hts hin hown hK hP 0 rfl rfl 67 (by decide) k_47_14 (fun _ h9 => h9) rfl dX10_hash_57 ?_
        refine m_l2i hx hb dX10_hash_60 (fun x60 e_x60 => ?_)
        have b_x60 := iB x60
        have hv9 := hv1 (by omega)
        have hx60 := l2iT e_x60 (by omega) (by omega)
        have t60 := tn (i := x60) (by omega)
        obtain ⟨ao1, ao2, ao3, ao4⟩ := p_0.2.1 x60.toNatClampNeg (by omega)
        have hdp := p_2 (by omega)
        rw [show v_value.toInt.toNat = x60.toNatClampNeg by omega] at hdp
        refine lv_istore_n (lv' := [(1, .int x60), (0, .ref (q 0))]) hx hb dX10_hash_61 rfl hl (by decide) rfl (fun ls hl => ?_)
        refine lv_aload_n hx hb dX10_hash_62 rfl (lv_at hl 1 rfl) ?_
        refine va_get (D := D) (ci := 9) (v := .ref (q 23)) (C := RX10) (T := TX10) (N := 71) hx hb hts hin hown hK hP 0 rfl rfl 44 (by decide) k_6_5 (fun _ h9 => h9) rfl dX10_hash_63 ?_
        refine lv_iload_n hx hb dX10_hash_66 rfl (lv_at hl 0 rfl) ?_
        refine m_iald hx hb hK hP 23 0 rfl rfl (ix (by omega) (by omega)) dX10_hash_67 (fun x67 e_x67 => ?_)
        have b_x67 := iB x67
        refine lv_istore_n (lv' := [(2, .int x67), (1, .int x60), (0, .ref (q 0))]) hx hb dX10_hash_68 rfl hl (by decide) rfl (fun ls hl => ?_)
        refine lv_iconst (v := 0) hx hb dX10_hash_69 (by decide) ?_
        refine lv_istore_n (lv' := [(3, .int 0), (2, .int x67), (1, .int x60), (0, .ref (q 0))]) hx hb dX10_hash_70 rfl hl (by decide) rfl (fun ls hl => ?_)
        have J71 : ∀ (n71 : Nat) (l2_71 : Int32) (l3_71 : Int32) (v_kindAt_71 : Int32) (v_looked_71 : Int32) (v_sort_71 : Int32) (v_value_71 : Int64) (H : Heap) (locs : List Loc) (ls : Array Slot), (0 ≤ l3_71.toInt) → (l3_71.toInt ≤ 500) → (500 - l3_71.toInt < (n71 : Int)) → va_P D vwCl (mw cs q v_thrown a_tape v_taped v_size v_to v_kind v_from v_letters v_letterMany v_digits v_isBeyond v_suffix v_steps v_fault v_hasProgram a_text a_act a_guess a_take a_begin a_finish a_to1 a_one a_two a_what a_ats a_atVar a_atNumber a_atomSort a_atomKind a_atomValue v_wrong v_wrongAt v_variable v_number v_numberKind v_takes a_out v_outed a_varSort a_varKind a_varValue a_creature v_creatures a_arrayClass a_arrayFrom a_arrayLong v_arrays v_cells a_cellSort a_cellKind a_cellValue a_asideSort a_asideKind a_asideValue a_outcome v_marks v_came v_guessed v_right v_taken a_markSort a_markKind a_markClass a_markValue v_sort_71 v_kindAt_71 v_value_71 a_index v_reached v_looked_71) H → va_D A (mw cs q v_thrown a_tape v_taped v_size v_to v_kind v_from v_letters v_letterMany v_digits v_isBeyond v_suffix v_steps v_fault v_hasProgram a_text a_act a_guess a_take a_begin a_finish a_to1 a_one a_two a_what a_ats a_atVar a_atNumber a_atomSort a_atomKind a_atomValue v_wrong v_wrongAt v_variable v_number v_numberKind v_takes a_out v_outed a_varSort a_varKind a_varValue a_creature v_creatures a_arrayClass a_arrayFrom a_arrayLong v_arrays v_cells a_cellSort a_cellKind a_cellValue a_asideSort a_asideKind a_asideValue a_outcome v_marks v_came v_guessed v_right v_taken a_markSort a_markKind a_markClass a_markValue v_sort_71 v_kindAt_71 v_value_71 a_index v_reached v_looked_71) → va_S A s.heap H locs → lv_has ls 4 [(0, .ref (q 0)), (1, .int x60), (2, .int l2_71), (3, .int l3_71)] → W p l e (headSpec (wG yX10_hash cX10_hash 4 (some .int)) rmX10_hash_q1).room s m ([.ref (q 0)] : List Value).toArray below meth c H locs 0 0 Q (F0 m 71 ls []) := by
          intro n71
          induction n71 with
          | zero =>
            intro l2_71 l3_71 v_kindAt_71 v_looked_71 v_sort_71 v_value_71 H locs ls f71_0 f71_1 hm71
            exfalso
            omega
          | succ n71 ih71 =>
            intro l2_71 l3_71 v_kindAt_71 v_looked_71 v_sort_71 v_value_71 H locs ls f71_0 f71_1 hm71 hP hD hS hl
            refine lv_iload_n hx hb dX10_hash_71 rfl (lv_at hl 3 rfl) ?_
            refine lv_aload_n hx hb dX10_hash_72 rfl (lv_at hl 0 rfl) ?_
            refine va_get (D := D) (ci := 9) (v := .ref (q 25)) (C := RX10) (T := TX10) (N := 71) hx hb hts hin hown hK hP 0 rfl rfl 46 (by decide) k_6_7 (fun _ h9 => h9) rfl dX10_hash_73 ?_
            refine lv_iload_n hx hb dX10_hash_76 rfl (lv_at hl 1 rfl) ?_
            refine m_iald hx hb hK hP 25 0 rfl rfl (ix (by omega) (by omega)) dX10_hash_77 (fun x77 e_x77 => ?_)
            have b_x77 := iB x77
            have hx77 := congrArg Int32.toInt e_x77
            refine m_icmp_ge (X := l3_71.toInt) (Y := x77.toInt) (tgt := 125) hx hb dX10_hash_78 (by decide) rfl rfl (fun c78 => ?_) (fun c78 => ?_)
            · skip
              refine lv_iload_n hx hb dX10_hash_125 rfl (lv_at hl 2 rfl) ?_
              subst hAe
              rw [hQ]
              exact W.iret (v := l2_71) hx hb hr (fun t ht hW => ⟨⟨l2_71, _, rfl, ⟨v_sort_71, v_kindAt_71, v_value_71, v_looked_71, rfl⟩, by rw [ht]; exact hP, va_K.moved hW.alike hK, hD⟩, hS.F ht⟩) hS.2.2 dX10_hash_126
            · skip
              refine lv_aload_n hx hb dX10_hash_81 rfl (lv_at hl 0 rfl) ?_
              refine lv_dup hx hb dX10_hash_82 rfl ?_
              refine va_get (D := D) (ci := 9) (v := .int v_looked_71) (C := RX10) (T := TX10) (N := 71) hx hb hts hin hown hK hP 0 rfl rfl 70 (by decide) k_52_10 (fun _ h9 => h9) rfl dX10_hash_83 ?_
              refine lv_iconst (v := 1) hx hb dX10_hash_86 (by decide) ?_
              refine m_iadd (X := v_looked_71.toInt) (Y := 1) hx hb dX10_hash_87 rfl (by decide) (fun x87 e_x87 g9 => ?_)
              obtain ⟨k_x87, g_x87⟩ := g9
              have b_x87 := iB x87
              try (have q_x87 : x87.toInt = v_looked_71.toInt + 1 := (by omega); clear g_x87 k_x87)
              refine va_put (D := D) (ci := 9) (v := .int x87) (ty := .int) (C := RX10) (T := TX10) (N := 71) hx hb hts hin tyX10 tyX10_ok nmX10 hown hK hP hD hS 0 rfl rfl 70 (by decide) k_52_10 (fun _ h9 => h9) rfl (by decide +kernel) rfl rfl (Nat.le_of_ble_eq_true rfl) dX10_hash_88 (fun H locs hP hD hS => ?_)
              have hP : va_P D vwCl (mw cs q v_thrown a_tape v_taped v_size v_to v_kind v_from v_letters v_letterMany v_digits v_isBeyond v_suffix v_steps v_fault v_hasProgram a_text a_act a_guess a_take a_begin a_finish a_to1 a_one a_two a_what a_ats a_atVar a_atNumber a_atomSort a_atomKind a_atomValue v_wrong v_wrongAt v_variable v_number v_numberKind v_takes a_out v_outed a_varSort a_varKind a_varValue a_creature v_creatures a_arrayClass a_arrayFrom a_arrayLong v_arrays v_cells a_cellSort a_cellKind a_cellValue a_asideSort a_asideKind a_asideValue a_outcome v_marks v_came v_guessed v_right v_taken a_markSort a_markKind a_markClass a_markValue v_sort_71 v_kindAt_71 v_value_71 a_index v_reached x87) H := hP
              have hD : va_D A (mw cs q v_thrown a_tape v_taped v_size v_to v_kind v_from v_letters v_letterMany v_digits v_isBeyond v_suffix v_steps v_fault v_hasProgram a_text a_act a_guess a_take a_begin a_finish a_to1 a_one a_two a_what a_ats a_atVar a_atNumber a_atomSort a_atomKind a_atomValue v_wrong v_wrongAt v_variable v_number v_numberKind v_takes a_out v_outed a_varSort a_varKind a_varValue a_creature v_creatures a_arrayClass a_arrayFrom a_arrayLong v_arrays v_cells a_cellSort a_cellKind a_cellValue a_asideSort a_asideKind a_asideValue a_outcome v_marks v_came v_guessed v_right v_taken a_markSort a_markKind a_markClass a_markValue v_sort_71 v_kindAt_71 v_value_71 a_index v_reached x87) := hD
              refine lv_aload_n hx hb dX10_hash_91 rfl (lv_at hl 0 rfl) ?_
              refine va_get (D := D) (ci := 9) (v := .int x87) (C := RX10) (T := TX10) (N := 71) hx hb hts hin hown hK hP 0 rfl rfl 70 (by decide) k_52_10 (fun _ h9 => h9) rfl dX10_hash_92 ?_
              refine lv_sipush (v := 20000) hx hb dX10_hash_95 (by decide) ?_
              refine m_icmp_le (X := x87.toInt) (Y := 20000) (tgt := 103) hx hb dX10_hash_98 (by decide) rfl (by decide) (fun c98 => ?_) (fun c98 => ?_)
              · skip
                refine lv_aload_n hx hb dX10_hash_103 rfl (lv_at hl 0 rfl) ?_
                refine lv_iload_n hx hb dX10_hash_104 rfl (lv_at hl 1 rfl) ?_
                refine lv_iload_n hx hb dX10_hash_105 rfl (lv_at hl 3 rfl) ?_
                refine call_v (As := [.int x60, .int l3_71]) (rest := []) ⟨hx, hb, hml, hown, hts⟩ (tX10_ofCell (l := l) x60 l3_71 (by first | assumption | omega | (intros; omega) | decide) (by first | assumption | omega | (intros; omega) | decide) (by first | assumption | omega | (intros; omega) | decide) (by first | assumption | omega | (intros; omega) | decide) (by first | assumption | omega | (intros; omega) | decide)) (cwV 2 hts (gV (wr49 _ (List.mem_of_getElem? (i := 0) rfl)) (wr49 _ (List.mem_of_getElem? (i := 1) rfl)) (wr49 _ (List.mem_of_getElem? (i := 2) rfl)) (wr1 _ (List.mem_of_getElem? (i := 5) rfl)) (wr49 _ (List.mem_of_getElem? (i := 3) rfl))) rfl rfl rfl (by decide +kernel) ⟨Nat.le_of_ble_eq_true rfl, Nat.le_of_ble_eq_true rfl⟩) (va_recv hK hP (ci := 9) (q0 := 0) rfl rfl) hK hP hD hE hS hA rfl hl.1 rfl (Nat.le_of_ble_eq_true rfl) dX10_hash_106 ⟨Nat.le_of_ble_eq_true rfl, Nat.le_of_ble_eq_true rfl⟩ (fun w9 H locs hw106 hP hD hS => ?_)
                obtain ⟨v_sort_106, v_kindAt_106, v_value_106, rfl, hw106_0, hw106_1, hw106_2⟩ := hw106
                have b_v_sort_106 := iB v_sort_106
                have b_v_kindAt_106 := iB v_kindAt_106
                have b_v_value_106 := jB v_value_106
                refine lv_bipush (v := 31) hx hb dX10_hash_109 (by decide) ?_
                refine lv_iload_n hx hb dX10_hash_111 rfl (lv_at hl 2 rfl) ?_
                refine m_imul (X := 31) (Y := l2_71.toInt) hx hb dX10_hash_112 (by decide) rfl (fun x112 e_x112 g9 => ?_)
                obtain ⟨k_x112, g_x112⟩ := g9
                have b_x112 := iB x112
                try (have q_x112 : x112.toInt = 31 * l2_71.toInt := (by omega); clear g_x112 k_x112)
                refine lv_aload_n hx hb dX10_hash_113 rfl (lv_at hl 0 rfl) ?_
                refine call_i (As := []) (rest := [.int x112]) ⟨hx, hb, hml, hown, hts⟩ (tX10_hash_q0 (l := l)  (by first | assumption | omega | (intros; omega) | decide) (by first | assumption | omega | (intros; omega) | decide) (by intro q; have z := hw106_1 q; omega)) (cwV 0 hts (gV (wr52 _ (List.mem_of_getElem? (i := 11) rfl)) (wr52 _ (List.mem_of_getElem? (i := 12) rfl)) (wr52 _ (List.mem_of_getElem? (i := 13) rfl)) (wr1 _ (List.mem_of_getElem? (i := 5) rfl)) (wr52 _ (List.mem_of_getElem? (i := 14) rfl))) rfl rfl rfl (by decide +kernel) ⟨Nat.le_of_ble_eq_true rfl, Nat.le_of_ble_eq_true rfl⟩) (va_recv hK hP (ci := 9) (q0 := 0) rfl rfl) hK hP hD hE hS hA rfl hl.1 rfl (Nat.le_of_ble_eq_true rfl) dX10_hash_114 ⟨Nat.le_of_ble_eq_true rfl, Nat.le_of_ble_eq_true rfl⟩ (fun r114 w9 H locs hw114 hP hD hS => ?_)
                obtain ⟨rfl⟩ := hw114
                have b_r114 := iB r114
                refine m_iadd (X := x112.toInt) (Y := r114.toInt) hx hb dX10_hash_117 rfl rfl (fun x117 e_x117 g9 => ?_)
                obtain ⟨k_x117, g_x117⟩ := g9
                have b_x117 := iB x117
                try (have q_x117 : x117.toInt = x112.toInt + r114.toInt := (by omega); clear g_x117 k_x117)
                refine lv_istore_n (lv' := [(2, .int x117), (0, .ref (q 0)), (1, .int x60), (3, .int l3_71)]) hx hb dX10_hash_118 rfl hl (by decide) rfl (fun ls hl => ?_)
                obtain ⟨x119, e_x119⟩ : ∃ z : Int32, z = l3_71 + (1 : Int32) := ⟨_, rfl⟩
                obtain ⟨k_x119, g_x119⟩ : ∃ k : Int, x119.toInt = l3_71.toInt + (1) + k * 4294967296 := by rw [e_x119]; exact iAdd l3_71 (1)
                have b_x119 := iB x119
                try (have q_x119 : x119.toInt = l3_71.toInt + (1) := (by omega); clear g_x119 k_x119)
                refine lv_iinc (v := x119) (lv' := [(3, .int x119), (2, .int x117), (0, .ref (q 0)), (1, .int x60)]) hx hb dX10_hash_119 hl (k := 3) rfl (by rw [e_x119]; rfl) (by decide) rfl (fun ls hl => ?_)
                refine lv_goto (tgt := 71) hx hb dX10_hash_122 (by decide) ?_
                exact ih71 x117 x119 v_kindAt_106 x87 v_sort_106 v_value_106 H locs ls (by first | assumption | omega | (intros; omega) | decide) (by first | assumption | omega | (intros; omega) | decide) (by omega) hP hD hS (lv_sub hl [2, 3, 1, 0] rfl)
              · skip
                refine lv_iconst (v := 0) hx hb dX10_hash_101 (by decide) ?_
                subst hAe
                rw [hQ]
                exact W.iret (v := 0) hx hb hr (fun t ht hW => ⟨⟨0, _, rfl, ⟨v_sort_71, v_kindAt_71, v_value_71, x87, rfl⟩, by rw [ht]; exact hP, va_K.moved hW.alike hK, hD⟩, hS.F ht⟩) hS.2.2 dX10_hash_102
        exact J71 ((500 - (0 : Int32).toInt).toNat + 1) x67 (0 : Int32) v_kindAt v_looked v_sort v_value H locs ls (by first | assumption | omega | (intros; omega) | decide) (by first | assumption | omega | (intros; omega) | decide) (by omega) hP hD hS (lv_sub hl [3, 2, 1, 0] rfl)
      · skip
        refine lv_aload_n hx hb dX10_hash_45 rfl (lv_at hl 0 rfl) ?_
        refine va_get (D := D) (ci := 9) (v := .ref (q 22)) (C := RX10) (T := TX10) (N := 71) hx hb hts hin hown hK hP 0 rfl rfl 42 (by decide) k_6_4 (fun _ h9 => h9) rfl dX10_hash_46 ?_
        refine lv_aload_n hx hb dX10_hash_49 rfl (lv_at hl 0 rfl) ?_
        refine va_get (D := D) (ci := 9) (v := .long v_value) (C := RX10) (T := TX10) (N := 71) hx hb hts hin hown hK hP 0 rfl rfl 67 (by decide) k_47_14 (fun _ h9 => h9) rfl dX10_hash_50 ?_
        refine m_l2i hx hb dX10_hash_53 (fun x53 e_x53 => ?_)
        have b_x53 := iB x53
        have hv9 := hv2 (by omega)
        have hx53 := l2iT e_x53 (by omega) (by omega)
        refine m_iald hx hb hK hP 22 0 rfl rfl (ix (by omega) (by omega)) dX10_hash_54 (fun x54 e_x54 => ?_)
        have b_x54 := iB x54
        subst hAe
        rw [hQ]
        exact W.iret (v := x54) hx hb hr (fun t ht hW => ⟨⟨x54, _, rfl, ⟨v_sort, v_kindAt, v_value, v_looked, rfl⟩, by rw [ht]; exact hP, va_K.moved hW.alike hK, hD⟩, hS.F ht⟩) hS.2.2 dX10_hash_55
    · skip
      refine lv_aload_n hx hb dX10_hash_17 rfl (lv_at hl 0 rfl) ?_
      refine va_get (D := D) (ci := 9) (v := .int v_kindAt) (C := RX10) (T := TX10) (N := 71) hx hb hts hin hown hK hP 0 rfl rfl 66 (by decide) k_47_13 (fun _ h9 => h9) rfl dX10_hash_18 ?_
      refine lv_aload_n hx hb dX10_hash_21 rfl (lv_at hl 0 rfl) ?_
      refine va_get (D := D) (ci := 9) (v := .long v_value) (C := RX10) (T := TX10) (N := 71) hx hb hts hin hown hK hP 0 rfl rfl 67 (by decide) k_47_14 (fun _ h9 => h9) rfl dX10_hash_22 ?_
      refine call_jSP (As := [.int v_kindAt, .long v_value]) (rest := []) ⟨hx, hb, hml, hown, hts⟩ (tX10_whole (l := l) v_kindAt v_value (by exact hv3 (by omega))) (va_cwS 2 hts (gS (wr52 _ (List.mem_of_getElem? (i := 15) rfl)) (wr52 _ (List.mem_of_getElem? (i := 16) rfl)) (wr1 _ (List.mem_of_getElem? (i := 5) rfl)) (wr52 _ (List.mem_of_getElem? (i := 17) rfl))) rfl rfl rfl (by decide +kernel) ⟨Nat.le_of_ble_eq_true rfl, Nat.le_of_ble_eq_true rfl⟩) (hK.sub [] rfl) hP hD hE hS hA rfl hl.1 rfl (Nat.le_of_ble_eq_true rfl) dX10_hash_25 ⟨Nat.le_of_ble_eq_true rfl, Nat.le_of_ble_eq_true rfl⟩ (fun r25 w9 H locs hw25 hP hD hS => ?_)
      obtain ⟨rfl⟩ := hw25
      have b_r25 := jB r25
      refine lv_lstore_n (lv' := [(1, .long r25), (0, .ref (q 0))]) hx hb dX10_hash_28 rfl hl (by decide) rfl (fun ls hl => ?_)
      refine lv_lload_n hx hb dX10_hash_29 rfl (lv_at hl 0 rfl) ?_
      refine lv_lload_n hx hb dX10_hash_30 rfl (lv_at hl 0 rfl) ?_
      refine lv_bipush (v := 32) hx hb dX10_hash_31 (by decide) ?_
      refine m_lushr hx hb dX10_hash_33 (fun x33 e_x33 => ?_)
      have b_x33 := jB x33
      refine m_lxor hx hb dX10_hash_34 (fun x34 e_x34 => ?_)
      have b_x34 := jB x34
      refine m_l2i hx hb dX10_hash_35 (fun x35 e_x35 => ?_)
      have b_x35 := iB x35
      subst hAe
      rw [hQ]
      exact W.iret (v := x35) hx hb hr (fun t ht hW => ⟨⟨x35, _, rfl, ⟨v_sort, v_kindAt, v_value, v_looked, rfl⟩, by rw [ht]; exact hP, va_K.moved hW.alike hK, hD⟩, hS.F ht⟩) hS.2.2 dX10_hash_36
  · skip
    refine lv_iconst (v := 0) hx hb dX10_hash_7 (by decide) ?_
    subst hAe
    rw [hQ]
    exact W.iret (v := 0) hx hb hr (fun t ht hW => ⟨⟨0, _, rfl, ⟨v_sort, v_kindAt, v_value, v_looked, rfl⟩, by rw [ht]; exact hP, va_K.moved hW.alike hK, hD⟩, hS.F ht⟩) hS.2.2 dX10_hash_8

def rmX10_hash_q2 : Room := { frames := 80, cells := 0, slots := 0, locals := 1600 }
set_option maxHeartbeats 4000000 in
set_option maxRecDepth 100000 in
theorem tX10_hash_q2 {l : Launch} {D : va_G} {K : Nat → Nat → Nat} {cs : Nat → ClassId} {q : Nat → Nat} {v_thrown v_taped v_size v_to v_kind v_from v_letterMany v_isBeyond v_suffix v_steps v_fault v_hasProgram v_wrong v_wrongAt v_variable v_numberKind v_takes v_outed v_creatures v_arrays v_cells v_marks v_came v_guessed v_right v_taken v_sort v_kindAt v_reached v_looked : Int32} {a_tape a_text a_act a_guess a_take a_begin a_finish a_to1 a_one a_two a_what a_ats a_atVar a_atNumber a_atomSort a_atomKind a_out a_varSort a_varKind a_creature a_arrayClass a_arrayFrom a_arrayLong a_cellSort a_cellKind a_asideSort a_asideKind a_outcome a_markSort a_markKind a_markClass a_index : Nat → Int32} {v_letters v_digits v_number v_value : Int64} {a_atomValue a_varValue a_cellValue a_asideValue a_markValue : Nat → Int64} (p_0 : RUN a_varSort a_varKind a_varValue v_arrays v_cells v_creatures a_arrayClass a_arrayFrom a_arrayLong a_cellSort a_cellKind a_cellValue) (p_1 : VOK v_arrays.toInt v_creatures.toInt v_sort v_kindAt v_value) (p_2 : v_sort.toInt = 3 → (a_arrayClass v_value.toInt.toNat).toInt / 20 ≤ 2) : CtI l yX10_hash (wG yX10_hash cX10_hash 4 (some .int)) rmX10_hash_q2 D (mwT cs) K [.ref (q 0)] (mw cs q v_thrown a_tape v_taped v_size v_to v_kind v_from v_letters v_letterMany v_digits v_isBeyond v_suffix v_steps v_fault v_hasProgram a_text a_act a_guess a_take a_begin a_finish a_to1 a_one a_two a_what a_ats a_atVar a_atNumber a_atomSort a_atomKind a_atomValue v_wrong v_wrongAt v_variable v_number v_numberKind v_takes a_out v_outed a_varSort a_varKind a_varValue a_creature v_creatures a_arrayClass a_arrayFrom a_arrayLong v_arrays v_cells a_cellSort a_cellKind a_cellValue a_asideSort a_asideKind a_asideValue a_outcome v_marks v_came v_guessed v_right v_taken a_markSort a_markKind a_markClass a_markValue v_sort v_kindAt v_value a_index v_reached v_looked) (fun r w1 => ∃ (v_sort' : Int32) (v_kindAt' : Int32) (v_value' : Int64) (v_looked' : Int32), w1 = (mw cs q v_thrown a_tape v_taped v_size v_to v_kind v_from v_letters v_letterMany v_digits v_isBeyond v_suffix v_steps v_fault v_hasProgram a_text a_act a_guess a_take a_begin a_finish a_to1 a_one a_two a_what a_ats a_atVar a_atNumber a_atomSort a_atomKind a_atomValue v_wrong v_wrongAt v_variable v_number v_numberKind v_takes a_out v_outed a_varSort a_varKind a_varValue a_creature v_creatures a_arrayClass a_arrayFrom a_arrayLong v_arrays v_cells a_cellSort a_cellKind a_cellValue a_asideSort a_asideKind a_asideValue a_outcome v_marks v_came v_guessed v_right v_taken a_markSort a_markKind a_markClass a_markValue v_sort' v_kindAt' v_value' a_index v_reached v_looked')) 0 0 := by
  intro sz
  refine Met.ofW (cc := cX10_hash) (maxL := 4) (ret := (some .int)) (by decide) rfl ?_
  intro p e s m args below meth c s₁ B hml hv
  obtain ⟨rfl, hsz, hP, hK, hD0, hE⟩ := hv
  have hx := B.exec
  have hb := B.bytes
  have hr := B.returns
  have hts := atoms_spec (ws := (wG yX10_hash cX10_hash 4 (some .int))) B.pre
  have hown : s.vm.findClass RX10 = some m.cls := findClass_of_methodNamed B.named
  have hlocks := B.notSynchronized
  subst hsz
  have hD := hD0.self (sz := s.heap.size)
  obtain ⟨A, hAe⟩ : ∃ A : Nat → Prop, A = va_A (mw cs q v_thrown a_tape v_taped v_size v_to v_kind v_from v_letters v_letterMany v_digits v_isBeyond v_suffix v_steps v_fault v_hasProgram a_text a_act a_guess a_take a_begin a_finish a_to1 a_one a_two a_what a_ats a_atVar a_atNumber a_atomSort a_atomKind a_atomValue v_wrong v_wrongAt v_variable v_number v_numberKind v_takes a_out v_outed a_varSort a_varKind a_varValue a_creature v_creatures a_arrayClass a_arrayFrom a_arrayLong v_arrays v_cells a_cellSort a_cellKind a_cellValue a_asideSort a_asideKind a_asideValue a_outcome v_marks v_came v_guessed v_right v_taken a_markSort a_markKind a_markClass a_markValue v_sort v_kindAt v_value a_index v_reached v_looked) s.heap.size := ⟨_, rfl⟩
  rw [← hAe] at hD hE
  have hA : ∀ q : Nat, s.heap.size ≤ q → A q := fun q h => by rw [hAe]; exact Or.inr h
  have hS : va_S A s.heap s.heap [] := va_S.rf
  have hl := lv_entry ([.ref (q 0)]) (n := 4) (Nat.le_of_ble_eq_true rfl)
  rw [lg_entry_eq]
  generalize (lg_sl ([.ref (q 0)]) ++ List.replicate (4 - (lg_sl ([.ref (q 0)])).length) Slot.unset).toArray = ls at hl ⊢
  have hl : lv_has ls 4 [(0, .ref (q 0))] := hl
  refine wq (fun Q hQ => ?_)
  have hin : ∀ w ∈ wsX100, w ∈ (wG yX10_hash cX10_hash 4 (some .int)) := fun w h => List.mem_cons_of_mem _ (inlX10 w h)
  have kc0 : (0 : Int32).toInt = 0 := by decide
  have kc1 : (1 : Int32).toInt = 1 := by decide
  have kc2 : (2 : Int32).toInt = 2 := by decide
  have kc3 : (31 : Int32).toInt = 31 := by decide
  have kc4 : (32 : Int32).toInt = 32 := by decide
  have kc5 : (20000 : Int32).toInt = 20000 := by decide
  have k_47_12 := hts (.fieldLink RX10 493 "ArrayTrainerModel" "sort" "I") (List.mem_cons_of_mem _ (wr47 _ (List.mem_of_getElem? (i := 12) rfl)))
  have k_47_14 := hts (.fieldLink RX10 499 "ArrayTrainerModel" "value" "J") (List.mem_cons_of_mem _ (wr47 _ (List.mem_of_getElem? (i := 14) rfl)))
  have k_6_5 := hts (.fieldLink RX10 77 "ArrayTrainerModel" "arrayClass" "[I") (List.mem_cons_of_mem _ (wr6 _ (List.mem_of_getElem? (i := 5) rfl)))
  have k_6_7 := hts (.fieldLink RX10 83 "ArrayTrainerModel" "arrayLong" "[I") (List.mem_cons_of_mem _ (wr6 _ (List.mem_of_getElem? (i := 7) rfl)))
  have k_52_10 := hts (.fieldLink RX10 558 "ArrayTrainerModel" "looked" "I") (List.mem_cons_of_mem _ (wr52 _ (List.mem_of_getElem? (i := 10) rfl)))
  have k_6_4 := hts (.fieldLink RX10 74 "ArrayTrainerModel" "creature" "[I") (List.mem_cons_of_mem _ (wr6 _ (List.mem_of_getElem? (i := 4) rfl)))
  have k_47_13 := hts (.fieldLink RX10 496 "ArrayTrainerModel" "kindAt" "I") (List.mem_cons_of_mem _ (wr47 _ (List.mem_of_getElem? (i := 13) rfl)))
  obtain ⟨H, hH⟩ : ∃ H : Heap, H = s.heap := ⟨_, rfl⟩
  obtain ⟨locs, hlc⟩ : ∃ L : List Loc, L = [] := ⟨_, rfl⟩
  have hP : va_P D vwCl (mw cs q v_thrown a_tape v_taped v_size v_to v_kind v_from v_letters v_letterMany v_digits v_isBeyond v_suffix v_steps v_fault v_hasProgram a_text a_act a_guess a_take a_begin a_finish a_to1 a_one a_two a_what a_ats a_atVar a_atNumber a_atomSort a_atomKind a_atomValue v_wrong v_wrongAt v_variable v_number v_numberKind v_takes a_out v_outed a_varSort a_varKind a_varValue a_creature v_creatures a_arrayClass a_arrayFrom a_arrayLong v_arrays v_cells a_cellSort a_cellKind a_cellValue a_asideSort a_asideKind a_asideValue a_outcome v_marks v_came v_guessed v_right v_taken a_markSort a_markKind a_markClass a_markValue v_sort v_kindAt v_value a_index v_reached v_looked) H := by rw [hH]; exact hP
  have hS : va_S A s.heap H locs := by rw [hH, hlc]; exact hS
  refine wHL hH hlc ?_
  have hr9 := p_0.1
  obtain ⟨hv0, hv1, hv2, hv3⟩ := id p_1
  refine lv_aload_n hx hb dX10_hash_0 rfl (lv_at hl 0 rfl) ?_
  refine va_get (D := D) (ci := 9) (v := .int v_sort) (C := RX10) (T := TX10) (N := 71) hx hb hts hin hown hK hP 0 rfl rfl 65 (by decide) k_47_12 (fun _ h9 => h9) rfl dX10_hash_1 ?_
  refine m_if_ne (X := v_sort.toInt) (tgt := 9) hx hb dX10_hash_4 (by decide) rfl (fun c4 => ?_) (fun c4 => ?_)
  · skip
    refine lv_aload_n hx hb dX10_hash_9 rfl (lv_at hl 0 rfl) ?_
    refine va_get (D := D) (ci := 9) (v := .int v_sort) (C := RX10) (T := TX10) (N := 71) hx hb hts hin hown hK hP 0 rfl rfl 65 (by decide) k_47_12 (fun _ h9 => h9) rfl dX10_hash_10 ?_
    refine lv_iconst (v := 1) hx hb dX10_hash_13 (by decide) ?_
    refine m_icmp_ne (X := v_sort.toInt) (Y := 1) (tgt := 37) hx hb dX10_hash_14 (by decide) rfl (by decide) (fun c14 => ?_) (fun c14 => ?_)
    · skip
      refine lv_aload_n hx hb dX10_hash_37 rfl (lv_at hl 0 rfl) ?_
      refine va_get (D := D) (ci := 9) (v := .int v_sort) (C := RX10) (T := TX10) (N := 71) hx hb hts hin hown hK hP 0 rfl rfl 65 (by decide) k_47_12 (fun _ h9 => h9) rfl dX10_hash_38 ?_
      refine lv_iconst (v := 2) hx hb dX10_hash_41 (by decide) ?_
      refine m_icmp_ne (X := v_sort.toInt) (Y := 2) (tgt := 56) hx hb dX10_hash_42 (by decide) rfl (by decide) (fun c42 => ?_) (fun c42 => ?_)
      · skip
        refine lv_aload_n hx hb dX10_hash_56 rfl (lv_at hl 0 rfl) ?_
        refine va_get (D := D) (ci := 9) (v := .long v_value) (C := RX10) (T := TX10) (N := 71) hx hb hts hin hown hK hP 0 rfl rfl 67 (by decide) k_47_14 (fun _ h9 => h9) rfl dX10_hash_57 ?_
        refine m_l2i hx hb dX10_hash_60 (fun x60 e_x60 => ?_)
        have b_x60 := iB x60
        have hv9 := hv1 (by omega)
        have hx60 := l2iT e_x60 (by omega) (by omega)
        have t60 := tn (i := x60) (by omega)
        obtain ⟨ao1, ao2, ao3, ao4⟩ := p_0.2.1 x60.toNatClampNeg (by omega)
        have hdp := p_2 (by omega)
        rw [show v_value.toInt.toNat = x60.toNatClampNeg by omega] at hdp
        refine lv_istore_n (lv' := [(1, .int x60), (0, .ref (q 0))]) hx hb dX10_hash_61 rfl hl (by decide) rfl (fun ls hl => ?_)
        refine lv_aload_n hx hb dX10_hash_62 rfl (lv_at hl 1 rfl) ?_
        refine va_get (D := D) (ci := 9) (v := .ref (q 23)) (C := RX10) (T := TX10) (N := 71) hx hb hts hin hown hK hP 0 rfl rfl 44 (by decide) k_6_5 (fun _ h9 => h9) rfl dX10_hash_63 ?_
        refine lv_iload_n hx hb dX10_hash_66 rfl (lv_at hl 0 rfl) ?_
        refine m_iald hx hb hK hP 23 0 rfl rfl (ix (by omega) (by omega)) dX10_hash_67 (fun x67 e_x67 => ?_)
        have b_x67 := iB x67
        refine lv_istore_n (lv' := [(2, .int x67), (1, .int x60), (0, .ref (q 0))]) hx hb dX10_hash_68 rfl hl (by decide) rfl (fun ls hl => ?_)
        refine lv_iconst (v := 0) hx hb dX10_hash_69 (by decide) ?_
        refine lv_istore_n (lv' := [(3, .int 0), (2, .int x67), (1, .int x60), (0, .ref (q 0))]) hx hb dX10_hash_70 rfl hl (by decide) rfl (fun ls hl => ?_)
        have J71 : ∀ (n71 : Nat) (l2_71 : Int32) (l3_71 : Int32) (v_kindAt_71 : Int32) (v_looked_71 : Int32) (v_sort_71 : Int32) (v_value_71 : Int64) (H : Heap) (locs : List Loc) (ls : Array Slot), (0 ≤ l3_71.toInt) → (l3_71.toInt ≤ 500) → (500 - l3_71.toInt < (n71 : Int)) → va_P D vwCl (mw cs q v_thrown a_tape v_taped v_size v_to v_kind v_from v_letters v_letterMany v_digits v_isBeyond v_suffix v_steps v_fault v_hasProgram a_text a_act a_guess a_take a_begin a_finish a_to1 a_one a_two a_what a_ats a_atVar a_atNumber a_atomSort a_atomKind a_atomValue v_wrong v_wrongAt v_variable v_number v_numberKind v_takes a_out v_outed a_varSort a_varKind a_varValue a_creature v_creatures a_arrayClass a_arrayFrom a_arrayLong v_arrays v_cells a_cellSort a_cellKind a_cellValue a_asideSort a_asideKind a_asideValue a_outcome v_marks v_came v_guessed v_right v_taken a_markSort a_markKind a_markClass a_markValue v_sort_71 v_kindAt_71 v_value_71 a_index v_reached v_looked_71) H → va_D A (mw cs q v_thrown a_tape v_taped v_size v_to v_kind v_from v_letters v_letterMany v_digits v_isBeyond v_suffix v_steps v_fault v_hasProgram a_text a_act a_guess a_take a_begin a_finish a_to1 a_one a_two a_what a_ats a_atVar a_atNumber a_atomSort a_atomKind a_atomValue v_wrong v_wrongAt v_variable v_number v_numberKind v_takes a_out v_outed a_varSort a_varKind a_varValue a_creature v_creatures a_arrayClass a_arrayFrom a_arrayLong v_arrays v_cells a_cellSort a_cellKind a_cellValue a_asideSort a_asideKind a_asideValue a_outcome v_marks v_came v_guessed v_right v_taken a_markSort a_markKind a_markClass a_markValue v_sort_71 v_kindAt_71 v_value_71 a_index v_reached v_looked_71) → va_S A s.heap H locs → lv_has ls 4 [(0, .ref (q 0)), (1, .int x60), (2, .int l2_71), (3, .int l3_71)] → W p l e (headSpec (wG yX10_hash cX10_hash 4 (some .int)) rmX10_hash_q2).room s m ([.ref (q 0)] : List Value).toArray below meth c H locs 0 0 Q (F0 m 71 ls []) := by
          intro n71
          induction n71 with
          | zero =>
            intro l2_71 l3_71 v_kindAt_71 v_looked_71 v_sort_71 v_value_71 H locs ls f71_0 f71_1 hm71
            exfalso
            omega
          | succ n71 ih71 =>
            intro l2_71 l3_71 v_kindAt_71 v_looked_71 v_sort_71 v_value_71 H locs ls f71_0 f71_1 hm71 hP hD hS hl
            refine lv_iload_n hx hb dX10_hash_71 rfl (lv_at hl 3 rfl) ?_
            refine lv_aload_n hx hb dX10_hash_72 rfl (lv_at hl 0 rfl) ?_
            refine va_get (D := D) (ci := 9) (v := .ref (q 25)) (C := RX10) (T := TX10) (N := 71) hx hb hts hin hown hK hP 0 rfl rfl 46 (by decide) k_6_7 (fun _ h9 => h9) rfl dX10_hash_73 ?_
            refine lv_iload_n hx hb dX10_hash_76 rfl (lv_at hl 1 rfl) ?_
            refine m_iald hx hb hK hP 25 0 rfl rfl (ix (by omega) (by omega)) dX10_hash_77 (fun x77 e_x77 => ?_)
            have b_x77 := iB x77
            have hx77 := congrArg Int32.toInt e_x77
            refine m_icmp_ge (X := l3_71.toInt) (Y := x77.toInt) (tgt := 125) hx hb dX10_hash_78 (by decide) rfl rfl (fun c78 => ?_) (fun c78 => ?_)
            · skip
              refine lv_iload_n hx hb dX10_hash_125 rfl (lv_at hl 2 rfl) ?_
              subst hAe
              rw [hQ]
              exact W.iret (v := l2_71) hx hb hr (fun t ht hW => ⟨⟨l2_71, _, rfl, ⟨v_sort_71, v_kindAt_71, v_value_71, v_looked_71, rfl⟩, by rw [ht]; exact hP, va_K.moved hW.alike hK, hD⟩, hS.F ht⟩) hS.2.2 dX10_hash_126
            · skip
              refine lv_aload_n hx hb dX10_hash_81 rfl (lv_at hl 0 rfl) ?_
              refine lv_dup hx hb dX10_hash_82 rfl ?_
              refine va_get (D := D) (ci := 9) (v := .int v_looked_71) (C := RX10) (T := TX10) (N := 71) hx hb hts hin hown hK hP 0 rfl rfl 70 (by decide) k_52_10 (fun _ h9 => h9) rfl dX10_hash_83 ?_
              refine lv_iconst (v := 1) hx hb dX10_hash_86 (by decide) ?_
              refine m_iadd (X := v_looked_71.toInt) (Y := 1) hx hb dX10_hash_87 rfl (by decide) (fun x87 e_x87 g9 => ?_)
              obtain ⟨k_x87, g_x87⟩ := g9
              have b_x87 := iB x87
              try (have q_x87 : x87.toInt = v_looked_71.toInt + 1 := (by omega); clear g_x87 k_x87)
              refine va_put (D := D) (ci := 9) (v := .int x87) (ty := .int) (C := RX10) (T := TX10) (N := 71) hx hb hts hin tyX10 tyX10_ok nmX10 hown hK hP hD hS 0 rfl rfl 70 (by decide) k_52_10 (fun _ h9 => h9) rfl (by decide +kernel) rfl rfl (Nat.le_of_ble_eq_true rfl) dX10_hash_88 (fun H locs hP hD hS => ?_)
              have hP : va_P D vwCl (mw cs q v_thrown a_tape v_taped v_size v_to v_kind v_from v_letters v_letterMany v_digits v_isBeyond v_suffix v_steps v_fault v_hasProgram a_text a_act a_guess a_take a_begin a_finish a_to1 a_one a_two a_what a_ats a_atVar a_atNumber a_atomSort a_atomKind a_atomValue v_wrong v_wrongAt v_variable v_number v_numberKind v_takes a_out v_outed a_varSort a_varKind a_varValue a_creature v_creatures a_arrayClass a_arrayFrom a_arrayLong v_arrays v_cells a_cellSort a_cellKind a_cellValue a_asideSort a_asideKind a_asideValue a_outcome v_marks v_came v_guessed v_right v_taken a_markSort a_markKind a_markClass a_markValue v_sort_71 v_kindAt_71 v_value_71 a_index v_reached x87) H := hP
              have hD : va_D A (mw cs q v_thrown a_tape v_taped v_size v_to v_kind v_from v_letters v_letterMany v_digits v_isBeyond v_suffix v_steps v_fault v_hasProgram a_text a_act a_guess a_take a_begin a_finish a_to1 a_one a_two a_what a_ats a_atVar a_atNumber a_atomSort a_atomKind a_atomValue v_wrong v_wrongAt v_variable v_number v_numberKind v_takes a_out v_outed a_varSort a_varKind a_varValue a_creature v_creatures a_arrayClass a_arrayFrom a_arrayLong v_arrays v_cells a_cellSort a_cellKind a_cellValue a_asideSort a_asideKind a_asideValue a_outcome v_marks v_came v_guessed v_right v_taken a_markSort a_markKind a_markClass a_markValue v_sort_71 v_kindAt_71 v_value_71 a_index v_reached x87) := hD
              refine lv_aload_n hx hb dX10_hash_91 rfl (lv_at hl 0 rfl) ?_
              refine va_get (D := D) (ci := 9) (v := .int x87) (C := RX10) (T := TX10) (N := 71) hx hb hts hin hown hK hP 0 rfl rfl 70 (by decide) k_52_10 (fun _ h9 => h9) rfl dX10_hash_92 ?_
              refine lv_sipush (v := 20000) hx hb dX10_hash_95 (by decide) ?_
              refine m_icmp_le (X := x87.toInt) (Y := 20000) (tgt := 103) hx hb dX10_hash_98 (by decide) rfl (by decide) (fun c98 => ?_) (fun c98 => ?_)
              · skip
                refine lv_aload_n hx hb dX10_hash_103 rfl (lv_at hl 0 rfl) ?_
                refine lv_iload_n hx hb dX10_hash_104 rfl (lv_at hl 1 rfl) ?_
                refine lv_iload_n hx hb dX10_hash_105 rfl (lv_at hl 3 rfl) ?_
                refine call_v (As := [.int x60, .int l3_71]) (rest := []) ⟨hx, hb, hml, hown, hts⟩ (tX10_ofCell (l := l) x60 l3_71 (by first | assumption | omega | (intros; omega) | decide) (by first | assumption | omega | (intros; omega) | decide) (by first | assumption | omega | (intros; omega) | decide) (by first | assumption | omega | (intros; omega) | decide) (by first | assumption | omega | (intros; omega) | decide)) (cwV 2 hts (gV (wr49 _ (List.mem_of_getElem? (i := 0) rfl)) (wr49 _ (List.mem_of_getElem? (i := 1) rfl)) (wr49 _ (List.mem_of_getElem? (i := 2) rfl)) (wr1 _ (List.mem_of_getElem? (i := 5) rfl)) (wr49 _ (List.mem_of_getElem? (i := 3) rfl))) rfl rfl rfl (by decide +kernel) ⟨Nat.le_of_ble_eq_true rfl, Nat.le_of_ble_eq_true rfl⟩) (va_recv hK hP (ci := 9) (q0 := 0) rfl rfl) hK hP hD hE hS hA rfl hl.1 rfl (Nat.le_of_ble_eq_true rfl) dX10_hash_106 ⟨Nat.le_of_ble_eq_true rfl, Nat.le_of_ble_eq_true rfl⟩ (fun w9 H locs hw106 hP hD hS => ?_)
                obtain ⟨v_sort_106, v_kindAt_106, v_value_106, rfl, hw106_0, hw106_1, hw106_2⟩ := hw106
                have b_v_sort_106 := iB v_sort_106
                have b_v_kindAt_106 := iB v_kindAt_106
                have b_v_value_106 := jB v_value_106
                refine lv_bipush (v := 31) hx hb dX10_hash_109 (by decide) ?_
                refine lv_iload_n hx hb dX10_hash_111 rfl (lv_at hl 2 rfl) ?_
                refine m_imul (X := 31) (Y := l2_71.toInt) hx hb dX10_hash_112 (by decide) rfl (fun x112 e_x112 g9 => ?_)
                obtain ⟨k_x112, g_x112⟩ := g9
                have b_x112 := iB x112
                try (have q_x112 : x112.toInt = 31 * l2_71.toInt := (by omega); clear g_x112 k_x112)
                refine lv_aload_n hx hb dX10_hash_113 rfl (lv_at hl 0 rfl) ?_
                refine call_i (As := []) (rest := [.int x112]) ⟨hx, hb, hml, hown, hts⟩ (tX10_hash_q1 (l := l)  (by first | assumption | omega | (intros; omega) | decide) (by first | assumption | omega | (intros; omega) | decide) (by intro q; have z := hw106_1 q; omega)) (cwV 0 hts (gV (wr52 _ (List.mem_of_getElem? (i := 11) rfl)) (wr52 _ (List.mem_of_getElem? (i := 12) rfl)) (wr52 _ (List.mem_of_getElem? (i := 13) rfl)) (wr1 _ (List.mem_of_getElem? (i := 5) rfl)) (wr52 _ (List.mem_of_getElem? (i := 14) rfl))) rfl rfl rfl (by decide +kernel) ⟨Nat.le_of_ble_eq_true rfl, Nat.le_of_ble_eq_true rfl⟩) (va_recv hK hP (ci := 9) (q0 := 0) rfl rfl) hK hP hD hE hS hA rfl hl.1 rfl (Nat.le_of_ble_eq_true rfl) dX10_hash_114 ⟨Nat.le_of_ble_eq_true rfl, Nat.le_of_ble_eq_true rfl⟩ (fun r114 w9 H locs hw114 hP hD hS => ?_)
                obtain ⟨v_sort_114, v_kindAt_114, v_value_114, v_looked_114, rfl⟩ := hw114
                have b_v_sort_114 := iB v_sort_114
                have b_v_kindAt_114 := iB v_kindAt_114
                have b_v_value_114 := jB v_value_114
                have b_v_looked_114 := iB v_looked_114
                have b_r114 := iB r114
                refine m_iadd (X := x112.toInt) (Y := r114.toInt) hx hb dX10_hash_117 rfl rfl (fun x117 e_x117 g9 => ?_)
                obtain ⟨k_x117, g_x117⟩ := g9
                have b_x117 := iB x117
                try (have q_x117 : x117.toInt = x112.toInt + r114.toInt := (by omega); clear g_x117 k_x117)
                refine lv_istore_n (lv' := [(2, .int x117), (0, .ref (q 0)), (1, .int x60), (3, .int l3_71)]) hx hb dX10_hash_118 rfl hl (by decide) rfl (fun ls hl => ?_)
                obtain ⟨x119, e_x119⟩ : ∃ z : Int32, z = l3_71 + (1 : Int32) := ⟨_, rfl⟩
                obtain ⟨k_x119, g_x119⟩ : ∃ k : Int, x119.toInt = l3_71.toInt + (1) + k * 4294967296 := by rw [e_x119]; exact iAdd l3_71 (1)
                have b_x119 := iB x119
                try (have q_x119 : x119.toInt = l3_71.toInt + (1) := (by omega); clear g_x119 k_x119)
                refine lv_iinc (v := x119) (lv' := [(3, .int x119), (2, .int x117), (0, .ref (q 0)), (1, .int x60)]) hx hb dX10_hash_119 hl (k := 3) rfl (by rw [e_x119]; rfl) (by decide) rfl (fun ls hl => ?_)
                refine lv_goto (tgt := 71) hx hb dX10_hash_122 (by decide) ?_
                exact ih71 x117 x119 v_kindAt_114 v_looked_114 v_sort_114 v_value_114 H locs ls (by first | assumption | omega | (intros; omega) | decide) (by first | assumption | omega | (intros; omega) | decide) (by omega) hP hD hS (lv_sub hl [2, 3, 1, 0] rfl)
              · skip
                refine lv_iconst (v := 0) hx hb dX10_hash_101 (by decide) ?_
                subst hAe
                rw [hQ]
                exact W.iret (v := 0) hx hb hr (fun t ht hW => ⟨⟨0, _, rfl, ⟨v_sort_71, v_kindAt_71, v_value_71, x87, rfl⟩, by rw [ht]; exact hP, va_K.moved hW.alike hK, hD⟩, hS.F ht⟩) hS.2.2 dX10_hash_102
        exact J71 ((500 - (0 : Int32).toInt).toNat + 1) x67 (0 : Int32) v_kindAt v_looked v_sort v_value H locs ls (by first | assumption | omega | (intros; omega) | decide) (by first | assumption | omega | (intros; omega) | decide) (by omega) hP hD hS (lv_sub hl [3, 2, 1, 0] rfl)
      · skip
        refine lv_aload_n hx hb dX10_hash_45 rfl (lv_at hl 0 rfl) ?_
        refine va_get (D := D) (ci := 9) (v := .ref (q 22)) (C := RX10) (T := TX10) (N := 71) hx hb hts hin hown hK hP 0 rfl rfl 42 (by decide) k_6_4 (fun _ h9 => h9) rfl dX10_hash_46 ?_
        refine lv_aload_n hx hb dX10_hash_49 rfl (lv_at hl 0 rfl) ?_
        refine va_get (D := D) (ci := 9) (v := .long v_value) (C := RX10) (T := TX10) (N := 71) hx hb hts hin hown hK hP 0 rfl rfl 67 (by decide) k_47_14 (fun _ h9 => h9) rfl dX10_hash_50 ?_
        refine m_l2i hx hb dX10_hash_53 (fun x53 e_x53 => ?_)
        have b_x53 := iB x53
        have hv9 := hv2 (by omega)
        have hx53 := l2iT e_x53 (by omega) (by omega)
        refine m_iald hx hb hK hP 22 0 rfl rfl (ix (by omega) (by omega)) dX10_hash_54 (fun x54 e_x54 => ?_)
        have b_x54 := iB x54
        subst hAe
        rw [hQ]
        exact W.iret (v := x54) hx hb hr (fun t ht hW => ⟨⟨x54, _, rfl, ⟨v_sort, v_kindAt, v_value, v_looked, rfl⟩, by rw [ht]; exact hP, va_K.moved hW.alike hK, hD⟩, hS.F ht⟩) hS.2.2 dX10_hash_55
    · skip
      refine lv_aload_n hx hb dX10_hash_17 rfl (lv_at hl 0 rfl) ?_
      refine va_get (D := D) (ci := 9) (v := .int v_kindAt) (C := RX10) (T := TX10) (N := 71) hx hb hts hin hown hK hP 0 rfl rfl 66 (by decide) k_47_13 (fun _ h9 => h9) rfl dX10_hash_18 ?_
      refine lv_aload_n hx hb dX10_hash_21 rfl (lv_at hl 0 rfl) ?_
      refine va_get (D := D) (ci := 9) (v := .long v_value) (C := RX10) (T := TX10) (N := 71) hx hb hts hin hown hK hP 0 rfl rfl 67 (by decide) k_47_14 (fun _ h9 => h9) rfl dX10_hash_22 ?_
      refine call_jSP (As := [.int v_kindAt, .long v_value]) (rest := []) ⟨hx, hb, hml, hown, hts⟩ (tX10_whole (l := l) v_kindAt v_value (by exact hv3 (by omega))) (va_cwS 2 hts (gS (wr52 _ (List.mem_of_getElem? (i := 15) rfl)) (wr52 _ (List.mem_of_getElem? (i := 16) rfl)) (wr1 _ (List.mem_of_getElem? (i := 5) rfl)) (wr52 _ (List.mem_of_getElem? (i := 17) rfl))) rfl rfl rfl (by decide +kernel) ⟨Nat.le_of_ble_eq_true rfl, Nat.le_of_ble_eq_true rfl⟩) (hK.sub [] rfl) hP hD hE hS hA rfl hl.1 rfl (Nat.le_of_ble_eq_true rfl) dX10_hash_25 ⟨Nat.le_of_ble_eq_true rfl, Nat.le_of_ble_eq_true rfl⟩ (fun r25 w9 H locs hw25 hP hD hS => ?_)
      obtain ⟨rfl⟩ := hw25
      have b_r25 := jB r25
      refine lv_lstore_n (lv' := [(1, .long r25), (0, .ref (q 0))]) hx hb dX10_hash_28 rfl hl (by decide) rfl (fun ls hl => ?_)
      refine lv_lload_n hx hb dX10_hash_29 rfl (lv_at hl 0 rfl) ?_
      refine lv_lload_n hx hb dX10_hash_30 rfl (lv_at hl 0 rfl) ?_
      refine lv_bipush (v := 32) hx hb dX10_hash_31 (by decide) ?_
      refine m_lushr hx hb dX10_hash_33 (fun x33 e_x33 => ?_)
      have b_x33 := jB x33
      refine m_lxor hx hb dX10_hash_34 (fun x34 e_x34 => ?_)
      have b_x34 := jB x34
      refine m_l2i hx hb dX10_hash_35 (fun x35 e_x35 => ?_)
      have b_x35 := iB x35
      subst hAe
      rw [hQ]
      exact W.iret (v := x35) hx hb hr (fun t ht hW => ⟨⟨x35, _, rfl, ⟨v_sort, v_kindAt, v_value, v_looked, rfl⟩, by rw [ht]; exact hP, va_K.moved hW.alike hK, hD⟩, hS.F ht⟩) hS.2.2 dX10_hash_36
  · skip
    refine lv_iconst (v := 0) hx hb dX10_hash_7 (by decide) ?_
    subst hAe
    rw [hQ]
    exact W.iret (v := 0) hx hb hr (fun t ht hW => ⟨⟨0, _, rfl, ⟨v_sort, v_kindAt, v_value, v_looked, rfl⟩, by rw [ht]; exact hP, va_K.moved hW.alike hK, hD⟩, hS.F ht⟩) hS.2.2 dX10_hash_8

def rmX10_hash_q3 : Room := { frames := 100, cells := 0, slots := 0, locals := 2000 }
set_option maxHeartbeats 4000000 in
set_option maxRecDepth 100000 in
theorem tX10_hash_q3 {l : Launch} {D : va_G} {K : Nat → Nat → Nat} {cs : Nat → ClassId} {q : Nat → Nat} {v_thrown v_taped v_size v_to v_kind v_from v_letterMany v_isBeyond v_suffix v_steps v_fault v_hasProgram v_wrong v_wrongAt v_variable v_numberKind v_takes v_outed v_creatures v_arrays v_cells v_marks v_came v_guessed v_right v_taken v_sort v_kindAt v_reached v_looked : Int32} {a_tape a_text a_act a_guess a_take a_begin a_finish a_to1 a_one a_two a_what a_ats a_atVar a_atNumber a_atomSort a_atomKind a_out a_varSort a_varKind a_creature a_arrayClass a_arrayFrom a_arrayLong a_cellSort a_cellKind a_asideSort a_asideKind a_outcome a_markSort a_markKind a_markClass a_index : Nat → Int32} {v_letters v_digits v_number v_value : Int64} {a_atomValue a_varValue a_cellValue a_asideValue a_markValue : Nat → Int64} (p_0 : RUN a_varSort a_varKind a_varValue v_arrays v_cells v_creatures a_arrayClass a_arrayFrom a_arrayLong a_cellSort a_cellKind a_cellValue) (p_1 : VOK v_arrays.toInt v_creatures.toInt v_sort v_kindAt v_value) (p_2 : v_sort.toInt = 3 → (a_arrayClass v_value.toInt.toNat).toInt / 20 ≤ 3) : CtI l yX10_hash (wG yX10_hash cX10_hash 4 (some .int)) rmX10_hash_q3 D (mwT cs) K [.ref (q 0)] (mw cs q v_thrown a_tape v_taped v_size v_to v_kind v_from v_letters v_letterMany v_digits v_isBeyond v_suffix v_steps v_fault v_hasProgram a_text a_act a_guess a_take a_begin a_finish a_to1 a_one a_two a_what a_ats a_atVar a_atNumber a_atomSort a_atomKind a_atomValue v_wrong v_wrongAt v_variable v_number v_numberKind v_takes a_out v_outed a_varSort a_varKind a_varValue a_creature v_creatures a_arrayClass a_arrayFrom a_arrayLong v_arrays v_cells a_cellSort a_cellKind a_cellValue a_asideSort a_asideKind a_asideValue a_outcome v_marks v_came v_guessed v_right v_taken a_markSort a_markKind a_markClass a_markValue v_sort v_kindAt v_value a_index v_reached v_looked) (fun r w1 => ∃ (v_sort' : Int32) (v_kindAt' : Int32) (v_value' : Int64) (v_looked' : Int32), w1 = (mw cs q v_thrown a_tape v_taped v_size v_to v_kind v_from v_letters v_letterMany v_digits v_isBeyond v_suffix v_steps v_fault v_hasProgram a_text a_act a_guess a_take a_begin a_finish a_to1 a_one a_two a_what a_ats a_atVar a_atNumber a_atomSort a_atomKind a_atomValue v_wrong v_wrongAt v_variable v_number v_numberKind v_takes a_out v_outed a_varSort a_varKind a_varValue a_creature v_creatures a_arrayClass a_arrayFrom a_arrayLong v_arrays v_cells a_cellSort a_cellKind a_cellValue a_asideSort a_asideKind a_asideValue a_outcome v_marks v_came v_guessed v_right v_taken a_markSort a_markKind a_markClass a_markValue v_sort' v_kindAt' v_value' a_index v_reached v_looked')) 0 0 := by
  intro sz
  refine Met.ofW (cc := cX10_hash) (maxL := 4) (ret := (some .int)) (by decide) rfl ?_
  intro p e s m args below meth c s₁ B hml hv
  obtain ⟨rfl, hsz, hP, hK, hD0, hE⟩ := hv
  have hx := B.exec
  have hb := B.bytes
  have hr := B.returns
  have hts := atoms_spec (ws := (wG yX10_hash cX10_hash 4 (some .int))) B.pre
  have hown : s.vm.findClass RX10 = some m.cls := findClass_of_methodNamed B.named
  have hlocks := B.notSynchronized
  subst hsz
  have hD := hD0.self (sz := s.heap.size)
  obtain ⟨A, hAe⟩ : ∃ A : Nat → Prop, A = va_A (mw cs q v_thrown a_tape v_taped v_size v_to v_kind v_from v_letters v_letterMany v_digits v_isBeyond v_suffix v_steps v_fault v_hasProgram a_text a_act a_guess a_take a_begin a_finish a_to1 a_one a_two a_what a_ats a_atVar a_atNumber a_atomSort a_atomKind a_atomValue v_wrong v_wrongAt v_variable v_number v_numberKind v_takes a_out v_outed a_varSort a_varKind a_varValue a_creature v_creatures a_arrayClass a_arrayFrom a_arrayLong v_arrays v_cells a_cellSort a_cellKind a_cellValue a_asideSort a_asideKind a_asideValue a_outcome v_marks v_came v_guessed v_right v_taken a_markSort a_markKind a_markClass a_markValue v_sort v_kindAt v_value a_index v_reached v_looked) s.heap.size := ⟨_, rfl⟩
  rw [← hAe] at hD hE
  have hA : ∀ q : Nat, s.heap.size ≤ q → A q := fun q h => by rw [hAe]; exact Or.inr h
  have hS : va_S A s.heap s.heap [] := va_S.rf
  have hl := lv_entry ([.ref (q 0)]) (n := 4) (Nat.le_of_ble_eq_true rfl)
  rw [lg_entry_eq]
  generalize (lg_sl ([.ref (q 0)]) ++ List.replicate (4 - (lg_sl ([.ref (q 0)])).length) Slot.unset).toArray = ls at hl ⊢
  have hl : lv_has ls 4 [(0, .ref (q 0))] := hl
  refine wq (fun Q hQ => ?_)
  have hin : ∀ w ∈ wsX100, w ∈ (wG yX10_hash cX10_hash 4 (some .int)) := fun w h => List.mem_cons_of_mem _ (inlX10 w h)
  have kc0 : (0 : Int32).toInt = 0 := by decide
  have kc1 : (1 : Int32).toInt = 1 := by decide
  have kc2 : (2 : Int32).toInt = 2 := by decide
  have kc3 : (31 : Int32).toInt = 31 := by decide
  have kc4 : (32 : Int32).toInt = 32 := by decide
  have kc5 : (20000 : Int32).toInt = 20000 := by decide
  have k_47_12 := hts (.fieldLink RX10 493 "ArrayTrainerModel" "sort" "I") (List.mem_cons_of_mem _ (wr47 _ (List.mem_of_getElem? (i := 12) rfl)))
  have k_47_14 := hts (.fieldLink RX10 499 "ArrayTrainerModel" "value" "J") (List.mem_cons_of_mem _ (wr47 _ (List.mem_of_getElem? (i := 14) rfl)))
  have k_6_5 := hts (.fieldLink RX10 77 "ArrayTrainerModel" "arrayClass" "[I") (List.mem_cons_of_mem _ (wr6 _ (List.mem_of_getElem? (i := 5) rfl)))
  have k_6_7 := hts (.fieldLink RX10 83 "ArrayTrainerModel" "arrayLong" "[I") (List.mem_cons_of_mem _ (wr6 _ (List.mem_of_getElem? (i := 7) rfl)))
  have k_52_10 := hts (.fieldLink RX10 558 "ArrayTrainerModel" "looked" "I") (List.mem_cons_of_mem _ (wr52 _ (List.mem_of_getElem? (i := 10) rfl)))
  have k_6_4 := hts (.fieldLink RX10 74 "ArrayTrainerModel" "creature" "[I") (List.mem_cons_of_mem _ (wr6 _ (List.mem_of_getElem? (i := 4) rfl)))
  have k_47_13 := hts (.fieldLink RX10 496 "ArrayTrainerModel" "kindAt" "I") (List.mem_cons_of_mem _ (wr47 _ (List.mem_of_getElem? (i := 13) rfl)))
  obtain ⟨H, hH⟩ : ∃ H : Heap, H = s.heap := ⟨_, rfl⟩
  obtain ⟨locs, hlc⟩ : ∃ L : List Loc, L = [] := ⟨_, rfl⟩
  have hP : va_P D vwCl (mw cs q v_thrown a_tape v_taped v_size v_to v_kind v_from v_letters v_letterMany v_digits v_isBeyond v_suffix v_steps v_fault v_hasProgram a_text a_act a_guess a_take a_begin a_finish a_to1 a_one a_two a_what a_ats a_atVar a_atNumber a_atomSort a_atomKind a_atomValue v_wrong v_wrongAt v_variable v_number v_numberKind v_takes a_out v_outed a_varSort a_varKind a_varValue a_creature v_creatures a_arrayClass a_arrayFrom a_arrayLong v_arrays v_cells a_cellSort a_cellKind a_cellValue a_asideSort a_asideKind a_asideValue a_outcome v_marks v_came v_guessed v_right v_taken a_markSort a_markKind a_markClass a_markValue v_sort v_kindAt v_value a_index v_reached v_looked) H := by rw [hH]; exact hP
  have hS : va_S A s.heap H locs := by rw [hH, hlc]; exact hS
  refine wHL hH hlc ?_
  have hr9 := p_0.1
  obtain ⟨hv0, hv1, hv2, hv3⟩ := id p_1
  refine lv_aload_n hx hb dX10_hash_0 rfl (lv_at hl 0 rfl) ?_
  refine va_get (D := D) (ci := 9) (v := .int v_sort) (C := RX10) (T := TX10) (N := 71) hx hb hts hin hown hK hP 0 rfl rfl 65 (by decide) k_47_12 (fun _ h9 => h9) rfl dX10_hash_1 ?_
  refine m_if_ne (X := v_sort.toInt) (tgt := 9) hx hb dX10_hash_4 (by decide) rfl (fun c4 => ?_) (fun c4 => ?_)
  · skip
    refine lv_aload_n hx hb dX10_hash_9 rfl (lv_at hl 0 rfl) ?_
    refine va_get (D := D) (ci := 9) (v := .int v_sort) (C := RX10) (T := TX10) (N := 71) hx hb hts hin hown hK hP 0 rfl rfl 65 (by decide) k_47_12 (fun _ h9 => h9) rfl dX10_hash_10 ?_
    refine lv_iconst (v := 1) hx hb dX10_hash_13 (by decide) ?_
    refine m_icmp_ne (X := v_sort.toInt) (Y := 1) (tgt := 37) hx hb dX10_hash_14 (by decide) rfl (by decide) (fun c14 => ?_) (fun c14 => ?_)
    · skip
      refine lv_aload_n hx hb dX10_hash_37 rfl (lv_at hl 0 rfl) ?_
      refine va_get (D := D) (ci := 9) (v := .int v_sort) (C := RX10) (T := TX10) (N := 71) hx hb hts hin hown hK hP 0 rfl rfl 65 (by decide) k_47_12 (fun _ h9 => h9) rfl dX10_hash_38 ?_
      refine lv_iconst (v := 2) hx hb dX10_hash_41 (by decide) ?_
      refine m_icmp_ne (X := v_sort.toInt) (Y := 2) (tgt := 56) hx hb dX10_hash_42 (by decide) rfl (by decide) (fun c42 => ?_) (fun c42 => ?_)
      · skip
        refine lv_aload_n hx hb dX10_hash_56 rfl (lv_at hl 0 rfl) ?_
        refine va_get (D := D) (ci := 9) (v := .long v_value) (C := RX10) (T := TX10) (N := 71) hx hb hts hin hown hK hP 0 rfl rfl 67 (by decide) k_47_14 (fun _ h9 => h9) rfl dX10_hash_57 ?_
        refine m_l2i hx hb dX10_hash_60 (fun x60 e_x60 => ?_)
        have b_x60 := iB x60
        have hv9 := hv1 (by omega)
        have hx60 := l2iT e_x60 (by omega) (by omega)
        have t60 := tn (i := x60) (by omega)
        obtain ⟨ao1, ao2, ao3, ao4⟩ := p_0.2.1 x60.toNatClampNeg (by omega)
        have hdp := p_2 (by omega)
        rw [show v_value.toInt.toNat = x60.toNatClampNeg by omega] at hdp
        refine lv_istore_n (lv' := [(1, .int x60), (0, .ref (q 0))]) hx hb dX10_hash_61 rfl hl (by decide) rfl (fun ls hl => ?_)
        refine lv_aload_n hx hb dX10_hash_62 rfl (lv_at hl 1 rfl) ?_
        refine va_get (D := D) (ci := 9) (v := .ref (q 23)) (C := RX10) (T := TX10) (N := 71) hx hb hts hin hown hK hP 0 rfl rfl 44 (by decide) k_6_5 (fun _ h9 => h9) rfl dX10_hash_63 ?_
        refine lv_iload_n hx hb dX10_hash_66 rfl (lv_at hl 0 rfl) ?_
        refine m_iald hx hb hK hP 23 0 rfl rfl (ix (by omega) (by omega)) dX10_hash_67 (fun x67 e_x67 => ?_)
        have b_x67 := iB x67
        refine lv_istore_n (lv' := [(2, .int x67), (1, .int x60), (0, .ref (q 0))]) hx hb dX10_hash_68 rfl hl (by decide) rfl (fun ls hl => ?_)
        refine lv_iconst (v := 0) hx hb dX10_hash_69 (by decide) ?_
        refine lv_istore_n (lv' := [(3, .int 0), (2, .int x67), (1, .int x60), (0, .ref (q 0))]) hx hb dX10_hash_70 rfl hl (by decide) rfl (fun ls hl => ?_)
        have J71 : ∀ (n71 : Nat) (l2_71 : Int32) (l3_71 : Int32) (v_kindAt_71 : Int32) (v_looked_71 : Int32) (v_sort_71 : Int32) (v_value_71 : Int64) (H : Heap) (locs : List Loc) (ls : Array Slot), (0 ≤ l3_71.toInt) → (l3_71.toInt ≤ 500) → (500 - l3_71.toInt < (n71 : Int)) → va_P D vwCl (mw cs q v_thrown a_tape v_taped v_size v_to v_kind v_from v_letters v_letterMany v_digits v_isBeyond v_suffix v_steps v_fault v_hasProgram a_text a_act a_guess a_take a_begin a_finish a_to1 a_one a_two a_what a_ats a_atVar a_atNumber a_atomSort a_atomKind a_atomValue v_wrong v_wrongAt v_variable v_number v_numberKind v_takes a_out v_outed a_varSort a_varKind a_varValue a_creature v_creatures a_arrayClass a_arrayFrom a_arrayLong v_arrays v_cells a_cellSort a_cellKind a_cellValue a_asideSort a_asideKind a_asideValue a_outcome v_marks v_came v_guessed v_right v_taken a_markSort a_markKind a_markClass a_markValue v_sort_71 v_kindAt_71 v_value_71 a_index v_reached v_looked_71) H → va_D A (mw cs q v_thrown a_tape v_taped v_size v_to v_kind v_from v_letters v_letterMany v_digits v_isBeyond v_suffix v_steps v_fault v_hasProgram a_text a_act a_guess a_take a_begin a_finish a_to1 a_one a_two a_what a_ats a_atVar a_atNumber a_atomSort a_atomKind a_atomValue v_wrong v_wrongAt v_variable v_number v_numberKind v_takes a_out v_outed a_varSort a_varKind a_varValue a_creature v_creatures a_arrayClass a_arrayFrom a_arrayLong v_arrays v_cells a_cellSort a_cellKind a_cellValue a_asideSort a_asideKind a_asideValue a_outcome v_marks v_came v_guessed v_right v_taken a_markSort a_markKind a_markClass a_markValue v_sort_71 v_kindAt_71 v_value_71 a_index v_reached v_looked_71) → va_S A s.heap H locs → lv_has ls 4 [(0, .ref (q 0)), (1, .int x60), (2, .int l2_71), (3, .int l3_71)] → W p l e (headSpec (wG yX10_hash cX10_hash 4 (some .int)) rmX10_hash_q3).room s m ([.ref (q 0)] : List Value).toArray below meth c H locs 0 0 Q (F0 m 71 ls []) := by
          intro n71
          induction n71 with
          | zero =>
            intro l2_71 l3_71 v_kindAt_71 v_looked_71 v_sort_71 v_value_71 H locs ls f71_0 f71_1 hm71
            exfalso
            omega
          | succ n71 ih71 =>
            intro l2_71 l3_71 v_kindAt_71 v_looked_71 v_sort_71 v_value_71 H locs ls f71_0 f71_1 hm71 hP hD hS hl
            refine lv_iload_n hx hb dX10_hash_71 rfl (lv_at hl 3 rfl) ?_
            refine lv_aload_n hx hb dX10_hash_72 rfl (lv_at hl 0 rfl) ?_
            refine va_get (D := D) (ci := 9) (v := .ref (q 25)) (C := RX10) (T := TX10) (N := 71) hx hb hts hin hown hK hP 0 rfl rfl 46 (by decide) k_6_7 (fun _ h9 => h9) rfl dX10_hash_73 ?_
            refine lv_iload_n hx hb dX10_hash_76 rfl (lv_at hl 1 rfl) ?_
            refine m_iald hx hb hK hP 25 0 rfl rfl (ix (by omega) (by omega)) dX10_hash_77 (fun x77 e_x77 => ?_)
            have b_x77 := iB x77
            have hx77 := congrArg Int32.toInt e_x77
            refine m_icmp_ge (X := l3_71.toInt) (Y := x77.toInt) (tgt := 125) hx hb dX10_hash_78 (by decide) rfl rfl (fun c78 => ?_) (fun c78 => ?_)
            · skip
              refine lv_iload_n hx hb dX10_hash_125 rfl (lv_at hl 2 rfl) ?_
              subst hAe
              rw [hQ]
              exact W.iret (v := l2_71) hx hb hr (fun t ht hW => ⟨⟨l2_71, _, rfl, ⟨v_sort_71, v_kindAt_71, v_value_71, v_looked_71, rfl⟩, by rw [ht]; exact hP, va_K.moved hW.alike hK, hD⟩, hS.F ht⟩) hS.2.2 dX10_hash_126
            · skip
              refine lv_aload_n hx hb dX10_hash_81 rfl (lv_at hl 0 rfl) ?_
              refine lv_dup hx hb dX10_hash_82 rfl ?_
              refine va_get (D := D) (ci := 9) (v := .int v_looked_71) (C := RX10) (T := TX10) (N := 71) hx hb hts hin hown hK hP 0 rfl rfl 70 (by decide) k_52_10 (fun _ h9 => h9) rfl dX10_hash_83 ?_
              refine lv_iconst (v := 1) hx hb dX10_hash_86 (by decide) ?_
              refine m_iadd (X := v_looked_71.toInt) (Y := 1) hx hb dX10_hash_87 rfl (by decide) (fun x87 e_x87 g9 => ?_)
              obtain ⟨k_x87, g_x87⟩ := g9
              have b_x87 := iB x87
              try (have q_x87 : x87.toInt = v_looked_71.toInt + 1 := (by omega); clear g_x87 k_x87)
              refine va_put (D := D) (ci := 9) (v := .int x87) (ty := .int) (C := RX10) (T := TX10) (N := 71) hx hb hts hin tyX10 tyX10_ok nmX10 hown hK hP hD hS 0 rfl rfl 70 (by decide) k_52_10 (fun _ h9 => h9) rfl (by decide +kernel) rfl rfl (Nat.le_of_ble_eq_true rfl) dX10_hash_88 (fun H locs hP hD hS => ?_)
              have hP : va_P D vwCl (mw cs q v_thrown a_tape v_taped v_size v_to v_kind v_from v_letters v_letterMany v_digits v_isBeyond v_suffix v_steps v_fault v_hasProgram a_text a_act a_guess a_take a_begin a_finish a_to1 a_one a_two a_what a_ats a_atVar a_atNumber a_atomSort a_atomKind a_atomValue v_wrong v_wrongAt v_variable v_number v_numberKind v_takes a_out v_outed a_varSort a_varKind a_varValue a_creature v_creatures a_arrayClass a_arrayFrom a_arrayLong v_arrays v_cells a_cellSort a_cellKind a_cellValue a_asideSort a_asideKind a_asideValue a_outcome v_marks v_came v_guessed v_right v_taken a_markSort a_markKind a_markClass a_markValue v_sort_71 v_kindAt_71 v_value_71 a_index v_reached x87) H := hP
              have hD : va_D A (mw cs q v_thrown a_tape v_taped v_size v_to v_kind v_from v_letters v_letterMany v_digits v_isBeyond v_suffix v_steps v_fault v_hasProgram a_text a_act a_guess a_take a_begin a_finish a_to1 a_one a_two a_what a_ats a_atVar a_atNumber a_atomSort a_atomKind a_atomValue v_wrong v_wrongAt v_variable v_number v_numberKind v_takes a_out v_outed a_varSort a_varKind a_varValue a_creature v_creatures a_arrayClass a_arrayFrom a_arrayLong v_arrays v_cells a_cellSort a_cellKind a_cellValue a_asideSort a_asideKind a_asideValue a_outcome v_marks v_came v_guessed v_right v_taken a_markSort a_markKind a_markClass a_markValue v_sort_71 v_kindAt_71 v_value_71 a_index v_reached x87) := hD
              refine lv_aload_n hx hb dX10_hash_91 rfl (lv_at hl 0 rfl) ?_
              refine va_get (D := D) (ci := 9) (v := .int x87) (C := RX10) (T := TX10) (N := 71) hx hb hts hin hown hK hP 0 rfl rfl 70 (by decide) k_52_10 (fun _ h9 => h9) rfl dX10_hash_92 ?_
              refine lv_sipush (v := 20000) hx hb dX10_hash_95 (by decide) ?_
              refine m_icmp_le (X := x87.toInt) (Y := 20000) (tgt := 103) hx hb dX10_hash_98 (by decide) rfl (by decide) (fun c98 => ?_) (fun c98 => ?_)
              · skip
                refine lv_aload_n hx hb dX10_hash_103 rfl (lv_at hl 0 rfl) ?_
                refine lv_iload_n hx hb dX10_hash_104 rfl (lv_at hl 1 rfl) ?_
                refine lv_iload_n hx hb dX10_hash_105 rfl (lv_at hl 3 rfl) ?_
                refine call_v (As := [.int x60, .int l3_71]) (rest := []) ⟨hx, hb, hml, hown, hts⟩ (tX10_ofCell (l := l) x60 l3_71 (by first | assumption | omega | (intros; omega) | decide) (by first | assumption | omega | (intros; omega) | decide) (by first | assumption | omega | (intros; omega) | decide) (by first | assumption | omega | (intros; omega) | decide) (by first | assumption | omega | (intros; omega) | decide)) (cwV 2 hts (gV (wr49 _ (List.mem_of_getElem? (i := 0) rfl)) (wr49 _ (List.mem_of_getElem? (i := 1) rfl)) (wr49 _ (List.mem_of_getElem? (i := 2) rfl)) (wr1 _ (List.mem_of_getElem? (i := 5) rfl)) (wr49 _ (List.mem_of_getElem? (i := 3) rfl))) rfl rfl rfl (by decide +kernel) ⟨Nat.le_of_ble_eq_true rfl, Nat.le_of_ble_eq_true rfl⟩) (va_recv hK hP (ci := 9) (q0 := 0) rfl rfl) hK hP hD hE hS hA rfl hl.1 rfl (Nat.le_of_ble_eq_true rfl) dX10_hash_106 ⟨Nat.le_of_ble_eq_true rfl, Nat.le_of_ble_eq_true rfl⟩ (fun w9 H locs hw106 hP hD hS => ?_)
                obtain ⟨v_sort_106, v_kindAt_106, v_value_106, rfl, hw106_0, hw106_1, hw106_2⟩ := hw106
                have b_v_sort_106 := iB v_sort_106
                have b_v_kindAt_106 := iB v_kindAt_106
                have b_v_value_106 := jB v_value_106
                refine lv_bipush (v := 31) hx hb dX10_hash_109 (by decide) ?_
                refine lv_iload_n hx hb dX10_hash_111 rfl (lv_at hl 2 rfl) ?_
                refine m_imul (X := 31) (Y := l2_71.toInt) hx hb dX10_hash_112 (by decide) rfl (fun x112 e_x112 g9 => ?_)
                obtain ⟨k_x112, g_x112⟩ := g9
                have b_x112 := iB x112
                try (have q_x112 : x112.toInt = 31 * l2_71.toInt := (by omega); clear g_x112 k_x112)
                refine lv_aload_n hx hb dX10_hash_113 rfl (lv_at hl 0 rfl) ?_
                refine call_i (As := []) (rest := [.int x112]) ⟨hx, hb, hml, hown, hts⟩ (tX10_hash_q2 (l := l)  (by first | assumption | omega | (intros; omega) | decide) (by first | assumption | omega | (intros; omega) | decide) (by intro q; have z := hw106_1 q; omega)) (cwV 0 hts (gV (wr52 _ (List.mem_of_getElem? (i := 11) rfl)) (wr52 _ (List.mem_of_getElem? (i := 12) rfl)) (wr52 _ (List.mem_of_getElem? (i := 13) rfl)) (wr1 _ (List.mem_of_getElem? (i := 5) rfl)) (wr52 _ (List.mem_of_getElem? (i := 14) rfl))) rfl rfl rfl (by decide +kernel) ⟨Nat.le_of_ble_eq_true rfl, Nat.le_of_ble_eq_true rfl⟩) (va_recv hK hP (ci := 9) (q0 := 0) rfl rfl) hK hP hD hE hS hA rfl hl.1 rfl (Nat.le_of_ble_eq_true rfl) dX10_hash_114 ⟨Nat.le_of_ble_eq_true rfl, Nat.le_of_ble_eq_true rfl⟩ (fun r114 w9 H locs hw114 hP hD hS => ?_)
                obtain ⟨v_sort_114, v_kindAt_114, v_value_114, v_looked_114, rfl⟩ := hw114
                have b_v_sort_114 := iB v_sort_114
                have b_v_kindAt_114 := iB v_kindAt_114
                have b_v_value_114 := jB v_value_114
                have b_v_looked_114 := iB v_looked_114
                have b_r114 := iB r114
                refine m_iadd (X := x112.toInt) (Y := r114.toInt) hx hb dX10_hash_117 rfl rfl (fun x117 e_x117 g9 => ?_)
                obtain ⟨k_x117, g_x117⟩ := g9
                have b_x117 := iB x117
                try (have q_x117 : x117.toInt = x112.toInt + r114.toInt := (by omega); clear g_x117 k_x117)
                refine lv_istore_n (lv' := [(2, .int x117), (0, .ref (q 0)), (1, .int x60), (3, .int l3_71)]) hx hb dX10_hash_118 rfl hl (by decide) rfl (fun ls hl => ?_)
                obtain ⟨x119, e_x119⟩ : ∃ z : Int32, z = l3_71 + (1 : Int32) := ⟨_, rfl⟩
                obtain ⟨k_x119, g_x119⟩ : ∃ k : Int, x119.toInt = l3_71.toInt + (1) + k * 4294967296 := by rw [e_x119]; exact iAdd l3_71 (1)
                have b_x119 := iB x119
                try (have q_x119 : x119.toInt = l3_71.toInt + (1) := (by omega); clear g_x119 k_x119)
                refine lv_iinc (v := x119) (lv' := [(3, .int x119), (2, .int x117), (0, .ref (q 0)), (1, .int x60)]) hx hb dX10_hash_119 hl (k := 3) rfl (by rw [e_x119]; rfl) (by decide) rfl (fun ls hl => ?_)
                refine lv_goto (tgt := 71) hx hb dX10_hash_122 (by decide) ?_
                exact ih71 x117 x119 v_kindAt_114 v_looked_114 v_sort_114 v_value_114 H locs ls (by first | assumption | omega | (intros; omega) | decide) (by first | assumption | omega | (intros; omega) | decide) (by omega) hP hD hS (lv_sub hl [2, 3, 1, 0] rfl)
              · skip
                refine lv_iconst (v := 0) hx hb dX10_hash_101 (by decide) ?_
                subst hAe
                rw [hQ]
                exact W.iret (v := 0) hx hb hr (fun t ht hW => ⟨⟨0, _, rfl, ⟨v_sort_71, v_kindAt_71, v_value_71, x87, rfl⟩, by rw [ht]; exact hP, va_K.moved hW.alike hK, hD⟩, hS.F ht⟩) hS.2.2 dX10_hash_102
        exact J71 ((500 - (0 : Int32).toInt).toNat + 1) x67 (0 : Int32) v_kindAt v_looked v_sort v_value H locs ls (by first | assumption | omega | (intros; omega) | decide) (by first | assumption | omega | (intros; omega) | decide) (by omega) hP hD hS (lv_sub hl [3, 2, 1, 0] rfl)
      · skip
        refine lv_aload_n hx hb dX10_hash_45 rfl (lv_at hl 0 rfl) ?_
        refine va_get (D := D) (ci := 9) (v := .ref (q 22)) (C := RX10) (T := TX10) (N := 71) hx hb hts hin hown hK hP 0 rfl rfl 42 (by decide) k_6_4 (fun _ h9 => h9) rfl dX10_hash_46 ?_
        refine lv_aload_n hx hb dX10_hash_49 rfl (lv_at hl 0 rfl) ?_
        refine va_get (D := D) (ci := 9) (v := .long v_value) (C := RX10) (T := TX10) (N := 71) hx hb hts hin hown hK hP 0 rfl rfl 67 (by decide) k_47_14 (fun _ h9 => h9) rfl dX10_hash_50 ?_
        refine m_l2i hx hb dX10_hash_53 (fun x53 e_x53 => ?_)
        have b_x53 := iB x53
        have hv9 := hv2 (by omega)
        have hx53 := l2iT e_x53 (by omega) (by omega)
        refine m_iald hx hb hK hP 22 0 rfl rfl (ix (by omega) (by omega)) dX10_hash_54 (fun x54 e_x54 => ?_)
        have b_x54 := iB x54
        subst hAe
        rw [hQ]
        exact W.iret (v := x54) hx hb hr (fun t ht hW => ⟨⟨x54, _, rfl, ⟨v_sort, v_kindAt, v_value, v_looked, rfl⟩, by rw [ht]; exact hP, va_K.moved hW.alike hK, hD⟩, hS.F ht⟩) hS.2.2 dX10_hash_55
    · skip
      refine lv_aload_n hx hb dX10_hash_17 rfl (lv_at hl 0 rfl) ?_
      refine va_get (D := D) (ci := 9) (v := .int v_kindAt) (C := RX10) (T := TX10) (N := 71) hx hb hts hin hown hK hP 0 rfl rfl 66 (by decide) k_47_13 (fun _ h9 => h9) rfl dX10_hash_18 ?_
      refine lv_aload_n hx hb dX10_hash_21 rfl (lv_at hl 0 rfl) ?_
      refine va_get (D := D) (ci := 9) (v := .long v_value) (C := RX10) (T := TX10) (N := 71) hx hb hts hin hown hK hP 0 rfl rfl 67 (by decide) k_47_14 (fun _ h9 => h9) rfl dX10_hash_22 ?_
      refine call_jSP (As := [.int v_kindAt, .long v_value]) (rest := []) ⟨hx, hb, hml, hown, hts⟩ (tX10_whole (l := l) v_kindAt v_value (by exact hv3 (by omega))) (va_cwS 2 hts (gS (wr52 _ (List.mem_of_getElem? (i := 15) rfl)) (wr52 _ (List.mem_of_getElem? (i := 16) rfl)) (wr1 _ (List.mem_of_getElem? (i := 5) rfl)) (wr52 _ (List.mem_of_getElem? (i := 17) rfl))) rfl rfl rfl (by decide +kernel) ⟨Nat.le_of_ble_eq_true rfl, Nat.le_of_ble_eq_true rfl⟩) (hK.sub [] rfl) hP hD hE hS hA rfl hl.1 rfl (Nat.le_of_ble_eq_true rfl) dX10_hash_25 ⟨Nat.le_of_ble_eq_true rfl, Nat.le_of_ble_eq_true rfl⟩ (fun r25 w9 H locs hw25 hP hD hS => ?_)
      obtain ⟨rfl⟩ := hw25
      have b_r25 := jB r25
      refine lv_lstore_n (lv' := [(1, .long r25), (0, .ref (q 0))]) hx hb dX10_hash_28 rfl hl (by decide) rfl (fun ls hl => ?_)
      refine lv_lload_n hx hb dX10_hash_29 rfl (lv_at hl 0 rfl) ?_
      refine lv_lload_n hx hb dX10_hash_30 rfl (lv_at hl 0 rfl) ?_
      refine lv_bipush (v := 32) hx hb dX10_hash_31 (by decide) ?_
      refine m_lushr hx hb dX10_hash_33 (fun x33 e_x33 => ?_)
      have b_x33 := jB x33
      refine m_lxor hx hb dX10_hash_34 (fun x34 e_x34 => ?_)
      have b_x34 := jB x34
      refine m_l2i hx hb dX10_hash_35 (fun x35 e_x35 => ?_)
      have b_x35 := iB x35
      subst hAe
      rw [hQ]
      exact W.iret (v := x35) hx hb hr (fun t ht hW => ⟨⟨x35, _, rfl, ⟨v_sort, v_kindAt, v_value, v_looked, rfl⟩, by rw [ht]; exact hP, va_K.moved hW.alike hK, hD⟩, hS.F ht⟩) hS.2.2 dX10_hash_36
  · skip
    refine lv_iconst (v := 0) hx hb dX10_hash_7 (by decide) ?_
    subst hAe
    rw [hQ]
    exact W.iret (v := 0) hx hb hr (fun t ht hW => ⟨⟨0, _, rfl, ⟨v_sort, v_kindAt, v_value, v_looked, rfl⟩, by rw [ht]; exact hP, va_K.moved hW.alike hK, hD⟩, hS.F ht⟩) hS.2.2 dX10_hash_8

def rmX10_equal_q0 : Room := { frames := 20, cells := 0, slots := 0, locals := 400 }
set_option maxHeartbeats 4000000 in
set_option maxRecDepth 100000 in
theorem tX10_equal_q0 {l : Launch} {D : va_G} {K : Nat → Nat → Nat} {cs : Nat → ClassId} {q : Nat → Nat} {v_thrown v_taped v_size v_to v_kind v_from v_letterMany v_isBeyond v_suffix v_steps v_fault v_hasProgram v_wrong v_wrongAt v_variable v_numberKind v_takes v_outed v_creatures v_arrays v_cells v_marks v_came v_guessed v_right v_taken v_sort v_kindAt v_reached v_looked : Int32} {a_tape a_text a_act a_guess a_take a_begin a_finish a_to1 a_one a_two a_what a_ats a_atVar a_atNumber a_atomSort a_atomKind a_out a_varSort a_varKind a_creature a_arrayClass a_arrayFrom a_arrayLong a_cellSort a_cellKind a_asideSort a_asideKind a_outcome a_markSort a_markKind a_markClass a_index : Nat → Int32} {v_letters v_digits v_number v_value : Int64} {a_atomValue a_varValue a_cellValue a_asideValue a_markValue : Nat → Int64} (s1 : Int32) (k1 : Int32) (u1 : Int64) (s2 : Int32) (k2 : Int32) (u2 : Int64) (p_0 : RUN a_varSort a_varKind a_varValue v_arrays v_cells v_creatures a_arrayClass a_arrayFrom a_arrayLong a_cellSort a_cellKind a_cellValue) (p_1 : VOK v_arrays.toInt v_creatures.toInt s1 k1 u1) (p_2 : VOK v_arrays.toInt v_creatures.toInt s2 k2 u2) (p_3 : s1.toInt = 3 → (a_arrayClass u1.toInt.toNat).toInt / 20 ≤ 0) : CtI l yX10_equal (wG yX10_equal cX10_equal 14 (some .boolean)) rmX10_equal_q0 D (mwT cs) K [.ref (q 0), .int s1, .int k1, .long u1, .int s2, .int k2, .long u2] (mw cs q v_thrown a_tape v_taped v_size v_to v_kind v_from v_letters v_letterMany v_digits v_isBeyond v_suffix v_steps v_fault v_hasProgram a_text a_act a_guess a_take a_begin a_finish a_to1 a_one a_two a_what a_ats a_atVar a_atNumber a_atomSort a_atomKind a_atomValue v_wrong v_wrongAt v_variable v_number v_numberKind v_takes a_out v_outed a_varSort a_varKind a_varValue a_creature v_creatures a_arrayClass a_arrayFrom a_arrayLong v_arrays v_cells a_cellSort a_cellKind a_cellValue a_asideSort a_asideKind a_asideValue a_outcome v_marks v_came v_guessed v_right v_taken a_markSort a_markKind a_markClass a_markValue v_sort v_kindAt v_value a_index v_reached v_looked) (fun r w1 => w1 = (mw cs q v_thrown a_tape v_taped v_size v_to v_kind v_from v_letters v_letterMany v_digits v_isBeyond v_suffix v_steps v_fault v_hasProgram a_text a_act a_guess a_take a_begin a_finish a_to1 a_one a_two a_what a_ats a_atVar a_atNumber a_atomSort a_atomKind a_atomValue v_wrong v_wrongAt v_variable v_number v_numberKind v_takes a_out v_outed a_varSort a_varKind a_varValue a_creature v_creatures a_arrayClass a_arrayFrom a_arrayLong v_arrays v_cells a_cellSort a_cellKind a_cellValue a_asideSort a_asideKind a_asideValue a_outcome v_marks v_came v_guessed v_right v_taken a_markSort a_markKind a_markClass a_markValue v_sort v_kindAt v_value a_index v_reached v_looked) ∧ (r.toInt = 0 ∨ r.toInt = 1)) 0 0 := by
  intro sz
  refine Met.ofW (cc := cX10_equal) (maxL := 14) (ret := (some .boolean)) (by decide) rfl ?_
  intro p e s m args below meth c s₁ B hml hv
  obtain ⟨rfl, hsz, hP, hK, hD0, hE⟩ := hv
  have hx := B.exec
  have hb := B.bytes
  have hr := B.returns
  have hts := atoms_spec (ws := (wG yX10_equal cX10_equal 14 (some .boolean))) B.pre
  have hown : s.vm.findClass RX10 = some m.cls := findClass_of_methodNamed B.named
  have hlocks := B.notSynchronized
  subst hsz
  have hD := hD0.self (sz := s.heap.size)
  obtain ⟨A, hAe⟩ : ∃ A : Nat → Prop, A = va_A (mw cs q v_thrown a_tape v_taped v_size v_to v_kind v_from v_letters v_letterMany v_digits v_isBeyond v_suffix v_steps v_fault v_hasProgram a_text a_act a_guess a_take a_begin a_finish a_to1 a_one a_two a_what a_ats a_atVar a_atNumber a_atomSort a_atomKind a_atomValue v_wrong v_wrongAt v_variable v_number v_numberKind v_takes a_out v_outed a_varSort a_varKind a_varValue a_creature v_creatures a_arrayClass a_arrayFrom a_arrayLong v_arrays v_cells a_cellSort a_cellKind a_cellValue a_asideSort a_asideKind a_asideValue a_outcome v_marks v_came v_guessed v_right v_taken a_markSort a_markKind a_markClass a_markValue v_sort v_kindAt v_value a_index v_reached v_looked) s.heap.size := ⟨_, rfl⟩
  rw [← hAe] at hD hE
  have hA : ∀ q : Nat, s.heap.size ≤ q → A q := fun q h => by rw [hAe]; exact Or.inr h
  have hS : va_S A s.heap s.heap [] := va_S.rf
  have hl := lv_entry ([.ref (q 0), .int s1, .int k1, .long u1, .int s2, .int k2, .long u2]) (n := 14) (Nat.le_of_ble_eq_true rfl)
  rw [lg_entry_eq]
  generalize (lg_sl ([.ref (q 0), .int s1, .int k1, .long u1, .int s2, .int k2, .long u2]) ++ List.replicate (14 - (lg_sl ([.ref (q 0), .int s1, .int k1, .long u1, .int s2, .int k2, .long u2])).length) Slot.unset).toArray = ls at hl ⊢
  have hl : lv_has ls 14 [(0, .ref (q 0)), (1, .int s1), (2, .int k1), (3, .long u1), (5, .int s2), (6, .int k2), (7, .long u2)] := hl
  refine wq (fun Q hQ => ?_)
  have hin : ∀ w ∈ wsX100, w ∈ (wG yX10_equal cX10_equal 14 (some .boolean)) := fun w h => List.mem_cons_of_mem _ (inlX10 w h)
  have kc0 : (0 : Int32).toInt = 0 := by decide
  have kc1 : (1 : Int32).toInt = 1 := by decide
  have kc2 : (2 : Int32).toInt = 2 := by decide
  obtain ⟨H, hH⟩ : ∃ H : Heap, H = s.heap := ⟨_, rfl⟩
  obtain ⟨locs, hlc⟩ : ∃ L : List Loc, L = [] := ⟨_, rfl⟩
  have hP : va_P D vwCl (mw cs q v_thrown a_tape v_taped v_size v_to v_kind v_from v_letters v_letterMany v_digits v_isBeyond v_suffix v_steps v_fault v_hasProgram a_text a_act a_guess a_take a_begin a_finish a_to1 a_one a_two a_what a_ats a_atVar a_atNumber a_atomSort a_atomKind a_atomValue v_wrong v_wrongAt v_variable v_number v_numberKind v_takes a_out v_outed a_varSort a_varKind a_varValue a_creature v_creatures a_arrayClass a_arrayFrom a_arrayLong v_arrays v_cells a_cellSort a_cellKind a_cellValue a_asideSort a_asideKind a_asideValue a_outcome v_marks v_came v_guessed v_right v_taken a_markSort a_markKind a_markClass a_markValue v_sort v_kindAt v_value a_index v_reached v_looked) H := by rw [hH]; exact hP
  have hS : va_S A s.heap H locs := by rw [hH, hlc]; exact hS
  refine wHL hH hlc ?_
  have b_s1 := iB s1
  have b_k1 := iB k1
  have b_u1 := jB u1
  have b_s2 := iB s2
  have b_k2 := iB k2
  have b_u2 := jB u2
  have hr9 := p_0.1
  obtain ⟨hv0, hv1, hv2, hv3⟩ := id p_1
  refine lv_iload_n hx hb dX10_equal_0 rfl (lv_at hl 1 rfl) ?_
  refine lv_iload hx hb dX10_equal_1 (lv_at hl 4 rfl) ?_
  refine m_icmp_eq (X := s1.toInt) (Y := s2.toInt) (tgt := 8) hx hb dX10_equal_3 (by decide) rfl rfl (fun c3 => ?_) (fun c3 => ?_)
  · skip
    refine lv_iload_n hx hb dX10_equal_8 rfl (lv_at hl 1 rfl) ?_
    refine m_if_ne (X := s1.toInt) (tgt := 14) hx hb dX10_equal_9 (by decide) rfl (fun c9 => ?_) (fun c9 => ?_)
    · skip
      refine lv_iload_n hx hb dX10_equal_14 rfl (lv_at hl 1 rfl) ?_
      refine lv_iconst (v := 1) hx hb dX10_equal_15 (by decide) ?_
      refine m_icmp_ne (X := s1.toInt) (Y := 1) (tgt := 38) hx hb dX10_equal_16 (by decide) rfl (by decide) (fun c16 => ?_) (fun c16 => ?_)
      · skip
        refine lv_iload_n hx hb dX10_equal_38 rfl (lv_at hl 1 rfl) ?_
        refine lv_iconst (v := 2) hx hb dX10_equal_39 (by decide) ?_
        refine m_icmp_ne (X := s1.toInt) (Y := 2) (tgt := 56) hx hb dX10_equal_40 (by decide) rfl (by decide) (fun c40 => ?_) (fun c40 => ?_)
        · skip
          exfalso
          (have h3 := hv1 (by omega); have h4 := (p_0.2.1 u1.toInt.toNat (by omega)).1; have h5 := p_3 (by omega); omega)
        · skip
          refine lv_lload_n hx hb dX10_equal_43 rfl (lv_at hl 3 rfl) ?_
          refine lv_lload hx hb dX10_equal_44 (lv_at hl 6 rfl) ?_
          refine m_lcmp (X := u1.toInt) (Y := u2.toInt) hx hb dX10_equal_46 rfl rfl (fun x46 g_x46 => ?_)
          refine m_if_ne (X := x46.toInt) (tgt := 54) hx hb dX10_equal_47 (by decide) rfl (fun c47 => ?_) (fun c47 => ?_)
          · skip
            refine lv_iconst (v := 0) hx hb dX10_equal_54 (by decide) ?_
            subst hAe
            rw [hQ]
            exact W.zret (v := 0) hx hb hr (by decide) (fun t ht hW => ⟨⟨0, _, rfl, ⟨rfl, by first | assumption | omega | (intros; omega) | decide⟩, by rw [ht]; exact hP, va_K.moved hW.alike hK, hD⟩, hS.F ht⟩) hS.2.2 dX10_equal_55
          · skip
            refine lv_iconst (v := 1) hx hb dX10_equal_50 (by decide) ?_
            refine lv_goto (tgt := 55) hx hb dX10_equal_51 (by decide) ?_
            subst hAe
            rw [hQ]
            exact W.zret (v := 1) hx hb hr (by decide) (fun t ht hW => ⟨⟨1, _, rfl, ⟨rfl, by first | assumption | omega | (intros; omega) | decide⟩, by rw [ht]; exact hP, va_K.moved hW.alike hK, hD⟩, hS.F ht⟩) hS.2.2 dX10_equal_55
      · skip
        refine lv_iload_n hx hb dX10_equal_19 rfl (lv_at hl 2 rfl) ?_
        refine lv_iload hx hb dX10_equal_20 (lv_at hl 5 rfl) ?_
        refine m_icmp_ne (X := k1.toInt) (Y := k2.toInt) (tgt := 36) hx hb dX10_equal_22 (by decide) rfl rfl (fun c22 => ?_) (fun c22 => ?_)
        · skip
          refine lv_iconst (v := 0) hx hb dX10_equal_36 (by decide) ?_
          subst hAe
          rw [hQ]
          exact W.zret (v := 0) hx hb hr (by decide) (fun t ht hW => ⟨⟨0, _, rfl, ⟨rfl, by first | assumption | omega | (intros; omega) | decide⟩, by rw [ht]; exact hP, va_K.moved hW.alike hK, hD⟩, hS.F ht⟩) hS.2.2 dX10_equal_37
        · skip
          refine lv_lload_n hx hb dX10_equal_25 rfl (lv_at hl 3 rfl) ?_
          refine lv_lload hx hb dX10_equal_26 (lv_at hl 6 rfl) ?_
          refine m_lcmp (X := u1.toInt) (Y := u2.toInt) hx hb dX10_equal_28 rfl rfl (fun x28 g_x28 => ?_)
          refine m_if_ne (X := x28.toInt) (tgt := 36) hx hb dX10_equal_29 (by decide) rfl (fun c29 => ?_) (fun c29 => ?_)
          · skip
            refine lv_iconst (v := 0) hx hb dX10_equal_36 (by decide) ?_
            subst hAe
            rw [hQ]
            exact W.zret (v := 0) hx hb hr (by decide) (fun t ht hW => ⟨⟨0, _, rfl, ⟨rfl, by first | assumption | omega | (intros; omega) | decide⟩, by rw [ht]; exact hP, va_K.moved hW.alike hK, hD⟩, hS.F ht⟩) hS.2.2 dX10_equal_37
          · skip
            refine lv_iconst (v := 1) hx hb dX10_equal_32 (by decide) ?_
            refine lv_goto (tgt := 37) hx hb dX10_equal_33 (by decide) ?_
            subst hAe
            rw [hQ]
            exact W.zret (v := 1) hx hb hr (by decide) (fun t ht hW => ⟨⟨1, _, rfl, ⟨rfl, by first | assumption | omega | (intros; omega) | decide⟩, by rw [ht]; exact hP, va_K.moved hW.alike hK, hD⟩, hS.F ht⟩) hS.2.2 dX10_equal_37
    · skip
      refine lv_iconst (v := 1) hx hb dX10_equal_12 (by decide) ?_
      subst hAe
      rw [hQ]
      exact W.zret (v := 1) hx hb hr (by decide) (fun t ht hW => ⟨⟨1, _, rfl, ⟨rfl, by first | assumption | omega | (intros; omega) | decide⟩, by rw [ht]; exact hP, va_K.moved hW.alike hK, hD⟩, hS.F ht⟩) hS.2.2 dX10_equal_13
  · skip
    refine lv_iconst (v := 0) hx hb dX10_equal_6 (by decide) ?_
    subst hAe
    rw [hQ]
    exact W.zret (v := 0) hx hb hr (by decide) (fun t ht hW => ⟨⟨0, _, rfl, ⟨rfl, by first | assumption | omega | (intros; omega) | decide⟩, by rw [ht]; exact hP, va_K.moved hW.alike hK, hD⟩, hS.F ht⟩) hS.2.2 dX10_equal_7

def rmX10_equal_q1 : Room := { frames := 40, cells := 0, slots := 0, locals := 800 }
set_option maxHeartbeats 4000000 in
set_option maxRecDepth 100000 in
theorem tX10_equal_q1 {l : Launch} {D : va_G} {K : Nat → Nat → Nat} {cs : Nat → ClassId} {q : Nat → Nat} {v_thrown v_taped v_size v_to v_kind v_from v_letterMany v_isBeyond v_suffix v_steps v_fault v_hasProgram v_wrong v_wrongAt v_variable v_numberKind v_takes v_outed v_creatures v_arrays v_cells v_marks v_came v_guessed v_right v_taken v_sort v_kindAt v_reached v_looked : Int32} {a_tape a_text a_act a_guess a_take a_begin a_finish a_to1 a_one a_two a_what a_ats a_atVar a_atNumber a_atomSort a_atomKind a_out a_varSort a_varKind a_creature a_arrayClass a_arrayFrom a_arrayLong a_cellSort a_cellKind a_asideSort a_asideKind a_outcome a_markSort a_markKind a_markClass a_index : Nat → Int32} {v_letters v_digits v_number v_value : Int64} {a_atomValue a_varValue a_cellValue a_asideValue a_markValue : Nat → Int64} (s1 : Int32) (k1 : Int32) (u1 : Int64) (s2 : Int32) (k2 : Int32) (u2 : Int64) (p_0 : RUN a_varSort a_varKind a_varValue v_arrays v_cells v_creatures a_arrayClass a_arrayFrom a_arrayLong a_cellSort a_cellKind a_cellValue) (p_1 : VOK v_arrays.toInt v_creatures.toInt s1 k1 u1) (p_2 : VOK v_arrays.toInt v_creatures.toInt s2 k2 u2) (p_3 : s1.toInt = 3 → (a_arrayClass u1.toInt.toNat).toInt / 20 ≤ 1) : CtI l yX10_equal (wG yX10_equal cX10_equal 14 (some .boolean)) rmX10_equal_q1 D (mwT cs) K [.ref (q 0), .int s1, .int k1, .long u1, .int s2, .int k2, .long u2] (mw cs q v_thrown a_tape v_taped v_size v_to v_kind v_from v_letters v_letterMany v_digits v_isBeyond v_suffix v_steps v_fault v_hasProgram a_text a_act a_guess a_take a_begin a_finish a_to1 a_one a_two a_what a_ats a_atVar a_atNumber a_atomSort a_atomKind a_atomValue v_wrong v_wrongAt v_variable v_number v_numberKind v_takes a_out v_outed a_varSort a_varKind a_varValue a_creature v_creatures a_arrayClass a_arrayFrom a_arrayLong v_arrays v_cells a_cellSort a_cellKind a_cellValue a_asideSort a_asideKind a_asideValue a_outcome v_marks v_came v_guessed v_right v_taken a_markSort a_markKind a_markClass a_markValue v_sort v_kindAt v_value a_index v_reached v_looked) (fun r w1 => ∃ (v_looked' : Int32), w1 = (mw cs q v_thrown a_tape v_taped v_size v_to v_kind v_from v_letters v_letterMany v_digits v_isBeyond v_suffix v_steps v_fault v_hasProgram a_text a_act a_guess a_take a_begin a_finish a_to1 a_one a_two a_what a_ats a_atVar a_atNumber a_atomSort a_atomKind a_atomValue v_wrong v_wrongAt v_variable v_number v_numberKind v_takes a_out v_outed a_varSort a_varKind a_varValue a_creature v_creatures a_arrayClass a_arrayFrom a_arrayLong v_arrays v_cells a_cellSort a_cellKind a_cellValue a_asideSort a_asideKind a_asideValue a_outcome v_marks v_came v_guessed v_right v_taken a_markSort a_markKind a_markClass a_markValue v_sort v_kindAt v_value a_index v_reached v_looked') ∧ (r.toInt = 0 ∨ r.toInt = 1)) 0 0 := by
  intro sz
  refine Met.ofW (cc := cX10_equal) (maxL := 14) (ret := (some .boolean)) (by decide) rfl ?_
  intro p e s m args below meth c s₁ B hml hv
  obtain ⟨rfl, hsz, hP, hK, hD0, hE⟩ := hv
  have hx := B.exec
  have hb := B.bytes
  have hr := B.returns
  have hts := atoms_spec (ws := (wG yX10_equal cX10_equal 14 (some .boolean))) B.pre
  have hown : s.vm.findClass RX10 = some m.cls := findClass_of_methodNamed B.named
  have hlocks := B.notSynchronized
  subst hsz
  have hD := hD0.self (sz := s.heap.size)
  obtain ⟨A, hAe⟩ : ∃ A : Nat → Prop, A = va_A (mw cs q v_thrown a_tape v_taped v_size v_to v_kind v_from v_letters v_letterMany v_digits v_isBeyond v_suffix v_steps v_fault v_hasProgram a_text a_act a_guess a_take a_begin a_finish a_to1 a_one a_two a_what a_ats a_atVar a_atNumber a_atomSort a_atomKind a_atomValue v_wrong v_wrongAt v_variable v_number v_numberKind v_takes a_out v_outed a_varSort a_varKind a_varValue a_creature v_creatures a_arrayClass a_arrayFrom a_arrayLong v_arrays v_cells a_cellSort a_cellKind a_cellValue a_asideSort a_asideKind a_asideValue a_outcome v_marks v_came v_guessed v_right v_taken a_markSort a_markKind a_markClass a_markValue v_sort v_kindAt v_value a_index v_reached v_looked) s.heap.size := ⟨_, rfl⟩
  rw [← hAe] at hD hE
  have hA : ∀ q : Nat, s.heap.size ≤ q → A q := fun q h => by rw [hAe]; exact Or.inr h
  have hS : va_S A s.heap s.heap [] := va_S.rf
  have hl := lv_entry ([.ref (q 0), .int s1, .int k1, .long u1, .int s2, .int k2, .long u2]) (n := 14) (Nat.le_of_ble_eq_true rfl)
  rw [lg_entry_eq]
  generalize (lg_sl ([.ref (q 0), .int s1, .int k1, .long u1, .int s2, .int k2, .long u2]) ++ List.replicate (14 - (lg_sl ([.ref (q 0), .int s1, .int k1, .long u1, .int s2, .int k2, .long u2])).length) Slot.unset).toArray = ls at hl ⊢
  have hl : lv_has ls 14 [(0, .ref (q 0)), (1, .int s1), (2, .int k1), (3, .long u1), (5, .int s2), (6, .int k2), (7, .long u2)] := hl
  refine wq (fun Q hQ => ?_)
  have hin : ∀ w ∈ wsX100, w ∈ (wG yX10_equal cX10_equal 14 (some .boolean)) := fun w h => List.mem_cons_of_mem _ (inlX10 w h)
  have kc0 : (0 : Int32).toInt = 0 := by decide
  have kc1 : (1 : Int32).toInt = 1 := by decide
  have kc2 : (2 : Int32).toInt = 2 := by decide
  have kc3 : (20000 : Int32).toInt = 20000 := by decide
  have k_6_5 := hts (.fieldLink RX10 77 "ArrayTrainerModel" "arrayClass" "[I") (List.mem_cons_of_mem _ (wr6 _ (List.mem_of_getElem? (i := 5) rfl)))
  have k_6_7 := hts (.fieldLink RX10 83 "ArrayTrainerModel" "arrayLong" "[I") (List.mem_cons_of_mem _ (wr6 _ (List.mem_of_getElem? (i := 7) rfl)))
  have k_52_10 := hts (.fieldLink RX10 558 "ArrayTrainerModel" "looked" "I") (List.mem_cons_of_mem _ (wr52 _ (List.mem_of_getElem? (i := 10) rfl)))
  have k_6_6 := hts (.fieldLink RX10 80 "ArrayTrainerModel" "arrayFrom" "[I") (List.mem_cons_of_mem _ (wr6 _ (List.mem_of_getElem? (i := 6) rfl)))
  have k_6_8 := hts (.fieldLink RX10 86 "ArrayTrainerModel" "cellSort" "[I") (List.mem_cons_of_mem _ (wr6 _ (List.mem_of_getElem? (i := 8) rfl)))
  have k_6_9 := hts (.fieldLink RX10 89 "ArrayTrainerModel" "cellKind" "[I") (List.mem_cons_of_mem _ (wr6 _ (List.mem_of_getElem? (i := 9) rfl)))
  have k_6_10 := hts (.fieldLink RX10 92 "ArrayTrainerModel" "cellValue" "[J") (List.mem_cons_of_mem _ (wr6 _ (List.mem_of_getElem? (i := 10) rfl)))
  obtain ⟨H, hH⟩ : ∃ H : Heap, H = s.heap := ⟨_, rfl⟩
  obtain ⟨locs, hlc⟩ : ∃ L : List Loc, L = [] := ⟨_, rfl⟩
  have hP : va_P D vwCl (mw cs q v_thrown a_tape v_taped v_size v_to v_kind v_from v_letters v_letterMany v_digits v_isBeyond v_suffix v_steps v_fault v_hasProgram a_text a_act a_guess a_take a_begin a_finish a_to1 a_one a_two a_what a_ats a_atVar a_atNumber a_atomSort a_atomKind a_atomValue v_wrong v_wrongAt v_variable v_number v_numberKind v_takes a_out v_outed a_varSort a_varKind a_varValue a_creature v_creatures a_arrayClass a_arrayFrom a_arrayLong v_arrays v_cells a_cellSort a_cellKind a_cellValue a_asideSort a_asideKind a_asideValue a_outcome v_marks v_came v_guessed v_right v_taken a_markSort a_markKind a_markClass a_markValue v_sort v_kindAt v_value a_index v_reached v_looked) H := by rw [hH]; exact hP
  have hS : va_S A s.heap H locs := by rw [hH, hlc]; exact hS
  refine wHL hH hlc ?_
  have b_s1 := iB s1
  have b_k1 := iB k1
  have b_u1 := jB u1
  have b_s2 := iB s2
  have b_k2 := iB k2
  have b_u2 := jB u2
  have hr9 := p_0.1
  obtain ⟨hv0, hv1, hv2, hv3⟩ := id p_1
  refine lv_iload_n hx hb dX10_equal_0 rfl (lv_at hl 1 rfl) ?_
  refine lv_iload hx hb dX10_equal_1 (lv_at hl 4 rfl) ?_
  refine m_icmp_eq (X := s1.toInt) (Y := s2.toInt) (tgt := 8) hx hb dX10_equal_3 (by decide) rfl rfl (fun c3 => ?_) (fun c3 => ?_)
  · skip
    refine lv_iload_n hx hb dX10_equal_8 rfl (lv_at hl 1 rfl) ?_
    refine m_if_ne (X := s1.toInt) (tgt := 14) hx hb dX10_equal_9 (by decide) rfl (fun c9 => ?_) (fun c9 => ?_)
    · skip
      refine lv_iload_n hx hb dX10_equal_14 rfl (lv_at hl 1 rfl) ?_
      refine lv_iconst (v := 1) hx hb dX10_equal_15 (by decide) ?_
      refine m_icmp_ne (X := s1.toInt) (Y := 1) (tgt := 38) hx hb dX10_equal_16 (by decide) rfl (by decide) (fun c16 => ?_) (fun c16 => ?_)
      · skip
        refine lv_iload_n hx hb dX10_equal_38 rfl (lv_at hl 1 rfl) ?_
        refine lv_iconst (v := 2) hx hb dX10_equal_39 (by decide) ?_
        refine m_icmp_ne (X := s1.toInt) (Y := 2) (tgt := 56) hx hb dX10_equal_40 (by decide) rfl (by decide) (fun c40 => ?_) (fun c40 => ?_)
        · skip
          refine lv_lload_n hx hb dX10_equal_56 rfl (lv_at hl 3 rfl) ?_
          have hv9 := hv1 (by omega)
          have hv8 := p_2.2.1 (by omega)
          refine m_l2i hx hb dX10_equal_57 (fun x57 e_x57 => ?_)
          have b_x57 := iB x57
          have hx57 := l2iT e_x57 (by omega) (by omega)
          refine lv_istore (lv' := [(9, .int x57), (0, .ref (q 0)), (1, .int s1), (2, .int k1), (3, .long u1), (5, .int s2), (6, .int k2), (7, .long u2)]) hx hb dX10_equal_58 hl (by decide) rfl (fun ls hl => ?_)
          refine lv_lload hx hb dX10_equal_60 (lv_at hl 7 rfl) ?_
          refine m_l2i hx hb dX10_equal_62 (fun x62 e_x62 => ?_)
          have b_x62 := iB x62
          have hx62 := l2iT e_x62 (by omega) (by omega)
          refine lv_istore (lv' := [(10, .int x62), (9, .int x57), (0, .ref (q 0)), (1, .int s1), (2, .int k1), (3, .long u1), (5, .int s2), (6, .int k2), (7, .long u2)]) hx hb dX10_equal_63 hl (by decide) rfl (fun ls hl => ?_)
          have t57 := tn (i := x57) (by omega)
          have t62 := tn (i := x62) (by omega)
          obtain ⟨ao1, ao2, ao3, ao4⟩ := p_0.2.1 x57.toNatClampNeg (by omega)
          obtain ⟨bo1, bo2, bo3, bo4⟩ := p_0.2.1 x62.toNatClampNeg (by omega)
          have hdp := p_3 (by omega)
          rw [show u1.toInt.toNat = x57.toNatClampNeg by omega] at hdp
          refine lv_aload_n hx hb dX10_equal_65 rfl (lv_at hl 2 rfl) ?_
          refine va_get (D := D) (ci := 9) (v := .ref (q 23)) (C := RX10) (T := TX10) (N := 71) hx hb hts hin hown hK hP 0 rfl rfl 44 (by decide) k_6_5 (fun _ h9 => h9) rfl dX10_equal_66 ?_
          refine lv_iload hx hb dX10_equal_69 (lv_at hl 1 rfl) ?_
          refine m_iald hx hb hK hP 23 0 rfl rfl (ix (by omega) (by omega)) dX10_equal_71 (fun x71 e_x71 => ?_)
          have b_x71 := iB x71
          refine lv_aload_n hx hb dX10_equal_72 rfl (lv_at hl 2 rfl) ?_
          refine va_get (D := D) (ci := 9) (v := .ref (q 23)) (C := RX10) (T := TX10) (N := 71) hx hb hts hin hown hK hP 0 rfl rfl 44 (by decide) k_6_5 (fun _ h9 => h9) rfl dX10_equal_73 ?_
          refine lv_iload hx hb dX10_equal_76 (lv_at hl 0 rfl) ?_
          refine m_iald hx hb hK hP 23 0 rfl rfl (ix (by omega) (by omega)) dX10_equal_78 (fun x78 e_x78 => ?_)
          have b_x78 := iB x78
          have hx71 := congrArg Int32.toInt e_x71
          have hx78 := congrArg Int32.toInt e_x78
          refine m_icmp_ne (X := x71.toInt) (Y := x78.toInt) (tgt := 99) hx hb dX10_equal_79 (by decide) rfl rfl (fun c79 => ?_) (fun c79 => ?_)
          · skip
            refine lv_iconst (v := 0) hx hb dX10_equal_99 (by decide) ?_
            subst hAe
            rw [hQ]
            exact W.zret (v := 0) hx hb hr (by decide) (fun t ht hW => ⟨⟨0, _, rfl, ⟨v_looked, rfl, by first | assumption | omega | (intros; omega) | decide⟩, by rw [ht]; exact hP, va_K.moved hW.alike hK, hD⟩, hS.F ht⟩) hS.2.2 dX10_equal_100
          · skip
            refine lv_aload_n hx hb dX10_equal_82 rfl (lv_at hl 2 rfl) ?_
            refine va_get (D := D) (ci := 9) (v := .ref (q 25)) (C := RX10) (T := TX10) (N := 71) hx hb hts hin hown hK hP 0 rfl rfl 46 (by decide) k_6_7 (fun _ h9 => h9) rfl dX10_equal_83 ?_
            refine lv_iload hx hb dX10_equal_86 (lv_at hl 1 rfl) ?_
            refine m_iald hx hb hK hP 25 0 rfl rfl (ix (by omega) (by omega)) dX10_equal_88 (fun x88 e_x88 => ?_)
            have b_x88 := iB x88
            refine lv_aload_n hx hb dX10_equal_89 rfl (lv_at hl 2 rfl) ?_
            refine va_get (D := D) (ci := 9) (v := .ref (q 25)) (C := RX10) (T := TX10) (N := 71) hx hb hts hin hown hK hP 0 rfl rfl 46 (by decide) k_6_7 (fun _ h9 => h9) rfl dX10_equal_90 ?_
            refine lv_iload hx hb dX10_equal_93 (lv_at hl 0 rfl) ?_
            refine m_iald hx hb hK hP 25 0 rfl rfl (ix (by omega) (by omega)) dX10_equal_95 (fun x95 e_x95 => ?_)
            have b_x95 := iB x95
            have hx88 := congrArg Int32.toInt e_x88
            have hx95 := congrArg Int32.toInt e_x95
            refine m_icmp_eq (X := x88.toInt) (Y := x95.toInt) (tgt := 101) hx hb dX10_equal_96 (by decide) rfl rfl (fun c96 => ?_) (fun c96 => ?_)
            · skip
              refine lv_iconst (v := 0) hx hb dX10_equal_101 (by decide) ?_
              refine lv_istore (lv' := [(11, .int 0), (10, .int x62), (9, .int x57), (0, .ref (q 0)), (1, .int s1), (2, .int k1), (3, .long u1), (5, .int s2), (6, .int k2), (7, .long u2)]) hx hb dX10_equal_102 hl (by decide) rfl (fun ls hl => ?_)
              have J104 : ∀ (n104 : Nat) (l11_104 : Int32) (v_looked_104 : Int32) (H : Heap) (locs : List Loc) (ls : Array Slot), (0 ≤ l11_104.toInt) → (l11_104.toInt ≤ 500) → (500 - l11_104.toInt < (n104 : Int)) → va_P D vwCl (mw cs q v_thrown a_tape v_taped v_size v_to v_kind v_from v_letters v_letterMany v_digits v_isBeyond v_suffix v_steps v_fault v_hasProgram a_text a_act a_guess a_take a_begin a_finish a_to1 a_one a_two a_what a_ats a_atVar a_atNumber a_atomSort a_atomKind a_atomValue v_wrong v_wrongAt v_variable v_number v_numberKind v_takes a_out v_outed a_varSort a_varKind a_varValue a_creature v_creatures a_arrayClass a_arrayFrom a_arrayLong v_arrays v_cells a_cellSort a_cellKind a_cellValue a_asideSort a_asideKind a_asideValue a_outcome v_marks v_came v_guessed v_right v_taken a_markSort a_markKind a_markClass a_markValue v_sort v_kindAt v_value a_index v_reached v_looked_104) H → va_D A (mw cs q v_thrown a_tape v_taped v_size v_to v_kind v_from v_letters v_letterMany v_digits v_isBeyond v_suffix v_steps v_fault v_hasProgram a_text a_act a_guess a_take a_begin a_finish a_to1 a_one a_two a_what a_ats a_atVar a_atNumber a_atomSort a_atomKind a_atomValue v_wrong v_wrongAt v_variable v_number v_numberKind v_takes a_out v_outed a_varSort a_varKind a_varValue a_creature v_creatures a_arrayClass a_arrayFrom a_arrayLong v_arrays v_cells a_cellSort a_cellKind a_cellValue a_asideSort a_asideKind a_asideValue a_outcome v_marks v_came v_guessed v_right v_taken a_markSort a_markKind a_markClass a_markValue v_sort v_kindAt v_value a_index v_reached v_looked_104) → va_S A s.heap H locs → lv_has ls 14 [(0, .ref (q 0)), (9, .int x57), (10, .int x62), (11, .int l11_104)] → W p l e (headSpec (wG yX10_equal cX10_equal 14 (some .boolean)) rmX10_equal_q1).room s m ([.ref (q 0), .int s1, .int k1, .long u1, .int s2, .int k2, .long u2] : List Value).toArray below meth c H locs 0 0 Q (F0 m 104 ls []) := by
                intro n104
                induction n104 with
                | zero =>
                  intro l11_104 v_looked_104 H locs ls f104_0 f104_1 hm104
                  exfalso
                  omega
                | succ n104 ih104 =>
                  intro l11_104 v_looked_104 H locs ls f104_0 f104_1 hm104 hP hD hS hl
                  refine lv_iload hx hb dX10_equal_104 (lv_at hl 3 rfl) ?_
                  refine lv_aload_n hx hb dX10_equal_106 rfl (lv_at hl 0 rfl) ?_
                  refine va_get (D := D) (ci := 9) (v := .ref (q 25)) (C := RX10) (T := TX10) (N := 71) hx hb hts hin hown hK hP 0 rfl rfl 46 (by decide) k_6_7 (fun _ h9 => h9) rfl dX10_equal_107 ?_
                  refine lv_iload hx hb dX10_equal_110 (lv_at hl 1 rfl) ?_
                  refine m_iald hx hb hK hP 25 0 rfl rfl (ix (by omega) (by omega)) dX10_equal_112 (fun x112 e_x112 => ?_)
                  have b_x112 := iB x112
                  have hx112 := congrArg Int32.toInt e_x112
                  refine m_icmp_ge (X := l11_104.toInt) (Y := x112.toInt) (tgt := 219) hx hb dX10_equal_113 (by decide) rfl rfl (fun c113 => ?_) (fun c113 => ?_)
                  · skip
                    refine lv_iconst (v := 1) hx hb dX10_equal_219 (by decide) ?_
                    subst hAe
                    rw [hQ]
                    exact W.zret (v := 1) hx hb hr (by decide) (fun t ht hW => ⟨⟨1, _, rfl, ⟨v_looked_104, rfl, by first | assumption | omega | (intros; omega) | decide⟩, by rw [ht]; exact hP, va_K.moved hW.alike hK, hD⟩, hS.F ht⟩) hS.2.2 dX10_equal_220
                  · skip
                    refine lv_aload_n hx hb dX10_equal_116 rfl (lv_at hl 0 rfl) ?_
                    refine lv_dup hx hb dX10_equal_117 rfl ?_
                    refine va_get (D := D) (ci := 9) (v := .int v_looked_104) (C := RX10) (T := TX10) (N := 71) hx hb hts hin hown hK hP 0 rfl rfl 70 (by decide) k_52_10 (fun _ h9 => h9) rfl dX10_equal_118 ?_
                    refine lv_iconst (v := 1) hx hb dX10_equal_121 (by decide) ?_
                    refine m_iadd (X := v_looked_104.toInt) (Y := 1) hx hb dX10_equal_122 rfl (by decide) (fun x122 e_x122 g9 => ?_)
                    obtain ⟨k_x122, g_x122⟩ := g9
                    have b_x122 := iB x122
                    try (have q_x122 : x122.toInt = v_looked_104.toInt + 1 := (by omega); clear g_x122 k_x122)
                    refine va_put (D := D) (ci := 9) (v := .int x122) (ty := .int) (C := RX10) (T := TX10) (N := 71) hx hb hts hin tyX10 tyX10_ok nmX10 hown hK hP hD hS 0 rfl rfl 70 (by decide) k_52_10 (fun _ h9 => h9) rfl (by decide +kernel) rfl rfl (Nat.le_of_ble_eq_true rfl) dX10_equal_123 (fun H locs hP hD hS => ?_)
                    have hP : va_P D vwCl (mw cs q v_thrown a_tape v_taped v_size v_to v_kind v_from v_letters v_letterMany v_digits v_isBeyond v_suffix v_steps v_fault v_hasProgram a_text a_act a_guess a_take a_begin a_finish a_to1 a_one a_two a_what a_ats a_atVar a_atNumber a_atomSort a_atomKind a_atomValue v_wrong v_wrongAt v_variable v_number v_numberKind v_takes a_out v_outed a_varSort a_varKind a_varValue a_creature v_creatures a_arrayClass a_arrayFrom a_arrayLong v_arrays v_cells a_cellSort a_cellKind a_cellValue a_asideSort a_asideKind a_asideValue a_outcome v_marks v_came v_guessed v_right v_taken a_markSort a_markKind a_markClass a_markValue v_sort v_kindAt v_value a_index v_reached x122) H := hP
                    have hD : va_D A (mw cs q v_thrown a_tape v_taped v_size v_to v_kind v_from v_letters v_letterMany v_digits v_isBeyond v_suffix v_steps v_fault v_hasProgram a_text a_act a_guess a_take a_begin a_finish a_to1 a_one a_two a_what a_ats a_atVar a_atNumber a_atomSort a_atomKind a_atomValue v_wrong v_wrongAt v_variable v_number v_numberKind v_takes a_out v_outed a_varSort a_varKind a_varValue a_creature v_creatures a_arrayClass a_arrayFrom a_arrayLong v_arrays v_cells a_cellSort a_cellKind a_cellValue a_asideSort a_asideKind a_asideValue a_outcome v_marks v_came v_guessed v_right v_taken a_markSort a_markKind a_markClass a_markValue v_sort v_kindAt v_value a_index v_reached x122) := hD
                    refine lv_aload_n hx hb dX10_equal_126 rfl (lv_at hl 0 rfl) ?_
                    refine va_get (D := D) (ci := 9) (v := .int x122) (C := RX10) (T := TX10) (N := 71) hx hb hts hin hown hK hP 0 rfl rfl 70 (by decide) k_52_10 (fun _ h9 => h9) rfl dX10_equal_127 ?_
                    refine lv_sipush (v := 20000) hx hb dX10_equal_130 (by decide) ?_
                    refine m_icmp_le (X := x122.toInt) (Y := 20000) (tgt := 138) hx hb dX10_equal_133 (by decide) rfl (by decide) (fun c133 => ?_) (fun c133 => ?_)
                    · skip
                      refine lv_aload_n hx hb dX10_equal_138 rfl (lv_at hl 0 rfl) ?_
                      refine va_get (D := D) (ci := 9) (v := .ref (q 24)) (C := RX10) (T := TX10) (N := 71) hx hb hts hin hown hK hP 0 rfl rfl 45 (by decide) k_6_6 (fun _ h9 => h9) rfl dX10_equal_139 ?_
                      refine lv_iload hx hb dX10_equal_142 (lv_at hl 1 rfl) ?_
                      refine m_iald hx hb hK hP 24 0 rfl rfl (ix (by omega) (by omega)) dX10_equal_144 (fun x144 e_x144 => ?_)
                      have b_x144 := iB x144
                      have hx144 := congrArg Int32.toInt e_x144
                      refine lv_iload hx hb dX10_equal_145 (lv_at hl 3 rfl) ?_
                      refine m_iadd (X := x144.toInt) (Y := l11_104.toInt) hx hb dX10_equal_147 rfl rfl (fun x147 e_x147 g9 => ?_)
                      obtain ⟨k_x147, g_x147⟩ := g9
                      have b_x147 := iB x147
                      try (have q_x147 : x147.toInt = x144.toInt + l11_104.toInt := (by omega); clear g_x147 k_x147)
                      refine lv_istore (lv' := [(12, .int x147), (0, .ref (q 0)), (9, .int x57), (10, .int x62), (11, .int l11_104)]) hx hb dX10_equal_148 hl (by decide) rfl (fun ls hl => ?_)
                      refine lv_aload_n hx hb dX10_equal_150 rfl (lv_at hl 1 rfl) ?_
                      refine va_get (D := D) (ci := 9) (v := .ref (q 24)) (C := RX10) (T := TX10) (N := 71) hx hb hts hin hown hK hP 0 rfl rfl 45 (by decide) k_6_6 (fun _ h9 => h9) rfl dX10_equal_151 ?_
                      refine lv_iload hx hb dX10_equal_154 (lv_at hl 3 rfl) ?_
                      refine m_iald hx hb hK hP 24 0 rfl rfl (ix (by omega) (by omega)) dX10_equal_156 (fun x156 e_x156 => ?_)
                      have b_x156 := iB x156
                      have hx156 := congrArg Int32.toInt e_x156
                      refine lv_iload hx hb dX10_equal_157 (lv_at hl 4 rfl) ?_
                      refine m_iadd (X := x156.toInt) (Y := l11_104.toInt) hx hb dX10_equal_159 rfl rfl (fun x159 e_x159 g9 => ?_)
                      obtain ⟨k_x159, g_x159⟩ := g9
                      have b_x159 := iB x159
                      try (have q_x159 : x159.toInt = x156.toInt + l11_104.toInt := (by omega); clear g_x159 k_x159)
                      refine lv_istore (lv' := [(13, .int x159), (12, .int x147), (0, .ref (q 0)), (9, .int x57), (10, .int x62), (11, .int l11_104)]) hx hb dX10_equal_160 hl (by decide) rfl (fun ls hl => ?_)
                      refine lv_aload_n hx hb dX10_equal_162 rfl (lv_at hl 2 rfl) ?_
                      refine lv_aload_n hx hb dX10_equal_163 rfl (lv_at hl 2 rfl) ?_
                      refine va_get (D := D) (ci := 9) (v := .ref (q 26)) (C := RX10) (T := TX10) (N := 71) hx hb hts hin hown hK hP 0 rfl rfl 49 (by decide) k_6_8 (fun _ h9 => h9) rfl dX10_equal_164 ?_
                      refine lv_iload hx hb dX10_equal_167 (lv_at hl 1 rfl) ?_
                      refine m_iald hx hb hK hP 26 0 rfl rfl (ix (by omega) (by omega)) dX10_equal_169 (fun x169 e_x169 => ?_)
                      have b_x169 := iB x169
                      refine lv_aload_n hx hb dX10_equal_170 rfl (lv_at hl 2 rfl) ?_
                      refine va_get (D := D) (ci := 9) (v := .ref (q 27)) (C := RX10) (T := TX10) (N := 71) hx hb hts hin hown hK hP 0 rfl rfl 50 (by decide) k_6_9 (fun _ h9 => h9) rfl dX10_equal_171 ?_
                      refine lv_iload hx hb dX10_equal_174 (lv_at hl 1 rfl) ?_
                      refine m_iald hx hb hK hP 27 0 rfl rfl (ix (by omega) (by omega)) dX10_equal_176 (fun x176 e_x176 => ?_)
                      have b_x176 := iB x176
                      refine lv_aload_n hx hb dX10_equal_177 rfl (lv_at hl 2 rfl) ?_
                      refine va_get (D := D) (ci := 9) (v := .ref (q 28)) (C := RX10) (T := TX10) (N := 71) hx hb hts hin hown hK hP 0 rfl rfl 51 (by decide) k_6_10 (fun _ h9 => h9) rfl dX10_equal_178 ?_
                      refine lv_iload hx hb dX10_equal_181 (lv_at hl 1 rfl) ?_
                      refine m_lald hx hb hK hP 28 1 rfl rfl (ix (by omega) (by omega)) dX10_equal_183 (fun x183 e_x183 => ?_)
                      have b_x183 := jB x183
                      refine lv_aload_n hx hb dX10_equal_184 rfl (lv_at hl 2 rfl) ?_
                      refine va_get (D := D) (ci := 9) (v := .ref (q 26)) (C := RX10) (T := TX10) (N := 71) hx hb hts hin hown hK hP 0 rfl rfl 49 (by decide) k_6_8 (fun _ h9 => h9) rfl dX10_equal_185 ?_
                      refine lv_iload hx hb dX10_equal_188 (lv_at hl 0 rfl) ?_
                      refine m_iald hx hb hK hP 26 0 rfl rfl (ix (by omega) (by omega)) dX10_equal_190 (fun x190 e_x190 => ?_)
                      have b_x190 := iB x190
                      refine lv_aload_n hx hb dX10_equal_191 rfl (lv_at hl 2 rfl) ?_
                      refine va_get (D := D) (ci := 9) (v := .ref (q 27)) (C := RX10) (T := TX10) (N := 71) hx hb hts hin hown hK hP 0 rfl rfl 50 (by decide) k_6_9 (fun _ h9 => h9) rfl dX10_equal_192 ?_
                      refine lv_iload hx hb dX10_equal_195 (lv_at hl 0 rfl) ?_
                      refine m_iald hx hb hK hP 27 0 rfl rfl (ix (by omega) (by omega)) dX10_equal_197 (fun x197 e_x197 => ?_)
                      have b_x197 := iB x197
                      refine lv_aload_n hx hb dX10_equal_198 rfl (lv_at hl 2 rfl) ?_
                      refine va_get (D := D) (ci := 9) (v := .ref (q 28)) (C := RX10) (T := TX10) (N := 71) hx hb hts hin hown hK hP 0 rfl rfl 51 (by decide) k_6_10 (fun _ h9 => h9) rfl dX10_equal_199 ?_
                      refine lv_iload hx hb dX10_equal_202 (lv_at hl 0 rfl) ?_
                      refine m_lald hx hb hK hP 28 1 rfl rfl (ix (by omega) (by omega)) dX10_equal_204 (fun x204 e_x204 => ?_)
                      have b_x204 := jB x204
                      have ti := tn (i := l11_104) (by omega)
                      have tf1 := tn (i := a_arrayFrom x57.toNatClampNeg) (by omega)
                      have ty1 := tn (i := x147) (by omega)
                      have h1 := p_0.2.2.2.1 x57.toNatClampNeg l11_104.toNatClampNeg (by omega) (by omega)
                      rw [show (a_arrayFrom x57.toNatClampNeg).toNatClampNeg + l11_104.toNatClampNeg = x147.toNatClampNeg by omega] at h1
                      obtain ⟨h1a, h1b, h1c⟩ := h1
                      rw [← e_x169, ← e_x176, ← e_x183] at h1a
                      rw [← e_x169, ← e_x183] at h1b
                      have tf2 := tn (i := a_arrayFrom x62.toNatClampNeg) (by omega)
                      have ty2 := tn (i := x159) (by omega)
                      have h2 := p_0.2.2.2.1 x62.toNatClampNeg l11_104.toNatClampNeg (by omega) (by omega)
                      rw [show (a_arrayFrom x62.toNatClampNeg).toNatClampNeg + l11_104.toNatClampNeg = x159.toNatClampNeg by omega] at h2
                      obtain ⟨h2a, h2b, h2c⟩ := h2
                      rw [← e_x190, ← e_x197, ← e_x204] at h2a
                      rw [← e_x190, ← e_x204] at h2b
                      refine call_i (As := [.int x169, .int x176, .long x183, .int x190, .int x197, .long x204]) (rest := []) ⟨hx, hb, hml, hown, hts⟩ (tX10_equal_q0 (l := l) x169 x176 x183 x190 x197 x204 (by first | assumption | omega | (intros; omega) | decide) (by exact h1a) (by exact h2a) (by intro q; have z := h1b q; omega)) (cwV 6 hts (gV (wr52 _ (List.mem_of_getElem? (i := 21) rfl)) (wr52 _ (List.mem_of_getElem? (i := 22) rfl)) (wr52 _ (List.mem_of_getElem? (i := 23) rfl)) (wr1 _ (List.mem_of_getElem? (i := 5) rfl)) (wr53 _ (List.mem_of_getElem? (i := 0) rfl))) rfl rfl rfl (by decide +kernel) ⟨Nat.le_of_ble_eq_true rfl, Nat.le_of_ble_eq_true rfl⟩) (va_recv hK hP (ci := 9) (q0 := 0) rfl rfl) hK hP hD hE hS hA rfl hl.1 rfl (Nat.le_of_ble_eq_true rfl) dX10_equal_205 ⟨Nat.le_of_ble_eq_true rfl, Nat.le_of_ble_eq_true rfl⟩ (fun r205 w9 H locs hw205 hP hD hS => ?_)
                      obtain ⟨rfl, hw205_0⟩ := hw205
                      have b_r205 := iB r205
                      refine m_if_ne (X := r205.toInt) (tgt := 213) hx hb dX10_equal_208 (by decide) rfl (fun c208 => ?_) (fun c208 => ?_)
                      · skip
                        obtain ⟨x213, e_x213⟩ : ∃ z : Int32, z = l11_104 + (1 : Int32) := ⟨_, rfl⟩
                        obtain ⟨k_x213, g_x213⟩ : ∃ k : Int, x213.toInt = l11_104.toInt + (1) + k * 4294967296 := by rw [e_x213]; exact iAdd l11_104 (1)
                        have b_x213 := iB x213
                        try (have q_x213 : x213.toInt = l11_104.toInt + (1) := (by omega); clear g_x213 k_x213)
                        refine lv_iinc (v := x213) (lv' := [(11, .int x213), (13, .int x159), (12, .int x147), (0, .ref (q 0)), (9, .int x57), (10, .int x62)]) hx hb dX10_equal_213 hl (k := 5) rfl (by rw [e_x213]; rfl) (by decide) rfl (fun ls hl => ?_)
                        refine lv_goto (tgt := 104) hx hb dX10_equal_216 (by decide) ?_
                        exact ih104 x213 x122 H locs ls (by first | assumption | omega | (intros; omega) | decide) (by first | assumption | omega | (intros; omega) | decide) (by omega) hP hD hS (lv_sub hl [3, 4, 5, 0] rfl)
                      · skip
                        refine lv_iconst (v := 0) hx hb dX10_equal_211 (by decide) ?_
                        subst hAe
                        rw [hQ]
                        exact W.zret (v := 0) hx hb hr (by decide) (fun t ht hW => ⟨⟨0, _, rfl, ⟨x122, rfl, by first | assumption | omega | (intros; omega) | decide⟩, by rw [ht]; exact hP, va_K.moved hW.alike hK, hD⟩, hS.F ht⟩) hS.2.2 dX10_equal_212
                    · skip
                      refine lv_iconst (v := 0) hx hb dX10_equal_136 (by decide) ?_
                      subst hAe
                      rw [hQ]
                      exact W.zret (v := 0) hx hb hr (by decide) (fun t ht hW => ⟨⟨0, _, rfl, ⟨x122, rfl, by first | assumption | omega | (intros; omega) | decide⟩, by rw [ht]; exact hP, va_K.moved hW.alike hK, hD⟩, hS.F ht⟩) hS.2.2 dX10_equal_137
              exact J104 ((500 - (0 : Int32).toInt).toNat + 1) (0 : Int32) v_looked H locs ls (by first | assumption | omega | (intros; omega) | decide) (by first | assumption | omega | (intros; omega) | decide) (by omega) hP hD hS (lv_sub hl [3, 2, 1, 0] rfl)
            · skip
              refine lv_iconst (v := 0) hx hb dX10_equal_99 (by decide) ?_
              subst hAe
              rw [hQ]
              exact W.zret (v := 0) hx hb hr (by decide) (fun t ht hW => ⟨⟨0, _, rfl, ⟨v_looked, rfl, by first | assumption | omega | (intros; omega) | decide⟩, by rw [ht]; exact hP, va_K.moved hW.alike hK, hD⟩, hS.F ht⟩) hS.2.2 dX10_equal_100
        · skip
          refine lv_lload_n hx hb dX10_equal_43 rfl (lv_at hl 3 rfl) ?_
          refine lv_lload hx hb dX10_equal_44 (lv_at hl 6 rfl) ?_
          refine m_lcmp (X := u1.toInt) (Y := u2.toInt) hx hb dX10_equal_46 rfl rfl (fun x46 g_x46 => ?_)
          refine m_if_ne (X := x46.toInt) (tgt := 54) hx hb dX10_equal_47 (by decide) rfl (fun c47 => ?_) (fun c47 => ?_)
          · skip
            refine lv_iconst (v := 0) hx hb dX10_equal_54 (by decide) ?_
            subst hAe
            rw [hQ]
            exact W.zret (v := 0) hx hb hr (by decide) (fun t ht hW => ⟨⟨0, _, rfl, ⟨v_looked, rfl, by first | assumption | omega | (intros; omega) | decide⟩, by rw [ht]; exact hP, va_K.moved hW.alike hK, hD⟩, hS.F ht⟩) hS.2.2 dX10_equal_55
          · skip
            refine lv_iconst (v := 1) hx hb dX10_equal_50 (by decide) ?_
            refine lv_goto (tgt := 55) hx hb dX10_equal_51 (by decide) ?_
            subst hAe
            rw [hQ]
            exact W.zret (v := 1) hx hb hr (by decide) (fun t ht hW => ⟨⟨1, _, rfl, ⟨v_looked, rfl, by first | assumption | omega | (intros; omega) | decide⟩, by rw [ht]; exact hP, va_K.moved hW.alike hK, hD⟩, hS.F ht⟩) hS.2.2 dX10_equal_55
      · skip
        refine lv_iload_n hx hb dX10_equal_19 rfl (lv_at hl 2 rfl) ?_
        refine lv_iload hx hb dX10_equal_20 (lv_at hl 5 rfl) ?_
        refine m_icmp_ne (X := k1.toInt) (Y := k2.toInt) (tgt := 36) hx hb dX10_equal_22 (by decide) rfl rfl (fun c22 => ?_) (fun c22 => ?_)
        · skip
          refine lv_iconst (v := 0) hx hb dX10_equal_36 (by decide) ?_
          subst hAe
          rw [hQ]
          exact W.zret (v := 0) hx hb hr (by decide) (fun t ht hW => ⟨⟨0, _, rfl, ⟨v_looked, rfl, by first | assumption | omega | (intros; omega) | decide⟩, by rw [ht]; exact hP, va_K.moved hW.alike hK, hD⟩, hS.F ht⟩) hS.2.2 dX10_equal_37
        · skip
          refine lv_lload_n hx hb dX10_equal_25 rfl (lv_at hl 3 rfl) ?_
          refine lv_lload hx hb dX10_equal_26 (lv_at hl 6 rfl) ?_
          refine m_lcmp (X := u1.toInt) (Y := u2.toInt) hx hb dX10_equal_28 rfl rfl (fun x28 g_x28 => ?_)
          refine m_if_ne (X := x28.toInt) (tgt := 36) hx hb dX10_equal_29 (by decide) rfl (fun c29 => ?_) (fun c29 => ?_)
          · skip
            refine lv_iconst (v := 0) hx hb dX10_equal_36 (by decide) ?_
            subst hAe
            rw [hQ]
            exact W.zret (v := 0) hx hb hr (by decide) (fun t ht hW => ⟨⟨0, _, rfl, ⟨v_looked, rfl, by first | assumption | omega | (intros; omega) | decide⟩, by rw [ht]; exact hP, va_K.moved hW.alike hK, hD⟩, hS.F ht⟩) hS.2.2 dX10_equal_37
          · skip
            refine lv_iconst (v := 1) hx hb dX10_equal_32 (by decide) ?_
            refine lv_goto (tgt := 37) hx hb dX10_equal_33 (by decide) ?_
            subst hAe
            rw [hQ]
            exact W.zret (v := 1) hx hb hr (by decide) (fun t ht hW => ⟨⟨1, _, rfl, ⟨v_looked, rfl, by first | assumption | omega | (intros; omega) | decide⟩, by rw [ht]; exact hP, va_K.moved hW.alike hK, hD⟩, hS.F ht⟩) hS.2.2 dX10_equal_37
    · skip
      refine lv_iconst (v := 1) hx hb dX10_equal_12 (by decide) ?_
      subst hAe
      rw [hQ]
      exact W.zret (v := 1) hx hb hr (by decide) (fun t ht hW => ⟨⟨1, _, rfl, ⟨v_looked, rfl, by first | assumption | omega | (intros; omega) | decide⟩, by rw [ht]; exact hP, va_K.moved hW.alike hK, hD⟩, hS.F ht⟩) hS.2.2 dX10_equal_13
  · skip
    refine lv_iconst (v := 0) hx hb dX10_equal_6 (by decide) ?_
    subst hAe
    rw [hQ]
    exact W.zret (v := 0) hx hb hr (by decide) (fun t ht hW => ⟨⟨0, _, rfl, ⟨v_looked, rfl, by first | assumption | omega | (intros; omega) | decide⟩, by rw [ht]; exact hP, va_K.moved hW.alike hK, hD⟩, hS.F ht⟩) hS.2.2 dX10_equal_7

def rmX10_equal_q2 : Room := { frames := 60, cells := 0, slots := 0, locals := 1200 }
set_option maxHeartbeats 4000000 in
set_option maxRecDepth 100000 in
theorem tX10_equal_q2 {l : Launch} {D : va_G} {K : Nat → Nat → Nat} {cs : Nat → ClassId} {q : Nat → Nat} {v_thrown v_taped v_size v_to v_kind v_from v_letterMany v_isBeyond v_suffix v_steps v_fault v_hasProgram v_wrong v_wrongAt v_variable v_numberKind v_takes v_outed v_creatures v_arrays v_cells v_marks v_came v_guessed v_right v_taken v_sort v_kindAt v_reached v_looked : Int32} {a_tape a_text a_act a_guess a_take a_begin a_finish a_to1 a_one a_two a_what a_ats a_atVar a_atNumber a_atomSort a_atomKind a_out a_varSort a_varKind a_creature a_arrayClass a_arrayFrom a_arrayLong a_cellSort a_cellKind a_asideSort a_asideKind a_outcome a_markSort a_markKind a_markClass a_index : Nat → Int32} {v_letters v_digits v_number v_value : Int64} {a_atomValue a_varValue a_cellValue a_asideValue a_markValue : Nat → Int64} (s1 : Int32) (k1 : Int32) (u1 : Int64) (s2 : Int32) (k2 : Int32) (u2 : Int64) (p_0 : RUN a_varSort a_varKind a_varValue v_arrays v_cells v_creatures a_arrayClass a_arrayFrom a_arrayLong a_cellSort a_cellKind a_cellValue) (p_1 : VOK v_arrays.toInt v_creatures.toInt s1 k1 u1) (p_2 : VOK v_arrays.toInt v_creatures.toInt s2 k2 u2) (p_3 : s1.toInt = 3 → (a_arrayClass u1.toInt.toNat).toInt / 20 ≤ 2) : CtI l yX10_equal (wG yX10_equal cX10_equal 14 (some .boolean)) rmX10_equal_q2 D (mwT cs) K [.ref (q 0), .int s1, .int k1, .long u1, .int s2, .int k2, .long u2] (mw cs q v_thrown a_tape v_taped v_size v_to v_kind v_from v_letters v_letterMany v_digits v_isBeyond v_suffix v_steps v_fault v_hasProgram a_text a_act a_guess a_take a_begin a_finish a_to1 a_one a_two a_what a_ats a_atVar a_atNumber a_atomSort a_atomKind a_atomValue v_wrong v_wrongAt v_variable v_number v_numberKind v_takes a_out v_outed a_varSort a_varKind a_varValue a_creature v_creatures a_arrayClass a_arrayFrom a_arrayLong v_arrays v_cells a_cellSort a_cellKind a_cellValue a_asideSort a_asideKind a_asideValue a_outcome v_marks v_came v_guessed v_right v_taken a_markSort a_markKind a_markClass a_markValue v_sort v_kindAt v_value a_index v_reached v_looked) (fun r w1 => ∃ (v_looked' : Int32), w1 = (mw cs q v_thrown a_tape v_taped v_size v_to v_kind v_from v_letters v_letterMany v_digits v_isBeyond v_suffix v_steps v_fault v_hasProgram a_text a_act a_guess a_take a_begin a_finish a_to1 a_one a_two a_what a_ats a_atVar a_atNumber a_atomSort a_atomKind a_atomValue v_wrong v_wrongAt v_variable v_number v_numberKind v_takes a_out v_outed a_varSort a_varKind a_varValue a_creature v_creatures a_arrayClass a_arrayFrom a_arrayLong v_arrays v_cells a_cellSort a_cellKind a_cellValue a_asideSort a_asideKind a_asideValue a_outcome v_marks v_came v_guessed v_right v_taken a_markSort a_markKind a_markClass a_markValue v_sort v_kindAt v_value a_index v_reached v_looked') ∧ (r.toInt = 0 ∨ r.toInt = 1)) 0 0 := by
  intro sz
  refine Met.ofW (cc := cX10_equal) (maxL := 14) (ret := (some .boolean)) (by decide) rfl ?_
  intro p e s m args below meth c s₁ B hml hv
  obtain ⟨rfl, hsz, hP, hK, hD0, hE⟩ := hv
  have hx := B.exec
  have hb := B.bytes
  have hr := B.returns
  have hts := atoms_spec (ws := (wG yX10_equal cX10_equal 14 (some .boolean))) B.pre
  have hown : s.vm.findClass RX10 = some m.cls := findClass_of_methodNamed B.named
  have hlocks := B.notSynchronized
  subst hsz
  have hD := hD0.self (sz := s.heap.size)
  obtain ⟨A, hAe⟩ : ∃ A : Nat → Prop, A = va_A (mw cs q v_thrown a_tape v_taped v_size v_to v_kind v_from v_letters v_letterMany v_digits v_isBeyond v_suffix v_steps v_fault v_hasProgram a_text a_act a_guess a_take a_begin a_finish a_to1 a_one a_two a_what a_ats a_atVar a_atNumber a_atomSort a_atomKind a_atomValue v_wrong v_wrongAt v_variable v_number v_numberKind v_takes a_out v_outed a_varSort a_varKind a_varValue a_creature v_creatures a_arrayClass a_arrayFrom a_arrayLong v_arrays v_cells a_cellSort a_cellKind a_cellValue a_asideSort a_asideKind a_asideValue a_outcome v_marks v_came v_guessed v_right v_taken a_markSort a_markKind a_markClass a_markValue v_sort v_kindAt v_value a_index v_reached v_looked) s.heap.size := ⟨_, rfl⟩
  rw [← hAe] at hD hE
  have hA : ∀ q : Nat, s.heap.size ≤ q → A q := fun q h => by rw [hAe]; exact Or.inr h
  have hS : va_S A s.heap s.heap [] := va_S.rf
  have hl := lv_entry ([.ref (q 0), .int s1, .int k1, .long u1, .int s2, .int k2, .long u2]) (n := 14) (Nat.le_of_ble_eq_true rfl)
  rw [lg_entry_eq]
  generalize (lg_sl ([.ref (q 0), .int s1, .int k1, .long u1, .int s2, .int k2, .long u2]) ++ List.replicate (14 - (lg_sl ([.ref (q 0), .int s1, .int k1, .long u1, .int s2, .int k2, .long u2])).length) Slot.unset).toArray = ls at hl ⊢
  have hl : lv_has ls 14 [(0, .ref (q 0)), (1, .int s1), (2, .int k1), (3, .long u1), (5, .int s2), (6, .int k2), (7, .long u2)] := hl
  refine wq (fun Q hQ => ?_)
  have hin : ∀ w ∈ wsX100, w ∈ (wG yX10_equal cX10_equal 14 (some .boolean)) := fun w h => List.mem_cons_of_mem _ (inlX10 w h)
  have kc0 : (0 : Int32).toInt = 0 := by decide
  have kc1 : (1 : Int32).toInt = 1 := by decide
  have kc2 : (2 : Int32).toInt = 2 := by decide
  have kc3 : (20000 : Int32).toInt = 20000 := by decide
  have k_6_5 := hts (.fieldLink RX10 77 "ArrayTrainerModel" "arrayClass" "[I") (List.mem_cons_of_mem _ (wr6 _ (List.mem_of_getElem? (i := 5) rfl)))
  have k_6_7 := hts (.fieldLink RX10 83 "ArrayTrainerModel" "arrayLong" "[I") (List.mem_cons_of_mem _ (wr6 _ (List.mem_of_getElem? (i := 7) rfl)))
  have k_52_10 := hts (.fieldLink RX10 558 "ArrayTrainerModel" "looked" "I") (List.mem_cons_of_mem _ (wr52 _ (List.mem_of_getElem? (i := 10) rfl)))
  have k_6_6 := hts (.fieldLink RX10 80 "ArrayTrainerModel" "arrayFrom" "[I") (List.mem_cons_of_mem _ (wr6 _ (List.mem_of_getElem? (i := 6) rfl)))
  have k_6_8 := hts (.fieldLink RX10 86 "ArrayTrainerModel" "cellSort" "[I") (List.mem_cons_of_mem _ (wr6 _ (List.mem_of_getElem? (i := 8) rfl)))
  have k_6_9 := hts (.fieldLink RX10 89 "ArrayTrainerModel" "cellKind" "[I") (List.mem_cons_of_mem _ (wr6 _ (List.mem_of_getElem? (i := 9) rfl)))
  have k_6_10 := hts (.fieldLink RX10 92 "ArrayTrainerModel" "cellValue" "[J") (List.mem_cons_of_mem _ (wr6 _ (List.mem_of_getElem? (i := 10) rfl)))
  obtain ⟨H, hH⟩ : ∃ H : Heap, H = s.heap := ⟨_, rfl⟩
  obtain ⟨locs, hlc⟩ : ∃ L : List Loc, L = [] := ⟨_, rfl⟩
  have hP : va_P D vwCl (mw cs q v_thrown a_tape v_taped v_size v_to v_kind v_from v_letters v_letterMany v_digits v_isBeyond v_suffix v_steps v_fault v_hasProgram a_text a_act a_guess a_take a_begin a_finish a_to1 a_one a_two a_what a_ats a_atVar a_atNumber a_atomSort a_atomKind a_atomValue v_wrong v_wrongAt v_variable v_number v_numberKind v_takes a_out v_outed a_varSort a_varKind a_varValue a_creature v_creatures a_arrayClass a_arrayFrom a_arrayLong v_arrays v_cells a_cellSort a_cellKind a_cellValue a_asideSort a_asideKind a_asideValue a_outcome v_marks v_came v_guessed v_right v_taken a_markSort a_markKind a_markClass a_markValue v_sort v_kindAt v_value a_index v_reached v_looked) H := by rw [hH]; exact hP
  have hS : va_S A s.heap H locs := by rw [hH, hlc]; exact hS
  refine wHL hH hlc ?_
  have b_s1 := iB s1
  have b_k1 := iB k1
  have b_u1 := jB u1
  have b_s2 := iB s2
  have b_k2 := iB k2
  have b_u2 := jB u2
  have hr9 := p_0.1
  obtain ⟨hv0, hv1, hv2, hv3⟩ := id p_1
  refine lv_iload_n hx hb dX10_equal_0 rfl (lv_at hl 1 rfl) ?_
  refine lv_iload hx hb dX10_equal_1 (lv_at hl 4 rfl) ?_
  refine m_icmp_eq (X := s1.toInt) (Y := s2.toInt) (tgt := 8) hx hb dX10_equal_3 (by decide) rfl rfl (fun c3 => ?_) (fun c3 => ?_)
  · skip
    refine lv_iload_n hx hb dX10_equal_8 rfl (lv_at hl 1 rfl) ?_
    refine m_if_ne (X := s1.toInt) (tgt := 14) hx hb dX10_equal_9 (by decide) rfl (fun c9 => ?_) (fun c9 => ?_)
    · skip
      refine lv_iload_n hx hb dX10_equal_14 rfl (lv_at hl 1 rfl) ?_
      refine lv_iconst (v := 1) hx hb dX10_equal_15 (by decide) ?_
      refine m_icmp_ne (X := s1.toInt) (Y := 1) (tgt := 38) hx hb dX10_equal_16 (by decide) rfl (by decide) (fun c16 => ?_) (fun c16 => ?_)
      · skip
        refine lv_iload_n hx hb dX10_equal_38 rfl (lv_at hl 1 rfl) ?_
        refine lv_iconst (v := 2) hx hb dX10_equal_39 (by decide) ?_
        refine m_icmp_ne (X := s1.toInt) (Y := 2) (tgt := 56) hx hb dX10_equal_40 (by decide) rfl (by decide) (fun c40 => ?_) (fun c40 => ?_)
        · skip
          refine lv_lload_n hx hb dX10_equal_56 rfl (lv_at hl 3 rfl) ?_
          have hv9 := hv1 (by omega)
          have hv8 := p_2.2.1 (by omega)
          refine m_l2i hx hb dX10_equal_57 (fun x57 e_x57 => ?_)
          have b_x57 := iB x57
          have hx57 := l2iT e_x57 (by omega) (by omega)
          refine lv_istore (lv' := [(9, .int x57), (0, .ref (q 0)), (1, .int s1), (2, .int k1), (3, .long u1), (5, .int s2), (6, .int k2), (7, .long u2)]) hx hb dX10_equal_58 hl (by decide) rfl (fun ls hl => ?_)
          refine lv_lload hx hb dX10_equal_60 (lv_at hl 7 rfl) ?_
          refine m_l2i hx hb dX10_equal_62 (fun x62 e_x62 => ?_)
          have b_x62 := iB x62
          have hx62 := l2iT e_x62 (by omega) (by omega)
          refine lv_istore (lv' := [(10, .int x62), (9, .int x57), (0, .ref (q 0)), (1, .int s1), (2, .int k1), (3, .long u1), (5, .int s2), (6, .int k2), (7, .long u2)]) hx hb dX10_equal_63 hl (by decide) rfl (fun ls hl => ?_)
          have t57 := tn (i := x57) (by omega)
          have t62 := tn (i := x62) (by omega)
          obtain ⟨ao1, ao2, ao3, ao4⟩ := p_0.2.1 x57.toNatClampNeg (by omega)
          obtain ⟨bo1, bo2, bo3, bo4⟩ := p_0.2.1 x62.toNatClampNeg (by omega)
          have hdp := p_3 (by omega)
          rw [show u1.toInt.toNat = x57.toNatClampNeg by omega] at hdp
          refine lv_aload_n hx hb dX10_equal_65 rfl (lv_at hl 2 rfl) ?_
          refine va_get (D := D) (ci := 9) (v := .ref (q 23)) (C := RX10) (T := TX10) (N := 71) hx hb hts hin hown hK hP 0 rfl rfl 44 (by decide) k_6_5 (fun _ h9 => h9) rfl dX10_equal_66 ?_
          refine lv_iload hx hb dX10_equal_69 (lv_at hl 1 rfl) ?_
          refine m_iald hx hb hK hP 23 0 rfl rfl (ix (by omega) (by omega)) dX10_equal_71 (fun x71 e_x71 => ?_)
          have b_x71 := iB x71
          refine lv_aload_n hx hb dX10_equal_72 rfl (lv_at hl 2 rfl) ?_
          refine va_get (D := D) (ci := 9) (v := .ref (q 23)) (C := RX10) (T := TX10) (N := 71) hx hb hts hin hown hK hP 0 rfl rfl 44 (by decide) k_6_5 (fun _ h9 => h9) rfl dX10_equal_73 ?_
          refine lv_iload hx hb dX10_equal_76 (lv_at hl 0 rfl) ?_
          refine m_iald hx hb hK hP 23 0 rfl rfl (ix (by omega) (by omega)) dX10_equal_78 (fun x78 e_x78 => ?_)
          have b_x78 := iB x78
          have hx71 := congrArg Int32.toInt e_x71
          have hx78 := congrArg Int32.toInt e_x78
          refine m_icmp_ne (X := x71.toInt) (Y := x78.toInt) (tgt := 99) hx hb dX10_equal_79 (by decide) rfl rfl (fun c79 => ?_) (fun c79 => ?_)
          · skip
            refine lv_iconst (v := 0) hx hb dX10_equal_99 (by decide) ?_
            subst hAe
            rw [hQ]
            exact W.zret (v := 0) hx hb hr (by decide) (fun t ht hW => ⟨⟨0, _, rfl, ⟨v_looked, rfl, by first | assumption | omega | (intros; omega) | decide⟩, by rw [ht]; exact hP, va_K.moved hW.alike hK, hD⟩, hS.F ht⟩) hS.2.2 dX10_equal_100
          · skip
            refine lv_aload_n hx hb dX10_equal_82 rfl (lv_at hl 2 rfl) ?_
            refine va_get (D := D) (ci := 9) (v := .ref (q 25)) (C := RX10) (T := TX10) (N := 71) hx hb hts hin hown hK hP 0 rfl rfl 46 (by decide) k_6_7 (fun _ h9 => h9) rfl dX10_equal_83 ?_
            refine lv_iload hx hb dX10_equal_86 (lv_at hl 1 rfl) ?_
            refine m_iald hx hb hK hP 25 0 rfl rfl (ix (by omega) (by omega)) dX10_equal_88 (fun x88 e_x88 => ?_)
            have b_x88 := iB x88
            refine lv_aload_n hx hb dX10_equal_89 rfl (lv_at hl 2 rfl) ?_
            refine va_get (D := D) (ci := 9) (v := .ref (q 25)) (C := RX10) (T := TX10) (N := 71) hx hb hts hin hown hK hP 0 rfl rfl 46 (by decide) k_6_7 (fun _ h9 => h9) rfl dX10_equal_90 ?_
            refine lv_iload hx hb dX10_equal_93 (lv_at hl 0 rfl) ?_
            refine m_iald hx hb hK hP 25 0 rfl rfl (ix (by omega) (by omega)) dX10_equal_95 (fun x95 e_x95 => ?_)
            have b_x95 := iB x95
            have hx88 := congrArg Int32.toInt e_x88
            have hx95 := congrArg Int32.toInt e_x95
            refine m_icmp_eq (X := x88.toInt) (Y := x95.toInt) (tgt := 101) hx hb dX10_equal_96 (by decide) rfl rfl (fun c96 => ?_) (fun c96 => ?_)
            · skip
              refine lv_iconst (v := 0) hx hb dX10_equal_101 (by decide) ?_
              refine lv_istore (lv' := [(11, .int 0), (10, .int x62), (9, .int x57), (0, .ref (q 0)), (1, .int s1), (2, .int k1), (3, .long u1), (5, .int s2), (6, .int k2), (7, .long u2)]) hx hb dX10_equal_102 hl (by decide) rfl (fun ls hl => ?_)
              have J104 : ∀ (n104 : Nat) (l11_104 : Int32) (v_looked_104 : Int32) (H : Heap) (locs : List Loc) (ls : Array Slot), (0 ≤ l11_104.toInt) → (l11_104.toInt ≤ 500) → (500 - l11_104.toInt < (n104 : Int)) → va_P D vwCl (mw cs q v_thrown a_tape v_taped v_size v_to v_kind v_from v_letters v_letterMany v_digits v_isBeyond v_suffix v_steps v_fault v_hasProgram a_text a_act a_guess a_take a_begin a_finish a_to1 a_one a_two a_what a_ats a_atVar a_atNumber a_atomSort a_atomKind a_atomValue v_wrong v_wrongAt v_variable v_number v_numberKind v_takes a_out v_outed a_varSort a_varKind a_varValue a_creature v_creatures a_arrayClass a_arrayFrom a_arrayLong v_arrays v_cells a_cellSort a_cellKind a_cellValue a_asideSort a_asideKind a_asideValue a_outcome v_marks v_came v_guessed v_right v_taken a_markSort a_markKind a_markClass a_markValue v_sort v_kindAt v_value a_index v_reached v_looked_104) H → va_D A (mw cs q v_thrown a_tape v_taped v_size v_to v_kind v_from v_letters v_letterMany v_digits v_isBeyond v_suffix v_steps v_fault v_hasProgram a_text a_act a_guess a_take a_begin a_finish a_to1 a_one a_two a_what a_ats a_atVar a_atNumber a_atomSort a_atomKind a_atomValue v_wrong v_wrongAt v_variable v_number v_numberKind v_takes a_out v_outed a_varSort a_varKind a_varValue a_creature v_creatures a_arrayClass a_arrayFrom a_arrayLong v_arrays v_cells a_cellSort a_cellKind a_cellValue a_asideSort a_asideKind a_asideValue a_outcome v_marks v_came v_guessed v_right v_taken a_markSort a_markKind a_markClass a_markValue v_sort v_kindAt v_value a_index v_reached v_looked_104) → va_S A s.heap H locs → lv_has ls 14 [(0, .ref (q 0)), (9, .int x57), (10, .int x62), (11, .int l11_104)] → W p l e (headSpec (wG yX10_equal cX10_equal 14 (some .boolean)) rmX10_equal_q2).room s m ([.ref (q 0), .int s1, .int k1, .long u1, .int s2, .int k2, .long u2] : List Value).toArray below meth c H locs 0 0 Q (F0 m 104 ls []) := by
                intro n104
                induction n104 with
                | zero =>
                  intro l11_104 v_looked_104 H locs ls f104_0 f104_1 hm104
                  exfalso
                  omega
                | succ n104 ih104 =>
                  intro l11_104 v_looked_104 H locs ls f104_0 f104_1 hm104 hP hD hS hl
                  refine lv_iload hx hb dX10_equal_104 (lv_at hl 3 rfl) ?_
                  refine lv_aload_n hx hb dX10_equal_106 rfl (lv_at hl 0 rfl) ?_
                  refine va_get (D := D) (ci := 9) (v := .ref (q 25)) (C := RX10) (T := TX10) (N := 71) hx hb hts hin hown hK hP 0 rfl rfl 46 (by decide) k_6_7 (fun _ h9 => h9) rfl dX10_equal_107 ?_
                  refine lv_iload hx hb dX10_equal_110 (lv_at hl 1 rfl) ?_
                  refine m_iald hx hb hK hP 25 0 rfl rfl (ix (by omega) (by omega)) dX10_equal_112 (fun x112 e_x112 => ?_)
                  have b_x112 := iB x112
                  have hx112 := congrArg Int32.toInt e_x112
                  refine m_icmp_ge (X := l11_104.toInt) (Y := x112.toInt) (tgt := 219) hx hb dX10_equal_113 (by decide) rfl rfl (fun c113 => ?_) (fun c113 => ?_)
                  · skip
                    refine lv_iconst (v := 1) hx hb dX10_equal_219 (by decide) ?_
                    subst hAe
                    rw [hQ]
                    exact W.zret (v := 1) hx hb hr (by decide) (fun t ht hW => ⟨⟨1, _, rfl, ⟨v_looked_104, rfl, by first | assumption | omega | (intros; omega) | decide⟩, by rw [ht]; exact hP, va_K.moved hW.alike hK, hD⟩, hS.F ht⟩) hS.2.2 dX10_equal_220
                  · skip
                    refine lv_aload_n hx hb dX10_equal_116 rfl (lv_at hl 0 rfl) ?_
                    refine lv_dup hx hb dX10_equal_117 rfl ?_
                    refine va_get (D := D) (ci := 9) (v := .int v_looked_104) (C := RX10) (T := TX10) (N := 71) hx hb hts hin hown hK hP 0 rfl rfl 70 (by decide) k_52_10 (fun _ h9 => h9) rfl dX10_equal_118 ?_
                    refine lv_iconst (v := 1) hx hb dX10_equal_121 (by decide) ?_
                    refine m_iadd (X := v_looked_104.toInt) (Y := 1) hx hb dX10_equal_122 rfl (by decide) (fun x122 e_x122 g9 => ?_)
                    obtain ⟨k_x122, g_x122⟩ := g9
                    have b_x122 := iB x122
                    try (have q_x122 : x122.toInt = v_looked_104.toInt + 1 := (by omega); clear g_x122 k_x122)
                    refine va_put (D := D) (ci := 9) (v := .int x122) (ty := .int) (C := RX10) (T := TX10) (N := 71) hx hb hts hin tyX10 tyX10_ok nmX10 hown hK hP hD hS 0 rfl rfl 70 (by decide) k_52_10 (fun _ h9 => h9) rfl (by decide +kernel) rfl rfl (Nat.le_of_ble_eq_true rfl) dX10_equal_123 (fun H locs hP hD hS => ?_)
                    have hP : va_P D vwCl (mw cs q v_thrown a_tape v_taped v_size v_to v_kind v_from v_letters v_letterMany v_digits v_isBeyond v_suffix v_steps v_fault v_hasProgram a_text a_act a_guess a_take a_begin a_finish a_to1 a_one a_two a_what a_ats a_atVar a_atNumber a_atomSort a_atomKind a_atomValue v_wrong v_wrongAt v_variable v_number v_numberKind v_takes a_out v_outed a_varSort a_varKind a_varValue a_creature v_creatures a_arrayClass a_arrayFrom a_arrayLong v_arrays v_cells a_cellSort a_cellKind a_cellValue a_asideSort a_asideKind a_asideValue a_outcome v_marks v_came v_guessed v_right v_taken a_markSort a_markKind a_markClass a_markValue v_sort v_kindAt v_value a_index v_reached x122) H := hP
                    have hD : va_D A (mw cs q v_thrown a_tape v_taped v_size v_to v_kind v_from v_letters v_letterMany v_digits v_isBeyond v_suffix v_steps v_fault v_hasProgram a_text a_act a_guess a_take a_begin a_finish a_to1 a_one a_two a_what a_ats a_atVar a_atNumber a_atomSort a_atomKind a_atomValue v_wrong v_wrongAt v_variable v_number v_numberKind v_takes a_out v_outed a_varSort a_varKind a_varValue a_creature v_creatures a_arrayClass a_arrayFrom a_arrayLong v_arrays v_cells a_cellSort a_cellKind a_cellValue a_asideSort a_asideKind a_asideValue a_outcome v_marks v_came v_guessed v_right v_taken a_markSort a_markKind a_markClass a_markValue v_sort v_kindAt v_value a_index v_reached x122) := hD
                    refine lv_aload_n hx hb dX10_equal_126 rfl (lv_at hl 0 rfl) ?_
                    refine va_get (D := D) (ci := 9) (v := .int x122) (C := RX10) (T := TX10) (N := 71) hx hb hts hin hown hK hP 0 rfl rfl 70 (by decide) k_52_10 (fun _ h9 => h9) rfl dX10_equal_127 ?_
                    refine lv_sipush (v := 20000) hx hb dX10_equal_130 (by decide) ?_
                    refine m_icmp_le (X := x122.toInt) (Y := 20000) (tgt := 138) hx hb dX10_equal_133 (by decide) rfl (by decide) (fun c133 => ?_) (fun c133 => ?_)
                    · skip
                      refine lv_aload_n hx hb dX10_equal_138 rfl (lv_at hl 0 rfl) ?_
                      refine va_get (D := D) (ci := 9) (v := .ref (q 24)) (C := RX10) (T := TX10) (N := 71) hx hb hts hin hown hK hP 0 rfl rfl 45 (by decide) k_6_6 (fun _ h9 => h9) rfl dX10_equal_139 ?_
                      refine lv_iload hx hb dX10_equal_142 (lv_at hl 1 rfl) ?_
                      refine m_iald hx hb hK hP 24 0 rfl rfl (ix (by omega) (by omega)) dX10_equal_144 (fun x144 e_x144 => ?_)
                      have b_x144 := iB x144
                      have hx144 := congrArg Int32.toInt e_x144
                      refine lv_iload hx hb dX10_equal_145 (lv_at hl 3 rfl) ?_
                      refine m_iadd (X := x144.toInt) (Y := l11_104.toInt) hx hb dX10_equal_147 rfl rfl (fun x147 e_x147 g9 => ?_)
                      obtain ⟨k_x147, g_x147⟩ := g9
                      have b_x147 := iB x147
                      try (have q_x147 : x147.toInt = x144.toInt + l11_104.toInt := (by omega); clear g_x147 k_x147)
                      refine lv_istore (lv' := [(12, .int x147), (0, .ref (q 0)), (9, .int x57), (10, .int x62), (11, .int l11_104)]) hx hb dX10_equal_148 hl (by decide) rfl (fun ls hl => ?_)
                      refine lv_aload_n hx hb dX10_equal_150 rfl (lv_at hl 1 rfl) ?_
                      refine va_get (D := D) (ci := 9) (v := .ref (q 24)) (C := RX10) (T := TX10) (N := 71) hx hb hts hin hown hK hP 0 rfl rfl 45 (by decide) k_6_6 (fun _ h9 => h9) rfl dX10_equal_151 ?_
                      refine lv_iload hx hb dX10_equal_154 (lv_at hl 3 rfl) ?_
                      refine m_iald hx hb hK hP 24 0 rfl rfl (ix (by omega) (by omega)) dX10_equal_156 (fun x156 e_x156 => ?_)
                      have b_x156 := iB x156
                      have hx156 := congrArg Int32.toInt e_x156
                      refine lv_iload hx hb dX10_equal_157 (lv_at hl 4 rfl) ?_
                      refine m_iadd (X := x156.toInt) (Y := l11_104.toInt) hx hb dX10_equal_159 rfl rfl (fun x159 e_x159 g9 => ?_)
                      obtain ⟨k_x159, g_x159⟩ := g9
                      have b_x159 := iB x159
                      try (have q_x159 : x159.toInt = x156.toInt + l11_104.toInt := (by omega); clear g_x159 k_x159)
                      refine lv_istore (lv' := [(13, .int x159), (12, .int x147), (0, .ref (q 0)), (9, .int x57), (10, .int x62), (11, .int l11_104)]) hx hb dX10_equal_160 hl (by decide) rfl (fun ls hl => ?_)
                      refine lv_aload_n hx hb dX10_equal_162 rfl (lv_at hl 2 rfl) ?_
                      refine lv_aload_n hx hb dX10_equal_163 rfl (lv_at hl 2 rfl) ?_
                      refine va_get (D := D) (ci := 9) (v := .ref (q 26)) (C := RX10) (T := TX10) (N := 71) hx hb hts hin hown hK hP 0 rfl rfl 49 (by decide) k_6_8 (fun _ h9 => h9) rfl dX10_equal_164 ?_
                      refine lv_iload hx hb dX10_equal_167 (lv_at hl 1 rfl) ?_
                      refine m_iald hx hb hK hP 26 0 rfl rfl (ix (by omega) (by omega)) dX10_equal_169 (fun x169 e_x169 => ?_)
                      have b_x169 := iB x169
                      refine lv_aload_n hx hb dX10_equal_170 rfl (lv_at hl 2 rfl) ?_
                      refine va_get (D := D) (ci := 9) (v := .ref (q 27)) (C := RX10) (T := TX10) (N := 71) hx hb hts hin hown hK hP 0 rfl rfl 50 (by decide) k_6_9 (fun _ h9 => h9) rfl dX10_equal_171 ?_
                      refine lv_iload hx hb dX10_equal_174 (lv_at hl 1 rfl) ?_
                      refine m_iald hx hb hK hP 27 0 rfl rfl (ix (by omega) (by omega)) dX10_equal_176 (fun x176 e_x176 => ?_)
                      have b_x176 := iB x176
                      refine lv_aload_n hx hb dX10_equal_177 rfl (lv_at hl 2 rfl) ?_
                      refine va_get (D := D) (ci := 9) (v := .ref (q 28)) (C := RX10) (T := TX10) (N := 71) hx hb hts hin hown hK hP 0 rfl rfl 51 (by decide) k_6_10 (fun _ h9 => h9) rfl dX10_equal_178 ?_
                      refine lv_iload hx hb dX10_equal_181 (lv_at hl 1 rfl) ?_
                      refine m_lald hx hb hK hP 28 1 rfl rfl (ix (by omega) (by omega)) dX10_equal_183 (fun x183 e_x183 => ?_)
                      have b_x183 := jB x183
                      refine lv_aload_n hx hb dX10_equal_184 rfl (lv_at hl 2 rfl) ?_
                      refine va_get (D := D) (ci := 9) (v := .ref (q 26)) (C := RX10) (T := TX10) (N := 71) hx hb hts hin hown hK hP 0 rfl rfl 49 (by decide) k_6_8 (fun _ h9 => h9) rfl dX10_equal_185 ?_
                      refine lv_iload hx hb dX10_equal_188 (lv_at hl 0 rfl) ?_
                      refine m_iald hx hb hK hP 26 0 rfl rfl (ix (by omega) (by omega)) dX10_equal_190 (fun x190 e_x190 => ?_)
                      have b_x190 := iB x190
                      refine lv_aload_n hx hb dX10_equal_191 rfl (lv_at hl 2 rfl) ?_
                      refine va_get (D := D) (ci := 9) (v := .ref (q 27)) (C := RX10) (T := TX10) (N := 71) hx hb hts hin hown hK hP 0 rfl rfl 50 (by decide) k_6_9 (fun _ h9 => h9) rfl dX10_equal_192 ?_
                      refine lv_iload hx hb dX10_equal_195 (lv_at hl 0 rfl) ?_
                      refine m_iald hx hb hK hP 27 0 rfl rfl (ix (by omega) (by omega)) dX10_equal_197 (fun x197 e_x197 => ?_)
                      have b_x197 := iB x197
                      refine lv_aload_n hx hb dX10_equal_198 rfl (lv_at hl 2 rfl) ?_
                      refine va_get (D := D) (ci := 9) (v := .ref (q 28)) (C := RX10) (T := TX10) (N := 71) hx hb hts hin hown hK hP 0 rfl rfl 51 (by decide) k_6_10 (fun _ h9 => h9) rfl dX10_equal_199 ?_
                      refine lv_iload hx hb dX10_equal_202 (lv_at hl 0 rfl) ?_
                      refine m_lald hx hb hK hP 28 1 rfl rfl (ix (by omega) (by omega)) dX10_equal_204 (fun x204 e_x204 => ?_)
                      have b_x204 := jB x204
                      have ti := tn (i := l11_104) (by omega)
                      have tf1 := tn (i := a_arrayFrom x57.toNatClampNeg) (by omega)
                      have ty1 := tn (i := x147) (by omega)
                      have h1 := p_0.2.2.2.1 x57.toNatClampNeg l11_104.toNatClampNeg (by omega) (by omega)
                      rw [show (a_arrayFrom x57.toNatClampNeg).toNatClampNeg + l11_104.toNatClampNeg = x147.toNatClampNeg by omega] at h1
                      obtain ⟨h1a, h1b, h1c⟩ := h1
                      rw [← e_x169, ← e_x176, ← e_x183] at h1a
                      rw [← e_x169, ← e_x183] at h1b
                      have tf2 := tn (i := a_arrayFrom x62.toNatClampNeg) (by omega)
                      have ty2 := tn (i := x159) (by omega)
                      have h2 := p_0.2.2.2.1 x62.toNatClampNeg l11_104.toNatClampNeg (by omega) (by omega)
                      rw [show (a_arrayFrom x62.toNatClampNeg).toNatClampNeg + l11_104.toNatClampNeg = x159.toNatClampNeg by omega] at h2
                      obtain ⟨h2a, h2b, h2c⟩ := h2
                      rw [← e_x190, ← e_x197, ← e_x204] at h2a
                      rw [← e_x190, ← e_x204] at h2b
                      refine call_i (As := [.int x169, .int x176, .long x183, .int x190, .int x197, .long x204]) (rest := []) ⟨hx, hb, hml, hown, hts⟩ (tX10_equal_q1 (l := l) x169 x176 x183 x190 x197 x204 (by first | assumption | omega | (intros; omega) | decide) (by exact h1a) (by exact h2a) (by intro q; have z := h1b q; omega)) (cwV 6 hts (gV (wr52 _ (List.mem_of_getElem? (i := 21) rfl)) (wr52 _ (List.mem_of_getElem? (i := 22) rfl)) (wr52 _ (List.mem_of_getElem? (i := 23) rfl)) (wr1 _ (List.mem_of_getElem? (i := 5) rfl)) (wr53 _ (List.mem_of_getElem? (i := 0) rfl))) rfl rfl rfl (by decide +kernel) ⟨Nat.le_of_ble_eq_true rfl, Nat.le_of_ble_eq_true rfl⟩) (va_recv hK hP (ci := 9) (q0 := 0) rfl rfl) hK hP hD hE hS hA rfl hl.1 rfl (Nat.le_of_ble_eq_true rfl) dX10_equal_205 ⟨Nat.le_of_ble_eq_true rfl, Nat.le_of_ble_eq_true rfl⟩ (fun r205 w9 H locs hw205 hP hD hS => ?_)
                      obtain ⟨v_looked_205, rfl, hw205_0⟩ := hw205
                      have b_v_looked_205 := iB v_looked_205
                      have b_r205 := iB r205
                      refine m_if_ne (X := r205.toInt) (tgt := 213) hx hb dX10_equal_208 (by decide) rfl (fun c208 => ?_) (fun c208 => ?_)
                      · skip
                        obtain ⟨x213, e_x213⟩ : ∃ z : Int32, z = l11_104 + (1 : Int32) := ⟨_, rfl⟩
                        obtain ⟨k_x213, g_x213⟩ : ∃ k : Int, x213.toInt = l11_104.toInt + (1) + k * 4294967296 := by rw [e_x213]; exact iAdd l11_104 (1)
                        have b_x213 := iB x213
                        try (have q_x213 : x213.toInt = l11_104.toInt + (1) := (by omega); clear g_x213 k_x213)
                        refine lv_iinc (v := x213) (lv' := [(11, .int x213), (13, .int x159), (12, .int x147), (0, .ref (q 0)), (9, .int x57), (10, .int x62)]) hx hb dX10_equal_213 hl (k := 5) rfl (by rw [e_x213]; rfl) (by decide) rfl (fun ls hl => ?_)
                        refine lv_goto (tgt := 104) hx hb dX10_equal_216 (by decide) ?_
                        exact ih104 x213 v_looked_205 H locs ls (by first | assumption | omega | (intros; omega) | decide) (by first | assumption | omega | (intros; omega) | decide) (by omega) hP hD hS (lv_sub hl [3, 4, 5, 0] rfl)
                      · skip
                        refine lv_iconst (v := 0) hx hb dX10_equal_211 (by decide) ?_
                        subst hAe
                        rw [hQ]
                        exact W.zret (v := 0) hx hb hr (by decide) (fun t ht hW => ⟨⟨0, _, rfl, ⟨v_looked_205, rfl, by first | assumption | omega | (intros; omega) | decide⟩, by rw [ht]; exact hP, va_K.moved hW.alike hK, hD⟩, hS.F ht⟩) hS.2.2 dX10_equal_212
                    · skip
                      refine lv_iconst (v := 0) hx hb dX10_equal_136 (by decide) ?_
                      subst hAe
                      rw [hQ]
                      exact W.zret (v := 0) hx hb hr (by decide) (fun t ht hW => ⟨⟨0, _, rfl, ⟨x122, rfl, by first | assumption | omega | (intros; omega) | decide⟩, by rw [ht]; exact hP, va_K.moved hW.alike hK, hD⟩, hS.F ht⟩) hS.2.2 dX10_equal_137
              exact J104 ((500 - (0 : Int32).toInt).toNat + 1) (0 : Int32) v_looked H locs ls (by first | assumption | omega | (intros; omega) | decide) (by first | assumption | omega | (intros; omega) | decide) (by omega) hP hD hS (lv_sub hl [3, 2, 1, 0] rfl)
            · skip
              refine lv_iconst (v := 0) hx hb dX10_equal_99 (by decide) ?_
              subst hAe
              rw [hQ]
              exact W.zret (v := 0) hx hb hr (by decide) (fun t ht hW => ⟨⟨0, _, rfl, ⟨v_looked, rfl, by first | assumption | omega | (intros; omega) | decide⟩, by rw [ht]; exact hP, va_K.moved hW.alike hK, hD⟩, hS.F ht⟩) hS.2.2 dX10_equal_100
        · skip
          refine lv_lload_n hx hb dX10_equal_43 rfl (lv_at hl 3 rfl) ?_
          refine lv_lload hx hb dX10_equal_44 (lv_at hl 6 rfl) ?_
          refine m_lcmp (X := u1.toInt) (Y := u2.toInt) hx hb dX10_equal_46 rfl rfl (fun x46 g_x46 => ?_)
          refine m_if_ne (X := x46.toInt) (tgt := 54) hx hb dX10_equal_47 (by decide) rfl (fun c47 => ?_) (fun c47 => ?_)
          · skip
            refine lv_iconst (v := 0) hx hb dX10_equal_54 (by decide) ?_
            subst hAe
            rw [hQ]
            exact W.zret (v := 0) hx hb hr (by decide) (fun t ht hW => ⟨⟨0, _, rfl, ⟨v_looked, rfl, by first | assumption | omega | (intros; omega) | decide⟩, by rw [ht]; exact hP, va_K.moved hW.alike hK, hD⟩, hS.F ht⟩) hS.2.2 dX10_equal_55
          · skip
            refine lv_iconst (v := 1) hx hb dX10_equal_50 (by decide) ?_
            refine lv_goto (tgt := 55) hx hb dX10_equal_51 (by decide) ?_
            subst hAe
            rw [hQ]
            exact W.zret (v := 1) hx hb hr (by decide) (fun t ht hW => ⟨⟨1, _, rfl, ⟨v_looked, rfl, by first | assumption | omega | (intros; omega) | decide⟩, by rw [ht]; exact hP, va_K.moved hW.alike hK, hD⟩, hS.F ht⟩) hS.2.2 dX10_equal_55
      · skip
        refine lv_iload_n hx hb dX10_equal_19 rfl (lv_at hl 2 rfl) ?_
        refine lv_iload hx hb dX10_equal_20 (lv_at hl 5 rfl) ?_
        refine m_icmp_ne (X := k1.toInt) (Y := k2.toInt) (tgt := 36) hx hb dX10_equal_22 (by decide) rfl rfl (fun c22 => ?_) (fun c22 => ?_)
        · skip
          refine lv_iconst (v := 0) hx hb dX10_equal_36 (by decide) ?_
          subst hAe
          rw [hQ]
          exact W.zret (v := 0) hx hb hr (by decide) (fun t ht hW => ⟨⟨0, _, rfl, ⟨v_looked, rfl, by first | assumption | omega | (intros; omega) | decide⟩, by rw [ht]; exact hP, va_K.moved hW.alike hK, hD⟩, hS.F ht⟩) hS.2.2 dX10_equal_37
        · skip
          refine lv_lload_n hx hb dX10_equal_25 rfl (lv_at hl 3 rfl) ?_
          refine lv_lload hx hb dX10_equal_26 (lv_at hl 6 rfl) ?_
          refine m_lcmp (X := u1.toInt) (Y := u2.toInt) hx hb dX10_equal_28 rfl rfl (fun x28 g_x28 => ?_)
          refine m_if_ne (X := x28.toInt) (tgt := 36) hx hb dX10_equal_29 (by decide) rfl (fun c29 => ?_) (fun c29 => ?_)
          · skip
            refine lv_iconst (v := 0) hx hb dX10_equal_36 (by decide) ?_
            subst hAe
            rw [hQ]
            exact W.zret (v := 0) hx hb hr (by decide) (fun t ht hW => ⟨⟨0, _, rfl, ⟨v_looked, rfl, by first | assumption | omega | (intros; omega) | decide⟩, by rw [ht]; exact hP, va_K.moved hW.alike hK, hD⟩, hS.F ht⟩) hS.2.2 dX10_equal_37
          · skip
            refine lv_iconst (v := 1) hx hb dX10_equal_32 (by decide) ?_
            refine lv_goto (tgt := 37) hx hb dX10_equal_33 (by decide) ?_
            subst hAe
            rw [hQ]
            exact W.zret (v := 1) hx hb hr (by decide) (fun t ht hW => ⟨⟨1, _, rfl, ⟨v_looked, rfl, by first | assumption | omega | (intros; omega) | decide⟩, by rw [ht]; exact hP, va_K.moved hW.alike hK, hD⟩, hS.F ht⟩) hS.2.2 dX10_equal_37
    · skip
      refine lv_iconst (v := 1) hx hb dX10_equal_12 (by decide) ?_
      subst hAe
      rw [hQ]
      exact W.zret (v := 1) hx hb hr (by decide) (fun t ht hW => ⟨⟨1, _, rfl, ⟨v_looked, rfl, by first | assumption | omega | (intros; omega) | decide⟩, by rw [ht]; exact hP, va_K.moved hW.alike hK, hD⟩, hS.F ht⟩) hS.2.2 dX10_equal_13
  · skip
    refine lv_iconst (v := 0) hx hb dX10_equal_6 (by decide) ?_
    subst hAe
    rw [hQ]
    exact W.zret (v := 0) hx hb hr (by decide) (fun t ht hW => ⟨⟨0, _, rfl, ⟨v_looked, rfl, by first | assumption | omega | (intros; omega) | decide⟩, by rw [ht]; exact hP, va_K.moved hW.alike hK, hD⟩, hS.F ht⟩) hS.2.2 dX10_equal_7

def rmX10_equal_q3 : Room := { frames := 80, cells := 0, slots := 0, locals := 1600 }
set_option maxHeartbeats 4000000 in
set_option maxRecDepth 100000 in
theorem tX10_equal_q3 {l : Launch} {D : va_G} {K : Nat → Nat → Nat} {cs : Nat → ClassId} {q : Nat → Nat} {v_thrown v_taped v_size v_to v_kind v_from v_letterMany v_isBeyond v_suffix v_steps v_fault v_hasProgram v_wrong v_wrongAt v_variable v_numberKind v_takes v_outed v_creatures v_arrays v_cells v_marks v_came v_guessed v_right v_taken v_sort v_kindAt v_reached v_looked : Int32} {a_tape a_text a_act a_guess a_take a_begin a_finish a_to1 a_one a_two a_what a_ats a_atVar a_atNumber a_atomSort a_atomKind a_out a_varSort a_varKind a_creature a_arrayClass a_arrayFrom a_arrayLong a_cellSort a_cellKind a_asideSort a_asideKind a_outcome a_markSort a_markKind a_markClass a_index : Nat → Int32} {v_letters v_digits v_number v_value : Int64} {a_atomValue a_varValue a_cellValue a_asideValue a_markValue : Nat → Int64} (s1 : Int32) (k1 : Int32) (u1 : Int64) (s2 : Int32) (k2 : Int32) (u2 : Int64) (p_0 : RUN a_varSort a_varKind a_varValue v_arrays v_cells v_creatures a_arrayClass a_arrayFrom a_arrayLong a_cellSort a_cellKind a_cellValue) (p_1 : VOK v_arrays.toInt v_creatures.toInt s1 k1 u1) (p_2 : VOK v_arrays.toInt v_creatures.toInt s2 k2 u2) (p_3 : s1.toInt = 3 → (a_arrayClass u1.toInt.toNat).toInt / 20 ≤ 3) : CtI l yX10_equal (wG yX10_equal cX10_equal 14 (some .boolean)) rmX10_equal_q3 D (mwT cs) K [.ref (q 0), .int s1, .int k1, .long u1, .int s2, .int k2, .long u2] (mw cs q v_thrown a_tape v_taped v_size v_to v_kind v_from v_letters v_letterMany v_digits v_isBeyond v_suffix v_steps v_fault v_hasProgram a_text a_act a_guess a_take a_begin a_finish a_to1 a_one a_two a_what a_ats a_atVar a_atNumber a_atomSort a_atomKind a_atomValue v_wrong v_wrongAt v_variable v_number v_numberKind v_takes a_out v_outed a_varSort a_varKind a_varValue a_creature v_creatures a_arrayClass a_arrayFrom a_arrayLong v_arrays v_cells a_cellSort a_cellKind a_cellValue a_asideSort a_asideKind a_asideValue a_outcome v_marks v_came v_guessed v_right v_taken a_markSort a_markKind a_markClass a_markValue v_sort v_kindAt v_value a_index v_reached v_looked) (fun r w1 => ∃ (v_looked' : Int32), w1 = (mw cs q v_thrown a_tape v_taped v_size v_to v_kind v_from v_letters v_letterMany v_digits v_isBeyond v_suffix v_steps v_fault v_hasProgram a_text a_act a_guess a_take a_begin a_finish a_to1 a_one a_two a_what a_ats a_atVar a_atNumber a_atomSort a_atomKind a_atomValue v_wrong v_wrongAt v_variable v_number v_numberKind v_takes a_out v_outed a_varSort a_varKind a_varValue a_creature v_creatures a_arrayClass a_arrayFrom a_arrayLong v_arrays v_cells a_cellSort a_cellKind a_cellValue a_asideSort a_asideKind a_asideValue a_outcome v_marks v_came v_guessed v_right v_taken a_markSort a_markKind a_markClass a_markValue v_sort v_kindAt v_value a_index v_reached v_looked') ∧ (r.toInt = 0 ∨ r.toInt = 1)) 0 0 := by
  intro sz
  refine Met.ofW (cc := cX10_equal) (maxL := 14) (ret := (some .boolean)) (by decide) rfl ?_
  intro p e s m args below meth c s₁ B hml hv
  obtain ⟨rfl, hsz, hP, hK, hD0, hE⟩ := hv
  have hx := B.exec
  have hb := B.bytes
  have hr := B.returns
  have hts := atoms_spec (ws := (wG yX10_equal cX10_equal 14 (some .boolean))) B.pre
  have hown : s.vm.findClass RX10 = some m.cls := findClass_of_methodNamed B.named
  have hlocks := B.notSynchronized
  subst hsz
  have hD := hD0.self (sz := s.heap.size)
  obtain ⟨A, hAe⟩ : ∃ A : Nat → Prop, A = va_A (mw cs q v_thrown a_tape v_taped v_size v_to v_kind v_from v_letters v_letterMany v_digits v_isBeyond v_suffix v_steps v_fault v_hasProgram a_text a_act a_guess a_take a_begin a_finish a_to1 a_one a_two a_what a_ats a_atVar a_atNumber a_atomSort a_atomKind a_atomValue v_wrong v_wrongAt v_variable v_number v_numberKind v_takes a_out v_outed a_varSort a_varKind a_varValue a_creature v_creatures a_arrayClass a_arrayFrom a_arrayLong v_arrays v_cells a_cellSort a_cellKind a_cellValue a_asideSort a_asideKind a_asideValue a_outcome v_marks v_came v_guessed v_right v_taken a_markSort a_markKind a_markClass a_markValue v_sort v_kindAt v_value a_index v_reached v_looked) s.heap.size := ⟨_, rfl⟩
  rw [← hAe] at hD hE
  have hA : ∀ q : Nat, s.heap.size ≤ q → A q := fun q h => by rw [hAe]; exact Or.inr h
  have hS : va_S A s.heap s.heap [] := va_S.rf
  have hl := lv_entry ([.ref (q 0), .int s1, .int k1, .long u1, .int s2, .int k2, .long u2]) (n := 14) (Nat.le_of_ble_eq_true rfl)
  rw [lg_entry_eq]
  generalize (lg_sl ([.ref (q 0), .int s1, .int k1, .long u1, .int s2, .int k2, .long u2]) ++ List.replicate (14 - (lg_sl ([.ref (q 0), .int s1, .int k1, .long u1, .int s2, .int k2, .long u2])).length) Slot.unset).toArray = ls at hl ⊢
  have hl : lv_has ls 14 [(0, .ref (q 0)), (1, .int s1), (2, .int k1), (3, .long u1), (5, .int s2), (6, .int k2), (7, .long u2)] := hl
  refine wq (fun Q hQ => ?_)
  have hin : ∀ w ∈ wsX100, w ∈ (wG yX10_equal cX10_equal 14 (some .boolean)) := fun w h => List.mem_cons_of_mem _ (inlX10 w h)
  have kc0 : (0 : Int32).toInt = 0 := by decide
  have kc1 : (1 : Int32).toInt = 1 := by decide
  have kc2 : (2 : Int32).toInt = 2 := by decide
  have kc3 : (20000 : Int32).toInt = 20000 := by decide
  have k_6_5 := hts (.fieldLink RX10 77 "ArrayTrainerModel" "arrayClass" "[I") (List.mem_cons_of_mem _ (wr6 _ (List.mem_of_getElem? (i := 5) rfl)))
  have k_6_7 := hts (.fieldLink RX10 83 "ArrayTrainerModel" "arrayLong" "[I") (List.mem_cons_of_mem _ (wr6 _ (List.mem_of_getElem? (i := 7) rfl)))
  have k_52_10 := hts (.fieldLink RX10 558 "ArrayTrainerModel" "looked" "I") (List.mem_cons_of_mem _ (wr52 _ (List.mem_of_getElem? (i := 10) rfl)))
  have k_6_6 := hts (.fieldLink RX10 80 "ArrayTrainerModel" "arrayFrom" "[I") (List.mem_cons_of_mem _ (wr6 _ (List.mem_of_getElem? (i := 6) rfl)))
  have k_6_8 := hts (.fieldLink RX10 86 "ArrayTrainerModel" "cellSort" "[I") (List.mem_cons_of_mem _ (wr6 _ (List.mem_of_getElem? (i := 8) rfl)))
  have k_6_9 := hts (.fieldLink RX10 89 "ArrayTrainerModel" "cellKind" "[I") (List.mem_cons_of_mem _ (wr6 _ (List.mem_of_getElem? (i := 9) rfl)))
  have k_6_10 := hts (.fieldLink RX10 92 "ArrayTrainerModel" "cellValue" "[J") (List.mem_cons_of_mem _ (wr6 _ (List.mem_of_getElem? (i := 10) rfl)))
  obtain ⟨H, hH⟩ : ∃ H : Heap, H = s.heap := ⟨_, rfl⟩
  obtain ⟨locs, hlc⟩ : ∃ L : List Loc, L = [] := ⟨_, rfl⟩
  have hP : va_P D vwCl (mw cs q v_thrown a_tape v_taped v_size v_to v_kind v_from v_letters v_letterMany v_digits v_isBeyond v_suffix v_steps v_fault v_hasProgram a_text a_act a_guess a_take a_begin a_finish a_to1 a_one a_two a_what a_ats a_atVar a_atNumber a_atomSort a_atomKind a_atomValue v_wrong v_wrongAt v_variable v_number v_numberKind v_takes a_out v_outed a_varSort a_varKind a_varValue a_creature v_creatures a_arrayClass a_arrayFrom a_arrayLong v_arrays v_cells a_cellSort a_cellKind a_cellValue a_asideSort a_asideKind a_asideValue a_outcome v_marks v_came v_guessed v_right v_taken a_markSort a_markKind a_markClass a_markValue v_sort v_kindAt v_value a_index v_reached v_looked) H := by rw [hH]; exact hP
  have hS : va_S A s.heap H locs := by rw [hH, hlc]; exact hS
  refine wHL hH hlc ?_
  have b_s1 := iB s1
  have b_k1 := iB k1
  have b_u1 := jB u1
  have b_s2 := iB s2
  have b_k2 := iB k2
  have b_u2 := jB u2
  have hr9 := p_0.1
  obtain ⟨hv0, hv1, hv2, hv3⟩ := id p_1
  refine lv_iload_n hx hb dX10_equal_0 rfl (lv_at hl 1 rfl) ?_
  refine lv_iload hx hb dX10_equal_1 (lv_at hl 4 rfl) ?_
  refine m_icmp_eq (X := s1.toInt) (Y := s2.toInt) (tgt := 8) hx hb dX10_equal_3 (by decide) rfl rfl (fun c3 => ?_) (fun c3 => ?_)
  · skip
    refine lv_iload_n hx hb dX10_equal_8 rfl (lv_at hl 1 rfl) ?_
    refine m_if_ne (X := s1.toInt) (tgt := 14) hx hb dX10_equal_9 (by decide) rfl (fun c9 => ?_) (fun c9 => ?_)
    · skip
      refine lv_iload_n hx hb dX10_equal_14 rfl (lv_at hl 1 rfl) ?_
      refine lv_iconst (v := 1) hx hb dX10_equal_15 (by decide) ?_
      refine m_icmp_ne (X := s1.toInt) (Y := 1) (tgt := 38) hx hb dX10_equal_16 (by decide) rfl (by decide) (fun c16 => ?_) (fun c16 => ?_)
      · skip
        refine lv_iload_n hx hb dX10_equal_38 rfl (lv_at hl 1 rfl) ?_
        refine lv_iconst (v := 2) hx hb dX10_equal_39 (by decide) ?_
        refine m_icmp_ne (X := s1.toInt) (Y := 2) (tgt := 56) hx hb dX10_equal_40 (by decide) rfl (by decide) (fun c40 => ?_) (fun c40 => ?_)
        · skip
          refine lv_lload_n hx hb dX10_equal_56 rfl (lv_at hl 3 rfl) ?_
          have hv9 := hv1 (by omega)
          have hv8 := p_2.2.1 (by omega)
          refine m_l2i hx hb dX10_equal_57 (fun x57 e_x57 => ?_)
          have b_x57 := iB x57
          have hx57 := l2iT e_x57 (by omega) (by omega)
          refine lv_istore (lv' := [(9, .int x57), (0, .ref (q 0)), (1, .int s1), (2, .int k1), (3, .long u1), (5, .int s2), (6, .int k2), (7, .long u2)]) hx hb dX10_equal_58 hl (by decide) rfl (fun ls hl => ?_)
          refine lv_lload hx hb dX10_equal_60 (lv_at hl 7 rfl) ?_
          refine m_l2i hx hb dX10_equal_62 (fun x62 e_x62 => ?_)
          have b_x62 := iB x62
          have hx62 := l2iT e_x62 (by omega) (by omega)
          refine lv_istore (lv' := [(10, .int x62), (9, .int x57), (0, .ref (q 0)), (1, .int s1), (2, .int k1), (3, .long u1), (5, .int s2), (6, .int k2), (7, .long u2)]) hx hb dX10_equal_63 hl (by decide) rfl (fun ls hl => ?_)
          have t57 := tn (i := x57) (by omega)
          have t62 := tn (i := x62) (by omega)
          obtain ⟨ao1, ao2, ao3, ao4⟩ := p_0.2.1 x57.toNatClampNeg (by omega)
          obtain ⟨bo1, bo2, bo3, bo4⟩ := p_0.2.1 x62.toNatClampNeg (by omega)
          have hdp := p_3 (by omega)
          rw [show u1.toInt.toNat = x57.toNatClampNeg by omega] at hdp
          refine lv_aload_n hx hb dX10_equal_65 rfl (lv_at hl 2 rfl) ?_
          refine va_get (D := D) (ci := 9) (v := .ref (q 23)) (C := RX10) (T := TX10) (N := 71) hx hb hts hin hown hK hP 0 rfl rfl 44 (by decide) k_6_5 (fun _ h9 => h9) rfl dX10_equal_66 ?_
          refine lv_iload hx hb dX10_equal_69 (lv_at hl 1 rfl) ?_
          refine m_iald hx hb hK hP 23 0 rfl rfl (ix (by omega) (by omega)) dX10_equal_71 (fun x71 e_x71 => ?_)
          have b_x71 := iB x71
          refine lv_aload_n hx hb dX10_equal_72 rfl (lv_at hl 2 rfl) ?_
          refine va_get (D := D) (ci := 9) (v := .ref (q 23)) (C := RX10) (T := TX10) (N := 71) hx hb hts hin hown hK hP 0 rfl rfl 44 (by decide) k_6_5 (fun _ h9 => h9) rfl dX10_equal_73 ?_
          refine lv_iload hx hb dX10_equal_76 (lv_at hl 0 rfl) ?_
          refine m_iald hx hb hK hP 23 0 rfl rfl (ix (by omega) (by omega)) dX10_equal_78 (fun x78 e_x78 => ?_)
          have b_x78 := iB x78
          have hx71 := congrArg Int32.toInt e_x71
          have hx78 := congrArg Int32.toInt e_x78
          refine m_icmp_ne (X := x71.toInt) (Y := x78.toInt) (tgt := 99) hx hb dX10_equal_79 (by decide) rfl rfl (fun c79 => ?_) (fun c79 => ?_)
          · skip
            refine lv_iconst (v := 0) hx hb dX10_equal_99 (by decide) ?_
            subst hAe
            rw [hQ]
            exact W.zret (v := 0) hx hb hr (by decide) (fun t ht hW => ⟨⟨0, _, rfl, ⟨v_looked, rfl, by first | assumption | omega | (intros; omega) | decide⟩, by rw [ht]; exact hP, va_K.moved hW.alike hK, hD⟩, hS.F ht⟩) hS.2.2 dX10_equal_100
          · skip
            refine lv_aload_n hx hb dX10_equal_82 rfl (lv_at hl 2 rfl) ?_
            refine va_get (D := D) (ci := 9) (v := .ref (q 25)) (C := RX10) (T := TX10) (N := 71) hx hb hts hin hown hK hP 0 rfl rfl 46 (by decide) k_6_7 (fun _ h9 => h9) rfl dX10_equal_83 ?_
            refine lv_iload hx hb dX10_equal_86 (lv_at hl 1 rfl) ?_
            refine m_iald hx hb hK hP 25 0 rfl rfl (ix (by omega) (by omega)) dX10_equal_88 (fun x88 e_x88 => ?_)
            have b_x88 := iB x88
            refine lv_aload_n hx hb dX10_equal_89 rfl (lv_at hl 2 rfl) ?_
            refine va_get (D := D) (ci := 9) (v := .ref (q 25)) (C := RX10) (T := TX10) (N := 71) hx hb hts hin hown hK hP 0 rfl rfl 46 (by decide) k_6_7 (fun _ h9 => h9) rfl dX10_equal_90 ?_
            refine lv_iload hx hb dX10_equal_93 (lv_at hl 0 rfl) ?_
            refine m_iald hx hb hK hP 25 0 rfl rfl (ix (by omega) (by omega)) dX10_equal_95 (fun x95 e_x95 => ?_)
            have b_x95 := iB x95
            have hx88 := congrArg Int32.toInt e_x88
            have hx95 := congrArg Int32.toInt e_x95
            refine m_icmp_eq (X := x88.toInt) (Y := x95.toInt) (tgt := 101) hx hb dX10_equal_96 (by decide) rfl rfl (fun c96 => ?_) (fun c96 => ?_)
            · skip
              refine lv_iconst (v := 0) hx hb dX10_equal_101 (by decide) ?_
              refine lv_istore (lv' := [(11, .int 0), (10, .int x62), (9, .int x57), (0, .ref (q 0)), (1, .int s1), (2, .int k1), (3, .long u1), (5, .int s2), (6, .int k2), (7, .long u2)]) hx hb dX10_equal_102 hl (by decide) rfl (fun ls hl => ?_)
              have J104 : ∀ (n104 : Nat) (l11_104 : Int32) (v_looked_104 : Int32) (H : Heap) (locs : List Loc) (ls : Array Slot), (0 ≤ l11_104.toInt) → (l11_104.toInt ≤ 500) → (500 - l11_104.toInt < (n104 : Int)) → va_P D vwCl (mw cs q v_thrown a_tape v_taped v_size v_to v_kind v_from v_letters v_letterMany v_digits v_isBeyond v_suffix v_steps v_fault v_hasProgram a_text a_act a_guess a_take a_begin a_finish a_to1 a_one a_two a_what a_ats a_atVar a_atNumber a_atomSort a_atomKind a_atomValue v_wrong v_wrongAt v_variable v_number v_numberKind v_takes a_out v_outed a_varSort a_varKind a_varValue a_creature v_creatures a_arrayClass a_arrayFrom a_arrayLong v_arrays v_cells a_cellSort a_cellKind a_cellValue a_asideSort a_asideKind a_asideValue a_outcome v_marks v_came v_guessed v_right v_taken a_markSort a_markKind a_markClass a_markValue v_sort v_kindAt v_value a_index v_reached v_looked_104) H → va_D A (mw cs q v_thrown a_tape v_taped v_size v_to v_kind v_from v_letters v_letterMany v_digits v_isBeyond v_suffix v_steps v_fault v_hasProgram a_text a_act a_guess a_take a_begin a_finish a_to1 a_one a_two a_what a_ats a_atVar a_atNumber a_atomSort a_atomKind a_atomValue v_wrong v_wrongAt v_variable v_number v_numberKind v_takes a_out v_outed a_varSort a_varKind a_varValue a_creature v_creatures a_arrayClass a_arrayFrom a_arrayLong v_arrays v_cells a_cellSort a_cellKind a_cellValue a_asideSort a_asideKind a_asideValue a_outcome v_marks v_came v_guessed v_right v_taken a_markSort a_markKind a_markClass a_markValue v_sort v_kindAt v_value a_index v_reached v_looked_104) → va_S A s.heap H locs → lv_has ls 14 [(0, .ref (q 0)), (9, .int x57), (10, .int x62), (11, .int l11_104)] → W p l e (headSpec (wG yX10_equal cX10_equal 14 (some .boolean)) rmX10_equal_q3).room s m ([.ref (q 0), .int s1, .int k1, .long u1, .int s2, .int k2, .long u2] : List Value).toArray below meth c H locs 0 0 Q (F0 m 104 ls []) := by
                intro n104
                induction n104 with
                | zero =>
                  intro l11_104 v_looked_104 H locs ls f104_0 f104_1 hm104
                  exfalso
                  omega
                | succ n104 ih104 =>
                  intro l11_104 v_looked_104 H locs ls f104_0 f104_1 hm104 hP hD hS hl
                  refine lv_iload hx hb dX10_equal_104 (lv_at hl 3 rfl) ?_
                  refine lv_aload_n hx hb dX10_equal_106 rfl (lv_at hl 0 rfl) ?_
                  refine va_get (D := D) (ci := 9) (v := .ref (q 25)) (C := RX10) (T := TX10) (N := 71) hx hb hts hin hown hK hP 0 rfl rfl 46 (by decide) k_6_7 (fun _ h9 => h9) rfl dX10_equal_107 ?_
                  refine lv_iload hx hb dX10_equal_110 (lv_at hl 1 rfl) ?_
                  refine m_iald hx hb hK hP 25 0 rfl rfl (ix (by omega) (by omega)) dX10_equal_112 (fun x112 e_x112 => ?_)
                  have b_x112 := iB x112
                  have hx112 := congrArg Int32.toInt e_x112
                  refine m_icmp_ge (X := l11_104.toInt) (Y := x112.toInt) (tgt := 219) hx hb dX10_equal_113 (by decide) rfl rfl (fun c113 => ?_) (fun c113 => ?_)
                  · skip
                    refine lv_iconst (v := 1) hx hb dX10_equal_219 (by decide) ?_
                    subst hAe
                    rw [hQ]
                    exact W.zret (v := 1) hx hb hr (by decide) (fun t ht hW => ⟨⟨1, _, rfl, ⟨v_looked_104, rfl, by first | assumption | omega | (intros; omega) | decide⟩, by rw [ht]; exact hP, va_K.moved hW.alike hK, hD⟩, hS.F ht⟩) hS.2.2 dX10_equal_220
                  · skip
                    refine lv_aload_n hx hb dX10_equal_116 rfl (lv_at hl 0 rfl) ?_
                    refine lv_dup hx hb dX10_equal_117 rfl ?_
                    refine va_get (D := D) (ci := 9) (v := .int v_looked_104) (C := RX10) (T := TX10) (N := 71) hx hb hts hin hown hK hP 0 rfl rfl 70 (by decide) k_52_10 (fun _ h9 => h9) rfl dX10_equal_118 ?_
                    refine lv_iconst (v := 1) hx hb dX10_equal_121 (by decide) ?_
                    refine m_iadd (X := v_looked_104.toInt) (Y := 1) hx hb dX10_equal_122 rfl (by decide) (fun x122 e_x122 g9 => ?_)
                    obtain ⟨k_x122, g_x122⟩ := g9
                    have b_x122 := iB x122
                    try (have q_x122 : x122.toInt = v_looked_104.toInt + 1 := (by omega); clear g_x122 k_x122)
                    refine va_put (D := D) (ci := 9) (v := .int x122) (ty := .int) (C := RX10) (T := TX10) (N := 71) hx hb hts hin tyX10 tyX10_ok nmX10 hown hK hP hD hS 0 rfl rfl 70 (by decide) k_52_10 (fun _ h9 => h9) rfl (by decide +kernel) rfl rfl (Nat.le_of_ble_eq_true rfl) dX10_equal_123 (fun H locs hP hD hS => ?_)
                    have hP : va_P D vwCl (mw cs q v_thrown a_tape v_taped v_size v_to v_kind v_from v_letters v_letterMany v_digits v_isBeyond v_suffix v_steps v_fault v_hasProgram a_text a_act a_guess a_take a_begin a_finish a_to1 a_one a_two a_what a_ats a_atVar a_atNumber a_atomSort a_atomKind a_atomValue v_wrong v_wrongAt v_variable v_number v_numberKind v_takes a_out v_outed a_varSort a_varKind a_varValue a_creature v_creatures a_arrayClass a_arrayFrom a_arrayLong v_arrays v_cells a_cellSort a_cellKind a_cellValue a_asideSort a_asideKind a_asideValue a_outcome v_marks v_came v_guessed v_right v_taken a_markSort a_markKind a_markClass a_markValue v_sort v_kindAt v_value a_index v_reached x122) H := hP
                    have hD : va_D A (mw cs q v_thrown a_tape v_taped v_size v_to v_kind v_from v_letters v_letterMany v_digits v_isBeyond v_suffix v_steps v_fault v_hasProgram a_text a_act a_guess a_take a_begin a_finish a_to1 a_one a_two a_what a_ats a_atVar a_atNumber a_atomSort a_atomKind a_atomValue v_wrong v_wrongAt v_variable v_number v_numberKind v_takes a_out v_outed a_varSort a_varKind a_varValue a_creature v_creatures a_arrayClass a_arrayFrom a_arrayLong v_arrays v_cells a_cellSort a_cellKind a_cellValue a_asideSort a_asideKind a_asideValue a_outcome v_marks v_came v_guessed v_right v_taken a_markSort a_markKind a_markClass a_markValue v_sort v_kindAt v_value a_index v_reached x122) := hD
                    refine lv_aload_n hx hb dX10_equal_126 rfl (lv_at hl 0 rfl) ?_
                    refine va_get (D := D) (ci := 9) (v := .int x122) (C := RX10) (T := TX10) (N := 71) hx hb hts hin hown hK hP 0 rfl rfl 70 (by decide) k_52_10 (fun _ h9 => h9) rfl dX10_equal_127 ?_
                    refine lv_sipush (v := 20000) hx hb dX10_equal_130 (by decide) ?_
                    refine m_icmp_le (X := x122.toInt) (Y := 20000) (tgt := 138) hx hb dX10_equal_133 (by decide) rfl (by decide) (fun c133 => ?_) (fun c133 => ?_)
                    · skip
                      refine lv_aload_n hx hb dX10_equal_138 rfl (lv_at hl 0 rfl) ?_
                      refine va_get (D := D) (ci := 9) (v := .ref (q 24)) (C := RX10) (T := TX10) (N := 71) hx hb hts hin hown hK hP 0 rfl rfl 45 (by decide) k_6_6 (fun _ h9 => h9) rfl dX10_equal_139 ?_
                      refine lv_iload hx hb dX10_equal_142 (lv_at hl 1 rfl) ?_
                      refine m_iald hx hb hK hP 24 0 rfl rfl (ix (by omega) (by omega)) dX10_equal_144 (fun x144 e_x144 => ?_)
                      have b_x144 := iB x144
                      have hx144 := congrArg Int32.toInt e_x144
                      refine lv_iload hx hb dX10_equal_145 (lv_at hl 3 rfl) ?_
                      refine m_iadd (X := x144.toInt) (Y := l11_104.toInt) hx hb dX10_equal_147 rfl rfl (fun x147 e_x147 g9 => ?_)
                      obtain ⟨k_x147, g_x147⟩ := g9
                      have b_x147 := iB x147
                      try (have q_x147 : x147.toInt = x144.toInt + l11_104.toInt := (by omega); clear g_x147 k_x147)
                      refine lv_istore (lv' := [(12, .int x147), (0, .ref (q 0)), (9, .int x57), (10, .int x62), (11, .int l11_104)]) hx hb dX10_equal_148 hl (by decide) rfl (fun ls hl => ?_)
                      refine lv_aload_n hx hb dX10_equal_150 rfl (lv_at hl 1 rfl) ?_
                      refine va_get (D := D) (ci := 9) (v := .ref (q 24)) (C := RX10) (T := TX10) (N := 71) hx hb hts hin hown hK hP 0 rfl rfl 45 (by decide) k_6_6 (fun _ h9 => h9) rfl dX10_equal_151 ?_
                      refine lv_iload hx hb dX10_equal_154 (lv_at hl 3 rfl) ?_
                      refine m_iald hx hb hK hP 24 0 rfl rfl (ix (by omega) (by omega)) dX10_equal_156 (fun x156 e_x156 => ?_)
                      have b_x156 := iB x156
                      have hx156 := congrArg Int32.toInt e_x156
                      refine lv_iload hx hb dX10_equal_157 (lv_at hl 4 rfl) ?_
                      refine m_iadd (X := x156.toInt) (Y := l11_104.toInt) hx hb dX10_equal_159 rfl rfl (fun x159 e_x159 g9 => ?_)
                      obtain ⟨k_x159, g_x159⟩ := g9
                      have b_x159 := iB x159
                      try (have q_x159 : x159.toInt = x156.toInt + l11_104.toInt := (by omega); clear g_x159 k_x159)
                      refine lv_istore (lv' := [(13, .int x159), (12, .int x147), (0, .ref (q 0)), (9, .int x57), (10, .int x62), (11, .int l11_104)]) hx hb dX10_equal_160 hl (by decide) rfl (fun ls hl => ?_)
                      refine lv_aload_n hx hb dX10_equal_162 rfl (lv_at hl 2 rfl) ?_
                      refine lv_aload_n hx hb dX10_equal_163 rfl (lv_at hl 2 rfl) ?_
                      refine va_get (D := D) (ci := 9) (v := .ref (q 26)) (C := RX10) (T := TX10) (N := 71) hx hb hts hin hown hK hP 0 rfl rfl 49 (by decide) k_6_8 (fun _ h9 => h9) rfl dX10_equal_164 ?_
                      refine lv_iload hx hb dX10_equal_167 (lv_at hl 1 rfl) ?_
                      refine m_iald hx hb hK hP 26 0 rfl rfl (ix (by omega) (by omega)) dX10_equal_169 (fun x169 e_x169 => ?_)
                      have b_x169 := iB x169
                      refine lv_aload_n hx hb dX10_equal_170 rfl (lv_at hl 2 rfl) ?_
                      refine va_get (D := D) (ci := 9) (v := .ref (q 27)) (C := RX10) (T := TX10) (N := 71) hx hb hts hin hown hK hP 0 rfl rfl 50 (by decide) k_6_9 (fun _ h9 => h9) rfl dX10_equal_171 ?_
                      refine lv_iload hx hb dX10_equal_174 (lv_at hl 1 rfl) ?_
                      refine m_iald hx hb hK hP 27 0 rfl rfl (ix (by omega) (by omega)) dX10_equal_176 (fun x176 e_x176 => ?_)
                      have b_x176 := iB x176
                      refine lv_aload_n hx hb dX10_equal_177 rfl (lv_at hl 2 rfl) ?_
                      refine va_get (D := D) (ci := 9) (v := .ref (q 28)) (C := RX10) (T := TX10) (N := 71) hx hb hts hin hown hK hP 0 rfl rfl 51 (by decide) k_6_10 (fun _ h9 => h9) rfl dX10_equal_178 ?_
                      refine lv_iload hx hb dX10_equal_181 (lv_at hl 1 rfl) ?_
                      refine m_lald hx hb hK hP 28 1 rfl rfl (ix (by omega) (by omega)) dX10_equal_183 (fun x183 e_x183 => ?_)
                      have b_x183 := jB x183
                      refine lv_aload_n hx hb dX10_equal_184 rfl (lv_at hl 2 rfl) ?_
                      refine va_get (D := D) (ci := 9) (v := .ref (q 26)) (C := RX10) (T := TX10) (N := 71) hx hb hts hin hown hK hP 0 rfl rfl 49 (by decide) k_6_8 (fun _ h9 => h9) rfl dX10_equal_185 ?_
                      refine lv_iload hx hb dX10_equal_188 (lv_at hl 0 rfl) ?_
                      refine m_iald hx hb hK hP 26 0 rfl rfl (ix (by omega) (by omega)) dX10_equal_190 (fun x190 e_x190 => ?_)
                      have b_x190 := iB x190
                      refine lv_aload_n hx hb dX10_equal_191 rfl (lv_at hl 2 rfl) ?_
                      refine va_get (D := D) (ci := 9) (v := .ref (q 27)) (C := RX10) (T := TX10) (N := 71) hx hb hts hin hown hK hP 0 rfl rfl 50 (by decide) k_6_9 (fun _ h9 => h9) rfl dX10_equal_192 ?_
                      refine lv_iload hx hb dX10_equal_195 (lv_at hl 0 rfl) ?_
                      refine m_iald hx hb hK hP 27 0 rfl rfl (ix (by omega) (by omega)) dX10_equal_197 (fun x197 e_x197 => ?_)
                      have b_x197 := iB x197
                      refine lv_aload_n hx hb dX10_equal_198 rfl (lv_at hl 2 rfl) ?_
                      refine va_get (D := D) (ci := 9) (v := .ref (q 28)) (C := RX10) (T := TX10) (N := 71) hx hb hts hin hown hK hP 0 rfl rfl 51 (by decide) k_6_10 (fun _ h9 => h9) rfl dX10_equal_199 ?_
                      refine lv_iload hx hb dX10_equal_202 (lv_at hl 0 rfl) ?_
                      refine m_lald hx hb hK hP 28 1 rfl rfl (ix (by omega) (by omega)) dX10_equal_204 (fun x204 e_x204 => ?_)
                      have b_x204 := jB x204
                      have ti := tn (i := l11_104) (by omega)
                      have tf1 := tn (i := a_arrayFrom x57.toNatClampNeg) (by omega)
                      have ty1 := tn (i := x147) (by omega)
                      have h1 := p_0.2.2.2.1 x57.toNatClampNeg l11_104.toNatClampNeg (by omega) (by omega)
                      rw [show (a_arrayFrom x57.toNatClampNeg).toNatClampNeg + l11_104.toNatClampNeg = x147.toNatClampNeg by omega] at h1
                      obtain ⟨h1a, h1b, h1c⟩ := h1
                      rw [← e_x169, ← e_x176, ← e_x183] at h1a
                      rw [← e_x169, ← e_x183] at h1b
                      have tf2 := tn (i := a_arrayFrom x62.toNatClampNeg) (by omega)
                      have ty2 := tn (i := x159) (by omega)
                      have h2 := p_0.2.2.2.1 x62.toNatClampNeg l11_104.toNatClampNeg (by omega) (by omega)
                      rw [show (a_arrayFrom x62.toNatClampNeg).toNatClampNeg + l11_104.toNatClampNeg = x159.toNatClampNeg by omega] at h2
                      obtain ⟨h2a, h2b, h2c⟩ := h2
                      rw [← e_x190, ← e_x197, ← e_x204] at h2a
                      rw [← e_x190, ← e_x204] at h2b
                      refine call_i (As := [.int x169, .int x176, .long x183, .int x190, .int x197, .long x204]) (rest := []) ⟨hx, hb, hml, hown, hts⟩ (tX10_equal_q2 (l := l) x169 x176 x183 x190 x197 x204 (by first | assumption | omega | (intros; omega) | decide) (by exact h1a) (by exact h2a) (by intro q; have z := h1b q; omega)) (cwV 6 hts (gV (wr52 _ (List.mem_of_getElem? (i := 21) rfl)) (wr52 _ (List.mem_of_getElem? (i := 22) rfl)) (wr52 _ (List.mem_of_getElem? (i := 23) rfl)) (wr1 _ (List.mem_of_getElem? (i := 5) rfl)) (wr53 _ (List.mem_of_getElem? (i := 0) rfl))) rfl rfl rfl (by decide +kernel) ⟨Nat.le_of_ble_eq_true rfl, Nat.le_of_ble_eq_true rfl⟩) (va_recv hK hP (ci := 9) (q0 := 0) rfl rfl) hK hP hD hE hS hA rfl hl.1 rfl (Nat.le_of_ble_eq_true rfl) dX10_equal_205 ⟨Nat.le_of_ble_eq_true rfl, Nat.le_of_ble_eq_true rfl⟩ (fun r205 w9 H locs hw205 hP hD hS => ?_)
                      obtain ⟨v_looked_205, rfl, hw205_0⟩ := hw205
                      have b_v_looked_205 := iB v_looked_205
                      have b_r205 := iB r205
                      refine m_if_ne (X := r205.toInt) (tgt := 213) hx hb dX10_equal_208 (by decide) rfl (fun c208 => ?_) (fun c208 => ?_)
                      · skip
                        obtain ⟨x213, e_x213⟩ : ∃ z : Int32, z = l11_104 + (1 : Int32) := ⟨_, rfl⟩
                        obtain ⟨k_x213, g_x213⟩ : ∃ k : Int, x213.toInt = l11_104.toInt + (1) + k * 4294967296 := by rw [e_x213]; exact iAdd l11_104 (1)
                        have b_x213 := iB x213
                        try (have q_x213 : x213.toInt = l11_104.toInt + (1) := (by omega); clear g_x213 k_x213)
                        refine lv_iinc (v := x213) (lv' := [(11, .int x213), (13, .int x159), (12, .int x147), (0, .ref (q 0)), (9, .int x57), (10, .int x62)]) hx hb dX10_equal_213 hl (k := 5) rfl (by rw [e_x213]; rfl) (by decide) rfl (fun ls hl => ?_)
                        refine lv_goto (tgt := 104) hx hb dX10_equal_216 (by decide) ?_
                        exact ih104 x213 v_looked_205 H locs ls (by first | assumption | omega | (intros; omega) | decide) (by first | assumption | omega | (intros; omega) | decide) (by omega) hP hD hS (lv_sub hl [3, 4, 5, 0] rfl)
                      · skip
                        refine lv_iconst (v := 0) hx hb dX10_equal_211 (by decide) ?_
                        subst hAe
                        rw [hQ]
                        exact W.zret (v := 0) hx hb hr (by decide) (fun t ht hW => ⟨⟨0, _, rfl, ⟨v_looked_205, rfl, by first | assumption | omega | (intros; omega) | decide⟩, by rw [ht]; exact hP, va_K.moved hW.alike hK, hD⟩, hS.F ht⟩) hS.2.2 dX10_equal_212
                    · skip
                      refine lv_iconst (v := 0) hx hb dX10_equal_136 (by decide) ?_
                      subst hAe
                      rw [hQ]
                      exact W.zret (v := 0) hx hb hr (by decide) (fun t ht hW => ⟨⟨0, _, rfl, ⟨x122, rfl, by first | assumption | omega | (intros; omega) | decide⟩, by rw [ht]; exact hP, va_K.moved hW.alike hK, hD⟩, hS.F ht⟩) hS.2.2 dX10_equal_137
              exact J104 ((500 - (0 : Int32).toInt).toNat + 1) (0 : Int32) v_looked H locs ls (by first | assumption | omega | (intros; omega) | decide) (by first | assumption | omega | (intros; omega) | decide) (by omega) hP hD hS (lv_sub hl [3, 2, 1, 0] rfl)
            · skip
              refine lv_iconst (v := 0) hx hb dX10_equal_99 (by decide) ?_
              subst hAe
              rw [hQ]
              exact W.zret (v := 0) hx hb hr (by decide) (fun t ht hW => ⟨⟨0, _, rfl, ⟨v_looked, rfl, by first | assumption | omega | (intros; omega) | decide⟩, by rw [ht]; exact hP, va_K.moved hW.alike hK, hD⟩, hS.F ht⟩) hS.2.2 dX10_equal_100
        · skip
          refine lv_lload_n hx hb dX10_equal_43 rfl (lv_at hl 3 rfl) ?_
          refine lv_lload hx hb dX10_equal_44 (lv_at hl 6 rfl) ?_
          refine m_lcmp (X := u1.toInt) (Y := u2.toInt) hx hb dX10_equal_46 rfl rfl (fun x46 g_x46 => ?_)
          refine m_if_ne (X := x46.toInt) (tgt := 54) hx hb dX10_equal_47 (by decide) rfl (fun c47 => ?_) (fun c47 => ?_)
          · skip
            refine lv_iconst (v := 0) hx hb dX10_equal_54 (by decide) ?_
            subst hAe
            rw [hQ]
            exact W.zret (v := 0) hx hb hr (by decide) (fun t ht hW => ⟨⟨0, _, rfl, ⟨v_looked, rfl, by first | assumption | omega | (intros; omega) | decide⟩, by rw [ht]; exact hP, va_K.moved hW.alike hK, hD⟩, hS.F ht⟩) hS.2.2 dX10_equal_55
          · skip
            refine lv_iconst (v := 1) hx hb dX10_equal_50 (by decide) ?_
            refine lv_goto (tgt := 55) hx hb dX10_equal_51 (by decide) ?_
            subst hAe
            rw [hQ]
            exact W.zret (v := 1) hx hb hr (by decide) (fun t ht hW => ⟨⟨1, _, rfl, ⟨v_looked, rfl, by first | assumption | omega | (intros; omega) | decide⟩, by rw [ht]; exact hP, va_K.moved hW.alike hK, hD⟩, hS.F ht⟩) hS.2.2 dX10_equal_55
      · skip
        refine lv_iload_n hx hb dX10_equal_19 rfl (lv_at hl 2 rfl) ?_
        refine lv_iload hx hb dX10_equal_20 (lv_at hl 5 rfl) ?_
        refine m_icmp_ne (X := k1.toInt) (Y := k2.toInt) (tgt := 36) hx hb dX10_equal_22 (by decide) rfl rfl (fun c22 => ?_) (fun c22 => ?_)
        · skip
          refine lv_iconst (v := 0) hx hb dX10_equal_36 (by decide) ?_
          subst hAe
          rw [hQ]
          exact W.zret (v := 0) hx hb hr (by decide) (fun t ht hW => ⟨⟨0, _, rfl, ⟨v_looked, rfl, by first | assumption | omega | (intros; omega) | decide⟩, by rw [ht]; exact hP, va_K.moved hW.alike hK, hD⟩, hS.F ht⟩) hS.2.2 dX10_equal_37
        · skip
          refine lv_lload_n hx hb dX10_equal_25 rfl (lv_at hl 3 rfl) ?_
          refine lv_lload hx hb dX10_equal_26 (lv_at hl 6 rfl) ?_
          refine m_lcmp (X := u1.toInt) (Y := u2.toInt) hx hb dX10_equal_28 rfl rfl (fun x28 g_x28 => ?_)
          refine m_if_ne (X := x28.toInt) (tgt := 36) hx hb dX10_equal_29 (by decide) rfl (fun c29 => ?_) (fun c29 => ?_)
          · skip
            refine lv_iconst (v := 0) hx hb dX10_equal_36 (by decide) ?_
            subst hAe
            rw [hQ]
            exact W.zret (v := 0) hx hb hr (by decide) (fun t ht hW => ⟨⟨0, _, rfl, ⟨v_looked, rfl, by first | assumption | omega | (intros; omega) | decide⟩, by rw [ht]; exact hP, va_K.moved hW.alike hK, hD⟩, hS.F ht⟩) hS.2.2 dX10_equal_37
          · skip
            refine lv_iconst (v := 1) hx hb dX10_equal_32 (by decide) ?_
            refine lv_goto (tgt := 37) hx hb dX10_equal_33 (by decide) ?_
            subst hAe
            rw [hQ]
            exact W.zret (v := 1) hx hb hr (by decide) (fun t ht hW => ⟨⟨1, _, rfl, ⟨v_looked, rfl, by first | assumption | omega | (intros; omega) | decide⟩, by rw [ht]; exact hP, va_K.moved hW.alike hK, hD⟩, hS.F ht⟩) hS.2.2 dX10_equal_37
    · skip
      refine lv_iconst (v := 1) hx hb dX10_equal_12 (by decide) ?_
      subst hAe
      rw [hQ]
      exact W.zret (v := 1) hx hb hr (by decide) (fun t ht hW => ⟨⟨1, _, rfl, ⟨v_looked, rfl, by first | assumption | omega | (intros; omega) | decide⟩, by rw [ht]; exact hP, va_K.moved hW.alike hK, hD⟩, hS.F ht⟩) hS.2.2 dX10_equal_13
  · skip
    refine lv_iconst (v := 0) hx hb dX10_equal_6 (by decide) ?_
    subst hAe
    rw [hQ]
    exact W.zret (v := 0) hx hb hr (by decide) (fun t ht hW => ⟨⟨0, _, rfl, ⟨v_looked, rfl, by first | assumption | omega | (intros; omega) | decide⟩, by rw [ht]; exact hP, va_K.moved hW.alike hK, hD⟩, hS.F ht⟩) hS.2.2 dX10_equal_7
