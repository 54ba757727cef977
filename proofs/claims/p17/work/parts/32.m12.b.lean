def rmX10_reads : Room := { frames := 80, cells := 0, slots := 0, locals := 1600 }
set_option maxHeartbeats 4000000 in
set_option maxRecDepth 100000 in
theorem tX10_reads {l : Launch} {D : va_G} {K : Nat → Nat → Nat} {cs : Nat → ClassId} {q : Nat → Nat} {v_thrown v_taped v_size v_to v_kind v_from v_letterMany v_isBeyond v_suffix v_steps v_fault v_hasProgram v_wrong v_wrongAt v_variable v_numberKind v_takes v_outed v_creatures v_arrays v_cells v_marks v_came v_guessed v_right v_taken v_sort v_kindAt v_reached v_looked : Int32} {a_tape a_text a_act a_guess a_take a_begin a_finish a_to1 a_one a_two a_what a_ats a_atVar a_atNumber a_atomSort a_atomKind a_out a_varSort a_varKind a_creature a_arrayClass a_arrayFrom a_arrayLong a_cellSort a_cellKind a_asideSort a_asideKind a_outcome a_markSort a_markKind a_markClass a_index : Nat → Int32} {v_letters v_digits v_number v_value : Int64} {a_atomValue a_varValue a_cellValue a_asideValue a_markValue : Nat → Int64} (s9 : Int32) (p_0 : RUN a_varSort a_varKind a_varValue v_arrays v_cells v_creatures a_arrayClass a_arrayFrom a_arrayLong a_cellSort a_cellKind a_cellValue) (p_1 : R25 a_one) (p_2 : R25 a_to1) (p_3 : R03 a_ats) (p_4 : 0 ≤ s9.toInt) (p_5 : s9.toInt ≤ 201) (p_6 : 1 ≤ (a_ats s9.toNatClampNeg).toInt) : CtI l yX10_reads (wG yX10_reads cX10_reads 5 (some .int)) rmX10_reads D (mwT cs) K [.ref (q 0), .int s9] (mw cs q v_thrown a_tape v_taped v_size v_to v_kind v_from v_letters v_letterMany v_digits v_isBeyond v_suffix v_steps v_fault v_hasProgram a_text a_act a_guess a_take a_begin a_finish a_to1 a_one a_two a_what a_ats a_atVar a_atNumber a_atomSort a_atomKind a_atomValue v_wrong v_wrongAt v_variable v_number v_numberKind v_takes a_out v_outed a_varSort a_varKind a_varValue a_creature v_creatures a_arrayClass a_arrayFrom a_arrayLong v_arrays v_cells a_cellSort a_cellKind a_cellValue a_asideSort a_asideKind a_asideValue a_outcome v_marks v_came v_guessed v_right v_taken a_markSort a_markKind a_markClass a_markValue v_sort v_kindAt v_value a_index v_reached v_looked) (fun r w1 => ∃ (a_varSort' : Nat → Int32) (a_varKind' : Nat → Int32) (a_varValue' : Nat → Int64) (v_sort' : Int32) (v_kindAt' : Int32) (v_value' : Int64) (v_reached' : Int32), w1 = (mw cs q v_thrown a_tape v_taped v_size v_to v_kind v_from v_letters v_letterMany v_digits v_isBeyond v_suffix v_steps v_fault v_hasProgram a_text a_act a_guess a_take a_begin a_finish a_to1 a_one a_two a_what a_ats a_atVar a_atNumber a_atomSort a_atomKind a_atomValue v_wrong v_wrongAt v_variable v_number v_numberKind v_takes a_out v_outed a_varSort' a_varKind' a_varValue' a_creature v_creatures a_arrayClass a_arrayFrom a_arrayLong v_arrays v_cells a_cellSort a_cellKind a_cellValue a_asideSort a_asideKind a_asideValue a_outcome v_marks v_came v_guessed v_right v_taken a_markSort a_markKind a_markClass a_markValue v_sort' v_kindAt' v_value' a_index v_reached' v_looked) ∧ (RUN a_varSort' a_varKind' a_varValue' v_arrays v_cells v_creatures a_arrayClass a_arrayFrom a_arrayLong a_cellSort a_cellKind a_cellValue) ∧ (0 ≤ r.toInt)) 0 0 := by
  intro sz
  refine Met.ofW (cc := cX10_reads) (maxL := 5) (ret := (some .int)) (by decide) rfl ?_
  intro p e s m args below meth c s₁ B hml hv
  obtain ⟨rfl, hsz, hP, hK, hD0, hE⟩ := hv
  have hx := B.exec
  have hb := B.bytes
  have hr := B.returns
  have hts := atoms_spec (ws := (wG yX10_reads cX10_reads 5 (some .int))) B.pre
  have hown : s.vm.findClass RX10 = some m.cls := findClass_of_methodNamed B.named
  have hlocks := B.notSynchronized
  subst hsz
  have hD := hD0.self (sz := s.heap.size)
  obtain ⟨A, hAe⟩ : ∃ A : Nat → Prop, A = va_A (mw cs q v_thrown a_tape v_taped v_size v_to v_kind v_from v_letters v_letterMany v_digits v_isBeyond v_suffix v_steps v_fault v_hasProgram a_text a_act a_guess a_take a_begin a_finish a_to1 a_one a_two a_what a_ats a_atVar a_atNumber a_atomSort a_atomKind a_atomValue v_wrong v_wrongAt v_variable v_number v_numberKind v_takes a_out v_outed a_varSort a_varKind a_varValue a_creature v_creatures a_arrayClass a_arrayFrom a_arrayLong v_arrays v_cells a_cellSort a_cellKind a_cellValue a_asideSort a_asideKind a_asideValue a_outcome v_marks v_came v_guessed v_right v_taken a_markSort a_markKind a_markClass a_markValue v_sort v_kindAt v_value a_index v_reached v_looked) s.heap.size := ⟨_, rfl⟩
  rw [← hAe] at hD hE
  have hA : ∀ q : Nat, s.heap.size ≤ q → A q := fun q h => by rw [hAe]; exact Or.inr h
  have hS : va_S A s.heap s.heap [] := va_S.rf
  have hl := lv_entry ([.ref (q 0), .int s9]) (n := 5) (Nat.le_of_ble_eq_true rfl)
  rw [lg_entry_eq]
  generalize (lg_sl ([.ref (q 0), .int s9]) ++ List.replicate (5 - (lg_sl ([.ref (q 0), .int s9])).length) Slot.unset).toArray = ls at hl ⊢
  have hl : lv_has ls 5 [(0, .ref (q 0)), (1, .int s9)] := hl
  refine wq (fun Q hQ => ?_)
  have hin : ∀ w ∈ wsX100, w ∈ (wG yX10_reads cX10_reads 5 (some .int)) := fun w h => List.mem_cons_of_mem _ (inlX10 w h)
  have kc0 : (0 : Int32).toInt = 0 := by decide
  have kc1 : (1 : Int32).toInt = 1 := by decide
  have kc2 : (2 : Int32).toInt = 2 := by decide
  have kc3 : (4 : Int32).toInt = 4 := by decide
  have kc4 : (6 : Int32).toInt = 6 := by decide
  have k_6_5 := hts (.fieldLink RX10 77 "ArrayTrainerModel" "arrayClass" "[I") (List.mem_cons_of_mem _ (wr6 _ (List.mem_of_getElem? (i := 5) rfl)))
  have k_48_11 := hts (.fieldLink RX10 510 "ArrayTrainerModel" "reached" "I") (List.mem_cons_of_mem _ (wr48 _ (List.mem_of_getElem? (i := 11) rfl)))
  have k_6_19 := hts (.fieldLink RX10 119 "ArrayTrainerModel" "index" "[I") (List.mem_cons_of_mem _ (wr6 _ (List.mem_of_getElem? (i := 19) rfl)))
  have k_5_18 := hts (.fieldLink RX10 43 "ArrayTrainerModel" "ats" "[I") (List.mem_cons_of_mem _ (wr5 _ (List.mem_of_getElem? (i := 18) rfl)))
  have k_5_9 := hts (.fieldLink RX10 16 "ArrayTrainerModel" "act" "[I") (List.mem_cons_of_mem _ (wr5 _ (List.mem_of_getElem? (i := 9) rfl)))
  have k_5_14 := hts (.fieldLink RX10 31 "ArrayTrainerModel" "to1" "[I") (List.mem_cons_of_mem _ (wr5 _ (List.mem_of_getElem? (i := 14) rfl)))
  have k_47_13 := hts (.fieldLink RX10 496 "ArrayTrainerModel" "kindAt" "I") (List.mem_cons_of_mem _ (wr47 _ (List.mem_of_getElem? (i := 13) rfl)))
  have k_5_17 := hts (.fieldLink RX10 40 "ArrayTrainerModel" "what" "[I") (List.mem_cons_of_mem _ (wr5 _ (List.mem_of_getElem? (i := 17) rfl)))
  have k_47_14 := hts (.fieldLink RX10 499 "ArrayTrainerModel" "value" "J") (List.mem_cons_of_mem _ (wr47 _ (List.mem_of_getElem? (i := 14) rfl)))
  obtain ⟨H, hH⟩ : ∃ H : Heap, H = s.heap := ⟨_, rfl⟩
  obtain ⟨locs, hlc⟩ : ∃ L : List Loc, L = [] := ⟨_, rfl⟩
  have hP : va_P D vwCl (mw cs q v_thrown a_tape v_taped v_size v_to v_kind v_from v_letters v_letterMany v_digits v_isBeyond v_suffix v_steps v_fault v_hasProgram a_text a_act a_guess a_take a_begin a_finish a_to1 a_one a_two a_what a_ats a_atVar a_atNumber a_atomSort a_atomKind a_atomValue v_wrong v_wrongAt v_variable v_number v_numberKind v_takes a_out v_outed a_varSort a_varKind a_varValue a_creature v_creatures a_arrayClass a_arrayFrom a_arrayLong v_arrays v_cells a_cellSort a_cellKind a_cellValue a_asideSort a_asideKind a_asideValue a_outcome v_marks v_came v_guessed v_right v_taken a_markSort a_markKind a_markClass a_markValue v_sort v_kindAt v_value a_index v_reached v_looked) H := by rw [hH]; exact hP
  have hS : va_S A s.heap H locs := by rw [hH, hlc]; exact hS
  refine wHL hH hlc ?_
  have b_s9 := iB s9
  have hr9 := p_0.1
  have ht9 := p_2 s9.toNatClampNeg
  have ha9 := p_3 s9.toNatClampNeg
  refine lv_aload_n hx hb dX10_reads_0 rfl (lv_at hl 0 rfl) ?_
  refine lv_iload_n hx hb dX10_reads_1 rfl (lv_at hl 1 rfl) ?_
  refine call_i (As := [.int s9]) (rest := []) ⟨hx, hb, hml, hown, hts⟩ (tX10_reach (l := l) s9 (by first | assumption | omega | (intros; omega) | decide) (by first | assumption | omega | (intros; omega) | decide) (by first | assumption | omega | (intros; omega) | decide) (by first | assumption | omega | (intros; omega) | decide) (by first | assumption | omega | (intros; omega) | decide)) (cwV 1 hts (gV (wr48 _ (List.mem_of_getElem? (i := 12) rfl)) (wr48 _ (List.mem_of_getElem? (i := 13) rfl)) (wr48 _ (List.mem_of_getElem? (i := 14) rfl)) (wr1 _ (List.mem_of_getElem? (i := 5) rfl)) (wr48 _ (List.mem_of_getElem? (i := 15) rfl))) rfl rfl rfl (by decide +kernel) ⟨Nat.le_of_ble_eq_true rfl, Nat.le_of_ble_eq_true rfl⟩) (va_recv hK hP (ci := 9) (q0 := 0) rfl rfl) hK hP hD hE hS hA rfl hl.1 rfl (Nat.le_of_ble_eq_true rfl) dX10_reads_2 ⟨Nat.le_of_ble_eq_true rfl, Nat.le_of_ble_eq_true rfl⟩ (fun r2 w9 H locs hw2 hP hD hS => ?_)
  obtain ⟨v_sort_2, v_kindAt_2, v_value_2, v_reached_2, rfl, hw2_0, hw2_1⟩ := hw2
  have b_v_sort_2 := iB v_sort_2
  have b_v_kindAt_2 := iB v_kindAt_2
  have b_v_value_2 := jB v_value_2
  have b_v_reached_2 := iB v_reached_2
  have b_r2 := iB r2
  refine lv_istore_n (lv' := [(2, .int r2), (0, .ref (q 0)), (1, .int s9)]) hx hb dX10_reads_5 rfl hl (by decide) rfl (fun ls hl => ?_)
  refine lv_iload_n hx hb dX10_reads_6 rfl (lv_at hl 0 rfl) ?_
  refine m_if_le (X := r2.toInt) (tgt := 12) hx hb dX10_reads_7 (by decide) rfl (fun c7 => ?_) (fun c7 => ?_)
  · skip
    refine lv_aload_n hx hb dX10_reads_12 rfl (lv_at hl 1 rfl) ?_
    refine va_get (D := D) (ci := 9) (v := .ref (q 23)) (C := RX10) (T := TX10) (N := 71) hx hb hts hin hown hK hP 0 rfl rfl 44 (by decide) k_6_5 (fun _ h9 => h9) rfl dX10_reads_13 ?_
    refine lv_aload_n hx hb dX10_reads_16 rfl (lv_at hl 1 rfl) ?_
    refine va_get (D := D) (ci := 9) (v := .int v_reached_2) (C := RX10) (T := TX10) (N := 71) hx hb hts hin hown hK hP 0 rfl rfl 69 (by decide) k_48_11 (fun _ h9 => h9) rfl dX10_reads_17 ?_
    refine m_iald hx hb hK hP 23 0 rfl rfl (ix (by omega) (by omega)) dX10_reads_20 (fun x20 e_x20 => ?_)
    have b_x20 := iB x20
    have hx20 := congrArg Int32.toInt e_x20
    refine lv_istore_n (lv' := [(3, .int x20), (2, .int r2), (0, .ref (q 0)), (1, .int s9)]) hx hb dX10_reads_21 rfl hl (by decide) rfl (fun ls hl => ?_)
    refine lv_aload_n hx hb dX10_reads_22 rfl (lv_at hl 2 rfl) ?_
    refine va_get (D := D) (ci := 9) (v := .ref (q 37)) (C := RX10) (T := TX10) (N := 71) hx hb hts hin hown hK hP 0 rfl rfl 68 (by decide) k_6_19 (fun _ h9 => h9) rfl dX10_reads_23 ?_
    refine lv_aload_n hx hb dX10_reads_26 rfl (lv_at hl 2 rfl) ?_
    refine va_get (D := D) (ci := 9) (v := .ref (q 12)) (C := RX10) (T := TX10) (N := 71) hx hb hts hin hown hK hP 0 rfl rfl 25 (by decide) k_5_18 (fun _ h9 => h9) rfl dX10_reads_27 ?_
    refine lv_iload_n hx hb dX10_reads_30 rfl (lv_at hl 3 rfl) ?_
    refine m_iald hx hb hK hP 12 0 rfl rfl (ix (by omega) (by omega)) dX10_reads_31 (fun x31 e_x31 => ?_)
    have b_x31 := iB x31
    have hx31 := congrArg Int32.toInt e_x31
    refine lv_iconst (v := 1) hx hb dX10_reads_32 (by decide) ?_
    refine m_isub (X := x31.toInt) (Y := 1) hx hb dX10_reads_33 rfl (by decide) (fun x33 e_x33 g9 => ?_)
    obtain ⟨k_x33, g_x33⟩ := g9
    have b_x33 := iB x33
    try (have q_x33 : x33.toInt = x31.toInt - 1 := (by omega); clear g_x33 k_x33)
    refine m_iald hx hb hK hP 37 0 rfl rfl (ix (by omega) (by omega)) dX10_reads_34 (fun x34 e_x34 => ?_)
    have b_x34 := iB x34
    refine lv_istore (lv' := [(4, .int x34), (3, .int x20), (2, .int r2), (0, .ref (q 0)), (1, .int s9)]) hx hb dX10_reads_35 hl (by decide) rfl (fun ls hl => ?_)
    refine lv_aload_n hx hb dX10_reads_37 rfl (lv_at hl 3 rfl) ?_
    refine va_get (D := D) (ci := 9) (v := .ref (q 3)) (C := RX10) (T := TX10) (N := 71) hx hb hts hin hown hK hP 0 rfl rfl 16 (by decide) k_5_9 (fun _ h9 => h9) rfl dX10_reads_38 ?_
    refine lv_iload_n hx hb dX10_reads_41 rfl (lv_at hl 4 rfl) ?_
    refine m_iald hx hb hK hP 3 0 rfl rfl (ix (by omega) (by omega)) dX10_reads_42 (fun x42 e_x42 => ?_)
    have b_x42 := iB x42
    have hx42 := congrArg Int32.toInt e_x42
    refine lv_iconst (v := 4) hx hb dX10_reads_43 (by decide) ?_
    have J57 : ∀ (H : Heap) (locs : List Loc) (ls : Array Slot), ((a_act s9.toNatClampNeg).toInt = 4 → (a_arrayClass v_reached_2.toNatClampNeg).toInt < 28) → va_P D vwCl (mw cs q v_thrown a_tape v_taped v_size v_to v_kind v_from v_letters v_letterMany v_digits v_isBeyond v_suffix v_steps v_fault v_hasProgram a_text a_act a_guess a_take a_begin a_finish a_to1 a_one a_two a_what a_ats a_atVar a_atNumber a_atomSort a_atomKind a_atomValue v_wrong v_wrongAt v_variable v_number v_numberKind v_takes a_out v_outed a_varSort a_varKind a_varValue a_creature v_creatures a_arrayClass a_arrayFrom a_arrayLong v_arrays v_cells a_cellSort a_cellKind a_cellValue a_asideSort a_asideKind a_asideValue a_outcome v_marks v_came v_guessed v_right v_taken a_markSort a_markKind a_markClass a_markValue v_sort_2 v_kindAt_2 v_value_2 a_index v_reached_2 v_looked) H → va_D A (mw cs q v_thrown a_tape v_taped v_size v_to v_kind v_from v_letters v_letterMany v_digits v_isBeyond v_suffix v_steps v_fault v_hasProgram a_text a_act a_guess a_take a_begin a_finish a_to1 a_one a_two a_what a_ats a_atVar a_atNumber a_atomSort a_atomKind a_atomValue v_wrong v_wrongAt v_variable v_number v_numberKind v_takes a_out v_outed a_varSort a_varKind a_varValue a_creature v_creatures a_arrayClass a_arrayFrom a_arrayLong v_arrays v_cells a_cellSort a_cellKind a_cellValue a_asideSort a_asideKind a_asideValue a_outcome v_marks v_came v_guessed v_right v_taken a_markSort a_markKind a_markClass a_markValue v_sort_2 v_kindAt_2 v_value_2 a_index v_reached_2 v_looked) → va_S A s.heap H locs → lv_has ls 5 [(0, .ref (q 0)), (1, .int s9), (4, .int x34)] → W p l e (headSpec (wG yX10_reads cX10_reads 5 (some .int)) rmX10_reads).room s m ([.ref (q 0), .int s9] : List Value).toArray below meth c H locs 0 0 Q (F0 m 57 ls []) := by
      intro H locs ls f57_0 hP hD hS hl
      refine lv_aload_n hx hb dX10_reads_57 rfl (lv_at hl 0 rfl) ?_
      refine lv_iload hx hb dX10_reads_58 (lv_at hl 2 rfl) ?_
      refine call_i (As := [.int x34]) (rest := []) ⟨hx, hb, hml, hown, hts⟩ (tX10_isCell (l := l) x34 (by first | assumption | omega | (intros; omega) | decide) (by first | assumption | omega | (intros; omega) | decide)) (cwV 1 hts (gV (wr48 _ (List.mem_of_getElem? (i := 20) rfl)) (wr48 _ (List.mem_of_getElem? (i := 21) rfl)) (wr48 _ (List.mem_of_getElem? (i := 22) rfl)) (wr1 _ (List.mem_of_getElem? (i := 5) rfl)) (wr48 _ (List.mem_of_getElem? (i := 23) rfl))) rfl rfl rfl (by decide +kernel) ⟨Nat.le_of_ble_eq_true rfl, Nat.le_of_ble_eq_true rfl⟩) (va_recv hK hP (ci := 9) (q0 := 0) rfl rfl) hK hP hD hE hS hA rfl hl.1 rfl (Nat.le_of_ble_eq_true rfl) dX10_reads_60 ⟨Nat.le_of_ble_eq_true rfl, Nat.le_of_ble_eq_true rfl⟩ (fun r60 w9 H locs hw60 hP hD hS => ?_)
      obtain ⟨rfl, hw60_0⟩ := hw60
      have b_r60 := iB r60
      refine m_if_ne (X := r60.toInt) (tgt := 68) hx hb dX10_reads_63 (by decide) rfl (fun c63 => ?_) (fun c63 => ?_)
      · skip
        refine lv_aload_n hx hb dX10_reads_68 rfl (lv_at hl 0 rfl) ?_
        refine lv_aload_n hx hb dX10_reads_69 rfl (lv_at hl 0 rfl) ?_
        refine va_get (D := D) (ci := 9) (v := .int v_reached_2) (C := RX10) (T := TX10) (N := 71) hx hb hts hin hown hK hP 0 rfl rfl 69 (by decide) k_48_11 (fun _ h9 => h9) rfl dX10_reads_70 ?_
        refine lv_iload hx hb dX10_reads_73 (lv_at hl 2 rfl) ?_
        refine call_v (As := [.int v_reached_2, .int x34]) (rest := []) ⟨hx, hb, hml, hown, hts⟩ (tX10_ofCell (l := l) v_reached_2 x34 (by first | assumption | omega | (intros; omega) | decide) (by first | assumption | omega | (intros; omega) | decide) (by first | assumption | omega | (intros; omega) | decide) (by first | assumption | omega | (intros; omega) | decide) (by first | assumption | omega | (intros; omega) | decide)) (cwV 2 hts (gV (wr49 _ (List.mem_of_getElem? (i := 0) rfl)) (wr49 _ (List.mem_of_getElem? (i := 1) rfl)) (wr49 _ (List.mem_of_getElem? (i := 2) rfl)) (wr1 _ (List.mem_of_getElem? (i := 5) rfl)) (wr49 _ (List.mem_of_getElem? (i := 3) rfl))) rfl rfl rfl (by decide +kernel) ⟨Nat.le_of_ble_eq_true rfl, Nat.le_of_ble_eq_true rfl⟩) (va_recv hK hP (ci := 9) (q0 := 0) rfl rfl) hK hP hD hE hS hA rfl hl.1 rfl (Nat.le_of_ble_eq_true rfl) dX10_reads_75 ⟨Nat.le_of_ble_eq_true rfl, Nat.le_of_ble_eq_true rfl⟩ (fun w9 H locs hw75 hP hD hS => ?_)
        obtain ⟨v_sort_75, v_kindAt_75, v_value_75, rfl, hw75_0, hw75_1, hw75_2⟩ := hw75
        have b_v_sort_75 := iB v_sort_75
        have b_v_kindAt_75 := iB v_kindAt_75
        have b_v_value_75 := jB v_value_75
        refine lv_aload_n hx hb dX10_reads_78 rfl (lv_at hl 0 rfl) ?_
        refine va_get (D := D) (ci := 9) (v := .ref (q 3)) (C := RX10) (T := TX10) (N := 71) hx hb hts hin hown hK hP 0 rfl rfl 16 (by decide) k_5_9 (fun _ h9 => h9) rfl dX10_reads_79 ?_
        refine lv_iload_n hx hb dX10_reads_82 rfl (lv_at hl 1 rfl) ?_
        refine m_iald hx hb hK hP 3 0 rfl rfl (ix (by omega) (by omega)) dX10_reads_83 (fun x83 e_x83 => ?_)
        have b_x83 := iB x83
        have hx83 := congrArg Int32.toInt e_x83
        refine lv_iconst (v := 4) hx hb dX10_reads_84 (by decide) ?_
        have J134 : ∀ (v_kindAt_134 : Int32) (v_sort_134 : Int32) (v_value_134 : Int64) (H : Heap) (locs : List Loc) (ls : Array Slot), (VOK v_arrays.toInt v_creatures.toInt v_sort_134 v_kindAt_134 v_value_134) → va_P D vwCl (mw cs q v_thrown a_tape v_taped v_size v_to v_kind v_from v_letters v_letterMany v_digits v_isBeyond v_suffix v_steps v_fault v_hasProgram a_text a_act a_guess a_take a_begin a_finish a_to1 a_one a_two a_what a_ats a_atVar a_atNumber a_atomSort a_atomKind a_atomValue v_wrong v_wrongAt v_variable v_number v_numberKind v_takes a_out v_outed a_varSort a_varKind a_varValue a_creature v_creatures a_arrayClass a_arrayFrom a_arrayLong v_arrays v_cells a_cellSort a_cellKind a_cellValue a_asideSort a_asideKind a_asideValue a_outcome v_marks v_came v_guessed v_right v_taken a_markSort a_markKind a_markClass a_markValue v_sort_134 v_kindAt_134 v_value_134 a_index v_reached_2 v_looked) H → va_D A (mw cs q v_thrown a_tape v_taped v_size v_to v_kind v_from v_letters v_letterMany v_digits v_isBeyond v_suffix v_steps v_fault v_hasProgram a_text a_act a_guess a_take a_begin a_finish a_to1 a_one a_two a_what a_ats a_atVar a_atNumber a_atomSort a_atomKind a_atomValue v_wrong v_wrongAt v_variable v_number v_numberKind v_takes a_out v_outed a_varSort a_varKind a_varValue a_creature v_creatures a_arrayClass a_arrayFrom a_arrayLong v_arrays v_cells a_cellSort a_cellKind a_cellValue a_asideSort a_asideKind a_asideValue a_outcome v_marks v_came v_guessed v_right v_taken a_markSort a_markKind a_markClass a_markValue v_sort_134 v_kindAt_134 v_value_134 a_index v_reached_2 v_looked) → va_S A s.heap H locs → lv_has ls 5 [(0, .ref (q 0)), (1, .int s9)] → W p l e (headSpec (wG yX10_reads cX10_reads 5 (some .int)) rmX10_reads).room s m ([.ref (q 0), .int s9] : List Value).toArray below meth c H locs 0 0 Q (F0 m 134 ls []) := by
          intro v_kindAt_134 v_sort_134 v_value_134 H locs ls f134_0 hP hD hS hl
          refine lv_aload_n hx hb dX10_reads_134 rfl (lv_at hl 0 rfl) ?_
          refine lv_aload_n hx hb dX10_reads_135 rfl (lv_at hl 0 rfl) ?_
          refine va_get (D := D) (ci := 9) (v := .ref (q 8)) (C := RX10) (T := TX10) (N := 71) hx hb hts hin hown hK hP 0 rfl rfl 21 (by decide) k_5_14 (fun _ h9 => h9) rfl dX10_reads_136 ?_
          refine lv_iload_n hx hb dX10_reads_139 rfl (lv_at hl 1 rfl) ?_
          refine m_iald hx hb hK hP 8 0 rfl rfl (ix (by omega) (by omega)) dX10_reads_140 (fun x140 e_x140 => ?_)
          have b_x140 := iB x140
          have hx140 := congrArg Int32.toInt e_x140
          refine call_v (As := [.int x140]) (rest := []) ⟨hx, hb, hml, hown, hts⟩ (tX10_toVar (l := l) x140 (by first | assumption | omega | (intros; omega) | decide) (by first | assumption | omega | (intros; omega) | decide) (by first | assumption | omega | (intros; omega) | decide) (by first | assumption | omega | (intros; omega) | decide)) (cwV 1 hts (gV (wr48 _ (List.mem_of_getElem? (i := 3) rfl)) (wr48 _ (List.mem_of_getElem? (i := 4) rfl)) (wr48 _ (List.mem_of_getElem? (i := 5) rfl)) (wr1 _ (List.mem_of_getElem? (i := 5) rfl)) (wr48 _ (List.mem_of_getElem? (i := 6) rfl))) rfl rfl rfl (by decide +kernel) ⟨Nat.le_of_ble_eq_true rfl, Nat.le_of_ble_eq_true rfl⟩) (va_recv hK hP (ci := 9) (q0 := 0) rfl rfl) hK hP hD hE hS hA rfl hl.1 rfl (Nat.le_of_ble_eq_true rfl) dX10_reads_141 ⟨Nat.le_of_ble_eq_true rfl, Nat.le_of_ble_eq_true rfl⟩ (fun w9 H locs hw141 hP hD hS => ?_)
          obtain ⟨a_varSort_141, a_varKind_141, a_varValue_141, rfl, hw141_0⟩ := hw141
          refine lv_iconst (v := 0) hx hb dX10_reads_144 (by decide) ?_
          subst hAe
          rw [hQ]
          exact W.iret (v := 0) hx hb hr (fun t ht hW => ⟨⟨0, _, rfl, ⟨a_varSort_141, a_varKind_141, a_varValue_141, v_sort_134, v_kindAt_134, v_value_134, v_reached_2, rfl, by first | assumption | omega | (intros; omega) | decide, by first | assumption | omega | (intros; omega) | decide⟩, by rw [ht]; exact hP, va_K.moved hW.alike hK, hD⟩, hS.F ht⟩) hS.2.2 dX10_reads_145
        refine m_icmp_ne (X := x83.toInt) (Y := 4) (tgt := 134) hx hb dX10_reads_85 (by decide) rfl (by decide) (fun c85 => ?_) (fun c85 => ?_)
        · skip
          exact J134 v_kindAt_75 v_sort_75 v_value_75 H locs ls (by first | assumption | exact ⟨⟨by omega, by omega⟩, fun q => by omega, fun q => by omega, fun _ => by rw [hw131_1, hw131_2, e_x113, ← e_x127]; exact hw128_0⟩) hP hD hS (lv_sub hl [0, 1] rfl)
        · skip
          refine lv_aload_n hx hb dX10_reads_88 rfl (lv_at hl 0 rfl) ?_
          refine va_get (D := D) (ci := 9) (v := .int v_kindAt_75) (C := RX10) (T := TX10) (N := 71) hx hb hts hin hown hK hP 0 rfl rfl 66 (by decide) k_47_13 (fun _ h9 => h9) rfl dX10_reads_89 ?_
          refine lv_aload_n hx hb dX10_reads_92 rfl (lv_at hl 0 rfl) ?_
          refine va_get (D := D) (ci := 9) (v := .ref (q 11)) (C := RX10) (T := TX10) (N := 71) hx hb hts hin hown hK hP 0 rfl rfl 24 (by decide) k_5_17 (fun _ h9 => h9) rfl dX10_reads_93 ?_
          refine lv_iload_n hx hb dX10_reads_96 rfl (lv_at hl 1 rfl) ?_
          refine m_iald hx hb hK hP 11 0 rfl rfl (ix (by omega) (by omega)) dX10_reads_97 (fun x97 e_x97 => ?_)
          have b_x97 := iB x97
          refine call_iSP (As := [.int v_kindAt_75, .int x97]) (rest := []) ⟨hx, hb, hml, hown, hts⟩ (tX10_widens (l := l) v_kindAt_75 x97) (va_cwS 2 hts (gS (wr49 _ (List.mem_of_getElem? (i := 7) rfl)) (wr49 _ (List.mem_of_getElem? (i := 8) rfl)) (wr1 _ (List.mem_of_getElem? (i := 5) rfl)) (wr49 _ (List.mem_of_getElem? (i := 9) rfl))) rfl rfl rfl (by decide +kernel) ⟨Nat.le_of_ble_eq_true rfl, Nat.le_of_ble_eq_true rfl⟩) (hK.sub [] rfl) hP hD hE hS hA rfl hl.1 rfl (Nat.le_of_ble_eq_true rfl) dX10_reads_98 ⟨Nat.le_of_ble_eq_true rfl, Nat.le_of_ble_eq_true rfl⟩ (fun r98 w9 H locs hw98 hP hD hS => ?_)
          obtain ⟨rfl, hw98_0⟩ := hw98
          have b_r98 := iB r98
          refine m_if_ne (X := r98.toInt) (tgt := 107) hx hb dX10_reads_101 (by decide) rfl (fun c101 => ?_) (fun c101 => ?_)
          · skip
            refine lv_aload_n hx hb dX10_reads_107 rfl (lv_at hl 0 rfl) ?_
            refine lv_aload_n hx hb dX10_reads_108 rfl (lv_at hl 0 rfl) ?_
            refine va_get (D := D) (ci := 9) (v := .ref (q 11)) (C := RX10) (T := TX10) (N := 71) hx hb hts hin hown hK hP 0 rfl rfl 24 (by decide) k_5_17 (fun _ h9 => h9) rfl dX10_reads_109 ?_
            refine lv_iload_n hx hb dX10_reads_112 rfl (lv_at hl 1 rfl) ?_
            refine m_iald hx hb hK hP 11 0 rfl rfl (ix (by omega) (by omega)) dX10_reads_113 (fun x113 e_x113 => ?_)
            have b_x113 := iB x113
            refine lv_aload_n hx hb dX10_reads_114 rfl (lv_at hl 0 rfl) ?_
            refine va_get (D := D) (ci := 9) (v := .int v_kindAt_75) (C := RX10) (T := TX10) (N := 71) hx hb hts hin hown hK hP 0 rfl rfl 66 (by decide) k_47_13 (fun _ h9 => h9) rfl dX10_reads_115 ?_
            refine lv_aload_n hx hb dX10_reads_118 rfl (lv_at hl 0 rfl) ?_
            refine va_get (D := D) (ci := 9) (v := .long v_value_75) (C := RX10) (T := TX10) (N := 71) hx hb hts hin hown hK hP 0 rfl rfl 67 (by decide) k_47_14 (fun _ h9 => h9) rfl dX10_reads_119 ?_
            refine lv_aload_n hx hb dX10_reads_122 rfl (lv_at hl 0 rfl) ?_
            refine va_get (D := D) (ci := 9) (v := .ref (q 11)) (C := RX10) (T := TX10) (N := 71) hx hb hts hin hown hK hP 0 rfl rfl 24 (by decide) k_5_17 (fun _ h9 => h9) rfl dX10_reads_123 ?_
            refine lv_iload_n hx hb dX10_reads_126 rfl (lv_at hl 1 rfl) ?_
            refine m_iald hx hb hK hP 11 0 rfl rfl (ix (by omega) (by omega)) dX10_reads_127 (fun x127 e_x127 => ?_)
            have b_x127 := iB x127
            refine call_jSP (As := [.int v_kindAt_75, .long v_value_75, .int x127]) (rest := [.int x113, .ref (q 0)]) ⟨hx, hb, hml, hown, hts⟩ (tX10_widened (l := l) v_kindAt_75 v_value_75 x127 (by exact hw75_0.2.2.2 (hw75_2 (f57_0 (by omega))))) (va_cwS 3 hts (gS (wr27 _ (List.mem_of_getElem? (i := 12) rfl)) (wr27 _ (List.mem_of_getElem? (i := 13) rfl)) (wr1 _ (List.mem_of_getElem? (i := 5) rfl)) (wr27 _ (List.mem_of_getElem? (i := 14) rfl))) rfl rfl rfl (by decide +kernel) ⟨Nat.le_of_ble_eq_true rfl, Nat.le_of_ble_eq_true rfl⟩) (hK.sub [] rfl) hP hD hE hS hA rfl hl.1 rfl (Nat.le_of_ble_eq_true rfl) dX10_reads_128 ⟨Nat.le_of_ble_eq_true rfl, Nat.le_of_ble_eq_true rfl⟩ (fun r128 w9 H locs hw128 hP hD hS => ?_)
            obtain ⟨rfl, hw128_0⟩ := hw128
            have b_r128 := jB r128
            refine call_v (As := [.int x113, .long r128]) (rest := []) ⟨hx, hb, hml, hown, hts⟩ (tX10_number (l := l) x113 r128) (cwV 2 hts (gV (wr47 _ (List.mem_of_getElem? (i := 19) rfl)) (wr47 _ (List.mem_of_getElem? (i := 20) rfl)) (wr47 _ (List.mem_of_getElem? (i := 21) rfl)) (wr1 _ (List.mem_of_getElem? (i := 5) rfl)) (wr47 _ (List.mem_of_getElem? (i := 22) rfl))) rfl rfl rfl (by decide +kernel) ⟨Nat.le_of_ble_eq_true rfl, Nat.le_of_ble_eq_true rfl⟩) (va_recv hK hP (ci := 9) (q0 := 0) rfl rfl) hK hP hD hE hS hA rfl hl.1 rfl (Nat.le_of_ble_eq_true rfl) dX10_reads_131 ⟨Nat.le_of_ble_eq_true rfl, Nat.le_of_ble_eq_true rfl⟩ (fun w9 H locs hw131 hP hD hS => ?_)
            obtain ⟨v_sort_131, v_kindAt_131, v_value_131, rfl, hw131_0, hw131_1, hw131_2⟩ := hw131
            have b_v_sort_131 := iB v_sort_131
            have b_v_kindAt_131 := iB v_kindAt_131
            have b_v_value_131 := jB v_value_131
            exact J134 v_kindAt_131 v_sort_131 v_value_131 H locs ls (by first | assumption | exact ⟨⟨by omega, by omega⟩, fun q => by omega, fun q => by omega, fun _ => by rw [hw131_1, hw131_2, e_x113, ← e_x127]; exact hw128_0⟩) hP hD hS (lv_sub hl [0, 1] rfl)
          · skip
            refine lv_bipush (v := 6) hx hb dX10_reads_104 (by decide) ?_
            subst hAe
            rw [hQ]
            exact W.iret (v := 6) hx hb hr (fun t ht hW => ⟨⟨6, _, rfl, ⟨a_varSort, a_varKind, a_varValue, v_sort_75, v_kindAt_75, v_value_75, v_reached_2, rfl, by first | assumption | omega | (intros; omega) | decide, by first | assumption | omega | (intros; omega) | decide⟩, by rw [ht]; exact hP, va_K.moved hW.alike hK, hD⟩, hS.F ht⟩) hS.2.2 dX10_reads_106
      · skip
        refine lv_iconst (v := 2) hx hb dX10_reads_66 (by decide) ?_
        subst hAe
        rw [hQ]
        exact W.iret (v := 2) hx hb hr (fun t ht hW => ⟨⟨2, _, rfl, ⟨a_varSort, a_varKind, a_varValue, v_sort_2, v_kindAt_2, v_value_2, v_reached_2, rfl, by first | assumption | omega | (intros; omega) | decide, by first | assumption | omega | (intros; omega) | decide⟩, by rw [ht]; exact hP, va_K.moved hW.alike hK, hD⟩, hS.F ht⟩) hS.2.2 dX10_reads_67
    refine m_icmp_ne (X := x42.toInt) (Y := 4) (tgt := 57) hx hb dX10_reads_44 (by decide) rfl (by decide) (fun c44 => ?_) (fun c44 => ?_)
    · skip
      exact J57 H locs ls (by first | assumption | omega | (intros; omega) | decide) hP hD hS (lv_sub hl [3, 4, 0] rfl)
    · skip
      refine lv_iload_n hx hb dX10_reads_47 rfl (lv_at hl 1 rfl) ?_
      refine call_iSP (As := [.int x20]) (rest := []) ⟨hx, hb, hml, hown, hts⟩ (tX10_isOfNumbers (l := l) x20) (va_cwS 1 hts (gS (wr49 _ (List.mem_of_getElem? (i := 4) rfl)) (wr49 _ (List.mem_of_getElem? (i := 5) rfl)) (wr1 _ (List.mem_of_getElem? (i := 5) rfl)) (wr49 _ (List.mem_of_getElem? (i := 6) rfl))) rfl rfl rfl (by decide +kernel) ⟨Nat.le_of_ble_eq_true rfl, Nat.le_of_ble_eq_true rfl⟩) (hK.sub [] rfl) hP hD hE hS hA rfl hl.1 rfl (Nat.le_of_ble_eq_true rfl) dX10_reads_48 ⟨Nat.le_of_ble_eq_true rfl, Nat.le_of_ble_eq_true rfl⟩ (fun r48 w9 H locs hw48 hP hD hS => ?_)
      obtain ⟨rfl, hw48_0⟩ := hw48
      have b_r48 := iB r48
      refine m_if_ne (X := r48.toInt) (tgt := 57) hx hb dX10_reads_51 (by decide) rfl (fun c51 => ?_) (fun c51 => ?_)
      · skip
        exact J57 H locs ls (by first | assumption | omega | (intros; omega) | decide) hP hD hS (lv_sub hl [3, 4, 0] rfl)
      · skip
        refine lv_bipush (v := 6) hx hb dX10_reads_54 (by decide) ?_
        subst hAe
        rw [hQ]
        exact W.iret (v := 6) hx hb hr (fun t ht hW => ⟨⟨6, _, rfl, ⟨a_varSort, a_varKind, a_varValue, v_sort_2, v_kindAt_2, v_value_2, v_reached_2, rfl, by first | assumption | omega | (intros; omega) | decide, by first | assumption | omega | (intros; omega) | decide⟩, by rw [ht]; exact hP, va_K.moved hW.alike hK, hD⟩, hS.F ht⟩) hS.2.2 dX10_reads_56
  · skip
    refine lv_iload_n hx hb dX10_reads_10 rfl (lv_at hl 0 rfl) ?_
    subst hAe
    rw [hQ]
    exact W.iret (v := r2) hx hb hr (fun t ht hW => ⟨⟨r2, _, rfl, ⟨a_varSort, a_varKind, a_varValue, v_sort_2, v_kindAt_2, v_value_2, v_reached_2, rfl, by first | assumption | omega | (intros; omega) | decide, by first | assumption | omega | (intros; omega) | decide⟩, by rw [ht]; exact hP, va_K.moved hW.alike hK, hD⟩, hS.F ht⟩) hS.2.2 dX10_reads_11

def rmX10_casts : Room := { frames := 60, cells := 0, slots := 0, locals := 1200 }
set_option maxHeartbeats 4000000 in
set_option maxRecDepth 100000 in
theorem tX10_casts {l : Launch} {D : va_G} {K : Nat → Nat → Nat} {cs : Nat → ClassId} {q : Nat → Nat} {v_thrown v_taped v_size v_to v_kind v_from v_letterMany v_isBeyond v_suffix v_steps v_fault v_hasProgram v_wrong v_wrongAt v_variable v_numberKind v_takes v_outed v_creatures v_arrays v_cells v_marks v_came v_guessed v_right v_taken v_sort v_kindAt v_reached v_looked : Int32} {a_tape a_text a_act a_guess a_take a_begin a_finish a_to1 a_one a_two a_what a_ats a_atVar a_atNumber a_atomSort a_atomKind a_out a_varSort a_varKind a_creature a_arrayClass a_arrayFrom a_arrayLong a_cellSort a_cellKind a_asideSort a_asideKind a_outcome a_markSort a_markKind a_markClass a_index : Nat → Int32} {v_letters v_digits v_number v_value : Int64} {a_atomValue a_varValue a_cellValue a_asideValue a_markValue : Nat → Int64} (s9 : Int32) (p_0 : RUN a_varSort a_varKind a_varValue v_arrays v_cells v_creatures a_arrayClass a_arrayFrom a_arrayLong a_cellSort a_cellKind a_cellValue) (p_1 : R25 a_one) (p_2 : R25 a_to1) (p_3 : 0 ≤ s9.toInt) (p_4 : s9.toInt ≤ 201) : CtI l yX10_casts (wG yX10_casts cX10_casts 2 (some .int)) rmX10_casts D (mwT cs) K [.ref (q 0), .int s9] (mw cs q v_thrown a_tape v_taped v_size v_to v_kind v_from v_letters v_letterMany v_digits v_isBeyond v_suffix v_steps v_fault v_hasProgram a_text a_act a_guess a_take a_begin a_finish a_to1 a_one a_two a_what a_ats a_atVar a_atNumber a_atomSort a_atomKind a_atomValue v_wrong v_wrongAt v_variable v_number v_numberKind v_takes a_out v_outed a_varSort a_varKind a_varValue a_creature v_creatures a_arrayClass a_arrayFrom a_arrayLong v_arrays v_cells a_cellSort a_cellKind a_cellValue a_asideSort a_asideKind a_asideValue a_outcome v_marks v_came v_guessed v_right v_taken a_markSort a_markKind a_markClass a_markValue v_sort v_kindAt v_value a_index v_reached v_looked) (fun r w1 => ∃ (a_varSort' : Nat → Int32) (a_varKind' : Nat → Int32) (a_varValue' : Nat → Int64) (v_sort' : Int32) (v_kindAt' : Int32) (v_value' : Int64), w1 = (mw cs q v_thrown a_tape v_taped v_size v_to v_kind v_from v_letters v_letterMany v_digits v_isBeyond v_suffix v_steps v_fault v_hasProgram a_text a_act a_guess a_take a_begin a_finish a_to1 a_one a_two a_what a_ats a_atVar a_atNumber a_atomSort a_atomKind a_atomValue v_wrong v_wrongAt v_variable v_number v_numberKind v_takes a_out v_outed a_varSort' a_varKind' a_varValue' a_creature v_creatures a_arrayClass a_arrayFrom a_arrayLong v_arrays v_cells a_cellSort a_cellKind a_cellValue a_asideSort a_asideKind a_asideValue a_outcome v_marks v_came v_guessed v_right v_taken a_markSort a_markKind a_markClass a_markValue v_sort' v_kindAt' v_value' a_index v_reached v_looked) ∧ (RUN a_varSort' a_varKind' a_varValue' v_arrays v_cells v_creatures a_arrayClass a_arrayFrom a_arrayLong a_cellSort a_cellKind a_cellValue) ∧ (0 ≤ r.toInt)) 0 0 := by
  intro sz
  refine Met.ofW (cc := cX10_casts) (maxL := 2) (ret := (some .int)) (by decide) rfl ?_
  intro p e s m args below meth c s₁ B hml hv
  obtain ⟨rfl, hsz, hP, hK, hD0, hE⟩ := hv
  have hx := B.exec
  have hb := B.bytes
  have hr := B.returns
  have hts := atoms_spec (ws := (wG yX10_casts cX10_casts 2 (some .int))) B.pre
  have hown : s.vm.findClass RX10 = some m.cls := findClass_of_methodNamed B.named
  have hlocks := B.notSynchronized
  subst hsz
  have hD := hD0.self (sz := s.heap.size)
  obtain ⟨A, hAe⟩ : ∃ A : Nat → Prop, A = va_A (mw cs q v_thrown a_tape v_taped v_size v_to v_kind v_from v_letters v_letterMany v_digits v_isBeyond v_suffix v_steps v_fault v_hasProgram a_text a_act a_guess a_take a_begin a_finish a_to1 a_one a_two a_what a_ats a_atVar a_atNumber a_atomSort a_atomKind a_atomValue v_wrong v_wrongAt v_variable v_number v_numberKind v_takes a_out v_outed a_varSort a_varKind a_varValue a_creature v_creatures a_arrayClass a_arrayFrom a_arrayLong v_arrays v_cells a_cellSort a_cellKind a_cellValue a_asideSort a_asideKind a_asideValue a_outcome v_marks v_came v_guessed v_right v_taken a_markSort a_markKind a_markClass a_markValue v_sort v_kindAt v_value a_index v_reached v_looked) s.heap.size := ⟨_, rfl⟩
  rw [← hAe] at hD hE
  have hA : ∀ q : Nat, s.heap.size ≤ q → A q := fun q h => by rw [hAe]; exact Or.inr h
  have hS : va_S A s.heap s.heap [] := va_S.rf
  have hl := lv_entry ([.ref (q 0), .int s9]) (n := 2) (Nat.le_of_ble_eq_true rfl)
  rw [lg_entry_eq]
  generalize (lg_sl ([.ref (q 0), .int s9]) ++ List.replicate (2 - (lg_sl ([.ref (q 0), .int s9])).length) Slot.unset).toArray = ls at hl ⊢
  have hl : lv_has ls 2 [(0, .ref (q 0)), (1, .int s9)] := hl
  refine wq (fun Q hQ => ?_)
  have hin : ∀ w ∈ wsX100, w ∈ (wG yX10_casts cX10_casts 2 (some .int)) := fun w h => List.mem_cons_of_mem _ (inlX10 w h)
  have kc0 : (0 : Int32).toInt = 0 := by decide
  have kc1 : (1 : Int32).toInt = 1 := by decide
  have kc2 : (5 : Int32).toInt = 5 := by decide
  have kc3 : (6 : Int32).toInt = 6 := by decide
  have k_5_15 := hts (.fieldLink RX10 34 "ArrayTrainerModel" "one" "[I") (List.mem_cons_of_mem _ (wr5 _ (List.mem_of_getElem? (i := 15) rfl)))
  have k_47_12 := hts (.fieldLink RX10 493 "ArrayTrainerModel" "sort" "I") (List.mem_cons_of_mem _ (wr47 _ (List.mem_of_getElem? (i := 12) rfl)))
  have k_5_14 := hts (.fieldLink RX10 31 "ArrayTrainerModel" "to1" "[I") (List.mem_cons_of_mem _ (wr5 _ (List.mem_of_getElem? (i := 14) rfl)))
  have k_5_17 := hts (.fieldLink RX10 40 "ArrayTrainerModel" "what" "[I") (List.mem_cons_of_mem _ (wr5 _ (List.mem_of_getElem? (i := 17) rfl)))
  have k_47_13 := hts (.fieldLink RX10 496 "ArrayTrainerModel" "kindAt" "I") (List.mem_cons_of_mem _ (wr47 _ (List.mem_of_getElem? (i := 13) rfl)))
  obtain ⟨H, hH⟩ : ∃ H : Heap, H = s.heap := ⟨_, rfl⟩
  obtain ⟨locs, hlc⟩ : ∃ L : List Loc, L = [] := ⟨_, rfl⟩
  have hP : va_P D vwCl (mw cs q v_thrown a_tape v_taped v_size v_to v_kind v_from v_letters v_letterMany v_digits v_isBeyond v_suffix v_steps v_fault v_hasProgram a_text a_act a_guess a_take a_begin a_finish a_to1 a_one a_two a_what a_ats a_atVar a_atNumber a_atomSort a_atomKind a_atomValue v_wrong v_wrongAt v_variable v_number v_numberKind v_takes a_out v_outed a_varSort a_varKind a_varValue a_creature v_creatures a_arrayClass a_arrayFrom a_arrayLong v_arrays v_cells a_cellSort a_cellKind a_cellValue a_asideSort a_asideKind a_asideValue a_outcome v_marks v_came v_guessed v_right v_taken a_markSort a_markKind a_markClass a_markValue v_sort v_kindAt v_value a_index v_reached v_looked) H := by rw [hH]; exact hP
  have hS : va_S A s.heap H locs := by rw [hH, hlc]; exact hS
  refine wHL hH hlc ?_
  have b_s9 := iB s9
  have hr9 := p_0.1
  have ho9 := p_1 s9.toNatClampNeg
  have ht9 := p_2 s9.toNatClampNeg
  refine lv_aload_n hx hb dX10_casts_0 rfl (lv_at hl 0 rfl) ?_
  refine lv_aload_n hx hb dX10_casts_1 rfl (lv_at hl 0 rfl) ?_
  refine va_get (D := D) (ci := 9) (v := .ref (q 9)) (C := RX10) (T := TX10) (N := 71) hx hb hts hin hown hK hP 0 rfl rfl 22 (by decide) k_5_15 (fun _ h9 => h9) rfl dX10_casts_2 ?_
  refine lv_iload_n hx hb dX10_casts_5 rfl (lv_at hl 1 rfl) ?_
  refine m_iald hx hb hK hP 9 0 rfl rfl (ix (by omega) (by omega)) dX10_casts_6 (fun x6 e_x6 => ?_)
  have b_x6 := iB x6
  have hx6 := congrArg Int32.toInt e_x6
  refine call_v (As := [.int x6]) (rest := []) ⟨hx, hb, hml, hown, hts⟩ (tX10_ofVar (l := l) x6 (by first | assumption | omega | (intros; omega) | decide) (by first | assumption | omega | (intros; omega) | decide) (by first | assumption | omega | (intros; omega) | decide)) (cwV 1 hts (gV (wr47 _ (List.mem_of_getElem? (i := 15) rfl)) (wr47 _ (List.mem_of_getElem? (i := 16) rfl)) (wr47 _ (List.mem_of_getElem? (i := 17) rfl)) (wr1 _ (List.mem_of_getElem? (i := 5) rfl)) (wr47 _ (List.mem_of_getElem? (i := 18) rfl))) rfl rfl rfl (by decide +kernel) ⟨Nat.le_of_ble_eq_true rfl, Nat.le_of_ble_eq_true rfl⟩) (va_recv hK hP (ci := 9) (q0 := 0) rfl rfl) hK hP hD hE hS hA rfl hl.1 rfl (Nat.le_of_ble_eq_true rfl) dX10_casts_7 ⟨Nat.le_of_ble_eq_true rfl, Nat.le_of_ble_eq_true rfl⟩ (fun w9 H locs hw7 hP hD hS => ?_)
  obtain ⟨v_sort_7, v_kindAt_7, v_value_7, rfl, hw7_0, hw7_1, hw7_2, hw7_3⟩ := hw7
  have b_v_sort_7 := iB v_sort_7
  have b_v_kindAt_7 := iB v_kindAt_7
  have b_v_value_7 := jB v_value_7
  refine lv_aload_n hx hb dX10_casts_10 rfl (lv_at hl 0 rfl) ?_
  refine va_get (D := D) (ci := 9) (v := .int v_sort_7) (C := RX10) (T := TX10) (N := 71) hx hb hts hin hown hK hP 0 rfl rfl 65 (by decide) k_47_12 (fun _ h9 => h9) rfl dX10_casts_11 ?_
  refine lv_iconst (v := 1) hx hb dX10_casts_14 (by decide) ?_
  have J34 : ∀ (H : Heap) (locs : List Loc) (ls : Array Slot), va_P D vwCl (mw cs q v_thrown a_tape v_taped v_size v_to v_kind v_from v_letters v_letterMany v_digits v_isBeyond v_suffix v_steps v_fault v_hasProgram a_text a_act a_guess a_take a_begin a_finish a_to1 a_one a_two a_what a_ats a_atVar a_atNumber a_atomSort a_atomKind a_atomValue v_wrong v_wrongAt v_variable v_number v_numberKind v_takes a_out v_outed a_varSort a_varKind a_varValue a_creature v_creatures a_arrayClass a_arrayFrom a_arrayLong v_arrays v_cells a_cellSort a_cellKind a_cellValue a_asideSort a_asideKind a_asideValue a_outcome v_marks v_came v_guessed v_right v_taken a_markSort a_markKind a_markClass a_markValue v_sort_7 v_kindAt_7 v_value_7 a_index v_reached v_looked) H → va_D A (mw cs q v_thrown a_tape v_taped v_size v_to v_kind v_from v_letters v_letterMany v_digits v_isBeyond v_suffix v_steps v_fault v_hasProgram a_text a_act a_guess a_take a_begin a_finish a_to1 a_one a_two a_what a_ats a_atVar a_atNumber a_atomSort a_atomKind a_atomValue v_wrong v_wrongAt v_variable v_number v_numberKind v_takes a_out v_outed a_varSort a_varKind a_varValue a_creature v_creatures a_arrayClass a_arrayFrom a_arrayLong v_arrays v_cells a_cellSort a_cellKind a_cellValue a_asideSort a_asideKind a_asideValue a_outcome v_marks v_came v_guessed v_right v_taken a_markSort a_markKind a_markClass a_markValue v_sort_7 v_kindAt_7 v_value_7 a_index v_reached v_looked) → va_S A s.heap H locs → lv_has ls 2 [(0, .ref (q 0)), (1, .int s9)] → W p l e (headSpec (wG yX10_casts cX10_casts 2 (some .int)) rmX10_casts).room s m ([.ref (q 0), .int s9] : List Value).toArray below meth c H locs 0 0 Q (F0 m 34 ls []) := by
    intro H locs ls hP hD hS hl
    refine lv_aload_n hx hb dX10_casts_34 rfl (lv_at hl 0 rfl) ?_
    refine va_get (D := D) (ci := 9) (v := .int v_sort_7) (C := RX10) (T := TX10) (N := 71) hx hb hts hin hown hK hP 0 rfl rfl 65 (by decide) k_47_12 (fun _ h9 => h9) rfl dX10_casts_35 ?_
    refine lv_iconst (v := 1) hx hb dX10_casts_38 (by decide) ?_
    have J60 : ∀ (H : Heap) (locs : List Loc) (ls : Array Slot), va_P D vwCl (mw cs q v_thrown a_tape v_taped v_size v_to v_kind v_from v_letters v_letterMany v_digits v_isBeyond v_suffix v_steps v_fault v_hasProgram a_text a_act a_guess a_take a_begin a_finish a_to1 a_one a_two a_what a_ats a_atVar a_atNumber a_atomSort a_atomKind a_atomValue v_wrong v_wrongAt v_variable v_number v_numberKind v_takes a_out v_outed a_varSort a_varKind a_varValue a_creature v_creatures a_arrayClass a_arrayFrom a_arrayLong v_arrays v_cells a_cellSort a_cellKind a_cellValue a_asideSort a_asideKind a_asideValue a_outcome v_marks v_came v_guessed v_right v_taken a_markSort a_markKind a_markClass a_markValue v_sort_7 v_kindAt_7 v_value_7 a_index v_reached v_looked) H → va_D A (mw cs q v_thrown a_tape v_taped v_size v_to v_kind v_from v_letters v_letterMany v_digits v_isBeyond v_suffix v_steps v_fault v_hasProgram a_text a_act a_guess a_take a_begin a_finish a_to1 a_one a_two a_what a_ats a_atVar a_atNumber a_atomSort a_atomKind a_atomValue v_wrong v_wrongAt v_variable v_number v_numberKind v_takes a_out v_outed a_varSort a_varKind a_varValue a_creature v_creatures a_arrayClass a_arrayFrom a_arrayLong v_arrays v_cells a_cellSort a_cellKind a_cellValue a_asideSort a_asideKind a_asideValue a_outcome v_marks v_came v_guessed v_right v_taken a_markSort a_markKind a_markClass a_markValue v_sort_7 v_kindAt_7 v_value_7 a_index v_reached v_looked) → va_S A s.heap H locs → lv_has ls 2 [(0, .ref (q 0)), (1, .int s9)] → W p l e (headSpec (wG yX10_casts cX10_casts 2 (some .int)) rmX10_casts).room s m ([.ref (q 0), .int s9] : List Value).toArray below meth c H locs 0 0 Q (F0 m 60 ls []) := by
      intro H locs ls hP hD hS hl
      refine lv_aload_n hx hb dX10_casts_60 rfl (lv_at hl 0 rfl) ?_
      refine lv_aload_n hx hb dX10_casts_61 rfl (lv_at hl 0 rfl) ?_
      refine va_get (D := D) (ci := 9) (v := .ref (q 8)) (C := RX10) (T := TX10) (N := 71) hx hb hts hin hown hK hP 0 rfl rfl 21 (by decide) k_5_14 (fun _ h9 => h9) rfl dX10_casts_62 ?_
      refine lv_iload_n hx hb dX10_casts_65 rfl (lv_at hl 1 rfl) ?_
      refine m_iald hx hb hK hP 8 0 rfl rfl (ix (by omega) (by omega)) dX10_casts_66 (fun x66 e_x66 => ?_)
      have b_x66 := iB x66
      have hx66 := congrArg Int32.toInt e_x66
      refine call_v (As := [.int x66]) (rest := []) ⟨hx, hb, hml, hown, hts⟩ (tX10_toVar (l := l) x66 (by first | assumption | omega | (intros; omega) | decide) (by first | assumption | omega | (intros; omega) | decide) (by first | assumption | omega | (intros; omega) | decide) (by first | assumption | omega | (intros; omega) | decide)) (cwV 1 hts (gV (wr48 _ (List.mem_of_getElem? (i := 3) rfl)) (wr48 _ (List.mem_of_getElem? (i := 4) rfl)) (wr48 _ (List.mem_of_getElem? (i := 5) rfl)) (wr1 _ (List.mem_of_getElem? (i := 5) rfl)) (wr48 _ (List.mem_of_getElem? (i := 6) rfl))) rfl rfl rfl (by decide +kernel) ⟨Nat.le_of_ble_eq_true rfl, Nat.le_of_ble_eq_true rfl⟩) (va_recv hK hP (ci := 9) (q0 := 0) rfl rfl) hK hP hD hE hS hA rfl hl.1 rfl (Nat.le_of_ble_eq_true rfl) dX10_casts_67 ⟨Nat.le_of_ble_eq_true rfl, Nat.le_of_ble_eq_true rfl⟩ (fun w9 H locs hw67 hP hD hS => ?_)
      obtain ⟨a_varSort_67, a_varKind_67, a_varValue_67, rfl, hw67_0⟩ := hw67
      refine lv_iconst (v := 0) hx hb dX10_casts_70 (by decide) ?_
      subst hAe
      rw [hQ]
      exact W.iret (v := 0) hx hb hr (fun t ht hW => ⟨⟨0, _, rfl, ⟨a_varSort_67, a_varKind_67, a_varValue_67, v_sort_7, v_kindAt_7, v_value_7, rfl, by first | assumption | omega | (intros; omega) | decide, by first | assumption | omega | (intros; omega) | decide⟩, by rw [ht]; exact hP, va_K.moved hW.alike hK, hD⟩, hS.F ht⟩) hS.2.2 dX10_casts_71
    refine m_icmp_le (X := v_sort_7.toInt) (Y := 1) (tgt := 60) hx hb dX10_casts_39 (by decide) rfl (by decide) (fun c39 => ?_) (fun c39 => ?_)
    · skip
      exact J60 H locs ls hP hD hS (lv_sub hl [0, 1] rfl)
    · skip
      refine lv_aload_n hx hb dX10_casts_42 rfl (lv_at hl 0 rfl) ?_
      refine call_i (As := []) (rest := []) ⟨hx, hb, hml, hown, hts⟩ (tX10_classOf (l := l)  (by first | assumption | omega | (intros; omega) | decide) (by first | assumption | omega | (intros; omega) | decide)) (cwV 0 hts (gV (wr49 _ (List.mem_of_getElem? (i := 21) rfl)) (wr49 _ (List.mem_of_getElem? (i := 22) rfl)) (wr49 _ (List.mem_of_getElem? (i := 23) rfl)) (wr1 _ (List.mem_of_getElem? (i := 5) rfl)) (wr50 _ (List.mem_of_getElem? (i := 0) rfl))) rfl rfl rfl (by decide +kernel) ⟨Nat.le_of_ble_eq_true rfl, Nat.le_of_ble_eq_true rfl⟩) (va_recv hK hP (ci := 9) (q0 := 0) rfl rfl) hK hP hD hE hS hA rfl hl.1 rfl (Nat.le_of_ble_eq_true rfl) dX10_casts_43 ⟨Nat.le_of_ble_eq_true rfl, Nat.le_of_ble_eq_true rfl⟩ (fun r43 w9 H locs hw43 hP hD hS => ?_)
      obtain ⟨rfl, hw43_0, hw43_1⟩ := hw43
      have b_r43 := iB r43
      refine lv_aload_n hx hb dX10_casts_46 rfl (lv_at hl 0 rfl) ?_
      refine va_get (D := D) (ci := 9) (v := .ref (q 11)) (C := RX10) (T := TX10) (N := 71) hx hb hts hin hown hK hP 0 rfl rfl 24 (by decide) k_5_17 (fun _ h9 => h9) rfl dX10_casts_47 ?_
      refine lv_iload_n hx hb dX10_casts_50 rfl (lv_at hl 1 rfl) ?_
      refine m_iald hx hb hK hP 11 0 rfl rfl (ix (by omega) (by omega)) dX10_casts_51 (fun x51 e_x51 => ?_)
      have b_x51 := iB x51
      refine call_iSP (As := [.int r43, .int x51]) (rest := []) ⟨hx, hb, hml, hown, hts⟩ (tX10_isBelow (l := l) r43 x51) (va_cwS 2 hts (gS (wr50 _ (List.mem_of_getElem? (i := 1) rfl)) (wr50 _ (List.mem_of_getElem? (i := 2) rfl)) (wr1 _ (List.mem_of_getElem? (i := 5) rfl)) (wr50 _ (List.mem_of_getElem? (i := 3) rfl))) rfl rfl rfl (by decide +kernel) ⟨Nat.le_of_ble_eq_true rfl, Nat.le_of_ble_eq_true rfl⟩) (hK.sub [] rfl) hP hD hE hS hA rfl hl.1 rfl (Nat.le_of_ble_eq_true rfl) dX10_casts_52 ⟨Nat.le_of_ble_eq_true rfl, Nat.le_of_ble_eq_true rfl⟩ (fun r52 w9 H locs hw52 hP hD hS => ?_)
      obtain ⟨rfl, hw52_0, hw52_1⟩ := hw52
      have b_r52 := iB r52
      refine m_if_ne (X := r52.toInt) (tgt := 60) hx hb dX10_casts_55 (by decide) rfl (fun c55 => ?_) (fun c55 => ?_)
      · skip
        exact J60 H locs ls hP hD hS (lv_sub hl [0, 1] rfl)
      · skip
        refine lv_iconst (v := 5) hx hb dX10_casts_58 (by decide) ?_
        subst hAe
        rw [hQ]
        exact W.iret (v := 5) hx hb hr (fun t ht hW => ⟨⟨5, _, rfl, ⟨a_varSort, a_varKind, a_varValue, v_sort_7, v_kindAt_7, v_value_7, rfl, by first | assumption | omega | (intros; omega) | decide, by first | assumption | omega | (intros; omega) | decide⟩, by rw [ht]; exact hP, va_K.moved hW.alike hK, hD⟩, hS.F ht⟩) hS.2.2 dX10_casts_59
  refine m_icmp_ne (X := v_sort_7.toInt) (Y := 1) (tgt := 34) hx hb dX10_casts_15 (by decide) rfl (by decide) (fun c15 => ?_) (fun c15 => ?_)
  · skip
    exact J34 H locs ls hP hD hS (lv_sub hl [0, 1] rfl)
  · skip
    refine lv_aload_n hx hb dX10_casts_18 rfl (lv_at hl 0 rfl) ?_
    refine va_get (D := D) (ci := 9) (v := .int v_kindAt_7) (C := RX10) (T := TX10) (N := 71) hx hb hts hin hown hK hP 0 rfl rfl 66 (by decide) k_47_13 (fun _ h9 => h9) rfl dX10_casts_19 ?_
    refine lv_aload_n hx hb dX10_casts_22 rfl (lv_at hl 0 rfl) ?_
    refine va_get (D := D) (ci := 9) (v := .ref (q 11)) (C := RX10) (T := TX10) (N := 71) hx hb hts hin hown hK hP 0 rfl rfl 24 (by decide) k_5_17 (fun _ h9 => h9) rfl dX10_casts_23 ?_
    refine lv_iload_n hx hb dX10_casts_26 rfl (lv_at hl 1 rfl) ?_
    refine m_iald hx hb hK hP 11 0 rfl rfl (ix (by omega) (by omega)) dX10_casts_27 (fun x27 e_x27 => ?_)
    have b_x27 := iB x27
    refine m_icmp_eq (X := v_kindAt_7.toInt) (Y := x27.toInt) (tgt := 34) hx hb dX10_casts_28 (by decide) rfl rfl (fun c28 => ?_) (fun c28 => ?_)
    · skip
      exact J34 H locs ls hP hD hS (lv_sub hl [0, 1] rfl)
    · skip
      refine lv_bipush (v := 6) hx hb dX10_casts_31 (by decide) ?_
      subst hAe
      rw [hQ]
      exact W.iret (v := 6) hx hb hr (fun t ht hW => ⟨⟨6, _, rfl, ⟨a_varSort, a_varKind, a_varValue, v_sort_7, v_kindAt_7, v_value_7, rfl, by first | assumption | omega | (intros; omega) | decide, by first | assumption | omega | (intros; omega) | decide⟩, by rw [ht]; exact hP, va_K.moved hW.alike hK, hD⟩, hS.F ht⟩) hS.2.2 dX10_casts_33

def rmX10_marks : Room := { frames := 40, cells := 0, slots := 0, locals := 800 }
set_option maxHeartbeats 4000000 in
set_option maxRecDepth 100000 in
theorem tX10_marks {l : Launch} {D : va_G} {K : Nat → Nat → Nat} {cs : Nat → ClassId} {q : Nat → Nat} {v_thrown v_taped v_size v_to v_kind v_from v_letterMany v_isBeyond v_suffix v_steps v_fault v_hasProgram v_wrong v_wrongAt v_variable v_numberKind v_takes v_outed v_creatures v_arrays v_cells v_marks v_came v_guessed v_right v_taken v_sort v_kindAt v_reached v_looked : Int32} {a_tape a_text a_act a_guess a_take a_begin a_finish a_to1 a_one a_two a_what a_ats a_atVar a_atNumber a_atomSort a_atomKind a_out a_varSort a_varKind a_creature a_arrayClass a_arrayFrom a_arrayLong a_cellSort a_cellKind a_asideSort a_asideKind a_outcome a_markSort a_markKind a_markClass a_index : Nat → Int32} {v_letters v_digits v_number v_value : Int64} {a_atomValue a_varValue a_cellValue a_asideValue a_markValue : Nat → Int64} (p_0 : RUN a_varSort a_varKind a_varValue v_arrays v_cells v_creatures a_arrayClass a_arrayFrom a_arrayLong a_cellSort a_cellKind a_cellValue) (p_1 : VOK v_arrays.toInt v_creatures.toInt v_sort v_kindAt v_value) (p_2 : 0 ≤ v_marks.toInt) (p_3 : v_marks.toInt ≤ 1000) (p_4 : ∀ j : Nat, (a_markSort j).toInt = 1 → NumOK (a_markKind j) (a_markValue j)) : CtV l yX10_marks (wG yX10_marks cX10_marks 1 none) rmX10_marks D (mwT cs) K [.ref (q 0)] (mw cs q v_thrown a_tape v_taped v_size v_to v_kind v_from v_letters v_letterMany v_digits v_isBeyond v_suffix v_steps v_fault v_hasProgram a_text a_act a_guess a_take a_begin a_finish a_to1 a_one a_two a_what a_ats a_atVar a_atNumber a_atomSort a_atomKind a_atomValue v_wrong v_wrongAt v_variable v_number v_numberKind v_takes a_out v_outed a_varSort a_varKind a_varValue a_creature v_creatures a_arrayClass a_arrayFrom a_arrayLong v_arrays v_cells a_cellSort a_cellKind a_cellValue a_asideSort a_asideKind a_asideValue a_outcome v_marks v_came v_guessed v_right v_taken a_markSort a_markKind a_markClass a_markValue v_sort v_kindAt v_value a_index v_reached v_looked) (fun w1 => ∃ (v_marks' : Int32) (a_markSort' : Nat → Int32) (a_markKind' : Nat → Int32) (a_markClass' : Nat → Int32) (a_markValue' : Nat → Int64), w1 = (mw cs q v_thrown a_tape v_taped v_size v_to v_kind v_from v_letters v_letterMany v_digits v_isBeyond v_suffix v_steps v_fault v_hasProgram a_text a_act a_guess a_take a_begin a_finish a_to1 a_one a_two a_what a_ats a_atVar a_atNumber a_atomSort a_atomKind a_atomValue v_wrong v_wrongAt v_variable v_number v_numberKind v_takes a_out v_outed a_varSort a_varKind a_varValue a_creature v_creatures a_arrayClass a_arrayFrom a_arrayLong v_arrays v_cells a_cellSort a_cellKind a_cellValue a_asideSort a_asideKind a_asideValue a_outcome v_marks' v_came v_guessed v_right v_taken a_markSort' a_markKind' a_markClass' a_markValue' v_sort v_kindAt v_value a_index v_reached v_looked) ∧ (v_marks'.toInt = v_marks.toInt + 1) ∧ (∀ j : Nat, (a_markSort' j).toInt = 1 → NumOK (a_markKind' j) (a_markValue' j))) 0 0 := by
  intro sz
  refine Met.ofW (cc := cX10_marks) (maxL := 1) (ret := none) (by decide) rfl ?_
  intro p e s m args below meth c s₁ B hml hv
  obtain ⟨rfl, hsz, hP, hK, hD0, hE⟩ := hv
  have hx := B.exec
  have hb := B.bytes
  have hr := B.returns
  have hts := atoms_spec (ws := (wG yX10_marks cX10_marks 1 none)) B.pre
  have hown : s.vm.findClass RX10 = some m.cls := findClass_of_methodNamed B.named
  have hlocks := B.notSynchronized
  subst hsz
  have hD := hD0.self (sz := s.heap.size)
  obtain ⟨A, hAe⟩ : ∃ A : Nat → Prop, A = va_A (mw cs q v_thrown a_tape v_taped v_size v_to v_kind v_from v_letters v_letterMany v_digits v_isBeyond v_suffix v_steps v_fault v_hasProgram a_text a_act a_guess a_take a_begin a_finish a_to1 a_one a_two a_what a_ats a_atVar a_atNumber a_atomSort a_atomKind a_atomValue v_wrong v_wrongAt v_variable v_number v_numberKind v_takes a_out v_outed a_varSort a_varKind a_varValue a_creature v_creatures a_arrayClass a_arrayFrom a_arrayLong v_arrays v_cells a_cellSort a_cellKind a_cellValue a_asideSort a_asideKind a_asideValue a_outcome v_marks v_came v_guessed v_right v_taken a_markSort a_markKind a_markClass a_markValue v_sort v_kindAt v_value a_index v_reached v_looked) s.heap.size := ⟨_, rfl⟩
  rw [← hAe] at hD hE
  have hA : ∀ q : Nat, s.heap.size ≤ q → A q := fun q h => by rw [hAe]; exact Or.inr h
  have hS : va_S A s.heap s.heap [] := va_S.rf
  have hl := lv_entry ([.ref (q 0)]) (n := 1) (Nat.le_of_ble_eq_true rfl)
  rw [lg_entry_eq]
  generalize (lg_sl ([.ref (q 0)]) ++ List.replicate (1 - (lg_sl ([.ref (q 0)])).length) Slot.unset).toArray = ls at hl ⊢
  have hl : lv_has ls 1 [(0, .ref (q 0))] := hl
  refine wq (fun Q hQ => ?_)
  have hin : ∀ w ∈ wsX100, w ∈ (wG yX10_marks cX10_marks 1 none) := fun w h => List.mem_cons_of_mem _ (inlX10 w h)
  have kc0 : (1 : Int32).toInt = 1 := by decide
  have kc1 : (50 : Int32).toInt = 50 := by decide
  have k_31_6 := hts (.fieldLink RX10 478 "ArrayTrainerModel" "marks" "I") (List.mem_cons_of_mem _ (wr31 _ (List.mem_of_getElem? (i := 6) rfl)))
  have k_6_15 := hts (.fieldLink RX10 107 "ArrayTrainerModel" "markSort" "[I") (List.mem_cons_of_mem _ (wr6 _ (List.mem_of_getElem? (i := 15) rfl)))
  have k_47_12 := hts (.fieldLink RX10 493 "ArrayTrainerModel" "sort" "I") (List.mem_cons_of_mem _ (wr47 _ (List.mem_of_getElem? (i := 12) rfl)))
  have k_6_16 := hts (.fieldLink RX10 110 "ArrayTrainerModel" "markKind" "[I") (List.mem_cons_of_mem _ (wr6 _ (List.mem_of_getElem? (i := 16) rfl)))
  have k_47_13 := hts (.fieldLink RX10 496 "ArrayTrainerModel" "kindAt" "I") (List.mem_cons_of_mem _ (wr47 _ (List.mem_of_getElem? (i := 13) rfl)))
  have k_6_18 := hts (.fieldLink RX10 116 "ArrayTrainerModel" "markValue" "[J") (List.mem_cons_of_mem _ (wr6 _ (List.mem_of_getElem? (i := 18) rfl)))
  have k_47_14 := hts (.fieldLink RX10 499 "ArrayTrainerModel" "value" "J") (List.mem_cons_of_mem _ (wr47 _ (List.mem_of_getElem? (i := 14) rfl)))
  have k_6_17 := hts (.fieldLink RX10 113 "ArrayTrainerModel" "markClass" "[I") (List.mem_cons_of_mem _ (wr6 _ (List.mem_of_getElem? (i := 17) rfl)))
  obtain ⟨H, hH⟩ : ∃ H : Heap, H = s.heap := ⟨_, rfl⟩
  obtain ⟨locs, hlc⟩ : ∃ L : List Loc, L = [] := ⟨_, rfl⟩
  have hP : va_P D vwCl (mw cs q v_thrown a_tape v_taped v_size v_to v_kind v_from v_letters v_letterMany v_digits v_isBeyond v_suffix v_steps v_fault v_hasProgram a_text a_act a_guess a_take a_begin a_finish a_to1 a_one a_two a_what a_ats a_atVar a_atNumber a_atomSort a_atomKind a_atomValue v_wrong v_wrongAt v_variable v_number v_numberKind v_takes a_out v_outed a_varSort a_varKind a_varValue a_creature v_creatures a_arrayClass a_arrayFrom a_arrayLong v_arrays v_cells a_cellSort a_cellKind a_cellValue a_asideSort a_asideKind a_asideValue a_outcome v_marks v_came v_guessed v_right v_taken a_markSort a_markKind a_markClass a_markValue v_sort v_kindAt v_value a_index v_reached v_looked) H := by rw [hH]; exact hP
  have hS : va_S A s.heap H locs := by rw [hH, hlc]; exact hS
  refine wHL hH hlc ?_
  refine lv_aload_n hx hb dX10_marks_0 rfl (lv_at hl 0 rfl) ?_
  refine va_get (D := D) (ci := 9) (v := .int v_marks) (C := RX10) (T := TX10) (N := 71) hx hb hts hin hown hK hP 0 rfl rfl 56 (by decide) k_31_6 (fun _ h9 => h9) rfl dX10_marks_1 ?_
  refine lv_bipush (v := 50) hx hb dX10_marks_4 (by decide) ?_
  have J61 : ∀ (a_markClass_61 : Nat → Int32) (a_markKind_61 : Nat → Int32) (a_markSort_61 : Nat → Int32) (a_markValue_61 : Nat → Int64) (H : Heap) (locs : List Loc) (ls : Array Slot), (∀ j : Nat, (a_markSort_61 j).toInt = 1 → NumOK (a_markKind_61 j) (a_markValue_61 j)) → va_P D vwCl (mw cs q v_thrown a_tape v_taped v_size v_to v_kind v_from v_letters v_letterMany v_digits v_isBeyond v_suffix v_steps v_fault v_hasProgram a_text a_act a_guess a_take a_begin a_finish a_to1 a_one a_two a_what a_ats a_atVar a_atNumber a_atomSort a_atomKind a_atomValue v_wrong v_wrongAt v_variable v_number v_numberKind v_takes a_out v_outed a_varSort a_varKind a_varValue a_creature v_creatures a_arrayClass a_arrayFrom a_arrayLong v_arrays v_cells a_cellSort a_cellKind a_cellValue a_asideSort a_asideKind a_asideValue a_outcome v_marks v_came v_guessed v_right v_taken a_markSort_61 a_markKind_61 a_markClass_61 a_markValue_61 v_sort v_kindAt v_value a_index v_reached v_looked) H → va_D A (mw cs q v_thrown a_tape v_taped v_size v_to v_kind v_from v_letters v_letterMany v_digits v_isBeyond v_suffix v_steps v_fault v_hasProgram a_text a_act a_guess a_take a_begin a_finish a_to1 a_one a_two a_what a_ats a_atVar a_atNumber a_atomSort a_atomKind a_atomValue v_wrong v_wrongAt v_variable v_number v_numberKind v_takes a_out v_outed a_varSort a_varKind a_varValue a_creature v_creatures a_arrayClass a_arrayFrom a_arrayLong v_arrays v_cells a_cellSort a_cellKind a_cellValue a_asideSort a_asideKind a_asideValue a_outcome v_marks v_came v_guessed v_right v_taken a_markSort_61 a_markKind_61 a_markClass_61 a_markValue_61 v_sort v_kindAt v_value a_index v_reached v_looked) → va_S A s.heap H locs → lv_has ls 1 [(0, .ref (q 0))] → W p l e (headSpec (wG yX10_marks cX10_marks 1 none) rmX10_marks).room s m ([.ref (q 0)] : List Value).toArray below meth c H locs 0 0 Q (F0 m 61 ls []) := by
    intro a_markClass_61 a_markKind_61 a_markSort_61 a_markValue_61 H locs ls f61_0 hP hD hS hl
    refine lv_aload_n hx hb dX10_marks_61 rfl (lv_at hl 0 rfl) ?_
    refine lv_dup hx hb dX10_marks_62 rfl ?_
    refine va_get (D := D) (ci := 9) (v := .int v_marks) (C := RX10) (T := TX10) (N := 71) hx hb hts hin hown hK hP 0 rfl rfl 56 (by decide) k_31_6 (fun _ h9 => h9) rfl dX10_marks_63 ?_
    refine lv_iconst (v := 1) hx hb dX10_marks_66 (by decide) ?_
    refine m_iadd (X := v_marks.toInt) (Y := 1) hx hb dX10_marks_67 rfl (by decide) (fun x67 e_x67 g9 => ?_)
    obtain ⟨k_x67, g_x67⟩ := g9
    have b_x67 := iB x67
    try (have q_x67 : x67.toInt = v_marks.toInt + 1 := (by omega); clear g_x67 k_x67)
    refine va_put (D := D) (ci := 9) (v := .int x67) (ty := .int) (C := RX10) (T := TX10) (N := 71) hx hb hts hin tyX10 tyX10_ok nmX10 hown hK hP hD hS 0 rfl rfl 56 (by decide) k_31_6 (fun _ h9 => h9) rfl (by decide +kernel) rfl rfl (Nat.le_of_ble_eq_true rfl) dX10_marks_68 (fun H locs hP hD hS => ?_)
    have hP : va_P D vwCl (mw cs q v_thrown a_tape v_taped v_size v_to v_kind v_from v_letters v_letterMany v_digits v_isBeyond v_suffix v_steps v_fault v_hasProgram a_text a_act a_guess a_take a_begin a_finish a_to1 a_one a_two a_what a_ats a_atVar a_atNumber a_atomSort a_atomKind a_atomValue v_wrong v_wrongAt v_variable v_number v_numberKind v_takes a_out v_outed a_varSort a_varKind a_varValue a_creature v_creatures a_arrayClass a_arrayFrom a_arrayLong v_arrays v_cells a_cellSort a_cellKind a_cellValue a_asideSort a_asideKind a_asideValue a_outcome x67 v_came v_guessed v_right v_taken a_markSort_61 a_markKind_61 a_markClass_61 a_markValue_61 v_sort v_kindAt v_value a_index v_reached v_looked) H := hP
    have hD : va_D A (mw cs q v_thrown a_tape v_taped v_size v_to v_kind v_from v_letters v_letterMany v_digits v_isBeyond v_suffix v_steps v_fault v_hasProgram a_text a_act a_guess a_take a_begin a_finish a_to1 a_one a_two a_what a_ats a_atVar a_atNumber a_atomSort a_atomKind a_atomValue v_wrong v_wrongAt v_variable v_number v_numberKind v_takes a_out v_outed a_varSort a_varKind a_varValue a_creature v_creatures a_arrayClass a_arrayFrom a_arrayLong v_arrays v_cells a_cellSort a_cellKind a_cellValue a_asideSort a_asideKind a_asideValue a_outcome x67 v_came v_guessed v_right v_taken a_markSort_61 a_markKind_61 a_markClass_61 a_markValue_61 v_sort v_kindAt v_value a_index v_reached v_looked) := hD
    subst hAe
    rw [hQ]
    exact W.vret hx hb hr (fun t ht hW => ⟨⟨_, rfl, ⟨x67, a_markSort_61, a_markKind_61, a_markClass_61, a_markValue_61, rfl, by first | assumption | omega | (intros; omega) | decide, by first | assumption | omega | (intros; omega) | decide⟩, by rw [ht]; exact hP, va_K.moved hW.alike hK, hD⟩, hS.F ht⟩) hS.2.2 dX10_marks_71
  refine m_icmp_ge (X := v_marks.toInt) (Y := 50) (tgt := 61) hx hb dX10_marks_6 (by decide) rfl (by decide) (fun c6 => ?_) (fun c6 => ?_)
  · skip
    exact J61 a_markClass a_markKind a_markSort a_markValue H locs ls (by first | assumption | exact mrk_set p_4 p_1 e_a_markSort_21 e_a_markKind_34 e_a_markValue_47) hP hD hS (lv_sub hl [0] rfl)
  · skip
    refine lv_aload_n hx hb dX10_marks_9 rfl (lv_at hl 0 rfl) ?_
    refine va_get (D := D) (ci := 9) (v := .ref (q 33)) (C := RX10) (T := TX10) (N := 71) hx hb hts hin hown hK hP 0 rfl rfl 61 (by decide) k_6_15 (fun _ h9 => h9) rfl dX10_marks_10 ?_
    refine lv_aload_n hx hb dX10_marks_13 rfl (lv_at hl 0 rfl) ?_
    refine va_get (D := D) (ci := 9) (v := .int v_marks) (C := RX10) (T := TX10) (N := 71) hx hb hts hin hown hK hP 0 rfl rfl 56 (by decide) k_31_6 (fun _ h9 => h9) rfl dX10_marks_14 ?_
    refine lv_aload_n hx hb dX10_marks_17 rfl (lv_at hl 0 rfl) ?_
    refine va_get (D := D) (ci := 9) (v := .int v_sort) (C := RX10) (T := TX10) (N := 71) hx hb hts hin hown hK hP 0 rfl rfl 65 (by decide) k_47_12 (fun _ h9 => h9) rfl dX10_marks_18 ?_
    refine va_iast hx hb hK hP hD hS 33 0 rfl rfl (ix (by omega) (by omega)) dX10_marks_21 (fun H locs hP hD hS => ?_)
    obtain ⟨a_markSort_21, e_a_markSort_21⟩ : ∃ g, g = upd a_markSort v_marks.toNatClampNeg v_sort := ⟨_, rfl⟩
    have hP : va_P D vwCl (mw cs q v_thrown a_tape v_taped v_size v_to v_kind v_from v_letters v_letterMany v_digits v_isBeyond v_suffix v_steps v_fault v_hasProgram a_text a_act a_guess a_take a_begin a_finish a_to1 a_one a_two a_what a_ats a_atVar a_atNumber a_atomSort a_atomKind a_atomValue v_wrong v_wrongAt v_variable v_number v_numberKind v_takes a_out v_outed a_varSort a_varKind a_varValue a_creature v_creatures a_arrayClass a_arrayFrom a_arrayLong v_arrays v_cells a_cellSort a_cellKind a_cellValue a_asideSort a_asideKind a_asideValue a_outcome v_marks v_came v_guessed v_right v_taken a_markSort_21 a_markKind a_markClass a_markValue v_sort v_kindAt v_value a_index v_reached v_looked) H := by rw [e_a_markSort_21]; exact hP
    have hD : va_D A (mw cs q v_thrown a_tape v_taped v_size v_to v_kind v_from v_letters v_letterMany v_digits v_isBeyond v_suffix v_steps v_fault v_hasProgram a_text a_act a_guess a_take a_begin a_finish a_to1 a_one a_two a_what a_ats a_atVar a_atNumber a_atomSort a_atomKind a_atomValue v_wrong v_wrongAt v_variable v_number v_numberKind v_takes a_out v_outed a_varSort a_varKind a_varValue a_creature v_creatures a_arrayClass a_arrayFrom a_arrayLong v_arrays v_cells a_cellSort a_cellKind a_cellValue a_asideSort a_asideKind a_asideValue a_outcome v_marks v_came v_guessed v_right v_taken a_markSort_21 a_markKind a_markClass a_markValue v_sort v_kindAt v_value a_index v_reached v_looked) := by rw [e_a_markSort_21]; exact hD
    refine lv_aload_n hx hb dX10_marks_22 rfl (lv_at hl 0 rfl) ?_
    refine va_get (D := D) (ci := 9) (v := .ref (q 34)) (C := RX10) (T := TX10) (N := 71) hx hb hts hin hown hK hP 0 rfl rfl 62 (by decide) k_6_16 (fun _ h9 => h9) rfl dX10_marks_23 ?_
    refine lv_aload_n hx hb dX10_marks_26 rfl (lv_at hl 0 rfl) ?_
    refine va_get (D := D) (ci := 9) (v := .int v_marks) (C := RX10) (T := TX10) (N := 71) hx hb hts hin hown hK hP 0 rfl rfl 56 (by decide) k_31_6 (fun _ h9 => h9) rfl dX10_marks_27 ?_
    refine lv_aload_n hx hb dX10_marks_30 rfl (lv_at hl 0 rfl) ?_
    refine va_get (D := D) (ci := 9) (v := .int v_kindAt) (C := RX10) (T := TX10) (N := 71) hx hb hts hin hown hK hP 0 rfl rfl 66 (by decide) k_47_13 (fun _ h9 => h9) rfl dX10_marks_31 ?_
    refine va_iast hx hb hK hP hD hS 34 0 rfl rfl (ix (by omega) (by omega)) dX10_marks_34 (fun H locs hP hD hS => ?_)
    obtain ⟨a_markKind_34, e_a_markKind_34⟩ : ∃ g, g = upd a_markKind v_marks.toNatClampNeg v_kindAt := ⟨_, rfl⟩
    have hP : va_P D vwCl (mw cs q v_thrown a_tape v_taped v_size v_to v_kind v_from v_letters v_letterMany v_digits v_isBeyond v_suffix v_steps v_fault v_hasProgram a_text a_act a_guess a_take a_begin a_finish a_to1 a_one a_two a_what a_ats a_atVar a_atNumber a_atomSort a_atomKind a_atomValue v_wrong v_wrongAt v_variable v_number v_numberKind v_takes a_out v_outed a_varSort a_varKind a_varValue a_creature v_creatures a_arrayClass a_arrayFrom a_arrayLong v_arrays v_cells a_cellSort a_cellKind a_cellValue a_asideSort a_asideKind a_asideValue a_outcome v_marks v_came v_guessed v_right v_taken a_markSort_21 a_markKind_34 a_markClass a_markValue v_sort v_kindAt v_value a_index v_reached v_looked) H := by rw [e_a_markKind_34]; exact hP
    have hD : va_D A (mw cs q v_thrown a_tape v_taped v_size v_to v_kind v_from v_letters v_letterMany v_digits v_isBeyond v_suffix v_steps v_fault v_hasProgram a_text a_act a_guess a_take a_begin a_finish a_to1 a_one a_two a_what a_ats a_atVar a_atNumber a_atomSort a_atomKind a_atomValue v_wrong v_wrongAt v_variable v_number v_numberKind v_takes a_out v_outed a_varSort a_varKind a_varValue a_creature v_creatures a_arrayClass a_arrayFrom a_arrayLong v_arrays v_cells a_cellSort a_cellKind a_cellValue a_asideSort a_asideKind a_asideValue a_outcome v_marks v_came v_guessed v_right v_taken a_markSort_21 a_markKind_34 a_markClass a_markValue v_sort v_kindAt v_value a_index v_reached v_looked) := by rw [e_a_markKind_34]; exact hD
    refine lv_aload_n hx hb dX10_marks_35 rfl (lv_at hl 0 rfl) ?_
    refine va_get (D := D) (ci := 9) (v := .ref (q 36)) (C := RX10) (T := TX10) (N := 71) hx hb hts hin hown hK hP 0 rfl rfl 64 (by decide) k_6_18 (fun _ h9 => h9) rfl dX10_marks_36 ?_
    refine lv_aload_n hx hb dX10_marks_39 rfl (lv_at hl 0 rfl) ?_
    refine va_get (D := D) (ci := 9) (v := .int v_marks) (C := RX10) (T := TX10) (N := 71) hx hb hts hin hown hK hP 0 rfl rfl 56 (by decide) k_31_6 (fun _ h9 => h9) rfl dX10_marks_40 ?_
    refine lv_aload_n hx hb dX10_marks_43 rfl (lv_at hl 0 rfl) ?_
    refine va_get (D := D) (ci := 9) (v := .long v_value) (C := RX10) (T := TX10) (N := 71) hx hb hts hin hown hK hP 0 rfl rfl 67 (by decide) k_47_14 (fun _ h9 => h9) rfl dX10_marks_44 ?_
    refine va_last hx hb hK hP hD hS 36 1 rfl rfl (ix (by omega) (by omega)) dX10_marks_47 (fun H locs hP hD hS => ?_)
    obtain ⟨a_markValue_47, e_a_markValue_47⟩ : ∃ g, g = vp_updL a_markValue v_marks.toNatClampNeg v_value := ⟨_, rfl⟩
    have hP : va_P D vwCl (mw cs q v_thrown a_tape v_taped v_size v_to v_kind v_from v_letters v_letterMany v_digits v_isBeyond v_suffix v_steps v_fault v_hasProgram a_text a_act a_guess a_take a_begin a_finish a_to1 a_one a_two a_what a_ats a_atVar a_atNumber a_atomSort a_atomKind a_atomValue v_wrong v_wrongAt v_variable v_number v_numberKind v_takes a_out v_outed a_varSort a_varKind a_varValue a_creature v_creatures a_arrayClass a_arrayFrom a_arrayLong v_arrays v_cells a_cellSort a_cellKind a_cellValue a_asideSort a_asideKind a_asideValue a_outcome v_marks v_came v_guessed v_right v_taken a_markSort_21 a_markKind_34 a_markClass a_markValue_47 v_sort v_kindAt v_value a_index v_reached v_looked) H := by rw [e_a_markValue_47]; exact hP
    have hD : va_D A (mw cs q v_thrown a_tape v_taped v_size v_to v_kind v_from v_letters v_letterMany v_digits v_isBeyond v_suffix v_steps v_fault v_hasProgram a_text a_act a_guess a_take a_begin a_finish a_to1 a_one a_two a_what a_ats a_atVar a_atNumber a_atomSort a_atomKind a_atomValue v_wrong v_wrongAt v_variable v_number v_numberKind v_takes a_out v_outed a_varSort a_varKind a_varValue a_creature v_creatures a_arrayClass a_arrayFrom a_arrayLong v_arrays v_cells a_cellSort a_cellKind a_cellValue a_asideSort a_asideKind a_asideValue a_outcome v_marks v_came v_guessed v_right v_taken a_markSort_21 a_markKind_34 a_markClass a_markValue_47 v_sort v_kindAt v_value a_index v_reached v_looked) := by rw [e_a_markValue_47]; exact hD
    refine lv_aload_n hx hb dX10_marks_48 rfl (lv_at hl 0 rfl) ?_
    refine va_get (D := D) (ci := 9) (v := .ref (q 35)) (C := RX10) (T := TX10) (N := 71) hx hb hts hin hown hK hP 0 rfl rfl 63 (by decide) k_6_17 (fun _ h9 => h9) rfl dX10_marks_49 ?_
    refine lv_aload_n hx hb dX10_marks_52 rfl (lv_at hl 0 rfl) ?_
    refine va_get (D := D) (ci := 9) (v := .int v_marks) (C := RX10) (T := TX10) (N := 71) hx hb hts hin hown hK hP 0 rfl rfl 56 (by decide) k_31_6 (fun _ h9 => h9) rfl dX10_marks_53 ?_
    refine lv_aload_n hx hb dX10_marks_56 rfl (lv_at hl 0 rfl) ?_
    refine call_i (As := []) (rest := [.int v_marks, .ref (q 35)]) ⟨hx, hb, hml, hown, hts⟩ (tX10_classOf (l := l)  (by first | assumption | omega | (intros; omega) | decide) (by first | assumption | omega | (intros; omega) | decide)) (cwV 0 hts (gV (wr49 _ (List.mem_of_getElem? (i := 21) rfl)) (wr49 _ (List.mem_of_getElem? (i := 22) rfl)) (wr49 _ (List.mem_of_getElem? (i := 23) rfl)) (wr1 _ (List.mem_of_getElem? (i := 5) rfl)) (wr50 _ (List.mem_of_getElem? (i := 0) rfl))) rfl rfl rfl (by decide +kernel) ⟨Nat.le_of_ble_eq_true rfl, Nat.le_of_ble_eq_true rfl⟩) (va_recv hK hP (ci := 9) (q0 := 0) rfl rfl) hK hP hD hE hS hA rfl hl.1 rfl (Nat.le_of_ble_eq_true rfl) dX10_marks_57 ⟨Nat.le_of_ble_eq_true rfl, Nat.le_of_ble_eq_true rfl⟩ (fun r57 w9 H locs hw57 hP hD hS => ?_)
    obtain ⟨rfl, hw57_0, hw57_1⟩ := hw57
    have b_r57 := iB r57
    refine va_iast hx hb hK hP hD hS 35 0 rfl rfl (ix (by omega) (by omega)) dX10_marks_60 (fun H locs hP hD hS => ?_)
    obtain ⟨a_markClass_60, e_a_markClass_60⟩ : ∃ g, g = upd a_markClass v_marks.toNatClampNeg r57 := ⟨_, rfl⟩
    have hP : va_P D vwCl (mw cs q v_thrown a_tape v_taped v_size v_to v_kind v_from v_letters v_letterMany v_digits v_isBeyond v_suffix v_steps v_fault v_hasProgram a_text a_act a_guess a_take a_begin a_finish a_to1 a_one a_two a_what a_ats a_atVar a_atNumber a_atomSort a_atomKind a_atomValue v_wrong v_wrongAt v_variable v_number v_numberKind v_takes a_out v_outed a_varSort a_varKind a_varValue a_creature v_creatures a_arrayClass a_arrayFrom a_arrayLong v_arrays v_cells a_cellSort a_cellKind a_cellValue a_asideSort a_asideKind a_asideValue a_outcome v_marks v_came v_guessed v_right v_taken a_markSort_21 a_markKind_34 a_markClass_60 a_markValue_47 v_sort v_kindAt v_value a_index v_reached v_looked) H := by rw [e_a_markClass_60]; exact hP
    have hD : va_D A (mw cs q v_thrown a_tape v_taped v_size v_to v_kind v_from v_letters v_letterMany v_digits v_isBeyond v_suffix v_steps v_fault v_hasProgram a_text a_act a_guess a_take a_begin a_finish a_to1 a_one a_two a_what a_ats a_atVar a_atNumber a_atomSort a_atomKind a_atomValue v_wrong v_wrongAt v_variable v_number v_numberKind v_takes a_out v_outed a_varSort a_varKind a_varValue a_creature v_creatures a_arrayClass a_arrayFrom a_arrayLong v_arrays v_cells a_cellSort a_cellKind a_cellValue a_asideSort a_asideKind a_asideValue a_outcome v_marks v_came v_guessed v_right v_taken a_markSort_21 a_markKind_34 a_markClass_60 a_markValue_47 v_sort v_kindAt v_value a_index v_reached v_looked) := by rw [e_a_markClass_60]; exact hD
    exact J61 a_markClass_60 a_markKind_34 a_markSort_21 a_markValue_47 H locs ls (by first | assumption | exact mrk_set p_4 p_1 e_a_markSort_21 e_a_markKind_34 e_a_markValue_47) hP hD hS (lv_sub hl [0] rfl)

def rmX10_writes : Room := { frames := 100, cells := 0, slots := 0, locals := 2000 }
set_option maxHeartbeats 4000000 in
set_option maxRecDepth 100000 in
theorem tX10_writes {l : Launch} {D : va_G} {K : Nat → Nat → Nat} {cs : Nat → ClassId} {q : Nat → Nat} {v_thrown v_taped v_size v_to v_kind v_from v_letterMany v_isBeyond v_suffix v_steps v_fault v_hasProgram v_wrong v_wrongAt v_variable v_numberKind v_takes v_outed v_creatures v_arrays v_cells v_marks v_came v_guessed v_right v_taken v_sort v_kindAt v_reached v_looked : Int32} {a_tape a_text a_act a_guess a_take a_begin a_finish a_to1 a_one a_two a_what a_ats a_atVar a_atNumber a_atomSort a_atomKind a_out a_varSort a_varKind a_creature a_arrayClass a_arrayFrom a_arrayLong a_cellSort a_cellKind a_asideSort a_asideKind a_outcome a_markSort a_markKind a_markClass a_index : Nat → Int32} {v_letters v_digits v_number v_value : Int64} {a_atomValue a_varValue a_cellValue a_asideValue a_markValue : Nat → Int64} (s9 : Int32) (p_0 : ATM a_atomSort a_atomKind a_atomValue) (p_1 : RUN a_varSort a_varKind a_varValue v_arrays v_cells v_creatures a_arrayClass a_arrayFrom a_arrayLong a_cellSort a_cellKind a_cellValue) (p_2 : R25 a_one) (p_3 : R03 a_ats) (p_4 : 0 ≤ s9.toInt) (p_5 : s9.toInt ≤ 201) (p_6 : 1 ≤ (a_ats s9.toNatClampNeg).toInt) (p_7 : v_creatures.toInt ≤ 99) : CtI l yX10_writes (wG yX10_writes cX10_writes 9 (some .int)) rmX10_writes D (mwT cs) K [.ref (q 0), .int s9] (mw cs q v_thrown a_tape v_taped v_size v_to v_kind v_from v_letters v_letterMany v_digits v_isBeyond v_suffix v_steps v_fault v_hasProgram a_text a_act a_guess a_take a_begin a_finish a_to1 a_one a_two a_what a_ats a_atVar a_atNumber a_atomSort a_atomKind a_atomValue v_wrong v_wrongAt v_variable v_number v_numberKind v_takes a_out v_outed a_varSort a_varKind a_varValue a_creature v_creatures a_arrayClass a_arrayFrom a_arrayLong v_arrays v_cells a_cellSort a_cellKind a_cellValue a_asideSort a_asideKind a_asideValue a_outcome v_marks v_came v_guessed v_right v_taken a_markSort a_markKind a_markClass a_markValue v_sort v_kindAt v_value a_index v_reached v_looked) (fun r w1 => ∃ (a_creature' : Nat → Int32) (v_creatures' : Int32) (a_cellSort' : Nat → Int32) (a_cellKind' : Nat → Int32) (a_cellValue' : Nat → Int64) (v_sort' : Int32) (v_kindAt' : Int32) (v_value' : Int64) (v_reached' : Int32), w1 = (mw cs q v_thrown a_tape v_taped v_size v_to v_kind v_from v_letters v_letterMany v_digits v_isBeyond v_suffix v_steps v_fault v_hasProgram a_text a_act a_guess a_take a_begin a_finish a_to1 a_one a_two a_what a_ats a_atVar a_atNumber a_atomSort a_atomKind a_atomValue v_wrong v_wrongAt v_variable v_number v_numberKind v_takes a_out v_outed a_varSort a_varKind a_varValue a_creature' v_creatures' a_arrayClass a_arrayFrom a_arrayLong v_arrays v_cells a_cellSort' a_cellKind' a_cellValue' a_asideSort a_asideKind a_asideValue a_outcome v_marks v_came v_guessed v_right v_taken a_markSort a_markKind a_markClass a_markValue v_sort' v_kindAt' v_value' a_index v_reached' v_looked) ∧ (RUN a_varSort a_varKind a_varValue v_arrays v_cells v_creatures' a_arrayClass a_arrayFrom a_arrayLong a_cellSort' a_cellKind' a_cellValue') ∧ (0 ≤ r.toInt) ∧ (v_creatures.toInt ≤ v_creatures'.toInt) ∧ (v_creatures'.toInt ≤ v_creatures.toInt + 1)) 0 0 := by
  intro sz
  refine Met.ofW (cc := cX10_writes) (maxL := 9) (ret := (some .int)) (by decide) rfl ?_
  intro p e s m args below meth c s₁ B hml hv
  obtain ⟨rfl, hsz, hP, hK, hD0, hE⟩ := hv
  have hx := B.exec
  have hb := B.bytes
  have hr := B.returns
  have hts := atoms_spec (ws := (wG yX10_writes cX10_writes 9 (some .int))) B.pre
  have hown : s.vm.findClass RX10 = some m.cls := findClass_of_methodNamed B.named
  have hlocks := B.notSynchronized
  subst hsz
  have hD := hD0.self (sz := s.heap.size)
  obtain ⟨A, hAe⟩ : ∃ A : Nat → Prop, A = va_A (mw cs q v_thrown a_tape v_taped v_size v_to v_kind v_from v_letters v_letterMany v_digits v_isBeyond v_suffix v_steps v_fault v_hasProgram a_text a_act a_guess a_take a_begin a_finish a_to1 a_one a_two a_what a_ats a_atVar a_atNumber a_atomSort a_atomKind a_atomValue v_wrong v_wrongAt v_variable v_number v_numberKind v_takes a_out v_outed a_varSort a_varKind a_varValue a_creature v_creatures a_arrayClass a_arrayFrom a_arrayLong v_arrays v_cells a_cellSort a_cellKind a_cellValue a_asideSort a_asideKind a_asideValue a_outcome v_marks v_came v_guessed v_right v_taken a_markSort a_markKind a_markClass a_markValue v_sort v_kindAt v_value a_index v_reached v_looked) s.heap.size := ⟨_, rfl⟩
  rw [← hAe] at hD hE
  have hA : ∀ q : Nat, s.heap.size ≤ q → A q := fun q h => by rw [hAe]; exact Or.inr h
  have hS : va_S A s.heap s.heap [] := va_S.rf
  have hl := lv_entry ([.ref (q 0), .int s9]) (n := 9) (Nat.le_of_ble_eq_true rfl)
  rw [lg_entry_eq]
  generalize (lg_sl ([.ref (q 0), .int s9]) ++ List.replicate (9 - (lg_sl ([.ref (q 0), .int s9])).length) Slot.unset).toArray = ls at hl ⊢
  have hl : lv_has ls 9 [(0, .ref (q 0)), (1, .int s9)] := hl
  refine wq (fun Q hQ => ?_)
  have hin : ∀ w ∈ wsX100, w ∈ (wG yX10_writes cX10_writes 9 (some .int)) := fun w h => List.mem_cons_of_mem _ (inlX10 w h)
  have kc0 : (0 : Int32).toInt = 0 := by decide
  have kc1 : (1 : Int32).toInt = 1 := by decide
  have kc2 : (2 : Int32).toInt = 2 := by decide
  have kc3 : (3 : Int32).toInt = 3 := by decide
  have kc4 : (5 : Int32).toInt = 5 := by decide
  have kc5 : (6 : Int32).toInt = 6 := by decide
  have kc6 : (7 : Int32).toInt = 7 := by decide
  have k_47_12 := hts (.fieldLink RX10 493 "ArrayTrainerModel" "sort" "I") (List.mem_cons_of_mem _ (wr47 _ (List.mem_of_getElem? (i := 12) rfl)))
  have k_47_13 := hts (.fieldLink RX10 496 "ArrayTrainerModel" "kindAt" "I") (List.mem_cons_of_mem _ (wr47 _ (List.mem_of_getElem? (i := 13) rfl)))
  have k_47_14 := hts (.fieldLink RX10 499 "ArrayTrainerModel" "value" "J") (List.mem_cons_of_mem _ (wr47 _ (List.mem_of_getElem? (i := 14) rfl)))
  have k_5_9 := hts (.fieldLink RX10 16 "ArrayTrainerModel" "act" "[I") (List.mem_cons_of_mem _ (wr5 _ (List.mem_of_getElem? (i := 9) rfl)))
  have k_6_5 := hts (.fieldLink RX10 77 "ArrayTrainerModel" "arrayClass" "[I") (List.mem_cons_of_mem _ (wr6 _ (List.mem_of_getElem? (i := 5) rfl)))
  have k_48_11 := hts (.fieldLink RX10 510 "ArrayTrainerModel" "reached" "I") (List.mem_cons_of_mem _ (wr48 _ (List.mem_of_getElem? (i := 11) rfl)))
  have k_6_19 := hts (.fieldLink RX10 119 "ArrayTrainerModel" "index" "[I") (List.mem_cons_of_mem _ (wr6 _ (List.mem_of_getElem? (i := 19) rfl)))
  have k_5_18 := hts (.fieldLink RX10 43 "ArrayTrainerModel" "ats" "[I") (List.mem_cons_of_mem _ (wr5 _ (List.mem_of_getElem? (i := 18) rfl)))
  have k_5_17 := hts (.fieldLink RX10 40 "ArrayTrainerModel" "what" "[I") (List.mem_cons_of_mem _ (wr5 _ (List.mem_of_getElem? (i := 17) rfl)))
  obtain ⟨H, hH⟩ : ∃ H : Heap, H = s.heap := ⟨_, rfl⟩
  obtain ⟨locs, hlc⟩ : ∃ L : List Loc, L = [] := ⟨_, rfl⟩
  have hP : va_P D vwCl (mw cs q v_thrown a_tape v_taped v_size v_to v_kind v_from v_letters v_letterMany v_digits v_isBeyond v_suffix v_steps v_fault v_hasProgram a_text a_act a_guess a_take a_begin a_finish a_to1 a_one a_two a_what a_ats a_atVar a_atNumber a_atomSort a_atomKind a_atomValue v_wrong v_wrongAt v_variable v_number v_numberKind v_takes a_out v_outed a_varSort a_varKind a_varValue a_creature v_creatures a_arrayClass a_arrayFrom a_arrayLong v_arrays v_cells a_cellSort a_cellKind a_cellValue a_asideSort a_asideKind a_asideValue a_outcome v_marks v_came v_guessed v_right v_taken a_markSort a_markKind a_markClass a_markValue v_sort v_kindAt v_value a_index v_reached v_looked) H := by rw [hH]; exact hP
  have hS : va_S A s.heap H locs := by rw [hH, hlc]; exact hS
  refine wHL hH hlc ?_
  have b_s9 := iB s9
  have hr9 := p_1.1
  have ha9 := p_3 s9.toNatClampNeg
  refine lv_aload_n hx hb dX10_writes_0 rfl (lv_at hl 0 rfl) ?_
  refine lv_iload_n hx hb dX10_writes_1 rfl (lv_at hl 1 rfl) ?_
  refine call_v (As := [.int s9]) (rest := []) ⟨hx, hb, hml, hown, hts⟩ (tX10_atom (l := l) s9 (by first | assumption | omega | (intros; omega) | decide) (by first | assumption | omega | (intros; omega) | decide) (by first | assumption | omega | (intros; omega) | decide) (by first | assumption | omega | (intros; omega) | decide) (by first | assumption | omega | (intros; omega) | decide)) (cwV 1 hts (gV (wr47 _ (List.mem_of_getElem? (i := 8) rfl)) (wr47 _ (List.mem_of_getElem? (i := 9) rfl)) (wr47 _ (List.mem_of_getElem? (i := 10) rfl)) (wr1 _ (List.mem_of_getElem? (i := 5) rfl)) (wr47 _ (List.mem_of_getElem? (i := 11) rfl))) rfl rfl rfl (by decide +kernel) ⟨Nat.le_of_ble_eq_true rfl, Nat.le_of_ble_eq_true rfl⟩) (va_recv hK hP (ci := 9) (q0 := 0) rfl rfl) hK hP hD hE hS hA rfl hl.1 rfl (Nat.le_of_ble_eq_true rfl) dX10_writes_2 ⟨Nat.le_of_ble_eq_true rfl, Nat.le_of_ble_eq_true rfl⟩ (fun w9 H locs hw2 hP hD hS => ?_)
  obtain ⟨a_creature_2, v_creatures_2, v_sort_2, v_kindAt_2, v_value_2, rfl, hw2_0, hw2_1, hw2_2, hw2_3⟩ := hw2
  have b_v_creatures_2 := iB v_creatures_2
  have b_v_sort_2 := iB v_sort_2
  have b_v_kindAt_2 := iB v_kindAt_2
  have b_v_value_2 := jB v_value_2
  have hr2 := hw2_0.1
  refine lv_aload_n hx hb dX10_writes_5 rfl (lv_at hl 0 rfl) ?_
  refine va_get (D := D) (ci := 9) (v := .int v_sort_2) (C := RX10) (T := TX10) (N := 71) hx hb hts hin hown hK hP 0 rfl rfl 65 (by decide) k_47_12 (fun _ h9 => h9) rfl dX10_writes_6 ?_
  refine lv_istore_n (lv' := [(2, .int v_sort_2), (0, .ref (q 0)), (1, .int s9)]) hx hb dX10_writes_9 rfl hl (by decide) rfl (fun ls hl => ?_)
  refine lv_aload_n hx hb dX10_writes_10 rfl (lv_at hl 1 rfl) ?_
  refine va_get (D := D) (ci := 9) (v := .int v_kindAt_2) (C := RX10) (T := TX10) (N := 71) hx hb hts hin hown hK hP 0 rfl rfl 66 (by decide) k_47_13 (fun _ h9 => h9) rfl dX10_writes_11 ?_
  refine lv_istore_n (lv' := [(3, .int v_kindAt_2), (2, .int v_sort_2), (0, .ref (q 0)), (1, .int s9)]) hx hb dX10_writes_14 rfl hl (by decide) rfl (fun ls hl => ?_)
  refine lv_aload_n hx hb dX10_writes_15 rfl (lv_at hl 2 rfl) ?_
  refine va_get (D := D) (ci := 9) (v := .long v_value_2) (C := RX10) (T := TX10) (N := 71) hx hb hts hin hown hK hP 0 rfl rfl 67 (by decide) k_47_14 (fun _ h9 => h9) rfl dX10_writes_16 ?_
  refine lv_lstore (lv' := [(4, .long v_value_2), (3, .int v_kindAt_2), (2, .int v_sort_2), (0, .ref (q 0)), (1, .int s9)]) hx hb dX10_writes_19 hl (by decide) rfl (fun ls hl => ?_)
  refine lv_aload_n hx hb dX10_writes_21 rfl (lv_at hl 3 rfl) ?_
  refine va_get (D := D) (ci := 9) (v := .ref (q 3)) (C := RX10) (T := TX10) (N := 71) hx hb hts hin hown hK hP 0 rfl rfl 16 (by decide) k_5_9 (fun _ h9 => h9) rfl dX10_writes_22 ?_
  refine lv_iload_n hx hb dX10_writes_25 rfl (lv_at hl 4 rfl) ?_
  refine m_iald hx hb hK hP 3 0 rfl rfl (ix (by omega) (by omega)) dX10_writes_26 (fun x26 e_x26 => ?_)
  have b_x26 := iB x26
  refine lv_iconst (v := 5) hx hb dX10_writes_27 (by decide) ?_
  have J49 : ∀ (H : Heap) (locs : List Loc) (ls : Array Slot), va_P D vwCl (mw cs q v_thrown a_tape v_taped v_size v_to v_kind v_from v_letters v_letterMany v_digits v_isBeyond v_suffix v_steps v_fault v_hasProgram a_text a_act a_guess a_take a_begin a_finish a_to1 a_one a_two a_what a_ats a_atVar a_atNumber a_atomSort a_atomKind a_atomValue v_wrong v_wrongAt v_variable v_number v_numberKind v_takes a_out v_outed a_varSort a_varKind a_varValue a_creature_2 v_creatures_2 a_arrayClass a_arrayFrom a_arrayLong v_arrays v_cells a_cellSort a_cellKind a_cellValue a_asideSort a_asideKind a_asideValue a_outcome v_marks v_came v_guessed v_right v_taken a_markSort a_markKind a_markClass a_markValue v_sort_2 v_kindAt_2 v_value_2 a_index v_reached v_looked) H → va_D A (mw cs q v_thrown a_tape v_taped v_size v_to v_kind v_from v_letters v_letterMany v_digits v_isBeyond v_suffix v_steps v_fault v_hasProgram a_text a_act a_guess a_take a_begin a_finish a_to1 a_one a_two a_what a_ats a_atVar a_atNumber a_atomSort a_atomKind a_atomValue v_wrong v_wrongAt v_variable v_number v_numberKind v_takes a_out v_outed a_varSort a_varKind a_varValue a_creature_2 v_creatures_2 a_arrayClass a_arrayFrom a_arrayLong v_arrays v_cells a_cellSort a_cellKind a_cellValue a_asideSort a_asideKind a_asideValue a_outcome v_marks v_came v_guessed v_right v_taken a_markSort a_markKind a_markClass a_markValue v_sort_2 v_kindAt_2 v_value_2 a_index v_reached v_looked) → va_S A s.heap H locs → lv_has ls 9 [(0, .ref (q 0)), (1, .int s9), (2, .int v_sort_2), (3, .int v_kindAt_2), (4, .long v_value_2)] → W p l e (headSpec (wG yX10_writes cX10_writes 9 (some .int)) rmX10_writes).room s m ([.ref (q 0), .int s9] : List Value).toArray below meth c H locs 0 0 Q (F0 m 49 ls []) := by
    intro H locs ls hP hD hS hl
    refine lv_aload_n hx hb dX10_writes_49 rfl (lv_at hl 0 rfl) ?_
    refine lv_iload_n hx hb dX10_writes_50 rfl (lv_at hl 1 rfl) ?_
    refine call_i (As := [.int s9]) (rest := []) ⟨hx, hb, hml, hown, hts⟩ (tX10_reach (l := l) s9 (by first | assumption | omega | (intros; omega) | decide) (by first | assumption | omega | (intros; omega) | decide) (by first | assumption | omega | (intros; omega) | decide) (by first | assumption | omega | (intros; omega) | decide) (by first | assumption | omega | (intros; omega) | decide)) (cwV 1 hts (gV (wr48 _ (List.mem_of_getElem? (i := 12) rfl)) (wr48 _ (List.mem_of_getElem? (i := 13) rfl)) (wr48 _ (List.mem_of_getElem? (i := 14) rfl)) (wr1 _ (List.mem_of_getElem? (i := 5) rfl)) (wr48 _ (List.mem_of_getElem? (i := 15) rfl))) rfl rfl rfl (by decide +kernel) ⟨Nat.le_of_ble_eq_true rfl, Nat.le_of_ble_eq_true rfl⟩) (va_recv hK hP (ci := 9) (q0 := 0) rfl rfl) hK hP hD hE hS hA rfl hl.1 rfl (Nat.le_of_ble_eq_true rfl) dX10_writes_51 ⟨Nat.le_of_ble_eq_true rfl, Nat.le_of_ble_eq_true rfl⟩ (fun r51 w9 H locs hw51 hP hD hS => ?_)
    obtain ⟨v_sort_51, v_kindAt_51, v_value_51, v_reached_51, rfl, hw51_0, hw51_1⟩ := hw51
    have b_v_sort_51 := iB v_sort_51
    have b_v_kindAt_51 := iB v_kindAt_51
    have b_v_value_51 := jB v_value_51
    have b_v_reached_51 := iB v_reached_51
    have b_r51 := iB r51
    refine lv_istore (lv' := [(6, .int r51), (0, .ref (q 0)), (1, .int s9), (2, .int v_sort_2), (3, .int v_kindAt_2), (4, .long v_value_2)]) hx hb dX10_writes_54 hl (by decide) rfl (fun ls hl => ?_)
    refine lv_iload hx hb dX10_writes_56 (lv_at hl 0 rfl) ?_
    refine m_if_le (X := r51.toInt) (tgt := 64) hx hb dX10_writes_58 (by decide) rfl (fun c58 => ?_) (fun c58 => ?_)
    · skip
      refine lv_aload_n hx hb dX10_writes_64 rfl (lv_at hl 1 rfl) ?_
      refine va_get (D := D) (ci := 9) (v := .ref (q 23)) (C := RX10) (T := TX10) (N := 71) hx hb hts hin hown hK hP 0 rfl rfl 44 (by decide) k_6_5 (fun _ h9 => h9) rfl dX10_writes_65 ?_
      refine lv_aload_n hx hb dX10_writes_68 rfl (lv_at hl 1 rfl) ?_
      refine va_get (D := D) (ci := 9) (v := .int v_reached_51) (C := RX10) (T := TX10) (N := 71) hx hb hts hin hown hK hP 0 rfl rfl 69 (by decide) k_48_11 (fun _ h9 => h9) rfl dX10_writes_69 ?_
      refine m_iald hx hb hK hP 23 0 rfl rfl (ix (by omega) (by omega)) dX10_writes_72 (fun x72 e_x72 => ?_)
      have b_x72 := iB x72
      have hx72 := congrArg Int32.toInt e_x72
      refine lv_istore (lv' := [(7, .int x72), (6, .int r51), (0, .ref (q 0)), (1, .int s9), (2, .int v_sort_2), (3, .int v_kindAt_2), (4, .long v_value_2)]) hx hb dX10_writes_73 hl (by decide) rfl (fun ls hl => ?_)
      refine lv_aload_n hx hb dX10_writes_75 rfl (lv_at hl 2 rfl) ?_
      refine va_get (D := D) (ci := 9) (v := .ref (q 37)) (C := RX10) (T := TX10) (N := 71) hx hb hts hin hown hK hP 0 rfl rfl 68 (by decide) k_6_19 (fun _ h9 => h9) rfl dX10_writes_76 ?_
      refine lv_aload_n hx hb dX10_writes_79 rfl (lv_at hl 2 rfl) ?_
      refine va_get (D := D) (ci := 9) (v := .ref (q 12)) (C := RX10) (T := TX10) (N := 71) hx hb hts hin hown hK hP 0 rfl rfl 25 (by decide) k_5_18 (fun _ h9 => h9) rfl dX10_writes_80 ?_
      refine lv_iload_n hx hb dX10_writes_83 rfl (lv_at hl 3 rfl) ?_
      refine m_iald hx hb hK hP 12 0 rfl rfl (ix (by omega) (by omega)) dX10_writes_84 (fun x84 e_x84 => ?_)
      have b_x84 := iB x84
      have hx84 := congrArg Int32.toInt e_x84
      refine lv_iconst (v := 1) hx hb dX10_writes_85 (by decide) ?_
      refine m_isub (X := x84.toInt) (Y := 1) hx hb dX10_writes_86 rfl (by decide) (fun x86 e_x86 g9 => ?_)
      obtain ⟨k_x86, g_x86⟩ := g9
      have b_x86 := iB x86
      try (have q_x86 : x86.toInt = x84.toInt - 1 := (by omega); clear g_x86 k_x86)
      refine m_iald hx hb hK hP 37 0 rfl rfl (ix (by omega) (by omega)) dX10_writes_87 (fun x87 e_x87 => ?_)
      have b_x87 := iB x87
      refine lv_istore (lv' := [(8, .int x87), (7, .int x72), (6, .int r51), (0, .ref (q 0)), (1, .int s9), (2, .int v_sort_2), (3, .int v_kindAt_2), (4, .long v_value_2)]) hx hb dX10_writes_88 hl (by decide) rfl (fun ls hl => ?_)
      refine lv_aload_n hx hb dX10_writes_90 rfl (lv_at hl 3 rfl) ?_
      refine va_get (D := D) (ci := 9) (v := .ref (q 3)) (C := RX10) (T := TX10) (N := 71) hx hb hts hin hown hK hP 0 rfl rfl 16 (by decide) k_5_9 (fun _ h9 => h9) rfl dX10_writes_91 ?_
      refine lv_iload_n hx hb dX10_writes_94 rfl (lv_at hl 4 rfl) ?_
      refine m_iald hx hb hK hP 3 0 rfl rfl (ix (by omega) (by omega)) dX10_writes_95 (fun x95 e_x95 => ?_)
      have b_x95 := iB x95
      refine lv_iconst (v := 5) hx hb dX10_writes_96 (by decide) ?_
      have J111 : ∀ (H : Heap) (locs : List Loc) (ls : Array Slot), va_P D vwCl (mw cs q v_thrown a_tape v_taped v_size v_to v_kind v_from v_letters v_letterMany v_digits v_isBeyond v_suffix v_steps v_fault v_hasProgram a_text a_act a_guess a_take a_begin a_finish a_to1 a_one a_two a_what a_ats a_atVar a_atNumber a_atomSort a_atomKind a_atomValue v_wrong v_wrongAt v_variable v_number v_numberKind v_takes a_out v_outed a_varSort a_varKind a_varValue a_creature_2 v_creatures_2 a_arrayClass a_arrayFrom a_arrayLong v_arrays v_cells a_cellSort a_cellKind a_cellValue a_asideSort a_asideKind a_asideValue a_outcome v_marks v_came v_guessed v_right v_taken a_markSort a_markKind a_markClass a_markValue v_sort_51 v_kindAt_51 v_value_51 a_index v_reached_51 v_looked) H → va_D A (mw cs q v_thrown a_tape v_taped v_size v_to v_kind v_from v_letters v_letterMany v_digits v_isBeyond v_suffix v_steps v_fault v_hasProgram a_text a_act a_guess a_take a_begin a_finish a_to1 a_one a_two a_what a_ats a_atVar a_atNumber a_atomSort a_atomKind a_atomValue v_wrong v_wrongAt v_variable v_number v_numberKind v_takes a_out v_outed a_varSort a_varKind a_varValue a_creature_2 v_creatures_2 a_arrayClass a_arrayFrom a_arrayLong v_arrays v_cells a_cellSort a_cellKind a_cellValue a_asideSort a_asideKind a_asideValue a_outcome v_marks v_came v_guessed v_right v_taken a_markSort a_markKind a_markClass a_markValue v_sort_51 v_kindAt_51 v_value_51 a_index v_reached_51 v_looked) → va_S A s.heap H locs → lv_has ls 9 [(0, .ref (q 0)), (1, .int s9), (2, .int v_sort_2), (3, .int v_kindAt_2), (4, .long v_value_2), (7, .int x72), (8, .int x87)] → W p l e (headSpec (wG yX10_writes cX10_writes 9 (some .int)) rmX10_writes).room s m ([.ref (q 0), .int s9] : List Value).toArray below meth c H locs 0 0 Q (F0 m 111 ls []) := by
        intro H locs ls hP hD hS hl
        refine lv_aload_n hx hb dX10_writes_111 rfl (lv_at hl 0 rfl) ?_
        refine va_get (D := D) (ci := 9) (v := .ref (q 3)) (C := RX10) (T := TX10) (N := 71) hx hb hts hin hown hK hP 0 rfl rfl 16 (by decide) k_5_9 (fun _ h9 => h9) rfl dX10_writes_112 ?_
        refine lv_iload_n hx hb dX10_writes_115 rfl (lv_at hl 1 rfl) ?_
        refine m_iald hx hb hK hP 3 0 rfl rfl (ix (by omega) (by omega)) dX10_writes_116 (fun x116 e_x116 => ?_)
        have b_x116 := iB x116
        refine lv_bipush (v := 7) hx hb dX10_writes_117 (by decide) ?_
        have J138 : ∀ (H : Heap) (locs : List Loc) (ls : Array Slot), va_P D vwCl (mw cs q v_thrown a_tape v_taped v_size v_to v_kind v_from v_letters v_letterMany v_digits v_isBeyond v_suffix v_steps v_fault v_hasProgram a_text a_act a_guess a_take a_begin a_finish a_to1 a_one a_two a_what a_ats a_atVar a_atNumber a_atomSort a_atomKind a_atomValue v_wrong v_wrongAt v_variable v_number v_numberKind v_takes a_out v_outed a_varSort a_varKind a_varValue a_creature_2 v_creatures_2 a_arrayClass a_arrayFrom a_arrayLong v_arrays v_cells a_cellSort a_cellKind a_cellValue a_asideSort a_asideKind a_asideValue a_outcome v_marks v_came v_guessed v_right v_taken a_markSort a_markKind a_markClass a_markValue v_sort_51 v_kindAt_51 v_value_51 a_index v_reached_51 v_looked) H → va_D A (mw cs q v_thrown a_tape v_taped v_size v_to v_kind v_from v_letters v_letterMany v_digits v_isBeyond v_suffix v_steps v_fault v_hasProgram a_text a_act a_guess a_take a_begin a_finish a_to1 a_one a_two a_what a_ats a_atVar a_atNumber a_atomSort a_atomKind a_atomValue v_wrong v_wrongAt v_variable v_number v_numberKind v_takes a_out v_outed a_varSort a_varKind a_varValue a_creature_2 v_creatures_2 a_arrayClass a_arrayFrom a_arrayLong v_arrays v_cells a_cellSort a_cellKind a_cellValue a_asideSort a_asideKind a_asideValue a_outcome v_marks v_came v_guessed v_right v_taken a_markSort a_markKind a_markClass a_markValue v_sort_51 v_kindAt_51 v_value_51 a_index v_reached_51 v_looked) → va_S A s.heap H locs → lv_has ls 9 [(0, .ref (q 0)), (1, .int s9), (2, .int v_sort_2), (3, .int v_kindAt_2), (4, .long v_value_2), (7, .int x72), (8, .int x87)] → W p l e (headSpec (wG yX10_writes cX10_writes 9 (some .int)) rmX10_writes).room s m ([.ref (q 0), .int s9] : List Value).toArray below meth c H locs 0 0 Q (F0 m 138 ls []) := by
          intro H locs ls hP hD hS hl
          refine lv_aload_n hx hb dX10_writes_138 rfl (lv_at hl 0 rfl) ?_
          refine lv_iload hx hb dX10_writes_139 (lv_at hl 6 rfl) ?_
          refine call_i (As := [.int x87]) (rest := []) ⟨hx, hb, hml, hown, hts⟩ (tX10_isCell (l := l) x87 (by first | assumption | omega | (intros; omega) | decide) (by first | assumption | omega | (intros; omega) | decide)) (cwV 1 hts (gV (wr48 _ (List.mem_of_getElem? (i := 20) rfl)) (wr48 _ (List.mem_of_getElem? (i := 21) rfl)) (wr48 _ (List.mem_of_getElem? (i := 22) rfl)) (wr1 _ (List.mem_of_getElem? (i := 5) rfl)) (wr48 _ (List.mem_of_getElem? (i := 23) rfl))) rfl rfl rfl (by decide +kernel) ⟨Nat.le_of_ble_eq_true rfl, Nat.le_of_ble_eq_true rfl⟩) (va_recv hK hP (ci := 9) (q0 := 0) rfl rfl) hK hP hD hE hS hA rfl hl.1 rfl (Nat.le_of_ble_eq_true rfl) dX10_writes_141 ⟨Nat.le_of_ble_eq_true rfl, Nat.le_of_ble_eq_true rfl⟩ (fun r141 w9 H locs hw141 hP hD hS => ?_)
          obtain ⟨rfl, hw141_0⟩ := hw141
          have b_r141 := iB r141
          refine m_if_ne (X := r141.toInt) (tgt := 149) hx hb dX10_writes_144 (by decide) rfl (fun c144 => ?_) (fun c144 => ?_)
          · skip
            have trc := tn (i := v_reached_51) (by omega)
            obtain ⟨ao1, ao2, ao3, ao4⟩ := hw2_0.2.1 v_reached_51.toNatClampNeg (by omega)
            refine lv_aload_n hx hb dX10_writes_149 rfl (lv_at hl 0 rfl) ?_
            refine lv_iload_n hx hb dX10_writes_150 rfl (lv_at hl 2 rfl) ?_
            refine va_put (D := D) (ci := 9) (v := .int v_sort_2) (ty := .int) (C := RX10) (T := TX10) (N := 71) hx hb hts hin tyX10 tyX10_ok nmX10 hown hK hP hD hS 0 rfl rfl 65 (by decide) k_47_12 (fun _ h9 => h9) rfl (by decide +kernel) rfl rfl (Nat.le_of_ble_eq_true rfl) dX10_writes_151 (fun H locs hP hD hS => ?_)
            have hP : va_P D vwCl (mw cs q v_thrown a_tape v_taped v_size v_to v_kind v_from v_letters v_letterMany v_digits v_isBeyond v_suffix v_steps v_fault v_hasProgram a_text a_act a_guess a_take a_begin a_finish a_to1 a_one a_two a_what a_ats a_atVar a_atNumber a_atomSort a_atomKind a_atomValue v_wrong v_wrongAt v_variable v_number v_numberKind v_takes a_out v_outed a_varSort a_varKind a_varValue a_creature_2 v_creatures_2 a_arrayClass a_arrayFrom a_arrayLong v_arrays v_cells a_cellSort a_cellKind a_cellValue a_asideSort a_asideKind a_asideValue a_outcome v_marks v_came v_guessed v_right v_taken a_markSort a_markKind a_markClass a_markValue v_sort_2 v_kindAt_51 v_value_51 a_index v_reached_51 v_looked) H := hP
            have hD : va_D A (mw cs q v_thrown a_tape v_taped v_size v_to v_kind v_from v_letters v_letterMany v_digits v_isBeyond v_suffix v_steps v_fault v_hasProgram a_text a_act a_guess a_take a_begin a_finish a_to1 a_one a_two a_what a_ats a_atVar a_atNumber a_atomSort a_atomKind a_atomValue v_wrong v_wrongAt v_variable v_number v_numberKind v_takes a_out v_outed a_varSort a_varKind a_varValue a_creature_2 v_creatures_2 a_arrayClass a_arrayFrom a_arrayLong v_arrays v_cells a_cellSort a_cellKind a_cellValue a_asideSort a_asideKind a_asideValue a_outcome v_marks v_came v_guessed v_right v_taken a_markSort a_markKind a_markClass a_markValue v_sort_2 v_kindAt_51 v_value_51 a_index v_reached_51 v_looked) := hD
            refine lv_aload_n hx hb dX10_writes_154 rfl (lv_at hl 0 rfl) ?_
            refine lv_iload_n hx hb dX10_writes_155 rfl (lv_at hl 3 rfl) ?_
            refine va_put (D := D) (ci := 9) (v := .int v_kindAt_2) (ty := .int) (C := RX10) (T := TX10) (N := 71) hx hb hts hin tyX10 tyX10_ok nmX10 hown hK hP hD hS 0 rfl rfl 66 (by decide) k_47_13 (fun _ h9 => h9) rfl (by decide +kernel) rfl rfl (Nat.le_of_ble_eq_true rfl) dX10_writes_156 (fun H locs hP hD hS => ?_)
            have hP : va_P D vwCl (mw cs q v_thrown a_tape v_taped v_size v_to v_kind v_from v_letters v_letterMany v_digits v_isBeyond v_suffix v_steps v_fault v_hasProgram a_text a_act a_guess a_take a_begin a_finish a_to1 a_one a_two a_what a_ats a_atVar a_atNumber a_atomSort a_atomKind a_atomValue v_wrong v_wrongAt v_variable v_number v_numberKind v_takes a_out v_outed a_varSort a_varKind a_varValue a_creature_2 v_creatures_2 a_arrayClass a_arrayFrom a_arrayLong v_arrays v_cells a_cellSort a_cellKind a_cellValue a_asideSort a_asideKind a_asideValue a_outcome v_marks v_came v_guessed v_right v_taken a_markSort a_markKind a_markClass a_markValue v_sort_2 v_kindAt_2 v_value_51 a_index v_reached_51 v_looked) H := hP
            have hD : va_D A (mw cs q v_thrown a_tape v_taped v_size v_to v_kind v_from v_letters v_letterMany v_digits v_isBeyond v_suffix v_steps v_fault v_hasProgram a_text a_act a_guess a_take a_begin a_finish a_to1 a_one a_two a_what a_ats a_atVar a_atNumber a_atomSort a_atomKind a_atomValue v_wrong v_wrongAt v_variable v_number v_numberKind v_takes a_out v_outed a_varSort a_varKind a_varValue a_creature_2 v_creatures_2 a_arrayClass a_arrayFrom a_arrayLong v_arrays v_cells a_cellSort a_cellKind a_cellValue a_asideSort a_asideKind a_asideValue a_outcome v_marks v_came v_guessed v_right v_taken a_markSort a_markKind a_markClass a_markValue v_sort_2 v_kindAt_2 v_value_51 a_index v_reached_51 v_looked) := hD
            refine lv_aload_n hx hb dX10_writes_159 rfl (lv_at hl 0 rfl) ?_
            refine lv_lload hx hb dX10_writes_160 (lv_at hl 4 rfl) ?_
            refine va_put (D := D) (ci := 9) (v := .long v_value_2) (ty := .long) (C := RX10) (T := TX10) (N := 71) hx hb hts hin tyX10 tyX10_ok nmX10 hown hK hP hD hS 0 rfl rfl 67 (by decide) k_47_14 (fun _ h9 => h9) rfl (by decide +kernel) rfl rfl (Nat.le_of_ble_eq_true rfl) dX10_writes_162 (fun H locs hP hD hS => ?_)
            have hP : va_P D vwCl (mw cs q v_thrown a_tape v_taped v_size v_to v_kind v_from v_letters v_letterMany v_digits v_isBeyond v_suffix v_steps v_fault v_hasProgram a_text a_act a_guess a_take a_begin a_finish a_to1 a_one a_two a_what a_ats a_atVar a_atNumber a_atomSort a_atomKind a_atomValue v_wrong v_wrongAt v_variable v_number v_numberKind v_takes a_out v_outed a_varSort a_varKind a_varValue a_creature_2 v_creatures_2 a_arrayClass a_arrayFrom a_arrayLong v_arrays v_cells a_cellSort a_cellKind a_cellValue a_asideSort a_asideKind a_asideValue a_outcome v_marks v_came v_guessed v_right v_taken a_markSort a_markKind a_markClass a_markValue v_sort_2 v_kindAt_2 v_value_2 a_index v_reached_51 v_looked) H := hP
            have hD : va_D A (mw cs q v_thrown a_tape v_taped v_size v_to v_kind v_from v_letters v_letterMany v_digits v_isBeyond v_suffix v_steps v_fault v_hasProgram a_text a_act a_guess a_take a_begin a_finish a_to1 a_one a_two a_what a_ats a_atVar a_atNumber a_atomSort a_atomKind a_atomValue v_wrong v_wrongAt v_variable v_number v_numberKind v_takes a_out v_outed a_varSort a_varKind a_varValue a_creature_2 v_creatures_2 a_arrayClass a_arrayFrom a_arrayLong v_arrays v_cells a_cellSort a_cellKind a_cellValue a_asideSort a_asideKind a_asideValue a_outcome v_marks v_came v_guessed v_right v_taken a_markSort a_markKind a_markClass a_markValue v_sort_2 v_kindAt_2 v_value_2 a_index v_reached_51 v_looked) := hD
            refine lv_aload_n hx hb dX10_writes_165 rfl (lv_at hl 0 rfl) ?_
            refine lv_iload hx hb dX10_writes_166 (lv_at hl 5 rfl) ?_
            refine lv_aload_n hx hb dX10_writes_168 rfl (lv_at hl 0 rfl) ?_
            refine va_get (D := D) (ci := 9) (v := .ref (q 3)) (C := RX10) (T := TX10) (N := 71) hx hb hts hin hown hK hP 0 rfl rfl 16 (by decide) k_5_9 (fun _ h9 => h9) rfl dX10_writes_169 ?_
            refine lv_iload_n hx hb dX10_writes_172 rfl (lv_at hl 1 rfl) ?_
            refine m_iald hx hb hK hP 3 0 rfl rfl (ix (by omega) (by omega)) dX10_writes_173 (fun x173 e_x173 => ?_)
            have b_x173 := iB x173
            refine lv_iconst (v := 3) hx hb dX10_writes_174 (by decide) ?_
            have J183 : ∀ (s2_183 : Int32) (H : Heap) (locs : List Loc) (ls : Array Slot), (s2_183.toInt = 0 ∨ s2_183.toInt = 1) → va_P D vwCl (mw cs q v_thrown a_tape v_taped v_size v_to v_kind v_from v_letters v_letterMany v_digits v_isBeyond v_suffix v_steps v_fault v_hasProgram a_text a_act a_guess a_take a_begin a_finish a_to1 a_one a_two a_what a_ats a_atVar a_atNumber a_atomSort a_atomKind a_atomValue v_wrong v_wrongAt v_variable v_number v_numberKind v_takes a_out v_outed a_varSort a_varKind a_varValue a_creature_2 v_creatures_2 a_arrayClass a_arrayFrom a_arrayLong v_arrays v_cells a_cellSort a_cellKind a_cellValue a_asideSort a_asideKind a_asideValue a_outcome v_marks v_came v_guessed v_right v_taken a_markSort a_markKind a_markClass a_markValue v_sort_2 v_kindAt_2 v_value_2 a_index v_reached_51 v_looked) H → va_D A (mw cs q v_thrown a_tape v_taped v_size v_to v_kind v_from v_letters v_letterMany v_digits v_isBeyond v_suffix v_steps v_fault v_hasProgram a_text a_act a_guess a_take a_begin a_finish a_to1 a_one a_two a_what a_ats a_atVar a_atNumber a_atomSort a_atomKind a_atomValue v_wrong v_wrongAt v_variable v_number v_numberKind v_takes a_out v_outed a_varSort a_varKind a_varValue a_creature_2 v_creatures_2 a_arrayClass a_arrayFrom a_arrayLong v_arrays v_cells a_cellSort a_cellKind a_cellValue a_asideSort a_asideKind a_asideValue a_outcome v_marks v_came v_guessed v_right v_taken a_markSort a_markKind a_markClass a_markValue v_sort_2 v_kindAt_2 v_value_2 a_index v_reached_51 v_looked) → va_S A s.heap H locs → lv_has ls 9 [(0, .ref (q 0)), (8, .int x87)] → W p l e (headSpec (wG yX10_writes cX10_writes 9 (some .int)) rmX10_writes).room s m ([.ref (q 0), .int s9] : List Value).toArray below meth c H locs 0 0 Q (F0 m 183 ls [.int s2_183, .int x72, .ref (q 0)]) := by
              intro s2_183 H locs ls f183_0 hP hD hS hl
              refine call_i (As := [.int x72, .int s2_183]) (rest := []) ⟨hx, hb, hml, hown, hts⟩ (tX10_mayStore (l := l) x72 s2_183 (by first | assumption | omega | (intros; omega) | decide) (by first | assumption | omega | (intros; omega) | decide) (by first | assumption | omega | (intros; omega) | decide) (by first | assumption | omega | (intros; omega) | decide)) (cwV 2 hts (gV (wr49 _ (List.mem_of_getElem? (i := 14) rfl)) (wr49 _ (List.mem_of_getElem? (i := 15) rfl)) (wr49 _ (List.mem_of_getElem? (i := 16) rfl)) (wr1 _ (List.mem_of_getElem? (i := 5) rfl)) (wr49 _ (List.mem_of_getElem? (i := 17) rfl))) rfl rfl rfl (by decide +kernel) ⟨Nat.le_of_ble_eq_true rfl, Nat.le_of_ble_eq_true rfl⟩) (va_recv hK hP (ci := 9) (q0 := 0) rfl rfl) hK hP hD hE hS hA rfl hl.1 rfl (Nat.le_of_ble_eq_true rfl) dX10_writes_183 ⟨Nat.le_of_ble_eq_true rfl, Nat.le_of_ble_eq_true rfl⟩ (fun r183 w9 H locs hw183 hP hD hS => ?_)
              obtain ⟨v_kindAt_183, v_value_183, rfl, hw183_0, hw183_1, hw183_2⟩ := hw183
              have b_v_kindAt_183 := iB v_kindAt_183
              have b_v_value_183 := jB v_value_183
              have b_r183 := iB r183
              refine lv_istore (lv' := [(6, .int r183), (0, .ref (q 0)), (8, .int x87)]) hx hb dX10_writes_186 hl (by decide) rfl (fun ls hl => ?_)
              refine lv_iload hx hb dX10_writes_188 (lv_at hl 0 rfl) ?_
              refine m_if_ne (X := r183.toInt) (tgt := 203) hx hb dX10_writes_190 (by decide) rfl (fun c190 => ?_) (fun c190 => ?_)
              · skip
                refine lv_iload hx hb dX10_writes_203 (lv_at hl 0 rfl) ?_
                subst hAe
                rw [hQ]
                exact W.iret (v := r183) hx hb hr (fun t ht hW => ⟨⟨r183, _, rfl, ⟨a_creature_2, v_creatures_2, a_cellSort, a_cellKind, a_cellValue, v_sort_2, v_kindAt_183, v_value_183, v_reached_51, rfl, by first | assumption | exact hw2_0.setCell (a := v_reached_51.toNatClampNeg) (i := x87.toNatClampNeg) (by omega) (by have t8 := tn (i := x87) (by omega); omega) rfl hw183_0 (fun q => by have z := (hw183_2.resolve_left (fun q => by omega)).2.1 q; rw [← e_x72]; exact z) (fun q => by have z := (hw183_2.resolve_left (fun q => by omega)).2.2; rw [← e_x72] at q; exact z q) hw200_0 hw200_1 hw200_2, by first | assumption | omega | (intros; omega) | decide, by first | assumption | omega | (intros; omega) | decide, by first | assumption | omega | (intros; omega) | decide⟩, by rw [ht]; exact hP, va_K.moved hW.alike hK, hD⟩, hS.F ht⟩) hS.2.2 dX10_writes_205
              · skip
                refine lv_aload_n hx hb dX10_writes_193 rfl (lv_at hl 1 rfl) ?_
                refine lv_aload_n hx hb dX10_writes_194 rfl (lv_at hl 1 rfl) ?_
                refine va_get (D := D) (ci := 9) (v := .int v_reached_51) (C := RX10) (T := TX10) (N := 71) hx hb hts hin hown hK hP 0 rfl rfl 69 (by decide) k_48_11 (fun _ h9 => h9) rfl dX10_writes_195 ?_
                refine lv_iload hx hb dX10_writes_198 (lv_at hl 2 rfl) ?_
                refine call_v (As := [.int v_reached_51, .int x87]) (rest := []) ⟨hx, hb, hml, hown, hts⟩ (tX10_toCell (l := l) v_reached_51 x87 (by first | assumption | omega | (intros; omega) | decide) (by first | assumption | omega | (intros; omega) | decide) (by first | assumption | omega | (intros; omega) | decide) (by first | assumption | omega | (intros; omega) | decide) (by first | assumption | omega | (intros; omega) | decide)) (cwV 2 hts (gV (wr50 _ (List.mem_of_getElem? (i := 7) rfl)) (wr50 _ (List.mem_of_getElem? (i := 8) rfl)) (wr50 _ (List.mem_of_getElem? (i := 9) rfl)) (wr1 _ (List.mem_of_getElem? (i := 5) rfl)) (wr50 _ (List.mem_of_getElem? (i := 10) rfl))) rfl rfl rfl (by decide +kernel) ⟨Nat.le_of_ble_eq_true rfl, Nat.le_of_ble_eq_true rfl⟩) (va_recv hK hP (ci := 9) (q0 := 0) rfl rfl) hK hP hD hE hS hA rfl hl.1 rfl (Nat.le_of_ble_eq_true rfl) dX10_writes_200 ⟨Nat.le_of_ble_eq_true rfl, Nat.le_of_ble_eq_true rfl⟩ (fun w9 H locs hw200 hP hD hS => ?_)
                obtain ⟨a_cellSort_200, a_cellKind_200, a_cellValue_200, rfl, hw200_0, hw200_1, hw200_2⟩ := hw200
                refine lv_iload hx hb dX10_writes_203 (lv_at hl 0 rfl) ?_
                subst hAe
                rw [hQ]
                exact W.iret (v := r183) hx hb hr (fun t ht hW => ⟨⟨r183, _, rfl, ⟨a_creature_2, v_creatures_2, a_cellSort_200, a_cellKind_200, a_cellValue_200, v_sort_2, v_kindAt_183, v_value_183, v_reached_51, rfl, by first | assumption | exact hw2_0.setCell (a := v_reached_51.toNatClampNeg) (i := x87.toNatClampNeg) (by omega) (by have t8 := tn (i := x87) (by omega); omega) rfl hw183_0 (fun q => by have z := (hw183_2.resolve_left (fun q => by omega)).2.1 q; rw [← e_x72]; exact z) (fun q => by have z := (hw183_2.resolve_left (fun q => by omega)).2.2; rw [← e_x72] at q; exact z q) hw200_0 hw200_1 hw200_2, by first | assumption | omega | (intros; omega) | decide, by first | assumption | omega | (intros; omega) | decide, by first | assumption | omega | (intros; omega) | decide⟩, by rw [ht]; exact hP, va_K.moved hW.alike hK, hD⟩, hS.F ht⟩) hS.2.2 dX10_writes_205
            refine m_icmp_ne (X := x173.toInt) (Y := 3) (tgt := 182) hx hb dX10_writes_175 (by decide) rfl (by decide) (fun c175 => ?_) (fun c175 => ?_)
            · skip
              refine lv_iconst (v := 0) hx hb dX10_writes_182 (by decide) ?_
              exact J183 (0 : Int32) H locs ls (by first | decide | omega) hP hD hS (lv_sub hl [0, 6] rfl)
            · skip
              refine lv_iconst (v := 1) hx hb dX10_writes_178 (by decide) ?_
              refine lv_goto (tgt := 183) hx hb dX10_writes_179 (by decide) ?_
              exact J183 (1 : Int32) H locs ls (by first | decide | omega) hP hD hS (lv_sub hl [0, 6] rfl)
          · skip
            refine lv_iconst (v := 2) hx hb dX10_writes_147 (by decide) ?_
            subst hAe
            rw [hQ]
            exact W.iret (v := 2) hx hb hr (fun t ht hW => ⟨⟨2, _, rfl, ⟨a_creature_2, v_creatures_2, a_cellSort, a_cellKind, a_cellValue, v_sort_51, v_kindAt_51, v_value_51, v_reached_51, rfl, by first | assumption | exact hw2_0.setCell (a := v_reached_51.toNatClampNeg) (i := x87.toNatClampNeg) (by omega) (by have t8 := tn (i := x87) (by omega); omega) rfl hw183_0 (fun q => by have z := (hw183_2.resolve_left (fun q => by omega)).2.1 q; rw [← e_x72]; exact z) (fun q => by have z := (hw183_2.resolve_left (fun q => by omega)).2.2; rw [← e_x72] at q; exact z q) hw200_0 hw200_1 hw200_2, by first | assumption | omega | (intros; omega) | decide, by first | assumption | omega | (intros; omega) | decide, by first | assumption | omega | (intros; omega) | decide⟩, by rw [ht]; exact hP, va_K.moved hW.alike hK, hD⟩, hS.F ht⟩) hS.2.2 dX10_writes_148
        refine m_icmp_ne (X := x116.toInt) (Y := 7) (tgt := 138) hx hb dX10_writes_119 (by decide) rfl (by decide) (fun c119 => ?_) (fun c119 => ?_)
        · skip
          exact J138 H locs ls hP hD hS (lv_sub hl [0, 1, 2, 3, 4, 5, 6] rfl)
        · skip
          refine lv_iload hx hb dX10_writes_122 (lv_at hl 5 rfl) ?_
          refine call_iSP (As := [.int x72]) (rest := []) ⟨hx, hb, hml, hown, hts⟩ (tX10_isOfNumbers (l := l) x72) (va_cwS 1 hts (gS (wr49 _ (List.mem_of_getElem? (i := 4) rfl)) (wr49 _ (List.mem_of_getElem? (i := 5) rfl)) (wr1 _ (List.mem_of_getElem? (i := 5) rfl)) (wr49 _ (List.mem_of_getElem? (i := 6) rfl))) rfl rfl rfl (by decide +kernel) ⟨Nat.le_of_ble_eq_true rfl, Nat.le_of_ble_eq_true rfl⟩) (hK.sub [] rfl) hP hD hE hS hA rfl hl.1 rfl (Nat.le_of_ble_eq_true rfl) dX10_writes_124 ⟨Nat.le_of_ble_eq_true rfl, Nat.le_of_ble_eq_true rfl⟩ (fun r124 w9 H locs hw124 hP hD hS => ?_)
          obtain ⟨rfl, hw124_0⟩ := hw124
          have b_r124 := iB r124
          refine m_if_eq (X := r124.toInt) (tgt := 138) hx hb dX10_writes_127 (by decide) rfl (fun c127 => ?_) (fun c127 => ?_)
          · skip
            exact J138 H locs ls hP hD hS (lv_sub hl [0, 1, 2, 3, 4, 5, 6] rfl)
          · skip
            refine lv_iload_n hx hb dX10_writes_130 rfl (lv_at hl 2 rfl) ?_
            refine lv_iconst (v := 1) hx hb dX10_writes_131 (by decide) ?_
            refine m_icmp_eq (X := v_sort_2.toInt) (Y := 1) (tgt := 138) hx hb dX10_writes_132 (by decide) rfl (by decide) (fun c132 => ?_) (fun c132 => ?_)
            · skip
              exact J138 H locs ls hP hD hS (lv_sub hl [0, 1, 2, 3, 4, 5, 6] rfl)
            · skip
              refine lv_bipush (v := 6) hx hb dX10_writes_135 (by decide) ?_
              subst hAe
              rw [hQ]
              exact W.iret (v := 6) hx hb hr (fun t ht hW => ⟨⟨6, _, rfl, ⟨a_creature_2, v_creatures_2, a_cellSort, a_cellKind, a_cellValue, v_sort_51, v_kindAt_51, v_value_51, v_reached_51, rfl, by first | assumption | exact hw2_0.setCell (a := v_reached_51.toNatClampNeg) (i := x87.toNatClampNeg) (by omega) (by have t8 := tn (i := x87) (by omega); omega) rfl hw183_0 (fun q => by have z := (hw183_2.resolve_left (fun q => by omega)).2.1 q; rw [← e_x72]; exact z) (fun q => by have z := (hw183_2.resolve_left (fun q => by omega)).2.2; rw [← e_x72] at q; exact z q) hw200_0 hw200_1 hw200_2, by first | assumption | omega | (intros; omega) | decide, by first | assumption | omega | (intros; omega) | decide, by first | assumption | omega | (intros; omega) | decide⟩, by rw [ht]; exact hP, va_K.moved hW.alike hK, hD⟩, hS.F ht⟩) hS.2.2 dX10_writes_137
      refine m_icmp_ne (X := x95.toInt) (Y := 5) (tgt := 111) hx hb dX10_writes_97 (by decide) rfl (by decide) (fun c97 => ?_) (fun c97 => ?_)
      · skip
        exact J111 H locs ls hP hD hS (lv_sub hl [3, 4, 5, 6, 7, 1, 0] rfl)
      · skip
        refine lv_iload hx hb dX10_writes_100 (lv_at hl 1 rfl) ?_
        refine call_iSP (As := [.int x72]) (rest := []) ⟨hx, hb, hml, hown, hts⟩ (tX10_isOfNumbers (l := l) x72) (va_cwS 1 hts (gS (wr49 _ (List.mem_of_getElem? (i := 4) rfl)) (wr49 _ (List.mem_of_getElem? (i := 5) rfl)) (wr1 _ (List.mem_of_getElem? (i := 5) rfl)) (wr49 _ (List.mem_of_getElem? (i := 6) rfl))) rfl rfl rfl (by decide +kernel) ⟨Nat.le_of_ble_eq_true rfl, Nat.le_of_ble_eq_true rfl⟩) (hK.sub [] rfl) hP hD hE hS hA rfl hl.1 rfl (Nat.le_of_ble_eq_true rfl) dX10_writes_102 ⟨Nat.le_of_ble_eq_true rfl, Nat.le_of_ble_eq_true rfl⟩ (fun r102 w9 H locs hw102 hP hD hS => ?_)
        obtain ⟨rfl, hw102_0⟩ := hw102
        have b_r102 := iB r102
        refine m_if_ne (X := r102.toInt) (tgt := 111) hx hb dX10_writes_105 (by decide) rfl (fun c105 => ?_) (fun c105 => ?_)
        · skip
          exact J111 H locs ls hP hD hS (lv_sub hl [3, 4, 5, 6, 7, 1, 0] rfl)
        · skip
          refine lv_bipush (v := 6) hx hb dX10_writes_108 (by decide) ?_
          subst hAe
          rw [hQ]
          exact W.iret (v := 6) hx hb hr (fun t ht hW => ⟨⟨6, _, rfl, ⟨a_creature_2, v_creatures_2, a_cellSort, a_cellKind, a_cellValue, v_sort_51, v_kindAt_51, v_value_51, v_reached_51, rfl, by first | assumption | exact hw2_0.setCell (a := v_reached_51.toNatClampNeg) (i := x87.toNatClampNeg) (by omega) (by have t8 := tn (i := x87) (by omega); omega) rfl hw183_0 (fun q => by have z := (hw183_2.resolve_left (fun q => by omega)).2.1 q; rw [← e_x72]; exact z) (fun q => by have z := (hw183_2.resolve_left (fun q => by omega)).2.2; rw [← e_x72] at q; exact z q) hw200_0 hw200_1 hw200_2, by first | assumption | omega | (intros; omega) | decide, by first | assumption | omega | (intros; omega) | decide, by first | assumption | omega | (intros; omega) | decide⟩, by rw [ht]; exact hP, va_K.moved hW.alike hK, hD⟩, hS.F ht⟩) hS.2.2 dX10_writes_110
    · skip
      refine lv_iload hx hb dX10_writes_61 (lv_at hl 0 rfl) ?_
      subst hAe
      rw [hQ]
      exact W.iret (v := r51) hx hb hr (fun t ht hW => ⟨⟨r51, _, rfl, ⟨a_creature_2, v_creatures_2, a_cellSort, a_cellKind, a_cellValue, v_sort_51, v_kindAt_51, v_value_51, v_reached_51, rfl, by first | assumption | exact hw2_0.setCell (a := v_reached_51.toNatClampNeg) (i := x87.toNatClampNeg) (by omega) (by have t8 := tn (i := x87) (by omega); omega) rfl hw183_0 (fun q => by have z := (hw183_2.resolve_left (fun q => by omega)).2.1 q; rw [← e_x72]; exact z) (fun q => by have z := (hw183_2.resolve_left (fun q => by omega)).2.2; rw [← e_x72] at q; exact z q) hw200_0 hw200_1 hw200_2, by first | assumption | omega | (intros; omega) | decide, by first | assumption | omega | (intros; omega) | decide, by first | assumption | omega | (intros; omega) | decide⟩, by rw [ht]; exact hP, va_K.moved hW.alike hK, hD⟩, hS.F ht⟩) hS.2.2 dX10_writes_63
  refine m_icmp_ne (X := x26.toInt) (Y := 5) (tgt := 49) hx hb dX10_writes_28 (by decide) rfl (by decide) (fun c28 => ?_) (fun c28 => ?_)
  · skip
    exact J49 H locs ls hP hD hS (lv_sub hl [3, 4, 2, 1, 0] rfl)
  · skip
    refine lv_iload_n hx hb dX10_writes_31 rfl (lv_at hl 2 rfl) ?_
    refine lv_iconst (v := 1) hx hb dX10_writes_32 (by decide) ?_
    refine m_icmp_ne (X := v_sort_2.toInt) (Y := 1) (tgt := 46) hx hb dX10_writes_33 (by decide) rfl (by decide) (fun c33 => ?_) (fun c33 => ?_)
    · skip
      refine lv_bipush (v := 6) hx hb dX10_writes_46 (by decide) ?_
      subst hAe
      rw [hQ]
      exact W.iret (v := 6) hx hb hr (fun t ht hW => ⟨⟨6, _, rfl, ⟨a_creature_2, v_creatures_2, a_cellSort, a_cellKind, a_cellValue, v_sort_2, v_kindAt_2, v_value_2, v_reached, rfl, by first | assumption | exact hw2_0.setCell (a := v_reached_51.toNatClampNeg) (i := x87.toNatClampNeg) (by omega) (by have t8 := tn (i := x87) (by omega); omega) rfl hw183_0 (fun q => by have z := (hw183_2.resolve_left (fun q => by omega)).2.1 q; rw [← e_x72]; exact z) (fun q => by have z := (hw183_2.resolve_left (fun q => by omega)).2.2; rw [← e_x72] at q; exact z q) hw200_0 hw200_1 hw200_2, by first | assumption | omega | (intros; omega) | decide, by first | assumption | omega | (intros; omega) | decide, by first | assumption | omega | (intros; omega) | decide⟩, by rw [ht]; exact hP, va_K.moved hW.alike hK, hD⟩, hS.F ht⟩) hS.2.2 dX10_writes_48
    · skip
      refine lv_iload_n hx hb dX10_writes_36 rfl (lv_at hl 1 rfl) ?_
      refine lv_aload_n hx hb dX10_writes_37 rfl (lv_at hl 3 rfl) ?_
      refine va_get (D := D) (ci := 9) (v := .ref (q 11)) (C := RX10) (T := TX10) (N := 71) hx hb hts hin hown hK hP 0 rfl rfl 24 (by decide) k_5_17 (fun _ h9 => h9) rfl dX10_writes_38 ?_
      refine lv_iload_n hx hb dX10_writes_41 rfl (lv_at hl 4 rfl) ?_
      refine m_iald hx hb hK hP 11 0 rfl rfl (ix (by omega) (by omega)) dX10_writes_42 (fun x42 e_x42 => ?_)
      have b_x42 := iB x42
      refine m_icmp_eq (X := v_kindAt_2.toInt) (Y := x42.toInt) (tgt := 49) hx hb dX10_writes_43 (by decide) rfl rfl (fun c43 => ?_) (fun c43 => ?_)
      · skip
        exact J49 H locs ls hP hD hS (lv_sub hl [3, 4, 2, 1, 0] rfl)
      · skip
        refine lv_bipush (v := 6) hx hb dX10_writes_46 (by decide) ?_
        subst hAe
        rw [hQ]
        exact W.iret (v := 6) hx hb hr (fun t ht hW => ⟨⟨6, _, rfl, ⟨a_creature_2, v_creatures_2, a_cellSort, a_cellKind, a_cellValue, v_sort_2, v_kindAt_2, v_value_2, v_reached, rfl, by first | assumption | exact hw2_0.setCell (a := v_reached_51.toNatClampNeg) (i := x87.toNatClampNeg) (by omega) (by have t8 := tn (i := x87) (by omega); omega) rfl hw183_0 (fun q => by have z := (hw183_2.resolve_left (fun q => by omega)).2.1 q; rw [← e_x72]; exact z) (fun q => by have z := (hw183_2.resolve_left (fun q => by omega)).2.2; rw [← e_x72] at q; exact z q) hw200_0 hw200_1 hw200_2, by first | assumption | omega | (intros; omega) | decide, by first | assumption | omega | (intros; omega) | decide, by first | assumption | omega | (intros; omega) | decide⟩, by rw [ht]; exact hP, va_K.moved hW.alike hK, hD⟩, hS.F ht⟩) hS.2.2 dX10_writes_48
