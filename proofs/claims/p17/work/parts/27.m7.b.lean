def rmX10_spell : Room := { frames := 40, cells := 0, slots := 0, locals := 800 }
set_option maxHeartbeats 4000000 in
set_option maxRecDepth 100000 in
theorem tX10_spell {l : Launch} {D : va_G} {K : Nat → Nat → Nat} {cs : Nat → ClassId} {q : Nat → Nat} {v_thrown v_taped v_size v_to v_kind v_from v_letterMany v_isBeyond v_suffix v_steps v_fault v_hasProgram v_wrong v_wrongAt v_variable v_numberKind v_takes v_outed v_creatures v_arrays v_cells v_marks v_came v_guessed v_right v_taken v_sort v_kindAt v_reached v_looked : Int32} {a_tape a_text a_act a_guess a_take a_begin a_finish a_to1 a_one a_two a_what a_ats a_atVar a_atNumber a_atomSort a_atomKind a_out a_varSort a_varKind a_creature a_arrayClass a_arrayFrom a_arrayLong a_cellSort a_cellKind a_asideSort a_asideKind a_outcome a_markSort a_markKind a_markClass a_index : Nat → Int32} {v_letters v_digits v_number v_value : Int64} {a_atomValue a_varValue a_cellValue a_asideValue a_markValue : Nat → Int64} (k9 : Int32) (p_0 : 0 ≤ v_steps.toInt) (p_1 : v_steps.toInt ≤ 100) (p_2 : PRG a_act a_ats a_what a_begin a_finish a_text 3100 0 v_steps) (p_3 : 0 ≤ v_outed.toInt) (p_4 : v_outed.toInt ≤ 4000) : CtI l yX10_spell (wG yX10_spell cX10_spell 5 (some .int)) rmX10_spell D (mwT cs) K [.ref (q 0), .int k9] (mw cs q v_thrown a_tape v_taped v_size v_to v_kind v_from v_letters v_letterMany v_digits v_isBeyond v_suffix v_steps v_fault v_hasProgram a_text a_act a_guess a_take a_begin a_finish a_to1 a_one a_two a_what a_ats a_atVar a_atNumber a_atomSort a_atomKind a_atomValue v_wrong v_wrongAt v_variable v_number v_numberKind v_takes a_out v_outed a_varSort a_varKind a_varValue a_creature v_creatures a_arrayClass a_arrayFrom a_arrayLong v_arrays v_cells a_cellSort a_cellKind a_cellValue a_asideSort a_asideKind a_asideValue a_outcome v_marks v_came v_guessed v_right v_taken a_markSort a_markKind a_markClass a_markValue v_sort v_kindAt v_value a_index v_reached v_looked) (fun r w1 => ∃ (v_thrown' : Int32) (a_out' : Nat → Int32) (v_outed' : Int32), w1 = (mw cs q v_thrown' a_tape v_taped v_size v_to v_kind v_from v_letters v_letterMany v_digits v_isBeyond v_suffix v_steps v_fault v_hasProgram a_text a_act a_guess a_take a_begin a_finish a_to1 a_one a_two a_what a_ats a_atVar a_atNumber a_atomSort a_atomKind a_atomValue v_wrong v_wrongAt v_variable v_number v_numberKind v_takes a_out' v_outed' a_varSort a_varKind a_varValue a_creature v_creatures a_arrayClass a_arrayFrom a_arrayLong v_arrays v_cells a_cellSort a_cellKind a_cellValue a_asideSort a_asideKind a_asideValue a_outcome v_marks v_came v_guessed v_right v_taken a_markSort a_markKind a_markClass a_markValue v_sort v_kindAt v_value a_index v_reached v_looked) ∧ (0 ≤ v_outed'.toInt) ∧ (v_outed'.toInt ≤ 4000)) 0 0 := by
  intro sz
  refine Met.ofW (cc := cX10_spell) (maxL := 5) (ret := (some .int)) (by decide) rfl ?_
  intro p e s m args below meth c s₁ B hml hv
  obtain ⟨rfl, hsz, hP, hK, hD0, hE⟩ := hv
  have hx := B.exec
  have hb := B.bytes
  have hr := B.returns
  have hts := atoms_spec (ws := (wG yX10_spell cX10_spell 5 (some .int))) B.pre
  have hown : s.vm.findClass RX10 = some m.cls := findClass_of_methodNamed B.named
  have hlocks := B.notSynchronized
  subst hsz
  have hD := hD0.self (sz := s.heap.size)
  obtain ⟨A, hAe⟩ : ∃ A : Nat → Prop, A = va_A (mw cs q v_thrown a_tape v_taped v_size v_to v_kind v_from v_letters v_letterMany v_digits v_isBeyond v_suffix v_steps v_fault v_hasProgram a_text a_act a_guess a_take a_begin a_finish a_to1 a_one a_two a_what a_ats a_atVar a_atNumber a_atomSort a_atomKind a_atomValue v_wrong v_wrongAt v_variable v_number v_numberKind v_takes a_out v_outed a_varSort a_varKind a_varValue a_creature v_creatures a_arrayClass a_arrayFrom a_arrayLong v_arrays v_cells a_cellSort a_cellKind a_cellValue a_asideSort a_asideKind a_asideValue a_outcome v_marks v_came v_guessed v_right v_taken a_markSort a_markKind a_markClass a_markValue v_sort v_kindAt v_value a_index v_reached v_looked) s.heap.size := ⟨_, rfl⟩
  rw [← hAe] at hD hE
  have hA : ∀ q : Nat, s.heap.size ≤ q → A q := fun q h => by rw [hAe]; exact Or.inr h
  have hS : va_S A s.heap s.heap [] := va_S.rf
  have hl := lv_entry ([.ref (q 0), .int k9]) (n := 5) (Nat.le_of_ble_eq_true rfl)
  rw [lg_entry_eq]
  generalize (lg_sl ([.ref (q 0), .int k9]) ++ List.replicate (5 - (lg_sl ([.ref (q 0), .int k9])).length) Slot.unset).toArray = ls at hl ⊢
  have hl : lv_has ls 5 [(0, .ref (q 0)), (1, .int k9)] := hl
  refine wq (fun Q hQ => ?_)
  have hin : ∀ w ∈ wsX100, w ∈ (wG yX10_spell cX10_spell 5 (some .int)) := fun w h => List.mem_cons_of_mem _ (inlX10 w h)
  have kc0 : (0 : Int32).toInt = 0 := by decide
  have kc1 : (1 : Int32).toInt = 1 := by decide
  have kc2 : (10 : Int32).toInt = 10 := by decide
  have kc3 : (32 : Int32).toInt = 32 := by decide
  have kc4 : (45 : Int32).toInt = 45 := by decide
  have kc5 : (48 : Int32).toInt = 48 := by decide
  have kc6 : (59 : Int32).toInt = 59 := by decide
  have kc7 : (91 : Int32).toInt = 91 := by decide
  have kc8 : (93 : Int32).toInt = 93 := by decide
  have k_7_9 := hts (.fieldLink RX10 122 "ArrayTrainerModel" "thrown" "I") (List.mem_cons_of_mem _ (wr7 _ (List.mem_of_getElem? (i := 9) rfl)))
  have k_34_9 := hts (.fieldLink RX10 464 "ArrayTrainerModel" "outed" "I") (List.mem_cons_of_mem _ (wr34 _ (List.mem_of_getElem? (i := 9) rfl)))
  have k_5_12 := hts (.fieldLink RX10 25 "ArrayTrainerModel" "begin" "[I") (List.mem_cons_of_mem _ (wr5 _ (List.mem_of_getElem? (i := 12) rfl)))
  have k_5_13 := hts (.fieldLink RX10 28 "ArrayTrainerModel" "finish" "[I") (List.mem_cons_of_mem _ (wr5 _ (List.mem_of_getElem? (i := 13) rfl)))
  have k_5_8 := hts (.fieldLink RX10 13 "ArrayTrainerModel" "text" "[I") (List.mem_cons_of_mem _ (wr5 _ (List.mem_of_getElem? (i := 8) rfl)))
  have k_22_18 := hts (.fieldLink RX10 455 "ArrayTrainerModel" "steps" "I") (List.mem_cons_of_mem _ (wr22 _ (List.mem_of_getElem? (i := 18) rfl)))
  obtain ⟨H, hH⟩ : ∃ H : Heap, H = s.heap := ⟨_, rfl⟩
  obtain ⟨locs, hlc⟩ : ∃ L : List Loc, L = [] := ⟨_, rfl⟩
  have hP : va_P D vwCl (mw cs q v_thrown a_tape v_taped v_size v_to v_kind v_from v_letters v_letterMany v_digits v_isBeyond v_suffix v_steps v_fault v_hasProgram a_text a_act a_guess a_take a_begin a_finish a_to1 a_one a_two a_what a_ats a_atVar a_atNumber a_atomSort a_atomKind a_atomValue v_wrong v_wrongAt v_variable v_number v_numberKind v_takes a_out v_outed a_varSort a_varKind a_varValue a_creature v_creatures a_arrayClass a_arrayFrom a_arrayLong v_arrays v_cells a_cellSort a_cellKind a_cellValue a_asideSort a_asideKind a_asideValue a_outcome v_marks v_came v_guessed v_right v_taken a_markSort a_markKind a_markClass a_markValue v_sort v_kindAt v_value a_index v_reached v_looked) H := by rw [hH]; exact hP
  have hS : va_S A s.heap H locs := by rw [hH, hlc]; exact hS
  refine wHL hH hlc ?_
  have b_k9 := iB k9
  refine lv_aload_n hx hb dX10_spell_0 rfl (lv_at hl 0 rfl) ?_
  refine lv_iload_n hx hb dX10_spell_1 rfl (lv_at hl 1 rfl) ?_
  have J18 : ∀ (s1_18 : Int32) (H : Heap) (locs : List Loc) (ls : Array Slot), (s1_18.toInt = 0 ∨ s1_18.toInt = 1) → (s1_18.toInt = 1 ∨ (0 ≤ k9.toInt ∧ k9.toInt < v_steps.toInt)) → va_P D vwCl (mw cs q v_thrown a_tape v_taped v_size v_to v_kind v_from v_letters v_letterMany v_digits v_isBeyond v_suffix v_steps v_fault v_hasProgram a_text a_act a_guess a_take a_begin a_finish a_to1 a_one a_two a_what a_ats a_atVar a_atNumber a_atomSort a_atomKind a_atomValue v_wrong v_wrongAt v_variable v_number v_numberKind v_takes a_out v_outed a_varSort a_varKind a_varValue a_creature v_creatures a_arrayClass a_arrayFrom a_arrayLong v_arrays v_cells a_cellSort a_cellKind a_cellValue a_asideSort a_asideKind a_asideValue a_outcome v_marks v_came v_guessed v_right v_taken a_markSort a_markKind a_markClass a_markValue v_sort v_kindAt v_value a_index v_reached v_looked) H → va_D A (mw cs q v_thrown a_tape v_taped v_size v_to v_kind v_from v_letters v_letterMany v_digits v_isBeyond v_suffix v_steps v_fault v_hasProgram a_text a_act a_guess a_take a_begin a_finish a_to1 a_one a_two a_what a_ats a_atVar a_atNumber a_atomSort a_atomKind a_atomValue v_wrong v_wrongAt v_variable v_number v_numberKind v_takes a_out v_outed a_varSort a_varKind a_varValue a_creature v_creatures a_arrayClass a_arrayFrom a_arrayLong v_arrays v_cells a_cellSort a_cellKind a_cellValue a_asideSort a_asideKind a_asideValue a_outcome v_marks v_came v_guessed v_right v_taken a_markSort a_markKind a_markClass a_markValue v_sort v_kindAt v_value a_index v_reached v_looked) → va_S A s.heap H locs → lv_has ls 5 [(0, .ref (q 0)), (1, .int k9)] → W p l e (headSpec (wG yX10_spell cX10_spell 5 (some .int)) rmX10_spell).room s m ([.ref (q 0), .int k9] : List Value).toArray below meth c H locs 0 0 Q (F0 m 18 ls [.int s1_18, .ref (q 0)]) := by
    intro s1_18 H locs ls f18_0 f18_1 hP hD hS hl
    refine va_put (D := D) (ci := 9) (v := .int s1_18) (ty := .int) (C := RX10) (T := TX10) (N := 71) hx hb hts hin tyX10 tyX10_ok nmX10 hown hK hP hD hS 0 rfl rfl 0 (by decide) k_7_9 (fun _ h9 => h9) rfl (by decide +kernel) rfl rfl (Nat.le_of_ble_eq_true rfl) dX10_spell_18 (fun H locs hP hD hS => ?_)
    have hP : va_P D vwCl (mw cs q s1_18 a_tape v_taped v_size v_to v_kind v_from v_letters v_letterMany v_digits v_isBeyond v_suffix v_steps v_fault v_hasProgram a_text a_act a_guess a_take a_begin a_finish a_to1 a_one a_two a_what a_ats a_atVar a_atNumber a_atomSort a_atomKind a_atomValue v_wrong v_wrongAt v_variable v_number v_numberKind v_takes a_out v_outed a_varSort a_varKind a_varValue a_creature v_creatures a_arrayClass a_arrayFrom a_arrayLong v_arrays v_cells a_cellSort a_cellKind a_cellValue a_asideSort a_asideKind a_asideValue a_outcome v_marks v_came v_guessed v_right v_taken a_markSort a_markKind a_markClass a_markValue v_sort v_kindAt v_value a_index v_reached v_looked) H := hP
    have hD : va_D A (mw cs q s1_18 a_tape v_taped v_size v_to v_kind v_from v_letters v_letterMany v_digits v_isBeyond v_suffix v_steps v_fault v_hasProgram a_text a_act a_guess a_take a_begin a_finish a_to1 a_one a_two a_what a_ats a_atVar a_atNumber a_atomSort a_atomKind a_atomValue v_wrong v_wrongAt v_variable v_number v_numberKind v_takes a_out v_outed a_varSort a_varKind a_varValue a_creature v_creatures a_arrayClass a_arrayFrom a_arrayLong v_arrays v_cells a_cellSort a_cellKind a_cellValue a_asideSort a_asideKind a_asideValue a_outcome v_marks v_came v_guessed v_right v_taken a_markSort a_markKind a_markClass a_markValue v_sort v_kindAt v_value a_index v_reached v_looked) := hD
    refine lv_aload_n hx hb dX10_spell_21 rfl (lv_at hl 0 rfl) ?_
    refine va_get (D := D) (ci := 9) (v := .int s1_18) (C := RX10) (T := TX10) (N := 71) hx hb hts hin hown hK hP 0 rfl rfl 0 (by decide) k_7_9 (fun _ h9 => h9) rfl dX10_spell_22 ?_
    refine m_if_le (X := s1_18.toInt) (tgt := 30) hx hb dX10_spell_25 (by decide) rfl (fun c25 => ?_) (fun c25 => ?_)
    · skip
      have t9 := tn (i := k9) (by omega)
      have k31 : (3100 : Int32).toInt = 3100 := by decide
      obtain ⟨g1, g2⟩ := p_2 k9.toNatClampNeg (by omega)
      rw [Nat.zero_add] at g1 g2
      obtain ⟨⟨s0, s1⟩, ⟨s2, s3⟩, s4, s5⟩ := g2
      refine lv_aload_n hx hb dX10_spell_30 rfl (lv_at hl 0 rfl) ?_
      refine lv_iconst (v := 0) hx hb dX10_spell_31 (by decide) ?_
      refine va_put (D := D) (ci := 9) (v := .int 0) (ty := .int) (C := RX10) (T := TX10) (N := 71) hx hb hts hin tyX10 tyX10_ok nmX10 hown hK hP hD hS 0 rfl rfl 38 (by decide) k_34_9 (fun _ h9 => h9) rfl (by decide +kernel) rfl rfl (Nat.le_of_ble_eq_true rfl) dX10_spell_32 (fun H locs hP hD hS => ?_)
      have hP : va_P D vwCl (mw cs q s1_18 a_tape v_taped v_size v_to v_kind v_from v_letters v_letterMany v_digits v_isBeyond v_suffix v_steps v_fault v_hasProgram a_text a_act a_guess a_take a_begin a_finish a_to1 a_one a_two a_what a_ats a_atVar a_atNumber a_atomSort a_atomKind a_atomValue v_wrong v_wrongAt v_variable v_number v_numberKind v_takes a_out (0 : Int32) a_varSort a_varKind a_varValue a_creature v_creatures a_arrayClass a_arrayFrom a_arrayLong v_arrays v_cells a_cellSort a_cellKind a_cellValue a_asideSort a_asideKind a_asideValue a_outcome v_marks v_came v_guessed v_right v_taken a_markSort a_markKind a_markClass a_markValue v_sort v_kindAt v_value a_index v_reached v_looked) H := hP
      have hD : va_D A (mw cs q s1_18 a_tape v_taped v_size v_to v_kind v_from v_letters v_letterMany v_digits v_isBeyond v_suffix v_steps v_fault v_hasProgram a_text a_act a_guess a_take a_begin a_finish a_to1 a_one a_two a_what a_ats a_atVar a_atNumber a_atomSort a_atomKind a_atomValue v_wrong v_wrongAt v_variable v_number v_numberKind v_takes a_out (0 : Int32) a_varSort a_varKind a_varValue a_creature v_creatures a_arrayClass a_arrayFrom a_arrayLong v_arrays v_cells a_cellSort a_cellKind a_cellValue a_asideSort a_asideKind a_asideValue a_outcome v_marks v_came v_guessed v_right v_taken a_markSort a_markKind a_markClass a_markValue v_sort v_kindAt v_value a_index v_reached v_looked) := hD
      refine lv_aload_n hx hb dX10_spell_35 rfl (lv_at hl 0 rfl) ?_
      refine va_get (D := D) (ci := 9) (v := .ref (q 6)) (C := RX10) (T := TX10) (N := 71) hx hb hts hin hown hK hP 0 rfl rfl 19 (by decide) k_5_12 (fun _ h9 => h9) rfl dX10_spell_36 ?_
      refine lv_iload_n hx hb dX10_spell_39 rfl (lv_at hl 1 rfl) ?_
      refine m_iald hx hb hK hP 6 0 rfl rfl (ix (by omega) (by omega)) dX10_spell_40 (fun x40 e_x40 => ?_)
      have b_x40 := iB x40
      have hx40 := congrArg Int32.toInt e_x40
      have ep : ph a_text x40 = ph a_text (a_begin k9.toNatClampNeg) := ph_eq hx40
      refine lv_istore_n (lv' := [(2, .int x40), (0, .ref (q 0)), (1, .int k9)]) hx hb dX10_spell_41 rfl hl (by decide) rfl (fun ls hl => ?_)
      refine lv_iconst (v := 0) hx hb dX10_spell_42 (by decide) ?_
      refine lv_istore_n (lv' := [(3, .int 0), (2, .int x40), (0, .ref (q 0)), (1, .int k9)]) hx hb dX10_spell_43 rfl hl (by decide) rfl (fun ls hl => ?_)
      have J44 : ∀ (n44 : Nat) (l2_44 : Int32) (l3_44 : Int32) (a_out_44 : Nat → Int32) (v_outed_44 : Int32) (H : Heap) (locs : List Loc) (ls : Array Slot), ((a_begin k9.toNatClampNeg).toInt ≤ l2_44.toInt) → (l2_44.toInt ≤ (a_finish k9.toNatClampNeg).toInt) → (0 ≤ v_outed_44.toInt) → (l2_44.toInt = (a_begin k9.toNatClampNeg).toInt → v_outed_44.toInt = 0) → (v_outed_44.toInt + (ph a_text (a_begin k9.toNatClampNeg) : Int) ≤ l2_44.toInt - (a_begin k9.toNatClampNeg).toInt + (ph a_text l2_44 : Int) + 1) → (l2_44.toInt = (a_begin k9.toNatClampNeg).toInt ∨ ¬ isAl (a_text (l2_44.toNatClampNeg - 1)) ∨ ¬ isAl (a_text l2_44.toNatClampNeg)) → ((a_finish k9.toNatClampNeg).toInt - l2_44.toInt < (n44 : Int)) → va_P D vwCl (mw cs q s1_18 a_tape v_taped v_size v_to v_kind v_from v_letters v_letterMany v_digits v_isBeyond v_suffix v_steps v_fault v_hasProgram a_text a_act a_guess a_take a_begin a_finish a_to1 a_one a_two a_what a_ats a_atVar a_atNumber a_atomSort a_atomKind a_atomValue v_wrong v_wrongAt v_variable v_number v_numberKind v_takes a_out_44 v_outed_44 a_varSort a_varKind a_varValue a_creature v_creatures a_arrayClass a_arrayFrom a_arrayLong v_arrays v_cells a_cellSort a_cellKind a_cellValue a_asideSort a_asideKind a_asideValue a_outcome v_marks v_came v_guessed v_right v_taken a_markSort a_markKind a_markClass a_markValue v_sort v_kindAt v_value a_index v_reached v_looked) H → va_D A (mw cs q s1_18 a_tape v_taped v_size v_to v_kind v_from v_letters v_letterMany v_digits v_isBeyond v_suffix v_steps v_fault v_hasProgram a_text a_act a_guess a_take a_begin a_finish a_to1 a_one a_two a_what a_ats a_atVar a_atNumber a_atomSort a_atomKind a_atomValue v_wrong v_wrongAt v_variable v_number v_numberKind v_takes a_out_44 v_outed_44 a_varSort a_varKind a_varValue a_creature v_creatures a_arrayClass a_arrayFrom a_arrayLong v_arrays v_cells a_cellSort a_cellKind a_cellValue a_asideSort a_asideKind a_asideValue a_outcome v_marks v_came v_guessed v_right v_taken a_markSort a_markKind a_markClass a_markValue v_sort v_kindAt v_value a_index v_reached v_looked) → va_S A s.heap H locs → lv_has ls 5 [(0, .ref (q 0)), (1, .int k9), (2, .int l2_44), (3, .int l3_44)] → W p l e (headSpec (wG yX10_spell cX10_spell 5 (some .int)) rmX10_spell).room s m ([.ref (q 0), .int k9] : List Value).toArray below meth c H locs 0 0 Q (F0 m 44 ls []) := by
        intro n44
        induction n44 with
        | zero =>
          intro l2_44 l3_44 a_out_44 v_outed_44 H locs ls f44_0 f44_1 f44_2 f44_3 f44_4 f44_5 hm44
          exfalso
          omega
        | succ n44 ih44 =>
          intro l2_44 l3_44 a_out_44 v_outed_44 H locs ls f44_0 f44_1 f44_2 f44_3 f44_4 f44_5 hm44 hP hD hS hl
          refine lv_iload_n hx hb dX10_spell_44 rfl (lv_at hl 2 rfl) ?_
          refine lv_aload_n hx hb dX10_spell_45 rfl (lv_at hl 0 rfl) ?_
          refine va_get (D := D) (ci := 9) (v := .ref (q 7)) (C := RX10) (T := TX10) (N := 71) hx hb hts hin hown hK hP 0 rfl rfl 20 (by decide) k_5_13 (fun _ h9 => h9) rfl dX10_spell_46 ?_
          refine lv_iload_n hx hb dX10_spell_49 rfl (lv_at hl 1 rfl) ?_
          refine m_iald hx hb hK hP 7 0 rfl rfl (ix (by omega) (by omega)) dX10_spell_50 (fun x50 e_x50 => ?_)
          have b_x50 := iB x50
          have hx50 := congrArg Int32.toInt e_x50
          refine m_icmp_ge (X := l2_44.toInt) (Y := x50.toInt) (tgt := 241) hx hb dX10_spell_51 (by decide) rfl rfl (fun c51 => ?_) (fun c51 => ?_)
          · skip
            have hm3 := ph_mono a_text (x := l2_44) (y := (a_finish k9.toNatClampNeg)) (by omega) (by omega)
            refine lv_aload_n hx hb dX10_spell_241 rfl (lv_at hl 0 rfl) ?_
            refine va_get (D := D) (ci := 9) (v := .int v_outed_44) (C := RX10) (T := TX10) (N := 71) hx hb hts hin hown hK hP 0 rfl rfl 38 (by decide) k_34_9 (fun _ h9 => h9) rfl dX10_spell_242 ?_
            subst hAe
            rw [hQ]
            exact W.iret (v := v_outed_44) hx hb hr (fun t ht hW => ⟨⟨v_outed_44, _, rfl, ⟨s1_18, a_out_44, v_outed_44, rfl, by first | assumption | omega | (intros; omega) | decide, by first | assumption | omega | (intros; omega) | decide⟩, by rw [ht]; exact hP, va_K.moved hW.alike hK, hD⟩, hS.F ht⟩) hS.2.2 dX10_spell_245
          · skip
            have hm1 := ph_mono a_text (x := l2_44) (y := (a_finish k9.toNatClampNeg)) (by omega) (by omega)
            have tp := tn (i := l2_44) (by omega)
            refine lv_aload_n hx hb dX10_spell_54 rfl (lv_at hl 0 rfl) ?_
            refine va_get (D := D) (ci := 9) (v := .ref (q 2)) (C := RX10) (T := TX10) (N := 71) hx hb hts hin hown hK hP 0 rfl rfl 15 (by decide) k_5_8 (fun _ h9 => h9) rfl dX10_spell_55 ?_
            refine lv_iload_n hx hb dX10_spell_58 rfl (lv_at hl 2 rfl) ?_
            refine m_iald hx hb hK hP 2 0 rfl rfl (ix (by omega) (by omega)) dX10_spell_59 (fun x59 e_x59 => ?_)
            have b_x59 := iB x59
            refine lv_istore (lv' := [(4, .int x59), (0, .ref (q 0)), (1, .int k9), (2, .int l2_44), (3, .int l3_44)]) hx hb dX10_spell_60 hl (by decide) rfl (fun ls hl => ?_)
            refine lv_iload hx hb dX10_spell_62 (lv_at hl 0 rfl) ?_
            refine lv_bipush (v := 32) hx hb dX10_spell_64 (by decide) ?_
            have J76 : ∀ (H : Heap) (locs : List Loc) (ls : Array Slot), (x59.toInt = 32 ∨ x59.toInt = 10) → va_P D vwCl (mw cs q s1_18 a_tape v_taped v_size v_to v_kind v_from v_letters v_letterMany v_digits v_isBeyond v_suffix v_steps v_fault v_hasProgram a_text a_act a_guess a_take a_begin a_finish a_to1 a_one a_two a_what a_ats a_atVar a_atNumber a_atomSort a_atomKind a_atomValue v_wrong v_wrongAt v_variable v_number v_numberKind v_takes a_out_44 v_outed_44 a_varSort a_varKind a_varValue a_creature v_creatures a_arrayClass a_arrayFrom a_arrayLong v_arrays v_cells a_cellSort a_cellKind a_cellValue a_asideSort a_asideKind a_asideValue a_outcome v_marks v_came v_guessed v_right v_taken a_markSort a_markKind a_markClass a_markValue v_sort v_kindAt v_value a_index v_reached v_looked) H → va_D A (mw cs q s1_18 a_tape v_taped v_size v_to v_kind v_from v_letters v_letterMany v_digits v_isBeyond v_suffix v_steps v_fault v_hasProgram a_text a_act a_guess a_take a_begin a_finish a_to1 a_one a_two a_what a_ats a_atVar a_atNumber a_atomSort a_atomKind a_atomValue v_wrong v_wrongAt v_variable v_number v_numberKind v_takes a_out_44 v_outed_44 a_varSort a_varKind a_varValue a_creature v_creatures a_arrayClass a_arrayFrom a_arrayLong v_arrays v_cells a_cellSort a_cellKind a_cellValue a_asideSort a_asideKind a_asideValue a_outcome v_marks v_came v_guessed v_right v_taken a_markSort a_markKind a_markClass a_markValue v_sort v_kindAt v_value a_index v_reached v_looked) → va_S A s.heap H locs → lv_has ls 5 [(0, .ref (q 0)), (1, .int k9), (2, .int l2_44), (3, .int l3_44)] → W p l e (headSpec (wG yX10_spell cX10_spell 5 (some .int)) rmX10_spell).room s m ([.ref (q 0), .int k9] : List Value).toArray below meth c H locs 0 0 Q (F0 m 76 ls []) := by
              intro H locs ls f76_0 hP hD hS hl
              obtain ⟨x76, e_x76⟩ : ∃ z : Int32, z = l2_44 + (1 : Int32) := ⟨_, rfl⟩
              obtain ⟨k_x76, g_x76⟩ : ∃ k : Int, x76.toInt = l2_44.toInt + (1) + k * 4294967296 := by rw [e_x76]; exact iAdd l2_44 (1)
              have b_x76 := iB x76
              try (have q_x76 : x76.toInt = l2_44.toInt + (1) := (by omega); clear g_x76 k_x76)
              refine lv_iinc (v := x76) (lv' := [(2, .int x76), (0, .ref (q 0)), (1, .int k9), (3, .int l3_44)]) hx hb dX10_spell_76 hl (k := 2) rfl (by rw [e_x76]; rfl) (by decide) rfl (fun ls hl => ?_)
              refine lv_goto (tgt := 44) hx hb dX10_spell_79 (by decide) ?_
              exact ih44 x76 l3_44 a_out_44 v_outed_44 H locs ls (by first | assumption | omega | (intros; omega) | decide) (by first | assumption | omega | (intros; omega) | decide) (by first | assumption | omega | (intros; omega) | decide) (by first | assumption | omega | (intros; omega) | decide) (by first | (rw [ep]; omega) | (have h9 := ph_mono a_text (x := l2_44) (y := x76) (by omega) (by omega); omega) | (have h9 := ph_tk (f := a_text) (x := l2_44) (y := x76) (by omega) (by omega) htk; omega) | (rcases htk with h8 | h8 <;> first | (have h9 := ph_mono a_text (x := l2_44) (y := x76) (by omega) (by omega); omega) | (have h9 := ph_tk (f := a_text) (x := l2_44) (y := x76) (by omega) (by omega) h8; omega))) (by first | exact Or.inl (by omega) | exact Or.inr (Or.inl (by rw [show x76.toNatClampNeg - 1 = l2_44.toNatClampNeg from by have h9 := tn_succ (x := l2_44) (z := x76) (by omega) (by omega); omega, ← e_x59]; intro h9; rcases h9 with h9 | h9 <;> omega)) | exact Or.inr (Or.inr hna)) (by omega) hP hD hS (lv_sub hl [1, 2, 0, 3] rfl)
            refine m_icmp_eq (X := x59.toInt) (Y := 32) (tgt := 76) hx hb dX10_spell_66 (by decide) rfl (by decide) (fun c66 => ?_) (fun c66 => ?_)
            · skip
              exact J76 H locs ls (by first | assumption | omega | (intros; omega) | decide) hP hD hS (lv_sub hl [1, 2, 3, 4] rfl)
            · skip
              refine lv_iload hx hb dX10_spell_69 (lv_at hl 0 rfl) ?_
              refine lv_bipush (v := 10) hx hb dX10_spell_71 (by decide) ?_
              refine m_icmp_ne (X := x59.toInt) (Y := 10) (tgt := 82) hx hb dX10_spell_73 (by decide) rfl (by decide) (fun c73 => ?_) (fun c73 => ?_)
              · skip
                refine lv_aload_n hx hb dX10_spell_82 rfl (lv_at hl 1 rfl) ?_
                refine va_get (D := D) (ci := 9) (v := .int v_outed_44) (C := RX10) (T := TX10) (N := 71) hx hb hts hin hown hK hP 0 rfl rfl 38 (by decide) k_34_9 (fun _ h9 => h9) rfl dX10_spell_83 ?_
                have J128 : ∀ (a_out_128 : Nat → Int32) (v_outed_128 : Int32) (H : Heap) (locs : List Loc) (ls : Array Slot), (0 ≤ v_outed_128.toInt) → (l2_44.toInt = (a_begin k9.toNatClampNeg).toInt → v_outed_128.toInt = 0) → (v_outed_128.toInt ≤ v_outed_44.toInt + 1) → va_P D vwCl (mw cs q s1_18 a_tape v_taped v_size v_to v_kind v_from v_letters v_letterMany v_digits v_isBeyond v_suffix v_steps v_fault v_hasProgram a_text a_act a_guess a_take a_begin a_finish a_to1 a_one a_two a_what a_ats a_atVar a_atNumber a_atomSort a_atomKind a_atomValue v_wrong v_wrongAt v_variable v_number v_numberKind v_takes a_out_128 v_outed_128 a_varSort a_varKind a_varValue a_creature v_creatures a_arrayClass a_arrayFrom a_arrayLong v_arrays v_cells a_cellSort a_cellKind a_cellValue a_asideSort a_asideKind a_asideValue a_outcome v_marks v_came v_guessed v_right v_taken a_markSort a_markKind a_markClass a_markValue v_sort v_kindAt v_value a_index v_reached v_looked) H → va_D A (mw cs q s1_18 a_tape v_taped v_size v_to v_kind v_from v_letters v_letterMany v_digits v_isBeyond v_suffix v_steps v_fault v_hasProgram a_text a_act a_guess a_take a_begin a_finish a_to1 a_one a_two a_what a_ats a_atVar a_atNumber a_atomSort a_atomKind a_atomValue v_wrong v_wrongAt v_variable v_number v_numberKind v_takes a_out_128 v_outed_128 a_varSort a_varKind a_varValue a_creature v_creatures a_arrayClass a_arrayFrom a_arrayLong v_arrays v_cells a_cellSort a_cellKind a_cellValue a_asideSort a_asideKind a_asideValue a_outcome v_marks v_came v_guessed v_right v_taken a_markSort a_markKind a_markClass a_markValue v_sort v_kindAt v_value a_index v_reached v_looked) → va_S A s.heap H locs → lv_has ls 5 [(0, .ref (q 0)), (1, .int k9), (2, .int l2_44), (4, .int x59)] → W p l e (headSpec (wG yX10_spell cX10_spell 5 (some .int)) rmX10_spell).room s m ([.ref (q 0), .int k9] : List Value).toArray below meth c H locs 0 0 Q (F0 m 128 ls []) := by
                  intro a_out_128 v_outed_128 H locs ls f128_0 f128_1 f128_2 hP hD hS hl
                  refine lv_iload hx hb dX10_spell_128 (lv_at hl 3 rfl) ?_
                  refine lv_istore_n (lv' := [(3, .int x59), (0, .ref (q 0)), (1, .int k9), (2, .int l2_44), (4, .int x59)]) hx hb dX10_spell_130 rfl hl (by decide) rfl (fun ls hl => ?_)
                  refine lv_iload hx hb dX10_spell_131 (lv_at hl 4 rfl) ?_
                  refine call_iSP (As := [.int x59]) (rest := []) ⟨hx, hb, hml, hown, hts⟩ (tX10_isLetter (l := l) x59) (va_cwS 1 hts (gS (wr23 _ (List.mem_of_getElem? (i := 6) rfl)) (wr23 _ (List.mem_of_getElem? (i := 7) rfl)) (wr1 _ (List.mem_of_getElem? (i := 5) rfl)) (wr23 _ (List.mem_of_getElem? (i := 8) rfl))) rfl rfl rfl (by decide +kernel) ⟨Nat.le_of_ble_eq_true rfl, Nat.le_of_ble_eq_true rfl⟩) (hK.sub [] rfl) hP hD hE hS hA rfl hl.1 rfl (Nat.le_of_ble_eq_true rfl) dX10_spell_133 ⟨Nat.le_of_ble_eq_true rfl, Nat.le_of_ble_eq_true rfl⟩ (fun r133 w9 H locs hw133 hP hD hS => ?_)
                  obtain ⟨rfl, hw133_0⟩ := hw133
                  have b_r133 := iB r133
                  have J159 : ∀ (H : Heap) (locs : List Loc) (ls : Array Slot), (isAl (a_text l2_44.toNatClampNeg)) → va_P D vwCl (mw cs q s1_18 a_tape v_taped v_size v_to v_kind v_from v_letters v_letterMany v_digits v_isBeyond v_suffix v_steps v_fault v_hasProgram a_text a_act a_guess a_take a_begin a_finish a_to1 a_one a_two a_what a_ats a_atVar a_atNumber a_atomSort a_atomKind a_atomValue v_wrong v_wrongAt v_variable v_number v_numberKind v_takes a_out_128 v_outed_128 a_varSort a_varKind a_varValue a_creature v_creatures a_arrayClass a_arrayFrom a_arrayLong v_arrays v_cells a_cellSort a_cellKind a_cellValue a_asideSort a_asideKind a_asideValue a_outcome v_marks v_came v_guessed v_right v_taken a_markSort a_markKind a_markClass a_markValue v_sort v_kindAt v_value a_index v_reached v_looked) H → va_D A (mw cs q s1_18 a_tape v_taped v_size v_to v_kind v_from v_letters v_letterMany v_digits v_isBeyond v_suffix v_steps v_fault v_hasProgram a_text a_act a_guess a_take a_begin a_finish a_to1 a_one a_two a_what a_ats a_atVar a_atNumber a_atomSort a_atomKind a_atomValue v_wrong v_wrongAt v_variable v_number v_numberKind v_takes a_out_128 v_outed_128 a_varSort a_varKind a_varValue a_creature v_creatures a_arrayClass a_arrayFrom a_arrayLong v_arrays v_cells a_cellSort a_cellKind a_cellValue a_asideSort a_asideKind a_asideValue a_outcome v_marks v_came v_guessed v_right v_taken a_markSort a_markKind a_markClass a_markValue v_sort v_kindAt v_value a_index v_reached v_looked) → va_S A s.heap H locs → lv_has ls 5 [(0, .ref (q 0)), (1, .int k9), (2, .int l2_44), (3, .int x59), (4, .int x59)] → W p l e (headSpec (wG yX10_spell cX10_spell 5 (some .int)) rmX10_spell).room s m ([.ref (q 0), .int k9] : List Value).toArray below meth c H locs 0 0 Q (F0 m 159 ls []) := by
                    intro H locs ls f159_0 hP hD hS hl
                    have htk : l2_44.toInt = (a_begin k9.toNatClampNeg).toInt ∨ tks a_text l2_44.toNatClampNeg := by
                      rcases f44_5 with h9 | h9 | h9
                      · exact Or.inl h9
                      · exact Or.inr ⟨by rw [← e_x59]; intro h8; rcases h8 with h8 | h8 <;> omega, fun q => h9 q.2.2⟩
                      · exact absurd f159_0 h9
                    refine lv_iload hx hb dX10_spell_159 (lv_at hl 4 rfl) ?_
                    refine call_iSP (As := [.int x59]) (rest := []) ⟨hx, hb, hml, hown, hts⟩ (tX10_isDigit (l := l) x59) (va_cwS 1 hts (gS (wr23 _ (List.mem_of_getElem? (i := 9) rfl)) (wr23 _ (List.mem_of_getElem? (i := 10) rfl)) (wr1 _ (List.mem_of_getElem? (i := 5) rfl)) (wr23 _ (List.mem_of_getElem? (i := 11) rfl))) rfl rfl rfl (by decide +kernel) ⟨Nat.le_of_ble_eq_true rfl, Nat.le_of_ble_eq_true rfl⟩) (hK.sub [] rfl) hP hD hE hS hA rfl hl.1 rfl (Nat.le_of_ble_eq_true rfl) dX10_spell_161 ⟨Nat.le_of_ble_eq_true rfl, Nat.le_of_ble_eq_true rfl⟩ (fun r161 w9 H locs hw161 hP hD hS => ?_)
                    obtain ⟨rfl, hw161_0⟩ := hw161
                    have b_r161 := iB r161
                    have J198 : ∀ (n198 : Nat) (l2_198 : Int32) (a_out_198 : Nat → Int32) (v_outed_198 : Int32) (H : Heap) (locs : List Loc) (ls : Array Slot), (l2_44.toInt ≤ l2_198.toInt) → (l2_198.toInt < (a_finish k9.toNatClampNeg).toInt) → (l2_44.toInt < l2_198.toInt ∨ isAl (a_text l2_198.toNatClampNeg)) → (0 ≤ v_outed_198.toInt) → (v_outed_198.toInt + l2_44.toInt ≤ v_outed_128.toInt + l2_198.toInt) → ((a_finish k9.toNatClampNeg).toInt - l2_198.toInt < (n198 : Int)) → va_P D vwCl (mw cs q s1_18 a_tape v_taped v_size v_to v_kind v_from v_letters v_letterMany v_digits v_isBeyond v_suffix v_steps v_fault v_hasProgram a_text a_act a_guess a_take a_begin a_finish a_to1 a_one a_two a_what a_ats a_atVar a_atNumber a_atomSort a_atomKind a_atomValue v_wrong v_wrongAt v_variable v_number v_numberKind v_takes a_out_198 v_outed_198 a_varSort a_varKind a_varValue a_creature v_creatures a_arrayClass a_arrayFrom a_arrayLong v_arrays v_cells a_cellSort a_cellKind a_cellValue a_asideSort a_asideKind a_asideValue a_outcome v_marks v_came v_guessed v_right v_taken a_markSort a_markKind a_markClass a_markValue v_sort v_kindAt v_value a_index v_reached v_looked) H → va_D A (mw cs q s1_18 a_tape v_taped v_size v_to v_kind v_from v_letters v_letterMany v_digits v_isBeyond v_suffix v_steps v_fault v_hasProgram a_text a_act a_guess a_take a_begin a_finish a_to1 a_one a_two a_what a_ats a_atVar a_atNumber a_atomSort a_atomKind a_atomValue v_wrong v_wrongAt v_variable v_number v_numberKind v_takes a_out_198 v_outed_198 a_varSort a_varKind a_varValue a_creature v_creatures a_arrayClass a_arrayFrom a_arrayLong v_arrays v_cells a_cellSort a_cellKind a_cellValue a_asideSort a_asideKind a_asideValue a_outcome v_marks v_came v_guessed v_right v_taken a_markSort a_markKind a_markClass a_markValue v_sort v_kindAt v_value a_index v_reached v_looked) → va_S A s.heap H locs → lv_has ls 5 [(0, .ref (q 0)), (1, .int k9), (2, .int l2_198), (3, .int x59)] → W p l e (headSpec (wG yX10_spell cX10_spell 5 (some .int)) rmX10_spell).room s m ([.ref (q 0), .int k9] : List Value).toArray below meth c H locs 0 0 Q (F0 m 198 ls []) := by
                      intro n198
                      induction n198 with
                      | zero =>
                        intro l2_198 a_out_198 v_outed_198 H locs ls f198_0 f198_1 f198_2 f198_3 f198_4 hm198
                        exfalso
                        omega
                      | succ n198 ih198 =>
                        intro l2_198 a_out_198 v_outed_198 H locs ls f198_0 f198_1 f198_2 f198_3 f198_4 hm198 hP hD hS hl
                        refine lv_aload_n hx hb dX10_spell_198 rfl (lv_at hl 0 rfl) ?_
                        refine va_get (D := D) (ci := 9) (v := .ref (q 2)) (C := RX10) (T := TX10) (N := 71) hx hb hts hin hown hK hP 0 rfl rfl 15 (by decide) k_5_8 (fun _ h9 => h9) rfl dX10_spell_199 ?_
                        refine lv_iload_n hx hb dX10_spell_202 rfl (lv_at hl 2 rfl) ?_
                        refine m_iald hx hb hK hP 2 0 rfl rfl (ix (by omega) (by omega)) dX10_spell_203 (fun x203 e_x203 => ?_)
                        have b_x203 := iB x203
                        refine call_iSP (As := [.int x203]) (rest := []) ⟨hx, hb, hml, hown, hts⟩ (tX10_isLetter (l := l) x203) (va_cwS 1 hts (gS (wr23 _ (List.mem_of_getElem? (i := 6) rfl)) (wr23 _ (List.mem_of_getElem? (i := 7) rfl)) (wr1 _ (List.mem_of_getElem? (i := 5) rfl)) (wr23 _ (List.mem_of_getElem? (i := 8) rfl))) rfl rfl rfl (by decide +kernel) ⟨Nat.le_of_ble_eq_true rfl, Nat.le_of_ble_eq_true rfl⟩) (hK.sub [] rfl) hP hD hE hS hA rfl hl.1 rfl (Nat.le_of_ble_eq_true rfl) dX10_spell_204 ⟨Nat.le_of_ble_eq_true rfl, Nat.le_of_ble_eq_true rfl⟩ (fun r204 w9 H locs hw204 hP hD hS => ?_)
                        obtain ⟨rfl, hw204_0⟩ := hw204
                        have b_r204 := iB r204
                        have J222 : ∀ (H : Heap) (locs : List Loc) (ls : Array Slot), (isAl (a_text l2_198.toNatClampNeg)) → va_P D vwCl (mw cs q s1_18 a_tape v_taped v_size v_to v_kind v_from v_letters v_letterMany v_digits v_isBeyond v_suffix v_steps v_fault v_hasProgram a_text a_act a_guess a_take a_begin a_finish a_to1 a_one a_two a_what a_ats a_atVar a_atNumber a_atomSort a_atomKind a_atomValue v_wrong v_wrongAt v_variable v_number v_numberKind v_takes a_out_198 v_outed_198 a_varSort a_varKind a_varValue a_creature v_creatures a_arrayClass a_arrayFrom a_arrayLong v_arrays v_cells a_cellSort a_cellKind a_cellValue a_asideSort a_asideKind a_asideValue a_outcome v_marks v_came v_guessed v_right v_taken a_markSort a_markKind a_markClass a_markValue v_sort v_kindAt v_value a_index v_reached v_looked) H → va_D A (mw cs q s1_18 a_tape v_taped v_size v_to v_kind v_from v_letters v_letterMany v_digits v_isBeyond v_suffix v_steps v_fault v_hasProgram a_text a_act a_guess a_take a_begin a_finish a_to1 a_one a_two a_what a_ats a_atVar a_atNumber a_atomSort a_atomKind a_atomValue v_wrong v_wrongAt v_variable v_number v_numberKind v_takes a_out_198 v_outed_198 a_varSort a_varKind a_varValue a_creature v_creatures a_arrayClass a_arrayFrom a_arrayLong v_arrays v_cells a_cellSort a_cellKind a_cellValue a_asideSort a_asideKind a_asideValue a_outcome v_marks v_came v_guessed v_right v_taken a_markSort a_markKind a_markClass a_markValue v_sort v_kindAt v_value a_index v_reached v_looked) → va_S A s.heap H locs → lv_has ls 5 [(0, .ref (q 0)), (1, .int k9), (2, .int l2_198), (3, .int x59)] → W p l e (headSpec (wG yX10_spell cX10_spell 5 (some .int)) rmX10_spell).room s m ([.ref (q 0), .int k9] : List Value).toArray below meth c H locs 0 0 Q (F0 m 222 ls []) := by
                          intro H locs ls f222_0 hP hD hS hl
                          have hnl := not_last (x := l2_198) (t := (a_finish k9.toNatClampNeg)) (by omega) f198_1 s4 f222_0
                          have hm2 := ph_mono a_text (x := l2_44) (y := (a_finish k9.toNatClampNeg)) (by omega) (by omega)
                          refine lv_aload_n hx hb dX10_spell_222 rfl (lv_at hl 0 rfl) ?_
                          refine lv_aload_n hx hb dX10_spell_223 rfl (lv_at hl 0 rfl) ?_
                          refine va_get (D := D) (ci := 9) (v := .ref (q 2)) (C := RX10) (T := TX10) (N := 71) hx hb hts hin hown hK hP 0 rfl rfl 15 (by decide) k_5_8 (fun _ h9 => h9) rfl dX10_spell_224 ?_
                          refine lv_iload_n hx hb dX10_spell_227 rfl (lv_at hl 2 rfl) ?_
                          refine m_iald hx hb hK hP 2 0 rfl rfl (ix (by omega) (by omega)) dX10_spell_228 (fun x228 e_x228 => ?_)
                          have b_x228 := iB x228
                          refine call_v (As := [.int x228]) (rest := []) ⟨hx, hb, hml, hown, hts⟩ (tX10_put (l := l) x228 (by first | assumption | omega | (intros; omega) | decide) (by first | assumption | omega | (intros; omega) | decide)) (cwV 1 hts (gV (wr34 _ (List.mem_of_getElem? (i := 10) rfl)) (wr34 _ (List.mem_of_getElem? (i := 11) rfl)) (wr34 _ (List.mem_of_getElem? (i := 12) rfl)) (wr1 _ (List.mem_of_getElem? (i := 5) rfl)) (wr34 _ (List.mem_of_getElem? (i := 13) rfl))) rfl rfl rfl (by decide +kernel) ⟨Nat.le_of_ble_eq_true rfl, Nat.le_of_ble_eq_true rfl⟩) (va_recv hK hP (ci := 9) (q0 := 0) rfl rfl) hK hP hD hE hS hA rfl hl.1 rfl (Nat.le_of_ble_eq_true rfl) dX10_spell_229 ⟨Nat.le_of_ble_eq_true rfl, Nat.le_of_ble_eq_true rfl⟩ (fun w9 H locs hw229 hP hD hS => ?_)
                          obtain ⟨a_out_229, v_outed_229, rfl, hw229_0⟩ := hw229
                          have b_v_outed_229 := iB v_outed_229
                          obtain ⟨x232, e_x232⟩ : ∃ z : Int32, z = l2_198 + (1 : Int32) := ⟨_, rfl⟩
                          obtain ⟨k_x232, g_x232⟩ : ∃ k : Int, x232.toInt = l2_198.toInt + (1) + k * 4294967296 := by rw [e_x232]; exact iAdd l2_198 (1)
                          have b_x232 := iB x232
                          try (have q_x232 : x232.toInt = l2_198.toInt + (1) := (by omega); clear g_x232 k_x232)
                          refine lv_iinc (v := x232) (lv' := [(2, .int x232), (0, .ref (q 0)), (1, .int k9), (3, .int x59)]) hx hb dX10_spell_232 hl (k := 2) rfl (by rw [e_x232]; rfl) (by decide) rfl (fun ls hl => ?_)
                          refine lv_goto (tgt := 198) hx hb dX10_spell_235 (by decide) ?_
                          exact ih198 x232 a_out_229 v_outed_229 H locs ls (by first | assumption | omega | (intros; omega) | decide) (by first | assumption | omega | (intros; omega) | decide) (by first | exact Or.inr (by assumption) | exact Or.inl (by omega)) (by first | assumption | omega | (intros; omega) | decide) (by first | assumption | omega | (intros; omega) | decide) (by omega) hP hD hS (lv_sub hl [1, 2, 0, 3] rfl)
                        refine m_if_ne (X := r204.toInt) (tgt := 222) hx hb dX10_spell_207 (by decide) rfl (fun c207 => ?_) (fun c207 => ?_)
                        · skip
                          exact J222 H locs ls (by first | (rw [← e_x203]; exact Or.inl (by omega)) | (rw [← e_x215]; exact Or.inr (by omega))) hP hD hS (lv_sub hl [0, 1, 2, 3] rfl)
                        · skip
                          refine lv_aload_n hx hb dX10_spell_210 rfl (lv_at hl 0 rfl) ?_
                          refine va_get (D := D) (ci := 9) (v := .ref (q 2)) (C := RX10) (T := TX10) (N := 71) hx hb hts hin hown hK hP 0 rfl rfl 15 (by decide) k_5_8 (fun _ h9 => h9) rfl dX10_spell_211 ?_
                          refine lv_iload_n hx hb dX10_spell_214 rfl (lv_at hl 2 rfl) ?_
                          refine m_iald hx hb hK hP 2 0 rfl rfl (ix (by omega) (by omega)) dX10_spell_215 (fun x215 e_x215 => ?_)
                          have b_x215 := iB x215
                          refine call_iSP (As := [.int x215]) (rest := []) ⟨hx, hb, hml, hown, hts⟩ (tX10_isDigit (l := l) x215) (va_cwS 1 hts (gS (wr23 _ (List.mem_of_getElem? (i := 9) rfl)) (wr23 _ (List.mem_of_getElem? (i := 10) rfl)) (wr1 _ (List.mem_of_getElem? (i := 5) rfl)) (wr23 _ (List.mem_of_getElem? (i := 11) rfl))) rfl rfl rfl (by decide +kernel) ⟨Nat.le_of_ble_eq_true rfl, Nat.le_of_ble_eq_true rfl⟩) (hK.sub [] rfl) hP hD hE hS hA rfl hl.1 rfl (Nat.le_of_ble_eq_true rfl) dX10_spell_216 ⟨Nat.le_of_ble_eq_true rfl, Nat.le_of_ble_eq_true rfl⟩ (fun r216 w9 H locs hw216 hP hD hS => ?_)
                          obtain ⟨rfl, hw216_0⟩ := hw216
                          have b_r216 := iB r216
                          refine m_if_eq (X := r216.toInt) (tgt := 238) hx hb dX10_spell_219 (by decide) rfl (fun c219 => ?_) (fun c219 => ?_)
                          · skip
                            have h7 := congrArg Int32.toInt e_x203
                            have h6 := congrArg Int32.toInt e_x215
                            have hna : ¬ isAl (a_text l2_198.toNatClampNeg) := by intro h9; rcases h9 with h9 | h9 <;> omega
                            have hlt : l2_44.toInt < l2_198.toInt := f198_2.resolve_right hna
                            refine lv_goto (tgt := 44) hx hb dX10_spell_238 (by decide) ?_
                            exact ih44 l2_198 x59 a_out_198 v_outed_198 H locs ls (by first | assumption | omega | (intros; omega) | decide) (by first | assumption | omega | (intros; omega) | decide) (by first | assumption | omega | (intros; omega) | decide) (by first | assumption | omega | (intros; omega) | decide) (by first | (rw [ep]; omega) | (have h9 := ph_mono a_text (x := l2_44) (y := l2_198) (by omega) (by omega); omega) | (have h9 := ph_tk (f := a_text) (x := l2_44) (y := l2_198) (by omega) (by omega) htk; omega) | (rcases htk with h8 | h8 <;> first | (have h9 := ph_mono a_text (x := l2_44) (y := l2_198) (by omega) (by omega); omega) | (have h9 := ph_tk (f := a_text) (x := l2_44) (y := l2_198) (by omega) (by omega) h8; omega))) (by first | exact Or.inl (by omega) | exact Or.inr (Or.inl (by rw [show l2_198.toNatClampNeg - 1 = l2_44.toNatClampNeg from by have h9 := tn_succ (x := l2_44) (z := l2_198) (by omega) (by omega); omega, ← e_x59]; intro h9; rcases h9 with h9 | h9 <;> omega)) | exact Or.inr (Or.inr hna)) (by omega) hP hD hS (lv_sub hl [0, 1, 2, 3] rfl)
                          · skip
                            exact J222 H locs ls (by first | (rw [← e_x203]; exact Or.inl (by omega)) | (rw [← e_x215]; exact Or.inr (by omega))) hP hD hS (lv_sub hl [0, 1, 2, 3] rfl)
                    have J167 : ∀ (n167 : Nat) (l2_167 : Int32) (H : Heap) (locs : List Loc) (ls : Array Slot), (l2_44.toInt ≤ l2_167.toInt) → (l2_167.toInt < (a_finish k9.toNatClampNeg).toInt) → (isAl (a_text l2_167.toNatClampNeg)) → ((a_finish k9.toNatClampNeg).toInt - l2_167.toInt < (n167 : Int)) → va_P D vwCl (mw cs q s1_18 a_tape v_taped v_size v_to v_kind v_from v_letters v_letterMany v_digits v_isBeyond v_suffix v_steps v_fault v_hasProgram a_text a_act a_guess a_take a_begin a_finish a_to1 a_one a_two a_what a_ats a_atVar a_atNumber a_atomSort a_atomKind a_atomValue v_wrong v_wrongAt v_variable v_number v_numberKind v_takes a_out_128 v_outed_128 a_varSort a_varKind a_varValue a_creature v_creatures a_arrayClass a_arrayFrom a_arrayLong v_arrays v_cells a_cellSort a_cellKind a_cellValue a_asideSort a_asideKind a_asideValue a_outcome v_marks v_came v_guessed v_right v_taken a_markSort a_markKind a_markClass a_markValue v_sort v_kindAt v_value a_index v_reached v_looked) H → va_D A (mw cs q s1_18 a_tape v_taped v_size v_to v_kind v_from v_letters v_letterMany v_digits v_isBeyond v_suffix v_steps v_fault v_hasProgram a_text a_act a_guess a_take a_begin a_finish a_to1 a_one a_two a_what a_ats a_atVar a_atNumber a_atomSort a_atomKind a_atomValue v_wrong v_wrongAt v_variable v_number v_numberKind v_takes a_out_128 v_outed_128 a_varSort a_varKind a_varValue a_creature v_creatures a_arrayClass a_arrayFrom a_arrayLong v_arrays v_cells a_cellSort a_cellKind a_cellValue a_asideSort a_asideKind a_asideValue a_outcome v_marks v_came v_guessed v_right v_taken a_markSort a_markKind a_markClass a_markValue v_sort v_kindAt v_value a_index v_reached v_looked) → va_S A s.heap H locs → lv_has ls 5 [(0, .ref (q 0)), (1, .int k9), (2, .int l2_167), (3, .int x59)] → W p l e (headSpec (wG yX10_spell cX10_spell 5 (some .int)) rmX10_spell).room s m ([.ref (q 0), .int k9] : List Value).toArray below meth c H locs 0 0 Q (F0 m 167 ls []) := by
                      intro n167
                      induction n167 with
                      | zero =>
                        intro l2_167 H locs ls f167_0 f167_1 f167_2 hm167
                        exfalso
                        omega
                      | succ n167 ih167 =>
                        intro l2_167 H locs ls f167_0 f167_1 f167_2 hm167 hP hD hS hl
                        refine lv_aload_n hx hb dX10_spell_167 rfl (lv_at hl 0 rfl) ?_
                        refine va_get (D := D) (ci := 9) (v := .ref (q 2)) (C := RX10) (T := TX10) (N := 71) hx hb hts hin hown hK hP 0 rfl rfl 15 (by decide) k_5_8 (fun _ h9 => h9) rfl dX10_spell_168 ?_
                        refine lv_iload_n hx hb dX10_spell_171 rfl (lv_at hl 2 rfl) ?_
                        refine m_iald hx hb hK hP 2 0 rfl rfl (ix (by omega) (by omega)) dX10_spell_172 (fun x172 e_x172 => ?_)
                        have b_x172 := iB x172
                        refine lv_bipush (v := 48) hx hb dX10_spell_173 (by decide) ?_
                        refine m_icmp_ne (X := x172.toInt) (Y := 48) (tgt := 198) hx hb dX10_spell_175 (by decide) rfl (by decide) (fun c175 => ?_) (fun c175 => ?_)
                        · skip
                          exact J198 (((a_finish k9.toNatClampNeg).toInt - l2_167.toInt).toNat + 1) l2_167 a_out_128 v_outed_128 H locs ls (by first | assumption | omega | (intros; omega) | decide) (by first | assumption | omega | (intros; omega) | decide) (by first | exact Or.inr (by assumption) | exact Or.inl (by omega)) (by first | assumption | omega | (intros; omega) | decide) (by first | assumption | omega | (intros; omega) | decide) (by omega) hP hD hS (lv_sub hl [0, 1, 2, 3] rfl)
                        · skip
                          have hnl := not_last (x := l2_167) (t := (a_finish k9.toNatClampNeg)) (by omega) f167_1 s4 f167_2
                          have tp2 := tn (i := l2_167) (by omega)
                          refine lv_aload_n hx hb dX10_spell_178 rfl (lv_at hl 0 rfl) ?_
                          refine va_get (D := D) (ci := 9) (v := .ref (q 2)) (C := RX10) (T := TX10) (N := 71) hx hb hts hin hown hK hP 0 rfl rfl 15 (by decide) k_5_8 (fun _ h9 => h9) rfl dX10_spell_179 ?_
                          refine lv_iload_n hx hb dX10_spell_182 rfl (lv_at hl 2 rfl) ?_
                          refine lv_iconst (v := 1) hx hb dX10_spell_183 (by decide) ?_
                          refine m_iadd (X := l2_167.toInt) (Y := 1) hx hb dX10_spell_184 rfl (by decide) (fun x184 e_x184 g9 => ?_)
                          obtain ⟨k_x184, g_x184⟩ := g9
                          have b_x184 := iB x184
                          try (have q_x184 : x184.toInt = l2_167.toInt + 1 := (by omega); clear g_x184 k_x184)
                          refine m_iald hx hb hK hP 2 0 rfl rfl (ix (by omega) (by omega)) dX10_spell_185 (fun x185 e_x185 => ?_)
                          have b_x185 := iB x185
                          refine call_iSP (As := [.int x185]) (rest := []) ⟨hx, hb, hml, hown, hts⟩ (tX10_isDigit (l := l) x185) (va_cwS 1 hts (gS (wr23 _ (List.mem_of_getElem? (i := 9) rfl)) (wr23 _ (List.mem_of_getElem? (i := 10) rfl)) (wr1 _ (List.mem_of_getElem? (i := 5) rfl)) (wr23 _ (List.mem_of_getElem? (i := 11) rfl))) rfl rfl rfl (by decide +kernel) ⟨Nat.le_of_ble_eq_true rfl, Nat.le_of_ble_eq_true rfl⟩) (hK.sub [] rfl) hP hD hE hS hA rfl hl.1 rfl (Nat.le_of_ble_eq_true rfl) dX10_spell_186 ⟨Nat.le_of_ble_eq_true rfl, Nat.le_of_ble_eq_true rfl⟩ (fun r186 w9 H locs hw186 hP hD hS => ?_)
                          obtain ⟨rfl, hw186_0⟩ := hw186
                          have b_r186 := iB r186
                          refine m_if_eq (X := r186.toInt) (tgt := 198) hx hb dX10_spell_189 (by decide) rfl (fun c189 => ?_) (fun c189 => ?_)
                          · skip
                            exact J198 (((a_finish k9.toNatClampNeg).toInt - l2_167.toInt).toNat + 1) l2_167 a_out_128 v_outed_128 H locs ls (by first | assumption | omega | (intros; omega) | decide) (by first | assumption | omega | (intros; omega) | decide) (by first | exact Or.inr (by assumption) | exact Or.inl (by omega)) (by first | assumption | omega | (intros; omega) | decide) (by first | assumption | omega | (intros; omega) | decide) (by omega) hP hD hS (lv_sub hl [0, 1, 2, 3] rfl)
                          · skip
                            have hal2 : isAl (a_text x184.toNatClampNeg) := by rw [← e_x185]; exact Or.inr (by omega)
                            obtain ⟨x192, e_x192⟩ : ∃ z : Int32, z = l2_167 + (1 : Int32) := ⟨_, rfl⟩
                            obtain ⟨k_x192, g_x192⟩ : ∃ k : Int, x192.toInt = l2_167.toInt + (1) + k * 4294967296 := by rw [e_x192]; exact iAdd l2_167 (1)
                            have b_x192 := iB x192
                            try (have q_x192 : x192.toInt = l2_167.toInt + (1) := (by omega); clear g_x192 k_x192)
                            refine lv_iinc (v := x192) (lv' := [(2, .int x192), (0, .ref (q 0)), (1, .int k9), (3, .int x59)]) hx hb dX10_spell_192 hl (k := 2) rfl (by rw [e_x192]; rfl) (by decide) rfl (fun ls hl => ?_)
                            refine lv_goto (tgt := 167) hx hb dX10_spell_195 (by decide) ?_
                            exact ih167 x192 H locs ls (by first | assumption | omega | (intros; omega) | decide) (by first | assumption | omega | (intros; omega) | decide) (by first | assumption | (rw [show x192.toNatClampNeg = x184.toNatClampNeg from tn_eq (by omega)]; exact hal2)) (by omega) hP hD hS (lv_sub hl [1, 2, 0, 3] rfl)
                    refine m_if_eq (X := r161.toInt) (tgt := 198) hx hb dX10_spell_164 (by decide) rfl (fun c164 => ?_) (fun c164 => ?_)
                    · skip
                      exact J198 (((a_finish k9.toNatClampNeg).toInt - l2_44.toInt).toNat + 1) l2_44 a_out_128 v_outed_128 H locs ls (by first | assumption | omega | (intros; omega) | decide) (by first | assumption | omega | (intros; omega) | decide) (by first | exact Or.inr (by assumption) | exact Or.inl (by omega)) (by first | assumption | omega | (intros; omega) | decide) (by first | assumption | omega | (intros; omega) | decide) (by omega) hP hD hS (lv_sub hl [0, 1, 2, 3] rfl)
                    · skip
                      exact J167 (((a_finish k9.toNatClampNeg).toInt - l2_44.toInt).toNat + 1) l2_44 H locs ls (by first | assumption | omega | (intros; omega) | decide) (by first | assumption | omega | (intros; omega) | decide) (by first | assumption | (rw [show l2_44.toNatClampNeg = x184.toNatClampNeg from tn_eq (by omega)]; exact hal2)) (by omega) hP hD hS (lv_sub hl [0, 1, 2, 3] rfl)
                  refine m_if_ne (X := r133.toInt) (tgt := 159) hx hb dX10_spell_136 (by decide) rfl (fun c136 => ?_) (fun c136 => ?_)
                  · skip
                    exact J159 H locs ls (by rw [← e_x59]; first | exact Or.inl (by omega) | exact Or.inr (by omega)) hP hD hS (lv_sub hl [1, 2, 3, 0, 4] rfl)
                  · skip
                    refine lv_iload hx hb dX10_spell_139 (lv_at hl 4 rfl) ?_
                    refine call_iSP (As := [.int x59]) (rest := []) ⟨hx, hb, hml, hown, hts⟩ (tX10_isDigit (l := l) x59) (va_cwS 1 hts (gS (wr23 _ (List.mem_of_getElem? (i := 9) rfl)) (wr23 _ (List.mem_of_getElem? (i := 10) rfl)) (wr1 _ (List.mem_of_getElem? (i := 5) rfl)) (wr23 _ (List.mem_of_getElem? (i := 11) rfl))) rfl rfl rfl (by decide +kernel) ⟨Nat.le_of_ble_eq_true rfl, Nat.le_of_ble_eq_true rfl⟩) (hK.sub [] rfl) hP hD hE hS hA rfl hl.1 rfl (Nat.le_of_ble_eq_true rfl) dX10_spell_141 ⟨Nat.le_of_ble_eq_true rfl, Nat.le_of_ble_eq_true rfl⟩ (fun r141 w9 H locs hw141 hP hD hS => ?_)
                    obtain ⟨rfl, hw141_0⟩ := hw141
                    have b_r141 := iB r141
                    refine m_if_ne (X := r141.toInt) (tgt := 159) hx hb dX10_spell_144 (by decide) rfl (fun c144 => ?_) (fun c144 => ?_)
                    · skip
                      exact J159 H locs ls (by rw [← e_x59]; first | exact Or.inl (by omega) | exact Or.inr (by omega)) hP hD hS (lv_sub hl [1, 2, 3, 0, 4] rfl)
                    · skip
                      have hnal : ¬ isAl x59 := by intro h9; rcases h9 with h9 | h9 <;> omega
                      have htk : tks a_text l2_44.toNatClampNeg := ⟨by rw [← e_x59]; intro h9; rcases h9 with h9 | h9 <;> omega, fun q => hnal (by rw [e_x59]; exact q.1)⟩
                      refine lv_aload_n hx hb dX10_spell_147 rfl (lv_at hl 1 rfl) ?_
                      refine lv_iload hx hb dX10_spell_148 (lv_at hl 4 rfl) ?_
                      refine call_v (As := [.int x59]) (rest := []) ⟨hx, hb, hml, hown, hts⟩ (tX10_put (l := l) x59 (by first | assumption | omega | (intros; omega) | decide) (by first | assumption | omega | (intros; omega) | decide)) (cwV 1 hts (gV (wr34 _ (List.mem_of_getElem? (i := 10) rfl)) (wr34 _ (List.mem_of_getElem? (i := 11) rfl)) (wr34 _ (List.mem_of_getElem? (i := 12) rfl)) (wr1 _ (List.mem_of_getElem? (i := 5) rfl)) (wr34 _ (List.mem_of_getElem? (i := 13) rfl))) rfl rfl rfl (by decide +kernel) ⟨Nat.le_of_ble_eq_true rfl, Nat.le_of_ble_eq_true rfl⟩) (va_recv hK hP (ci := 9) (q0 := 0) rfl rfl) hK hP hD hE hS hA rfl hl.1 rfl (Nat.le_of_ble_eq_true rfl) dX10_spell_150 ⟨Nat.le_of_ble_eq_true rfl, Nat.le_of_ble_eq_true rfl⟩ (fun w9 H locs hw150 hP hD hS => ?_)
                      obtain ⟨a_out_150, v_outed_150, rfl, hw150_0⟩ := hw150
                      have b_v_outed_150 := iB v_outed_150
                      obtain ⟨x153, e_x153⟩ : ∃ z : Int32, z = l2_44 + (1 : Int32) := ⟨_, rfl⟩
                      obtain ⟨k_x153, g_x153⟩ : ∃ k : Int, x153.toInt = l2_44.toInt + (1) + k * 4294967296 := by rw [e_x153]; exact iAdd l2_44 (1)
                      have b_x153 := iB x153
                      try (have q_x153 : x153.toInt = l2_44.toInt + (1) := (by omega); clear g_x153 k_x153)
                      refine lv_iinc (v := x153) (lv' := [(2, .int x153), (3, .int x59), (0, .ref (q 0)), (1, .int k9), (4, .int x59)]) hx hb dX10_spell_153 hl (k := 3) rfl (by rw [e_x153]; rfl) (by decide) rfl (fun ls hl => ?_)
                      refine lv_goto (tgt := 44) hx hb dX10_spell_156 (by decide) ?_
                      exact ih44 x153 x59 a_out_150 v_outed_150 H locs ls (by first | assumption | omega | (intros; omega) | decide) (by first | assumption | omega | (intros; omega) | decide) (by first | assumption | omega | (intros; omega) | decide) (by first | assumption | omega | (intros; omega) | decide) (by first | (rw [ep]; omega) | (have h9 := ph_mono a_text (x := l2_44) (y := x153) (by omega) (by omega); omega) | (have h9 := ph_tk (f := a_text) (x := l2_44) (y := x153) (by omega) (by omega) htk; omega) | (rcases htk with h8 | h8 <;> first | (have h9 := ph_mono a_text (x := l2_44) (y := x153) (by omega) (by omega); omega) | (have h9 := ph_tk (f := a_text) (x := l2_44) (y := x153) (by omega) (by omega) h8; omega))) (by first | exact Or.inl (by omega) | exact Or.inr (Or.inl (by rw [show x153.toNatClampNeg - 1 = l2_44.toNatClampNeg from by have h9 := tn_succ (x := l2_44) (z := x153) (by omega) (by omega); omega, ← e_x59]; intro h9; rcases h9 with h9 | h9 <;> omega)) | exact Or.inr (Or.inr hna)) (by omega) hP hD hS (lv_sub hl [2, 3, 0, 1] rfl)
                refine m_if_le (X := v_outed_44.toInt) (tgt := 128) hx hb dX10_spell_86 (by decide) rfl (fun c86 => ?_) (fun c86 => ?_)
                · skip
                  exact J128 a_out_44 v_outed_44 H locs ls (by first | assumption | omega | (intros; omega) | decide) (by first | assumption | omega | (intros; omega) | decide) (by first | assumption | omega | (intros; omega) | decide) hP hD hS (lv_sub hl [1, 2, 3, 0] rfl)
                · skip
                  refine lv_iload hx hb dX10_spell_89 (lv_at hl 0 rfl) ?_
                  refine lv_bipush (v := 91) hx hb dX10_spell_91 (by decide) ?_
                  refine m_icmp_eq (X := x59.toInt) (Y := 91) (tgt := 128) hx hb dX10_spell_93 (by decide) rfl (by decide) (fun c93 => ?_) (fun c93 => ?_)
                  · skip
                    exact J128 a_out_44 v_outed_44 H locs ls (by first | assumption | omega | (intros; omega) | decide) (by first | assumption | omega | (intros; omega) | decide) (by first | assumption | omega | (intros; omega) | decide) hP hD hS (lv_sub hl [1, 2, 3, 0] rfl)
                  · skip
                    refine lv_iload hx hb dX10_spell_96 (lv_at hl 0 rfl) ?_
                    refine lv_bipush (v := 93) hx hb dX10_spell_98 (by decide) ?_
                    refine m_icmp_eq (X := x59.toInt) (Y := 93) (tgt := 128) hx hb dX10_spell_100 (by decide) rfl (by decide) (fun c100 => ?_) (fun c100 => ?_)
                    · skip
                      exact J128 a_out_44 v_outed_44 H locs ls (by first | assumption | omega | (intros; omega) | decide) (by first | assumption | omega | (intros; omega) | decide) (by first | assumption | omega | (intros; omega) | decide) hP hD hS (lv_sub hl [1, 2, 3, 0] rfl)
                    · skip
                      refine lv_iload hx hb dX10_spell_103 (lv_at hl 0 rfl) ?_
                      refine lv_bipush (v := 59) hx hb dX10_spell_105 (by decide) ?_
                      refine m_icmp_eq (X := x59.toInt) (Y := 59) (tgt := 128) hx hb dX10_spell_107 (by decide) rfl (by decide) (fun c107 => ?_) (fun c107 => ?_)
                      · skip
                        exact J128 a_out_44 v_outed_44 H locs ls (by first | assumption | omega | (intros; omega) | decide) (by first | assumption | omega | (intros; omega) | decide) (by first | assumption | omega | (intros; omega) | decide) hP hD hS (lv_sub hl [1, 2, 3, 0] rfl)
                      · skip
                        refine lv_iload_n hx hb dX10_spell_110 rfl (lv_at hl 4 rfl) ?_
                        refine lv_bipush (v := 91) hx hb dX10_spell_111 (by decide) ?_
                        refine m_icmp_eq (X := l3_44.toInt) (Y := 91) (tgt := 128) hx hb dX10_spell_113 (by decide) rfl (by decide) (fun c113 => ?_) (fun c113 => ?_)
                        · skip
                          exact J128 a_out_44 v_outed_44 H locs ls (by first | assumption | omega | (intros; omega) | decide) (by first | assumption | omega | (intros; omega) | decide) (by first | assumption | omega | (intros; omega) | decide) hP hD hS (lv_sub hl [1, 2, 3, 0] rfl)
                        · skip
                          refine lv_iload_n hx hb dX10_spell_116 rfl (lv_at hl 4 rfl) ?_
                          refine lv_bipush (v := 45) hx hb dX10_spell_117 (by decide) ?_
                          refine m_icmp_eq (X := l3_44.toInt) (Y := 45) (tgt := 128) hx hb dX10_spell_119 (by decide) rfl (by decide) (fun c119 => ?_) (fun c119 => ?_)
                          · skip
                            exact J128 a_out_44 v_outed_44 H locs ls (by first | assumption | omega | (intros; omega) | decide) (by first | assumption | omega | (intros; omega) | decide) (by first | assumption | omega | (intros; omega) | decide) hP hD hS (lv_sub hl [1, 2, 3, 0] rfl)
                          · skip
                            refine lv_aload_n hx hb dX10_spell_122 rfl (lv_at hl 1 rfl) ?_
                            refine lv_bipush (v := 32) hx hb dX10_spell_123 (by decide) ?_
                            refine call_v (As := [.int 32]) (rest := []) ⟨hx, hb, hml, hown, hts⟩ (tX10_put (l := l) (32 : Int32) (by first | assumption | omega | (intros; omega) | decide) (by first | assumption | omega | (intros; omega) | decide)) (cwV 1 hts (gV (wr34 _ (List.mem_of_getElem? (i := 10) rfl)) (wr34 _ (List.mem_of_getElem? (i := 11) rfl)) (wr34 _ (List.mem_of_getElem? (i := 12) rfl)) (wr1 _ (List.mem_of_getElem? (i := 5) rfl)) (wr34 _ (List.mem_of_getElem? (i := 13) rfl))) rfl rfl rfl (by decide +kernel) ⟨Nat.le_of_ble_eq_true rfl, Nat.le_of_ble_eq_true rfl⟩) (va_recv hK hP (ci := 9) (q0 := 0) rfl rfl) hK hP hD hE hS hA rfl hl.1 rfl (Nat.le_of_ble_eq_true rfl) dX10_spell_125 ⟨Nat.le_of_ble_eq_true rfl, Nat.le_of_ble_eq_true rfl⟩ (fun w9 H locs hw125 hP hD hS => ?_)
                            obtain ⟨a_out_125, v_outed_125, rfl, hw125_0⟩ := hw125
                            have b_v_outed_125 := iB v_outed_125
                            exact J128 a_out_125 v_outed_125 H locs ls (by first | assumption | omega | (intros; omega) | decide) (by first | assumption | omega | (intros; omega) | decide) (by first | assumption | omega | (intros; omega) | decide) hP hD hS (lv_sub hl [1, 2, 3, 0] rfl)
              · skip
                exact J76 H locs ls (by first | assumption | omega | (intros; omega) | decide) hP hD hS (lv_sub hl [1, 2, 3, 4] rfl)
      exact J44 (((a_finish k9.toNatClampNeg).toInt - x40.toInt).toNat + 1) x40 (0 : Int32) a_out (0 : Int32) H locs ls (by first | assumption | omega | (intros; omega) | decide) (by first | assumption | omega | (intros; omega) | decide) (by first | assumption | omega | (intros; omega) | decide) (by first | assumption | omega | (intros; omega) | decide) (by first | (rw [ep]; omega) | (have h9 := ph_mono a_text (x := l2_44) (y := x40) (by omega) (by omega); omega) | (have h9 := ph_tk (f := a_text) (x := l2_44) (y := x40) (by omega) (by omega) htk; omega) | (rcases htk with h8 | h8 <;> first | (have h9 := ph_mono a_text (x := l2_44) (y := x40) (by omega) (by omega); omega) | (have h9 := ph_tk (f := a_text) (x := l2_44) (y := x40) (by omega) (by omega) h8; omega))) (by first | exact Or.inl (by omega) | exact Or.inr (Or.inl (by rw [show x40.toNatClampNeg - 1 = l2_44.toNatClampNeg from by have h9 := tn_succ (x := l2_44) (z := x40) (by omega) (by omega); omega, ← e_x59]; intro h9; rcases h9 with h9 | h9 <;> omega)) | exact Or.inr (Or.inr hna)) (by omega) hP hD hS (lv_sub hl [2, 3, 1, 0] rfl)
    · skip
      refine lv_iconst (v := 0) hx hb dX10_spell_28 (by decide) ?_
      subst hAe
      rw [hQ]
      exact W.iret (v := 0) hx hb hr (fun t ht hW => ⟨⟨0, _, rfl, ⟨s1_18, a_out, v_outed, rfl, by first | assumption | omega | (intros; omega) | decide, by first | assumption | omega | (intros; omega) | decide⟩, by rw [ht]; exact hP, va_K.moved hW.alike hK, hD⟩, hS.F ht⟩) hS.2.2 dX10_spell_29
  have J13 : ∀ (H : Heap) (locs : List Loc) (ls : Array Slot), va_P D vwCl (mw cs q v_thrown a_tape v_taped v_size v_to v_kind v_from v_letters v_letterMany v_digits v_isBeyond v_suffix v_steps v_fault v_hasProgram a_text a_act a_guess a_take a_begin a_finish a_to1 a_one a_two a_what a_ats a_atVar a_atNumber a_atomSort a_atomKind a_atomValue v_wrong v_wrongAt v_variable v_number v_numberKind v_takes a_out v_outed a_varSort a_varKind a_varValue a_creature v_creatures a_arrayClass a_arrayFrom a_arrayLong v_arrays v_cells a_cellSort a_cellKind a_cellValue a_asideSort a_asideKind a_asideValue a_outcome v_marks v_came v_guessed v_right v_taken a_markSort a_markKind a_markClass a_markValue v_sort v_kindAt v_value a_index v_reached v_looked) H → va_D A (mw cs q v_thrown a_tape v_taped v_size v_to v_kind v_from v_letters v_letterMany v_digits v_isBeyond v_suffix v_steps v_fault v_hasProgram a_text a_act a_guess a_take a_begin a_finish a_to1 a_one a_two a_what a_ats a_atVar a_atNumber a_atomSort a_atomKind a_atomValue v_wrong v_wrongAt v_variable v_number v_numberKind v_takes a_out v_outed a_varSort a_varKind a_varValue a_creature v_creatures a_arrayClass a_arrayFrom a_arrayLong v_arrays v_cells a_cellSort a_cellKind a_cellValue a_asideSort a_asideKind a_asideValue a_outcome v_marks v_came v_guessed v_right v_taken a_markSort a_markKind a_markClass a_markValue v_sort v_kindAt v_value a_index v_reached v_looked) → va_S A s.heap H locs → lv_has ls 5 [(0, .ref (q 0)), (1, .int k9)] → W p l e (headSpec (wG yX10_spell cX10_spell 5 (some .int)) rmX10_spell).room s m ([.ref (q 0), .int k9] : List Value).toArray below meth c H locs 0 0 Q (F0 m 13 ls [.ref (q 0)]) := by
    intro H locs ls hP hD hS hl
    refine lv_iconst (v := 1) hx hb dX10_spell_13 (by decide) ?_
    refine lv_goto (tgt := 18) hx hb dX10_spell_14 (by decide) ?_
    exact J18 (1 : Int32) H locs ls (by first | decide | omega) (by first | assumption | omega | (intros; omega) | decide) hP hD hS (lv_sub hl [0, 1] rfl)
  refine m_if_lt (X := k9.toInt) (tgt := 13) hx hb dX10_spell_2 (by decide) rfl (fun c2 => ?_) (fun c2 => ?_)
  · skip
    exact J13 H locs ls hP hD hS (lv_sub hl [0, 1] rfl)
  · skip
    refine lv_iload_n hx hb dX10_spell_5 rfl (lv_at hl 1 rfl) ?_
    refine lv_aload_n hx hb dX10_spell_6 rfl (lv_at hl 0 rfl) ?_
    refine va_get (D := D) (ci := 9) (v := .int v_steps) (C := RX10) (T := TX10) (N := 71) hx hb hts hin hown hK hP 0 rfl rfl 12 (by decide) k_22_18 (fun _ h9 => h9) rfl dX10_spell_7 ?_
    refine m_icmp_lt (X := k9.toInt) (Y := v_steps.toInt) (tgt := 17) hx hb dX10_spell_10 (by decide) rfl rfl (fun c10 => ?_) (fun c10 => ?_)
    · skip
      refine lv_iconst (v := 0) hx hb dX10_spell_17 (by decide) ?_
      exact J18 (0 : Int32) H locs ls (by first | decide | omega) (by first | assumption | omega | (intros; omega) | decide) hP hD hS (lv_sub hl [0, 1] rfl)
    · skip
      exact J13 H locs ls hP hD hS (lv_sub hl [0, 1] rfl)
