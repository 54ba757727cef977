def rmX10_copies : Room := { frames := 60, cells := 0, slots := 0, locals := 1200 }
set_option maxHeartbeats 4000000 in
set_option maxRecDepth 100000 in
theorem tX10_copies {l : Launch} {D : va_G} {K : Nat → Nat → Nat} {cs : Nat → ClassId} {q : Nat → Nat} {v_thrown v_taped v_size v_to v_kind v_from v_letterMany v_isBeyond v_suffix v_steps v_fault v_hasProgram v_wrong v_wrongAt v_variable v_numberKind v_takes v_outed v_creatures v_arrays v_cells v_marks v_came v_guessed v_right v_taken v_sort v_kindAt v_reached v_looked : Int32} {a_tape a_text a_act a_guess a_take a_begin a_finish a_to1 a_one a_two a_what a_ats a_atVar a_atNumber a_atomSort a_atomKind a_out a_varSort a_varKind a_creature a_arrayClass a_arrayFrom a_arrayLong a_cellSort a_cellKind a_asideSort a_asideKind a_outcome a_markSort a_markKind a_markClass a_index : Nat → Int32} {v_letters v_digits v_number v_value : Int64} {a_atomValue a_varValue a_cellValue a_asideValue a_markValue : Nat → Int64} (s9 : Int32) (p_0 : RUN a_varSort a_varKind a_varValue v_arrays v_cells v_creatures a_arrayClass a_arrayFrom a_arrayLong a_cellSort a_cellKind a_cellValue) (p_1 : R25 a_one) (p_2 : R25 a_two) (p_3 : 0 ≤ s9.toInt) (p_4 : s9.toInt ≤ 201) : CtI l yX10_copies (wG yX10_copies cX10_copies 7 (some .int)) rmX10_copies D (mwT cs) K [.ref (q 0), .int s9] (mw cs q v_thrown a_tape v_taped v_size v_to v_kind v_from v_letters v_letterMany v_digits v_isBeyond v_suffix v_steps v_fault v_hasProgram a_text a_act a_guess a_take a_begin a_finish a_to1 a_one a_two a_what a_ats a_atVar a_atNumber a_atomSort a_atomKind a_atomValue v_wrong v_wrongAt v_variable v_number v_numberKind v_takes a_out v_outed a_varSort a_varKind a_varValue a_creature v_creatures a_arrayClass a_arrayFrom a_arrayLong v_arrays v_cells a_cellSort a_cellKind a_cellValue a_asideSort a_asideKind a_asideValue a_outcome v_marks v_came v_guessed v_right v_taken a_markSort a_markKind a_markClass a_markValue v_sort v_kindAt v_value a_index v_reached v_looked) (fun r w1 => ∃ (a_cellSort' : Nat → Int32) (a_cellKind' : Nat → Int32) (a_cellValue' : Nat → Int64) (a_asideSort' : Nat → Int32) (a_asideKind' : Nat → Int32) (a_asideValue' : Nat → Int64) (v_sort' : Int32) (v_kindAt' : Int32) (v_value' : Int64), w1 = (mw cs q v_thrown a_tape v_taped v_size v_to v_kind v_from v_letters v_letterMany v_digits v_isBeyond v_suffix v_steps v_fault v_hasProgram a_text a_act a_guess a_take a_begin a_finish a_to1 a_one a_two a_what a_ats a_atVar a_atNumber a_atomSort a_atomKind a_atomValue v_wrong v_wrongAt v_variable v_number v_numberKind v_takes a_out v_outed a_varSort a_varKind a_varValue a_creature v_creatures a_arrayClass a_arrayFrom a_arrayLong v_arrays v_cells a_cellSort' a_cellKind' a_cellValue' a_asideSort' a_asideKind' a_asideValue' a_outcome v_marks v_came v_guessed v_right v_taken a_markSort a_markKind a_markClass a_markValue v_sort' v_kindAt' v_value' a_index v_reached v_looked) ∧ (RUN a_varSort a_varKind a_varValue v_arrays v_cells v_creatures a_arrayClass a_arrayFrom a_arrayLong a_cellSort' a_cellKind' a_cellValue') ∧ (0 ≤ r.toInt)) 0 0 := by
  intro sz
  refine Met.ofW (cc := cX10_copies) (maxL := 7) (ret := (some .int)) (by decide) rfl ?_
  intro p e s m args below meth c s₁ B hml hv
  obtain ⟨rfl, hsz, hP, hK, hD0, hE⟩ := hv
  have hx := B.exec
  have hb := B.bytes
  have hr := B.returns
  have hts := atoms_spec (ws := (wG yX10_copies cX10_copies 7 (some .int))) B.pre
  have hown : s.vm.findClass RX10 = some m.cls := findClass_of_methodNamed B.named
  have hlocks := B.notSynchronized
  subst hsz
  have hD := hD0.self (sz := s.heap.size)
  obtain ⟨A, hAe⟩ : ∃ A : Nat → Prop, A = va_A (mw cs q v_thrown a_tape v_taped v_size v_to v_kind v_from v_letters v_letterMany v_digits v_isBeyond v_suffix v_steps v_fault v_hasProgram a_text a_act a_guess a_take a_begin a_finish a_to1 a_one a_two a_what a_ats a_atVar a_atNumber a_atomSort a_atomKind a_atomValue v_wrong v_wrongAt v_variable v_number v_numberKind v_takes a_out v_outed a_varSort a_varKind a_varValue a_creature v_creatures a_arrayClass a_arrayFrom a_arrayLong v_arrays v_cells a_cellSort a_cellKind a_cellValue a_asideSort a_asideKind a_asideValue a_outcome v_marks v_came v_guessed v_right v_taken a_markSort a_markKind a_markClass a_markValue v_sort v_kindAt v_value a_index v_reached v_looked) s.heap.size := ⟨_, rfl⟩
  rw [← hAe] at hD hE
  have hA : ∀ q : Nat, s.heap.size ≤ q → A q := fun q h => by rw [hAe]; exact Or.inr h
  have hS : va_S A s.heap s.heap [] := va_S.rf
  have hl := lv_entry ([.ref (q 0), .int s9]) (n := 7) (Nat.le_of_ble_eq_true rfl)
  rw [lg_entry_eq]
  generalize (lg_sl ([.ref (q 0), .int s9]) ++ List.replicate (7 - (lg_sl ([.ref (q 0), .int s9])).length) Slot.unset).toArray = ls at hl ⊢
  have hl : lv_has ls 7 [(0, .ref (q 0)), (1, .int s9)] := hl
  refine wq (fun Q hQ => ?_)
  have hin : ∀ w ∈ wsX100, w ∈ (wG yX10_copies cX10_copies 7 (some .int)) := fun w h => List.mem_cons_of_mem _ (inlX10 w h)
  have kc0 : (0 : Int32).toInt = 0 := by decide
  have kc1 : (1 : Int32).toInt = 1 := by decide
  have kc2 : (2 : Int32).toInt = 2 := by decide
  have kc3 : (3 : Int32).toInt = 3 := by decide
  have kc4 : (4 : Int32).toInt = 4 := by decide
  have kc5 : (6 : Int32).toInt = 6 := by decide
  have k_6_1 := hts (.fieldLink RX10 65 "ArrayTrainerModel" "varSort" "[I") (List.mem_cons_of_mem _ (wr6 _ (List.mem_of_getElem? (i := 1) rfl)))
  have k_5_15 := hts (.fieldLink RX10 34 "ArrayTrainerModel" "one" "[I") (List.mem_cons_of_mem _ (wr5 _ (List.mem_of_getElem? (i := 15) rfl)))
  have k_5_16 := hts (.fieldLink RX10 37 "ArrayTrainerModel" "two" "[I") (List.mem_cons_of_mem _ (wr5 _ (List.mem_of_getElem? (i := 16) rfl)))
  have k_6_3 := hts (.fieldLink RX10 71 "ArrayTrainerModel" "varValue" "[J") (List.mem_cons_of_mem _ (wr6 _ (List.mem_of_getElem? (i := 3) rfl)))
  have k_6_5 := hts (.fieldLink RX10 77 "ArrayTrainerModel" "arrayClass" "[I") (List.mem_cons_of_mem _ (wr6 _ (List.mem_of_getElem? (i := 5) rfl)))
  have k_6_19 := hts (.fieldLink RX10 119 "ArrayTrainerModel" "index" "[I") (List.mem_cons_of_mem _ (wr6 _ (List.mem_of_getElem? (i := 19) rfl)))
  have k_6_7 := hts (.fieldLink RX10 83 "ArrayTrainerModel" "arrayLong" "[I") (List.mem_cons_of_mem _ (wr6 _ (List.mem_of_getElem? (i := 7) rfl)))
  have k_6_11 := hts (.fieldLink RX10 95 "ArrayTrainerModel" "asideSort" "[I") (List.mem_cons_of_mem _ (wr6 _ (List.mem_of_getElem? (i := 11) rfl)))
  have k_47_12 := hts (.fieldLink RX10 493 "ArrayTrainerModel" "sort" "I") (List.mem_cons_of_mem _ (wr47 _ (List.mem_of_getElem? (i := 12) rfl)))
  have k_6_12 := hts (.fieldLink RX10 98 "ArrayTrainerModel" "asideKind" "[I") (List.mem_cons_of_mem _ (wr6 _ (List.mem_of_getElem? (i := 12) rfl)))
  have k_47_13 := hts (.fieldLink RX10 496 "ArrayTrainerModel" "kindAt" "I") (List.mem_cons_of_mem _ (wr47 _ (List.mem_of_getElem? (i := 13) rfl)))
  have k_6_13 := hts (.fieldLink RX10 101 "ArrayTrainerModel" "asideValue" "[J") (List.mem_cons_of_mem _ (wr6 _ (List.mem_of_getElem? (i := 13) rfl)))
  have k_47_14 := hts (.fieldLink RX10 499 "ArrayTrainerModel" "value" "J") (List.mem_cons_of_mem _ (wr47 _ (List.mem_of_getElem? (i := 14) rfl)))
  obtain ⟨H, hH⟩ : ∃ H : Heap, H = s.heap := ⟨_, rfl⟩
  obtain ⟨locs, hlc⟩ : ∃ L : List Loc, L = [] := ⟨_, rfl⟩
  have hP : va_P D vwCl (mw cs q v_thrown a_tape v_taped v_size v_to v_kind v_from v_letters v_letterMany v_digits v_isBeyond v_suffix v_steps v_fault v_hasProgram a_text a_act a_guess a_take a_begin a_finish a_to1 a_one a_two a_what a_ats a_atVar a_atNumber a_atomSort a_atomKind a_atomValue v_wrong v_wrongAt v_variable v_number v_numberKind v_takes a_out v_outed a_varSort a_varKind a_varValue a_creature v_creatures a_arrayClass a_arrayFrom a_arrayLong v_arrays v_cells a_cellSort a_cellKind a_cellValue a_asideSort a_asideKind a_asideValue a_outcome v_marks v_came v_guessed v_right v_taken a_markSort a_markKind a_markClass a_markValue v_sort v_kindAt v_value a_index v_reached v_looked) H := by rw [hH]; exact hP
  have hS : va_S A s.heap H locs := by rw [hH, hlc]; exact hS
  refine wHL hH hlc ?_
  have b_s9 := iB s9
  have hr9 := p_0.1
  have ho9 := p_1 s9.toNatClampNeg
  have ht9 := p_2 s9.toNatClampNeg
  refine lv_aload_n hx hb dX10_copies_0 rfl (lv_at hl 0 rfl) ?_
  refine va_get (D := D) (ci := 9) (v := .ref (q 19)) (C := RX10) (T := TX10) (N := 71) hx hb hts hin hown hK hP 0 rfl rfl 39 (by decide) k_6_1 (fun _ h9 => h9) rfl dX10_copies_1 ?_
  refine lv_aload_n hx hb dX10_copies_4 rfl (lv_at hl 0 rfl) ?_
  refine va_get (D := D) (ci := 9) (v := .ref (q 9)) (C := RX10) (T := TX10) (N := 71) hx hb hts hin hown hK hP 0 rfl rfl 22 (by decide) k_5_15 (fun _ h9 => h9) rfl dX10_copies_5 ?_
  refine lv_iload_n hx hb dX10_copies_8 rfl (lv_at hl 1 rfl) ?_
  refine m_iald hx hb hK hP 9 0 rfl rfl (ix (by omega) (by omega)) dX10_copies_9 (fun x9 e_x9 => ?_)
  have b_x9 := iB x9
  have hx9 := congrArg Int32.toInt e_x9
  refine m_iald hx hb hK hP 19 0 rfl rfl (ix (by omega) (by omega)) dX10_copies_10 (fun x10 e_x10 => ?_)
  have b_x10 := iB x10
  refine m_if_eq (X := x10.toInt) (tgt := 28) hx hb dX10_copies_11 (by decide) rfl (fun c11 => ?_) (fun c11 => ?_)
  · skip
    refine lv_iconst (v := 1) hx hb dX10_copies_28 (by decide) ?_
    subst hAe
    rw [hQ]
    exact W.iret (v := 1) hx hb hr (fun t ht hW => ⟨⟨1, _, rfl, ⟨a_cellSort, a_cellKind, a_cellValue, a_asideSort, a_asideKind, a_asideValue, v_sort, v_kindAt, v_value, rfl, by first | assumption | omega | (intros; omega) | decide, by first | assumption | omega | (intros; omega) | decide⟩, by rw [ht]; exact hP, va_K.moved hW.alike hK, hD⟩, hS.F ht⟩) hS.2.2 dX10_copies_29
  · skip
    refine lv_aload_n hx hb dX10_copies_14 rfl (lv_at hl 0 rfl) ?_
    refine va_get (D := D) (ci := 9) (v := .ref (q 19)) (C := RX10) (T := TX10) (N := 71) hx hb hts hin hown hK hP 0 rfl rfl 39 (by decide) k_6_1 (fun _ h9 => h9) rfl dX10_copies_15 ?_
    refine lv_aload_n hx hb dX10_copies_18 rfl (lv_at hl 0 rfl) ?_
    refine va_get (D := D) (ci := 9) (v := .ref (q 10)) (C := RX10) (T := TX10) (N := 71) hx hb hts hin hown hK hP 0 rfl rfl 23 (by decide) k_5_16 (fun _ h9 => h9) rfl dX10_copies_19 ?_
    refine lv_iload_n hx hb dX10_copies_22 rfl (lv_at hl 1 rfl) ?_
    refine m_iald hx hb hK hP 10 0 rfl rfl (ix (by omega) (by omega)) dX10_copies_23 (fun x23 e_x23 => ?_)
    have b_x23 := iB x23
    have hx23 := congrArg Int32.toInt e_x23
    refine m_iald hx hb hK hP 19 0 rfl rfl (ix (by omega) (by omega)) dX10_copies_24 (fun x24 e_x24 => ?_)
    have b_x24 := iB x24
    refine m_if_ne (X := x24.toInt) (tgt := 30) hx hb dX10_copies_25 (by decide) rfl (fun c25 => ?_) (fun c25 => ?_)
    · skip
      refine lv_aload_n hx hb dX10_copies_30 rfl (lv_at hl 0 rfl) ?_
      refine va_get (D := D) (ci := 9) (v := .ref (q 19)) (C := RX10) (T := TX10) (N := 71) hx hb hts hin hown hK hP 0 rfl rfl 39 (by decide) k_6_1 (fun _ h9 => h9) rfl dX10_copies_31 ?_
      refine lv_aload_n hx hb dX10_copies_34 rfl (lv_at hl 0 rfl) ?_
      refine va_get (D := D) (ci := 9) (v := .ref (q 9)) (C := RX10) (T := TX10) (N := 71) hx hb hts hin hown hK hP 0 rfl rfl 22 (by decide) k_5_15 (fun _ h9 => h9) rfl dX10_copies_35 ?_
      refine lv_iload_n hx hb dX10_copies_38 rfl (lv_at hl 1 rfl) ?_
      refine m_iald hx hb hK hP 9 0 rfl rfl (ix (by omega) (by omega)) dX10_copies_39 (fun x39 e_x39 => ?_)
      have b_x39 := iB x39
      have hx39 := congrArg Int32.toInt e_x39
      refine m_iald hx hb hK hP 19 0 rfl rfl (ix (by omega) (by omega)) dX10_copies_40 (fun x40 e_x40 => ?_)
      have b_x40 := iB x40
      refine lv_iconst (v := 3) hx hb dX10_copies_41 (by decide) ?_
      refine m_icmp_ne (X := x40.toInt) (Y := 3) (tgt := 60) hx hb dX10_copies_42 (by decide) rfl (by decide) (fun c42 => ?_) (fun c42 => ?_)
      · skip
        refine lv_bipush (v := 6) hx hb dX10_copies_60 (by decide) ?_
        subst hAe
        rw [hQ]
        exact W.iret (v := 6) hx hb hr (fun t ht hW => ⟨⟨6, _, rfl, ⟨a_cellSort, a_cellKind, a_cellValue, a_asideSort, a_asideKind, a_asideValue, v_sort, v_kindAt, v_value, rfl, by first | assumption | omega | (intros; omega) | decide, by first | assumption | omega | (intros; omega) | decide⟩, by rw [ht]; exact hP, va_K.moved hW.alike hK, hD⟩, hS.F ht⟩) hS.2.2 dX10_copies_62
      · skip
        refine lv_aload_n hx hb dX10_copies_45 rfl (lv_at hl 0 rfl) ?_
        refine va_get (D := D) (ci := 9) (v := .ref (q 19)) (C := RX10) (T := TX10) (N := 71) hx hb hts hin hown hK hP 0 rfl rfl 39 (by decide) k_6_1 (fun _ h9 => h9) rfl dX10_copies_46 ?_
        refine lv_aload_n hx hb dX10_copies_49 rfl (lv_at hl 0 rfl) ?_
        refine va_get (D := D) (ci := 9) (v := .ref (q 10)) (C := RX10) (T := TX10) (N := 71) hx hb hts hin hown hK hP 0 rfl rfl 23 (by decide) k_5_16 (fun _ h9 => h9) rfl dX10_copies_50 ?_
        refine lv_iload_n hx hb dX10_copies_53 rfl (lv_at hl 1 rfl) ?_
        refine m_iald hx hb hK hP 10 0 rfl rfl (ix (by omega) (by omega)) dX10_copies_54 (fun x54 e_x54 => ?_)
        have b_x54 := iB x54
        have hx54 := congrArg Int32.toInt e_x54
        refine m_iald hx hb hK hP 19 0 rfl rfl (ix (by omega) (by omega)) dX10_copies_55 (fun x55 e_x55 => ?_)
        have b_x55 := iB x55
        refine lv_iconst (v := 3) hx hb dX10_copies_56 (by decide) ?_
        refine m_icmp_eq (X := x55.toInt) (Y := 3) (tgt := 63) hx hb dX10_copies_57 (by decide) rfl (by decide) (fun c57 => ?_) (fun c57 => ?_)
        · skip
          refine lv_aload_n hx hb dX10_copies_63 rfl (lv_at hl 0 rfl) ?_
          refine va_get (D := D) (ci := 9) (v := .ref (q 21)) (C := RX10) (T := TX10) (N := 71) hx hb hts hin hown hK hP 0 rfl rfl 41 (by decide) k_6_3 (fun _ h9 => h9) rfl dX10_copies_64 ?_
          refine lv_aload_n hx hb dX10_copies_67 rfl (lv_at hl 0 rfl) ?_
          refine va_get (D := D) (ci := 9) (v := .ref (q 9)) (C := RX10) (T := TX10) (N := 71) hx hb hts hin hown hK hP 0 rfl rfl 22 (by decide) k_5_15 (fun _ h9 => h9) rfl dX10_copies_68 ?_
          refine lv_iload_n hx hb dX10_copies_71 rfl (lv_at hl 1 rfl) ?_
          refine m_iald hx hb hK hP 9 0 rfl rfl (ix (by omega) (by omega)) dX10_copies_72 (fun x72 e_x72 => ?_)
          have b_x72 := iB x72
          have hx72 := congrArg Int32.toInt e_x72
          refine m_lald hx hb hK hP 21 1 rfl rfl (ix (by omega) (by omega)) dX10_copies_73 (fun x73 e_x73 => ?_)
          have b_x73 := jB x73
          have t72 := tn (i := x72) (by omega)
          have hs1 : (a_varSort x72.toNatClampNeg).toInt = 3 := by rw [e_x72, ← e_x39, ← e_x40]; omega
          have hv1 := (p_0.2.2.1 x72.toNatClampNeg (by omega)).2.1 hs1
          rw [← e_x73] at hv1
          refine m_l2i hx hb dX10_copies_74 (fun x74 e_x74 => ?_)
          have b_x74 := iB x74
          have hx74 := l2iT e_x74 (by omega) (by omega)
          refine lv_istore_n (lv' := [(2, .int x74), (0, .ref (q 0)), (1, .int s9)]) hx hb dX10_copies_75 rfl hl (by decide) rfl (fun ls hl => ?_)
          refine lv_aload_n hx hb dX10_copies_76 rfl (lv_at hl 1 rfl) ?_
          refine va_get (D := D) (ci := 9) (v := .ref (q 21)) (C := RX10) (T := TX10) (N := 71) hx hb hts hin hown hK hP 0 rfl rfl 41 (by decide) k_6_3 (fun _ h9 => h9) rfl dX10_copies_77 ?_
          refine lv_aload_n hx hb dX10_copies_80 rfl (lv_at hl 1 rfl) ?_
          refine va_get (D := D) (ci := 9) (v := .ref (q 10)) (C := RX10) (T := TX10) (N := 71) hx hb hts hin hown hK hP 0 rfl rfl 23 (by decide) k_5_16 (fun _ h9 => h9) rfl dX10_copies_81 ?_
          refine lv_iload_n hx hb dX10_copies_84 rfl (lv_at hl 2 rfl) ?_
          refine m_iald hx hb hK hP 10 0 rfl rfl (ix (by omega) (by omega)) dX10_copies_85 (fun x85 e_x85 => ?_)
          have b_x85 := iB x85
          have hx85 := congrArg Int32.toInt e_x85
          refine m_lald hx hb hK hP 21 1 rfl rfl (ix (by omega) (by omega)) dX10_copies_86 (fun x86 e_x86 => ?_)
          have b_x86 := jB x86
          have t85 := tn (i := x85) (by omega)
          have hs2 : (a_varSort x85.toNatClampNeg).toInt = 3 := by rw [e_x85, ← e_x54, ← e_x55]; omega
          have hv2 := (p_0.2.2.1 x85.toNatClampNeg (by omega)).2.1 hs2
          rw [← e_x86] at hv2
          refine m_l2i hx hb dX10_copies_87 (fun x87 e_x87 => ?_)
          have b_x87 := iB x87
          have hx87 := l2iT e_x87 (by omega) (by omega)
          refine lv_istore_n (lv' := [(3, .int x87), (2, .int x74), (0, .ref (q 0)), (1, .int s9)]) hx hb dX10_copies_88 rfl hl (by decide) rfl (fun ls hl => ?_)
          have t2 := tn (i := x74) (by omega)
          have t3 := tn (i := x87) (by omega)
          obtain ⟨ao1, ao2, ao3, ao4⟩ := p_0.2.1 x74.toNatClampNeg (by omega)
          obtain ⟨bo1, bo2, bo3, bo4⟩ := p_0.2.1 x87.toNatClampNeg (by omega)
          refine lv_aload_n hx hb dX10_copies_89 rfl (lv_at hl 2 rfl) ?_
          refine va_get (D := D) (ci := 9) (v := .ref (q 23)) (C := RX10) (T := TX10) (N := 71) hx hb hts hin hown hK hP 0 rfl rfl 44 (by decide) k_6_5 (fun _ h9 => h9) rfl dX10_copies_90 ?_
          refine lv_iload_n hx hb dX10_copies_93 rfl (lv_at hl 1 rfl) ?_
          refine m_iald hx hb hK hP 23 0 rfl rfl (ix (by omega) (by omega)) dX10_copies_94 (fun x94 e_x94 => ?_)
          have b_x94 := iB x94
          have hx94 := congrArg Int32.toInt e_x94
          refine call_iSP (As := [.int x94]) (rest := []) ⟨hx, hb, hml, hown, hts⟩ (tX10_isOfNumbers (l := l) x94) (va_cwS 1 hts (gS (wr49 _ (List.mem_of_getElem? (i := 4) rfl)) (wr49 _ (List.mem_of_getElem? (i := 5) rfl)) (wr1 _ (List.mem_of_getElem? (i := 5) rfl)) (wr49 _ (List.mem_of_getElem? (i := 6) rfl))) rfl rfl rfl (by decide +kernel) ⟨Nat.le_of_ble_eq_true rfl, Nat.le_of_ble_eq_true rfl⟩) (hK.sub [] rfl) hP hD hE hS hA rfl hl.1 rfl (Nat.le_of_ble_eq_true rfl) dX10_copies_95 ⟨Nat.le_of_ble_eq_true rfl, Nat.le_of_ble_eq_true rfl⟩ (fun r95 w9 H locs hw95 hP hD hS => ?_)
          obtain ⟨rfl, hw95_0⟩ := hw95
          have b_r95 := iB r95
          refine lv_istore (lv' := [(4, .int r95), (3, .int x87), (2, .int x74), (0, .ref (q 0)), (1, .int s9)]) hx hb dX10_copies_98 hl (by decide) rfl (fun ls hl => ?_)
          refine lv_iload hx hb dX10_copies_100 (lv_at hl 0 rfl) ?_
          refine lv_aload_n hx hb dX10_copies_102 rfl (lv_at hl 3 rfl) ?_
          refine va_get (D := D) (ci := 9) (v := .ref (q 23)) (C := RX10) (T := TX10) (N := 71) hx hb hts hin hown hK hP 0 rfl rfl 44 (by decide) k_6_5 (fun _ h9 => h9) rfl dX10_copies_103 ?_
          refine lv_iload_n hx hb dX10_copies_106 rfl (lv_at hl 1 rfl) ?_
          refine m_iald hx hb hK hP 23 0 rfl rfl (ix (by omega) (by omega)) dX10_copies_107 (fun x107 e_x107 => ?_)
          have b_x107 := iB x107
          have hx107 := congrArg Int32.toInt e_x107
          refine call_iSP (As := [.int x107]) (rest := [.int r95]) ⟨hx, hb, hml, hown, hts⟩ (tX10_isOfNumbers (l := l) x107) (va_cwS 1 hts (gS (wr49 _ (List.mem_of_getElem? (i := 4) rfl)) (wr49 _ (List.mem_of_getElem? (i := 5) rfl)) (wr1 _ (List.mem_of_getElem? (i := 5) rfl)) (wr49 _ (List.mem_of_getElem? (i := 6) rfl))) rfl rfl rfl (by decide +kernel) ⟨Nat.le_of_ble_eq_true rfl, Nat.le_of_ble_eq_true rfl⟩) (hK.sub [] rfl) hP hD hE hS hA rfl hl.1 rfl (Nat.le_of_ble_eq_true rfl) dX10_copies_108 ⟨Nat.le_of_ble_eq_true rfl, Nat.le_of_ble_eq_true rfl⟩ (fun r108 w9 H locs hw108 hP hD hS => ?_)
          obtain ⟨rfl, hw108_0⟩ := hw108
          have b_r108 := iB r108
          refine m_icmp_ne (X := r95.toInt) (Y := r108.toInt) (tgt := 134) hx hb dX10_copies_111 (by decide) rfl rfl (fun c111 => ?_) (fun c111 => ?_)
          · skip
            refine lv_bipush (v := 6) hx hb dX10_copies_134 (by decide) ?_
            subst hAe
            rw [hQ]
            exact W.iret (v := 6) hx hb hr (fun t ht hW => ⟨⟨6, _, rfl, ⟨a_cellSort, a_cellKind, a_cellValue, a_asideSort, a_asideKind, a_asideValue, v_sort, v_kindAt, v_value, rfl, by first | assumption | omega | (intros; omega) | decide, by first | assumption | omega | (intros; omega) | decide⟩, by rw [ht]; exact hP, va_K.moved hW.alike hK, hD⟩, hS.F ht⟩) hS.2.2 dX10_copies_136
          · skip
            refine lv_iload hx hb dX10_copies_114 (lv_at hl 0 rfl) ?_
            have J137 : ∀ (H : Heap) (locs : List Loc) (ls : Array Slot), ((r95.toInt = 0 ∧ 28 ≤ (a_arrayClass x87.toNatClampNeg).toInt) ∨ (r95.toInt = 1 ∧ (a_arrayClass x74.toNatClampNeg).toInt < 28 ∧ (a_arrayClass x74.toNatClampNeg).toInt = (a_arrayClass x87.toNatClampNeg).toInt)) → va_P D vwCl (mw cs q v_thrown a_tape v_taped v_size v_to v_kind v_from v_letters v_letterMany v_digits v_isBeyond v_suffix v_steps v_fault v_hasProgram a_text a_act a_guess a_take a_begin a_finish a_to1 a_one a_two a_what a_ats a_atVar a_atNumber a_atomSort a_atomKind a_atomValue v_wrong v_wrongAt v_variable v_number v_numberKind v_takes a_out v_outed a_varSort a_varKind a_varValue a_creature v_creatures a_arrayClass a_arrayFrom a_arrayLong v_arrays v_cells a_cellSort a_cellKind a_cellValue a_asideSort a_asideKind a_asideValue a_outcome v_marks v_came v_guessed v_right v_taken a_markSort a_markKind a_markClass a_markValue v_sort v_kindAt v_value a_index v_reached v_looked) H → va_D A (mw cs q v_thrown a_tape v_taped v_size v_to v_kind v_from v_letters v_letterMany v_digits v_isBeyond v_suffix v_steps v_fault v_hasProgram a_text a_act a_guess a_take a_begin a_finish a_to1 a_one a_two a_what a_ats a_atVar a_atNumber a_atomSort a_atomKind a_atomValue v_wrong v_wrongAt v_variable v_number v_numberKind v_takes a_out v_outed a_varSort a_varKind a_varValue a_creature v_creatures a_arrayClass a_arrayFrom a_arrayLong v_arrays v_cells a_cellSort a_cellKind a_cellValue a_asideSort a_asideKind a_asideValue a_outcome v_marks v_came v_guessed v_right v_taken a_markSort a_markKind a_markClass a_markValue v_sort v_kindAt v_value a_index v_reached v_looked) → va_S A s.heap H locs → lv_has ls 7 [(0, .ref (q 0)), (2, .int x74), (3, .int x87), (4, .int r95)] → W p l e (headSpec (wG yX10_copies cX10_copies 7 (some .int)) rmX10_copies).room s m ([.ref (q 0), .int s9] : List Value).toArray below meth c H locs 0 0 Q (F0 m 137 ls []) := by
              intro H locs ls f137_0 hP hD hS hl
              refine lv_aload_n hx hb dX10_copies_137 rfl (lv_at hl 0 rfl) ?_
              refine va_get (D := D) (ci := 9) (v := .ref (q 37)) (C := RX10) (T := TX10) (N := 71) hx hb hts hin hown hK hP 0 rfl rfl 68 (by decide) k_6_19 (fun _ h9 => h9) rfl dX10_copies_138 ?_
              refine lv_iconst (v := 2) hx hb dX10_copies_141 (by decide) ?_
              refine m_iald hx hb hK hP 37 0 rfl rfl (ix (by decide) (by decide)) dX10_copies_142 (fun x142 e_x142 => ?_)
              have b_x142 := iB x142
              have hx142 := congrArg Int32.toInt e_x142
              refine lv_istore (lv' := [(5, .int x142), (0, .ref (q 0)), (2, .int x74), (3, .int x87), (4, .int r95)]) hx hb dX10_copies_143 hl (by decide) rfl (fun ls hl => ?_)
              refine lv_iload hx hb dX10_copies_145 (lv_at hl 0 rfl) ?_
              refine m_if_lt (X := x142.toInt) (tgt := 212) hx hb dX10_copies_147 (by decide) rfl (fun c147 => ?_) (fun c147 => ?_)
              · skip
                refine lv_iconst (v := 2) hx hb dX10_copies_212 (by decide) ?_
                subst hAe
                rw [hQ]
                exact W.iret (v := 2) hx hb hr (fun t ht hW => ⟨⟨2, _, rfl, ⟨a_cellSort, a_cellKind, a_cellValue, a_asideSort, a_asideKind, a_asideValue, v_sort, v_kindAt, v_value, rfl, by first | assumption | omega | (intros; omega) | decide, by first | assumption | omega | (intros; omega) | decide⟩, by rw [ht]; exact hP, va_K.moved hW.alike hK, hD⟩, hS.F ht⟩) hS.2.2 dX10_copies_213
              · skip
                refine lv_aload_n hx hb dX10_copies_150 rfl (lv_at hl 1 rfl) ?_
                refine va_get (D := D) (ci := 9) (v := .ref (q 37)) (C := RX10) (T := TX10) (N := 71) hx hb hts hin hown hK hP 0 rfl rfl 68 (by decide) k_6_19 (fun _ h9 => h9) rfl dX10_copies_151 ?_
                refine lv_iconst (v := 0) hx hb dX10_copies_154 (by decide) ?_
                refine m_iald hx hb hK hP 37 0 rfl rfl (ix (by decide) (by decide)) dX10_copies_155 (fun x155 e_x155 => ?_)
                have b_x155 := iB x155
                have hx155 := congrArg Int32.toInt e_x155
                refine m_if_lt (X := x155.toInt) (tgt := 212) hx hb dX10_copies_156 (by decide) rfl (fun c156 => ?_) (fun c156 => ?_)
                · skip
                  refine lv_iconst (v := 2) hx hb dX10_copies_212 (by decide) ?_
                  subst hAe
                  rw [hQ]
                  exact W.iret (v := 2) hx hb hr (fun t ht hW => ⟨⟨2, _, rfl, ⟨a_cellSort, a_cellKind, a_cellValue, a_asideSort, a_asideKind, a_asideValue, v_sort, v_kindAt, v_value, rfl, by first | assumption | omega | (intros; omega) | decide, by first | assumption | omega | (intros; omega) | decide⟩, by rw [ht]; exact hP, va_K.moved hW.alike hK, hD⟩, hS.F ht⟩) hS.2.2 dX10_copies_213
                · skip
                  refine lv_aload_n hx hb dX10_copies_159 rfl (lv_at hl 1 rfl) ?_
                  refine va_get (D := D) (ci := 9) (v := .ref (q 37)) (C := RX10) (T := TX10) (N := 71) hx hb hts hin hown hK hP 0 rfl rfl 68 (by decide) k_6_19 (fun _ h9 => h9) rfl dX10_copies_160 ?_
                  refine lv_iconst (v := 1) hx hb dX10_copies_163 (by decide) ?_
                  refine m_iald hx hb hK hP 37 0 rfl rfl (ix (by decide) (by decide)) dX10_copies_164 (fun x164 e_x164 => ?_)
                  have b_x164 := iB x164
                  have hx164 := congrArg Int32.toInt e_x164
                  refine m_if_lt (X := x164.toInt) (tgt := 212) hx hb dX10_copies_165 (by decide) rfl (fun c165 => ?_) (fun c165 => ?_)
                  · skip
                    refine lv_iconst (v := 2) hx hb dX10_copies_212 (by decide) ?_
                    subst hAe
                    rw [hQ]
                    exact W.iret (v := 2) hx hb hr (fun t ht hW => ⟨⟨2, _, rfl, ⟨a_cellSort, a_cellKind, a_cellValue, a_asideSort, a_asideKind, a_asideValue, v_sort, v_kindAt, v_value, rfl, by first | assumption | omega | (intros; omega) | decide, by first | assumption | omega | (intros; omega) | decide⟩, by rw [ht]; exact hP, va_K.moved hW.alike hK, hD⟩, hS.F ht⟩) hS.2.2 dX10_copies_213
                  · skip
                    refine lv_aload_n hx hb dX10_copies_168 rfl (lv_at hl 1 rfl) ?_
                    refine va_get (D := D) (ci := 9) (v := .ref (q 37)) (C := RX10) (T := TX10) (N := 71) hx hb hts hin hown hK hP 0 rfl rfl 68 (by decide) k_6_19 (fun _ h9 => h9) rfl dX10_copies_169 ?_
                    refine lv_iconst (v := 0) hx hb dX10_copies_172 (by decide) ?_
                    refine m_iald hx hb hK hP 37 0 rfl rfl (ix (by decide) (by decide)) dX10_copies_173 (fun x173 e_x173 => ?_)
                    have b_x173 := iB x173
                    have hx173 := congrArg Int32.toInt e_x173
                    refine m_i2l (X := x173.toInt) hx hb dX10_copies_174 rfl (fun x174 e_x174 g_x174 => ?_)
                    refine lv_iload hx hb dX10_copies_175 (lv_at hl 0 rfl) ?_
                    refine m_i2l (X := x142.toInt) hx hb dX10_copies_177 rfl (fun x177 e_x177 g_x177 => ?_)
                    refine m_ladd (X := x174.toInt) (Y := x177.toInt) hx hb dX10_copies_178 rfl rfl (fun x178 e_x178 g9 => ?_)
                    obtain ⟨k_x178, g_x178⟩ := g9
                    have b_x178 := jB x178
                    try (have q_x178 : x178.toInt = x174.toInt + x177.toInt := (by omega); clear g_x178 k_x178)
                    refine lv_aload_n hx hb dX10_copies_179 rfl (lv_at hl 1 rfl) ?_
                    refine va_get (D := D) (ci := 9) (v := .ref (q 25)) (C := RX10) (T := TX10) (N := 71) hx hb hts hin hown hK hP 0 rfl rfl 46 (by decide) k_6_7 (fun _ h9 => h9) rfl dX10_copies_180 ?_
                    refine lv_iload_n hx hb dX10_copies_183 rfl (lv_at hl 2 rfl) ?_
                    refine m_iald hx hb hK hP 25 0 rfl rfl (ix (by omega) (by omega)) dX10_copies_184 (fun x184 e_x184 => ?_)
                    have b_x184 := iB x184
                    have hx184 := congrArg Int32.toInt e_x184
                    refine m_i2l (X := x184.toInt) hx hb dX10_copies_185 rfl (fun x185 e_x185 g_x185 => ?_)
                    refine m_lcmp (X := x178.toInt) (Y := x185.toInt) hx hb dX10_copies_186 rfl rfl (fun x186 g_x186 => ?_)
                    refine m_if_gt (X := x186.toInt) (tgt := 212) hx hb dX10_copies_187 (by decide) rfl (fun c187 => ?_) (fun c187 => ?_)
                    · skip
                      refine lv_iconst (v := 2) hx hb dX10_copies_212 (by decide) ?_
                      subst hAe
                      rw [hQ]
                      exact W.iret (v := 2) hx hb hr (fun t ht hW => ⟨⟨2, _, rfl, ⟨a_cellSort, a_cellKind, a_cellValue, a_asideSort, a_asideKind, a_asideValue, v_sort, v_kindAt, v_value, rfl, by first | assumption | omega | (intros; omega) | decide, by first | assumption | omega | (intros; omega) | decide⟩, by rw [ht]; exact hP, va_K.moved hW.alike hK, hD⟩, hS.F ht⟩) hS.2.2 dX10_copies_213
                    · skip
                      refine lv_aload_n hx hb dX10_copies_190 rfl (lv_at hl 1 rfl) ?_
                      refine va_get (D := D) (ci := 9) (v := .ref (q 37)) (C := RX10) (T := TX10) (N := 71) hx hb hts hin hown hK hP 0 rfl rfl 68 (by decide) k_6_19 (fun _ h9 => h9) rfl dX10_copies_191 ?_
                      refine lv_iconst (v := 1) hx hb dX10_copies_194 (by decide) ?_
                      refine m_iald hx hb hK hP 37 0 rfl rfl (ix (by decide) (by decide)) dX10_copies_195 (fun x195 e_x195 => ?_)
                      have b_x195 := iB x195
                      have hx195 := congrArg Int32.toInt e_x195
                      refine m_i2l (X := x195.toInt) hx hb dX10_copies_196 rfl (fun x196 e_x196 g_x196 => ?_)
                      refine lv_iload hx hb dX10_copies_197 (lv_at hl 0 rfl) ?_
                      refine m_i2l (X := x142.toInt) hx hb dX10_copies_199 rfl (fun x199 e_x199 g_x199 => ?_)
                      refine m_ladd (X := x196.toInt) (Y := x199.toInt) hx hb dX10_copies_200 rfl rfl (fun x200 e_x200 g9 => ?_)
                      obtain ⟨k_x200, g_x200⟩ := g9
                      have b_x200 := jB x200
                      try (have q_x200 : x200.toInt = x196.toInt + x199.toInt := (by omega); clear g_x200 k_x200)
                      refine lv_aload_n hx hb dX10_copies_201 rfl (lv_at hl 1 rfl) ?_
                      refine va_get (D := D) (ci := 9) (v := .ref (q 25)) (C := RX10) (T := TX10) (N := 71) hx hb hts hin hown hK hP 0 rfl rfl 46 (by decide) k_6_7 (fun _ h9 => h9) rfl dX10_copies_202 ?_
                      refine lv_iload_n hx hb dX10_copies_205 rfl (lv_at hl 3 rfl) ?_
                      refine m_iald hx hb hK hP 25 0 rfl rfl (ix (by omega) (by omega)) dX10_copies_206 (fun x206 e_x206 => ?_)
                      have b_x206 := iB x206
                      have hx206 := congrArg Int32.toInt e_x206
                      refine m_i2l (X := x206.toInt) hx hb dX10_copies_207 rfl (fun x207 e_x207 g_x207 => ?_)
                      refine m_lcmp (X := x200.toInt) (Y := x207.toInt) hx hb dX10_copies_208 rfl rfl (fun x208 g_x208 => ?_)
                      refine m_if_le (X := x208.toInt) (tgt := 214) hx hb dX10_copies_209 (by decide) rfl (fun c209 => ?_) (fun c209 => ?_)
                      · skip
                        refine lv_iconst (v := 0) hx hb dX10_copies_214 (by decide) ?_
                        refine lv_istore (lv' := [(6, .int 0), (5, .int x142), (0, .ref (q 0)), (2, .int x74), (3, .int x87), (4, .int r95)]) hx hb dX10_copies_215 hl (by decide) rfl (fun ls hl => ?_)
                        have J217 : ∀ (n217 : Nat) (l6_217 : Int32) (a_asideKind_217 : Nat → Int32) (a_asideSort_217 : Nat → Int32) (a_asideValue_217 : Nat → Int64) (v_kindAt_217 : Int32) (v_sort_217 : Int32) (v_value_217 : Int64) (H : Heap) (locs : List Loc) (ls : Array Slot), (0 ≤ l6_217.toInt) → (l6_217.toInt ≤ x142.toInt) → (∀ j : Nat, (j : Int) < l6_217.toInt → VOK v_arrays.toInt v_creatures.toInt (a_asideSort_217 j) (a_asideKind_217 j) (a_asideValue_217 j) ∧ ((a_arrayClass x74.toNatClampNeg).toInt < 28 → (a_asideSort_217 j).toInt = 1)) → (x142.toInt - l6_217.toInt < (n217 : Int)) → va_P D vwCl (mw cs q v_thrown a_tape v_taped v_size v_to v_kind v_from v_letters v_letterMany v_digits v_isBeyond v_suffix v_steps v_fault v_hasProgram a_text a_act a_guess a_take a_begin a_finish a_to1 a_one a_two a_what a_ats a_atVar a_atNumber a_atomSort a_atomKind a_atomValue v_wrong v_wrongAt v_variable v_number v_numberKind v_takes a_out v_outed a_varSort a_varKind a_varValue a_creature v_creatures a_arrayClass a_arrayFrom a_arrayLong v_arrays v_cells a_cellSort a_cellKind a_cellValue a_asideSort_217 a_asideKind_217 a_asideValue_217 a_outcome v_marks v_came v_guessed v_right v_taken a_markSort a_markKind a_markClass a_markValue v_sort_217 v_kindAt_217 v_value_217 a_index v_reached v_looked) H → va_D A (mw cs q v_thrown a_tape v_taped v_size v_to v_kind v_from v_letters v_letterMany v_digits v_isBeyond v_suffix v_steps v_fault v_hasProgram a_text a_act a_guess a_take a_begin a_finish a_to1 a_one a_two a_what a_ats a_atVar a_atNumber a_atomSort a_atomKind a_atomValue v_wrong v_wrongAt v_variable v_number v_numberKind v_takes a_out v_outed a_varSort a_varKind a_varValue a_creature v_creatures a_arrayClass a_arrayFrom a_arrayLong v_arrays v_cells a_cellSort a_cellKind a_cellValue a_asideSort_217 a_asideKind_217 a_asideValue_217 a_outcome v_marks v_came v_guessed v_right v_taken a_markSort a_markKind a_markClass a_markValue v_sort_217 v_kindAt_217 v_value_217 a_index v_reached v_looked) → va_S A s.heap H locs → lv_has ls 7 [(0, .ref (q 0)), (2, .int x74), (3, .int x87), (4, .int r95), (5, .int x142), (6, .int l6_217)] → W p l e (headSpec (wG yX10_copies cX10_copies 7 (some .int)) rmX10_copies).room s m ([.ref (q 0), .int s9] : List Value).toArray below meth c H locs 0 0 Q (F0 m 217 ls []) := by
                          intro n217
                          induction n217 with
                          | zero =>
                            intro l6_217 a_asideKind_217 a_asideSort_217 a_asideValue_217 v_kindAt_217 v_sort_217 v_value_217 H locs ls f217_0 f217_1 f217_2 hm217
                            exfalso
                            omega
                          | succ n217 ih217 =>
                            intro l6_217 a_asideKind_217 a_asideSort_217 a_asideValue_217 v_kindAt_217 v_sort_217 v_value_217 H locs ls f217_0 f217_1 f217_2 hm217 hP hD hS hl
                            refine lv_iload hx hb dX10_copies_217 (lv_at hl 5 rfl) ?_
                            refine lv_iload hx hb dX10_copies_219 (lv_at hl 4 rfl) ?_
                            refine m_icmp_ge (X := l6_217.toInt) (Y := x142.toInt) (tgt := 277) hx hb dX10_copies_221 (by decide) rfl rfl (fun c221 => ?_) (fun c221 => ?_)
                            · skip
                              refine lv_iconst (v := 0) hx hb dX10_copies_277 (by decide) ?_
                              refine lv_istore (lv' := [(6, .int 0), (0, .ref (q 0)), (2, .int x74), (3, .int x87), (4, .int r95), (5, .int x142)]) hx hb dX10_copies_278 hl (by decide) rfl (fun ls hl => ?_)
                              have J280 : ∀ (n280 : Nat) (l6_280 : Int32) (a_cellKind_280 : Nat → Int32) (a_cellSort_280 : Nat → Int32) (a_cellValue_280 : Nat → Int64) (v_kindAt_280 : Int32) (v_sort_280 : Int32) (v_value_280 : Int64) (H : Heap) (locs : List Loc) (ls : Array Slot), (0 ≤ l6_280.toInt) → (l6_280.toInt ≤ x142.toInt) → (RUN a_varSort a_varKind a_varValue v_arrays v_cells v_creatures a_arrayClass a_arrayFrom a_arrayLong a_cellSort_280 a_cellKind_280 a_cellValue_280) → (x142.toInt - l6_280.toInt < (n280 : Int)) → va_P D vwCl (mw cs q v_thrown a_tape v_taped v_size v_to v_kind v_from v_letters v_letterMany v_digits v_isBeyond v_suffix v_steps v_fault v_hasProgram a_text a_act a_guess a_take a_begin a_finish a_to1 a_one a_two a_what a_ats a_atVar a_atNumber a_atomSort a_atomKind a_atomValue v_wrong v_wrongAt v_variable v_number v_numberKind v_takes a_out v_outed a_varSort a_varKind a_varValue a_creature v_creatures a_arrayClass a_arrayFrom a_arrayLong v_arrays v_cells a_cellSort_280 a_cellKind_280 a_cellValue_280 a_asideSort_217 a_asideKind_217 a_asideValue_217 a_outcome v_marks v_came v_guessed v_right v_taken a_markSort a_markKind a_markClass a_markValue v_sort_280 v_kindAt_280 v_value_280 a_index v_reached v_looked) H → va_D A (mw cs q v_thrown a_tape v_taped v_size v_to v_kind v_from v_letters v_letterMany v_digits v_isBeyond v_suffix v_steps v_fault v_hasProgram a_text a_act a_guess a_take a_begin a_finish a_to1 a_one a_two a_what a_ats a_atVar a_atNumber a_atomSort a_atomKind a_atomValue v_wrong v_wrongAt v_variable v_number v_numberKind v_takes a_out v_outed a_varSort a_varKind a_varValue a_creature v_creatures a_arrayClass a_arrayFrom a_arrayLong v_arrays v_cells a_cellSort_280 a_cellKind_280 a_cellValue_280 a_asideSort_217 a_asideKind_217 a_asideValue_217 a_outcome v_marks v_came v_guessed v_right v_taken a_markSort a_markKind a_markClass a_markValue v_sort_280 v_kindAt_280 v_value_280 a_index v_reached v_looked) → va_S A s.heap H locs → lv_has ls 7 [(0, .ref (q 0)), (3, .int x87), (4, .int r95), (5, .int x142), (6, .int l6_280)] → W p l e (headSpec (wG yX10_copies cX10_copies 7 (some .int)) rmX10_copies).room s m ([.ref (q 0), .int s9] : List Value).toArray below meth c H locs 0 0 Q (F0 m 280 ls []) := by
                                intro n280
                                induction n280 with
                                | zero =>
                                  intro l6_280 a_cellKind_280 a_cellSort_280 a_cellValue_280 v_kindAt_280 v_sort_280 v_value_280 H locs ls f280_0 f280_1 f280_2 hm280
                                  exfalso
                                  omega
                                | succ n280 ih280 =>
                                  intro l6_280 a_cellKind_280 a_cellSort_280 a_cellValue_280 v_kindAt_280 v_sort_280 v_value_280 H locs ls f280_0 f280_1 f280_2 hm280 hP hD hS hl
                                  refine lv_iload hx hb dX10_copies_280 (lv_at hl 4 rfl) ?_
                                  refine lv_iload hx hb dX10_copies_282 (lv_at hl 3 rfl) ?_
                                  refine m_icmp_ge (X := l6_280.toInt) (Y := x142.toInt) (tgt := 373) hx hb dX10_copies_284 (by decide) rfl rfl (fun c284 => ?_) (fun c284 => ?_)
                                  · skip
                                    refine lv_iconst (v := 0) hx hb dX10_copies_373 (by decide) ?_
                                    subst hAe
                                    rw [hQ]
                                    exact W.iret (v := 0) hx hb hr (fun t ht hW => ⟨⟨0, _, rfl, ⟨a_cellSort_280, a_cellKind_280, a_cellValue_280, a_asideSort_217, a_asideKind_217, a_asideValue_217, v_sort_280, v_kindAt_280, v_value_280, rfl, by first | assumption | omega | (intros; omega) | decide, by first | assumption | omega | (intros; omega) | decide⟩, by rw [ht]; exact hP, va_K.moved hW.alike hK, hD⟩, hS.F ht⟩) hS.2.2 dX10_copies_374
                                  · skip
                                    have t6 := tn (i := l6_280) (by omega)
                                    refine lv_aload_n hx hb dX10_copies_287 rfl (lv_at hl 0 rfl) ?_
                                    refine lv_aload_n hx hb dX10_copies_288 rfl (lv_at hl 0 rfl) ?_
                                    refine va_get (D := D) (ci := 9) (v := .ref (q 29)) (C := RX10) (T := TX10) (N := 71) hx hb hts hin hown hK hP 0 rfl rfl 52 (by decide) k_6_11 (fun _ h9 => h9) rfl dX10_copies_289 ?_
                                    refine lv_iload hx hb dX10_copies_292 (lv_at hl 4 rfl) ?_
                                    refine m_iald hx hb hK hP 29 0 rfl rfl (ix (by omega) (by omega)) dX10_copies_294 (fun x294 e_x294 => ?_)
                                    have b_x294 := iB x294
                                    refine va_put (D := D) (ci := 9) (v := .int x294) (ty := .int) (C := RX10) (T := TX10) (N := 71) hx hb hts hin tyX10 tyX10_ok nmX10 hown hK hP hD hS 0 rfl rfl 65 (by decide) k_47_12 (fun _ h9 => h9) rfl (by decide +kernel) rfl rfl (Nat.le_of_ble_eq_true rfl) dX10_copies_295 (fun H locs hP hD hS => ?_)
                                    have hP : va_P D vwCl (mw cs q v_thrown a_tape v_taped v_size v_to v_kind v_from v_letters v_letterMany v_digits v_isBeyond v_suffix v_steps v_fault v_hasProgram a_text a_act a_guess a_take a_begin a_finish a_to1 a_one a_two a_what a_ats a_atVar a_atNumber a_atomSort a_atomKind a_atomValue v_wrong v_wrongAt v_variable v_number v_numberKind v_takes a_out v_outed a_varSort a_varKind a_varValue a_creature v_creatures a_arrayClass a_arrayFrom a_arrayLong v_arrays v_cells a_cellSort_280 a_cellKind_280 a_cellValue_280 a_asideSort_217 a_asideKind_217 a_asideValue_217 a_outcome v_marks v_came v_guessed v_right v_taken a_markSort a_markKind a_markClass a_markValue x294 v_kindAt_280 v_value_280 a_index v_reached v_looked) H := hP
                                    have hD : va_D A (mw cs q v_thrown a_tape v_taped v_size v_to v_kind v_from v_letters v_letterMany v_digits v_isBeyond v_suffix v_steps v_fault v_hasProgram a_text a_act a_guess a_take a_begin a_finish a_to1 a_one a_two a_what a_ats a_atVar a_atNumber a_atomSort a_atomKind a_atomValue v_wrong v_wrongAt v_variable v_number v_numberKind v_takes a_out v_outed a_varSort a_varKind a_varValue a_creature v_creatures a_arrayClass a_arrayFrom a_arrayLong v_arrays v_cells a_cellSort_280 a_cellKind_280 a_cellValue_280 a_asideSort_217 a_asideKind_217 a_asideValue_217 a_outcome v_marks v_came v_guessed v_right v_taken a_markSort a_markKind a_markClass a_markValue x294 v_kindAt_280 v_value_280 a_index v_reached v_looked) := hD
                                    refine lv_aload_n hx hb dX10_copies_298 rfl (lv_at hl 0 rfl) ?_
                                    refine lv_aload_n hx hb dX10_copies_299 rfl (lv_at hl 0 rfl) ?_
                                    refine va_get (D := D) (ci := 9) (v := .ref (q 30)) (C := RX10) (T := TX10) (N := 71) hx hb hts hin hown hK hP 0 rfl rfl 53 (by decide) k_6_12 (fun _ h9 => h9) rfl dX10_copies_300 ?_
                                    refine lv_iload hx hb dX10_copies_303 (lv_at hl 4 rfl) ?_
                                    refine m_iald hx hb hK hP 30 0 rfl rfl (ix (by omega) (by omega)) dX10_copies_305 (fun x305 e_x305 => ?_)
                                    have b_x305 := iB x305
                                    refine va_put (D := D) (ci := 9) (v := .int x305) (ty := .int) (C := RX10) (T := TX10) (N := 71) hx hb hts hin tyX10 tyX10_ok nmX10 hown hK hP hD hS 0 rfl rfl 66 (by decide) k_47_13 (fun _ h9 => h9) rfl (by decide +kernel) rfl rfl (Nat.le_of_ble_eq_true rfl) dX10_copies_306 (fun H locs hP hD hS => ?_)
                                    have hP : va_P D vwCl (mw cs q v_thrown a_tape v_taped v_size v_to v_kind v_from v_letters v_letterMany v_digits v_isBeyond v_suffix v_steps v_fault v_hasProgram a_text a_act a_guess a_take a_begin a_finish a_to1 a_one a_two a_what a_ats a_atVar a_atNumber a_atomSort a_atomKind a_atomValue v_wrong v_wrongAt v_variable v_number v_numberKind v_takes a_out v_outed a_varSort a_varKind a_varValue a_creature v_creatures a_arrayClass a_arrayFrom a_arrayLong v_arrays v_cells a_cellSort_280 a_cellKind_280 a_cellValue_280 a_asideSort_217 a_asideKind_217 a_asideValue_217 a_outcome v_marks v_came v_guessed v_right v_taken a_markSort a_markKind a_markClass a_markValue x294 x305 v_value_280 a_index v_reached v_looked) H := hP
                                    have hD : va_D A (mw cs q v_thrown a_tape v_taped v_size v_to v_kind v_from v_letters v_letterMany v_digits v_isBeyond v_suffix v_steps v_fault v_hasProgram a_text a_act a_guess a_take a_begin a_finish a_to1 a_one a_two a_what a_ats a_atVar a_atNumber a_atomSort a_atomKind a_atomValue v_wrong v_wrongAt v_variable v_number v_numberKind v_takes a_out v_outed a_varSort a_varKind a_varValue a_creature v_creatures a_arrayClass a_arrayFrom a_arrayLong v_arrays v_cells a_cellSort_280 a_cellKind_280 a_cellValue_280 a_asideSort_217 a_asideKind_217 a_asideValue_217 a_outcome v_marks v_came v_guessed v_right v_taken a_markSort a_markKind a_markClass a_markValue x294 x305 v_value_280 a_index v_reached v_looked) := hD
                                    refine lv_aload_n hx hb dX10_copies_309 rfl (lv_at hl 0 rfl) ?_
                                    refine lv_aload_n hx hb dX10_copies_310 rfl (lv_at hl 0 rfl) ?_
                                    refine va_get (D := D) (ci := 9) (v := .ref (q 31)) (C := RX10) (T := TX10) (N := 71) hx hb hts hin hown hK hP 0 rfl rfl 54 (by decide) k_6_13 (fun _ h9 => h9) rfl dX10_copies_311 ?_
                                    refine lv_iload hx hb dX10_copies_314 (lv_at hl 4 rfl) ?_
                                    refine m_lald hx hb hK hP 31 1 rfl rfl (ix (by omega) (by omega)) dX10_copies_316 (fun x316 e_x316 => ?_)
                                    have b_x316 := jB x316
                                    obtain ⟨hq1, hq2⟩ := f217_2 l6_280.toNatClampNeg (by omega)
                                    rw [← e_x294, ← e_x305, ← e_x316] at hq1
                                    rw [← e_x294] at hq2
                                    refine va_put (D := D) (ci := 9) (v := .long x316) (ty := .long) (C := RX10) (T := TX10) (N := 71) hx hb hts hin tyX10 tyX10_ok nmX10 hown hK hP hD hS 0 rfl rfl 67 (by decide) k_47_14 (fun _ h9 => h9) rfl (by decide +kernel) rfl rfl (Nat.le_of_ble_eq_true rfl) dX10_copies_317 (fun H locs hP hD hS => ?_)
                                    have hP : va_P D vwCl (mw cs q v_thrown a_tape v_taped v_size v_to v_kind v_from v_letters v_letterMany v_digits v_isBeyond v_suffix v_steps v_fault v_hasProgram a_text a_act a_guess a_take a_begin a_finish a_to1 a_one a_two a_what a_ats a_atVar a_atNumber a_atomSort a_atomKind a_atomValue v_wrong v_wrongAt v_variable v_number v_numberKind v_takes a_out v_outed a_varSort a_varKind a_varValue a_creature v_creatures a_arrayClass a_arrayFrom a_arrayLong v_arrays v_cells a_cellSort_280 a_cellKind_280 a_cellValue_280 a_asideSort_217 a_asideKind_217 a_asideValue_217 a_outcome v_marks v_came v_guessed v_right v_taken a_markSort a_markKind a_markClass a_markValue x294 x305 x316 a_index v_reached v_looked) H := hP
                                    have hD : va_D A (mw cs q v_thrown a_tape v_taped v_size v_to v_kind v_from v_letters v_letterMany v_digits v_isBeyond v_suffix v_steps v_fault v_hasProgram a_text a_act a_guess a_take a_begin a_finish a_to1 a_one a_two a_what a_ats a_atVar a_atNumber a_atomSort a_atomKind a_atomValue v_wrong v_wrongAt v_variable v_number v_numberKind v_takes a_out v_outed a_varSort a_varKind a_varValue a_creature v_creatures a_arrayClass a_arrayFrom a_arrayLong v_arrays v_cells a_cellSort_280 a_cellKind_280 a_cellValue_280 a_asideSort_217 a_asideKind_217 a_asideValue_217 a_outcome v_marks v_came v_guessed v_right v_taken a_markSort a_markKind a_markClass a_markValue x294 x305 x316 a_index v_reached v_looked) := hD
                                    refine lv_iload hx hb dX10_copies_320 (lv_at hl 2 rfl) ?_
                                    have J353 : ∀ (H : Heap) (locs : List Loc) (ls : Array Slot), (x294.toInt = 3 → (a_arrayClass x316.toInt.toNat).toInt / 20 + 1 = (a_arrayClass x87.toNatClampNeg).toInt / 20) → va_P D vwCl (mw cs q v_thrown a_tape v_taped v_size v_to v_kind v_from v_letters v_letterMany v_digits v_isBeyond v_suffix v_steps v_fault v_hasProgram a_text a_act a_guess a_take a_begin a_finish a_to1 a_one a_two a_what a_ats a_atVar a_atNumber a_atomSort a_atomKind a_atomValue v_wrong v_wrongAt v_variable v_number v_numberKind v_takes a_out v_outed a_varSort a_varKind a_varValue a_creature v_creatures a_arrayClass a_arrayFrom a_arrayLong v_arrays v_cells a_cellSort_280 a_cellKind_280 a_cellValue_280 a_asideSort_217 a_asideKind_217 a_asideValue_217 a_outcome v_marks v_came v_guessed v_right v_taken a_markSort a_markKind a_markClass a_markValue x294 x305 x316 a_index v_reached v_looked) H → va_D A (mw cs q v_thrown a_tape v_taped v_size v_to v_kind v_from v_letters v_letterMany v_digits v_isBeyond v_suffix v_steps v_fault v_hasProgram a_text a_act a_guess a_take a_begin a_finish a_to1 a_one a_two a_what a_ats a_atVar a_atNumber a_atomSort a_atomKind a_atomValue v_wrong v_wrongAt v_variable v_number v_numberKind v_takes a_out v_outed a_varSort a_varKind a_varValue a_creature v_creatures a_arrayClass a_arrayFrom a_arrayLong v_arrays v_cells a_cellSort_280 a_cellKind_280 a_cellValue_280 a_asideSort_217 a_asideKind_217 a_asideValue_217 a_outcome v_marks v_came v_guessed v_right v_taken a_markSort a_markKind a_markClass a_markValue x294 x305 x316 a_index v_reached v_looked) → va_S A s.heap H locs → lv_has ls 7 [(0, .ref (q 0)), (3, .int x87), (4, .int r95), (5, .int x142), (6, .int l6_280)] → W p l e (headSpec (wG yX10_copies cX10_copies 7 (some .int)) rmX10_copies).room s m ([.ref (q 0), .int s9] : List Value).toArray below meth c H locs 0 0 Q (F0 m 353 ls []) := by
                                      intro H locs ls f353_0 hP hD hS hl
                                      refine lv_aload_n hx hb dX10_copies_353 rfl (lv_at hl 0 rfl) ?_
                                      refine lv_iload_n hx hb dX10_copies_354 rfl (lv_at hl 1 rfl) ?_
                                      refine lv_aload_n hx hb dX10_copies_355 rfl (lv_at hl 0 rfl) ?_
                                      refine va_get (D := D) (ci := 9) (v := .ref (q 37)) (C := RX10) (T := TX10) (N := 71) hx hb hts hin hown hK hP 0 rfl rfl 68 (by decide) k_6_19 (fun _ h9 => h9) rfl dX10_copies_356 ?_
                                      refine lv_iconst (v := 1) hx hb dX10_copies_359 (by decide) ?_
                                      refine m_iald hx hb hK hP 37 0 rfl rfl (ix (by decide) (by decide)) dX10_copies_360 (fun x360 e_x360 => ?_)
                                      have b_x360 := iB x360
                                      have hx360 := congrArg Int32.toInt e_x360
                                      refine lv_iload hx hb dX10_copies_361 (lv_at hl 4 rfl) ?_
                                      refine m_iadd (X := x360.toInt) (Y := l6_280.toInt) hx hb dX10_copies_363 rfl rfl (fun x363 e_x363 g9 => ?_)
                                      obtain ⟨k_x363, g_x363⟩ := g9
                                      have b_x363 := iB x363
                                      try (have q_x363 : x363.toInt = x360.toInt + l6_280.toInt := (by omega); clear g_x363 k_x363)
                                      refine call_v (As := [.int x87, .int x363]) (rest := []) ⟨hx, hb, hml, hown, hts⟩ (tX10_toCell (l := l) x87 x363 (by first | assumption | omega | (intros; omega) | decide) (by first | assumption | omega | (intros; omega) | decide) (by first | assumption | omega | (intros; omega) | decide) (by first | assumption | omega | (intros; omega) | decide) (by first | assumption | omega | (intros; omega) | decide)) (cwV 2 hts (gV (wr50 _ (List.mem_of_getElem? (i := 7) rfl)) (wr50 _ (List.mem_of_getElem? (i := 8) rfl)) (wr50 _ (List.mem_of_getElem? (i := 9) rfl)) (wr1 _ (List.mem_of_getElem? (i := 5) rfl)) (wr50 _ (List.mem_of_getElem? (i := 10) rfl))) rfl rfl rfl (by decide +kernel) ⟨Nat.le_of_ble_eq_true rfl, Nat.le_of_ble_eq_true rfl⟩) (va_recv hK hP (ci := 9) (q0 := 0) rfl rfl) hK hP hD hE hS hA rfl hl.1 rfl (Nat.le_of_ble_eq_true rfl) dX10_copies_364 ⟨Nat.le_of_ble_eq_true rfl, Nat.le_of_ble_eq_true rfl⟩ (fun w9 H locs hw364 hP hD hS => ?_)
                                      obtain ⟨a_cellSort_364, a_cellKind_364, a_cellValue_364, rfl, hw364_0, hw364_1, hw364_2⟩ := hw364
                                      obtain ⟨x367, e_x367⟩ : ∃ z : Int32, z = l6_280 + (1 : Int32) := ⟨_, rfl⟩
                                      obtain ⟨k_x367, g_x367⟩ : ∃ k : Int, x367.toInt = l6_280.toInt + (1) + k * 4294967296 := by rw [e_x367]; exact iAdd l6_280 (1)
                                      have b_x367 := iB x367
                                      try (have q_x367 : x367.toInt = l6_280.toInt + (1) := (by omega); clear g_x367 k_x367)
                                      refine lv_iinc (v := x367) (lv' := [(6, .int x367), (0, .ref (q 0)), (3, .int x87), (4, .int r95), (5, .int x142)]) hx hb dX10_copies_367 hl (k := 4) rfl (by rw [e_x367]; rfl) (by decide) rfl (fun ls hl => ?_)
                                      refine lv_goto (tgt := 280) hx hb dX10_copies_370 (by decide) ?_
                                      exact ih280 x367 a_cellKind_364 a_cellSort_364 a_cellValue_364 x305 x294 x316 H locs ls (by first | assumption | omega | (intros; omega) | decide) (by first | assumption | omega | (intros; omega) | decide) (by first | assumption | exact f280_2.setCell (a := x87.toNatClampNeg) (i := x363.toNatClampNeg) (by omega) (by have t9 := tn (i := x363) (by omega); omega) rfl hq1 f353_0 (fun q => hq2 (by omega)) hw364_0 hw364_1 hw364_2) (by omega) hP hD hS (lv_sub hl [1, 2, 3, 4, 0] rfl)
                                    refine m_if_ne (X := r95.toInt) (tgt := 353) hx hb dX10_copies_322 (by decide) rfl (fun c322 => ?_) (fun c322 => ?_)
                                    · skip
                                      exact J353 H locs ls (by first | (intro q; exfalso; omega) | (intro q; exfalso; have z := hq2 (by omega); omega) | (intro h3; have h4 := hq1.2.1 h3; have h5 := hw333_0 h3; have h6 := (p_0.2.1 x316.toInt.toNat (by omega)).1; have h7 := ((hw345_1 (by omega) (by omega)).resolve_right (fun q => by omega)).2.dims; omega)) hP hD hS (lv_sub hl [0, 1, 2, 3, 4] rfl)
                                    · skip
                                      refine lv_aload_n hx hb dX10_copies_325 rfl (lv_at hl 0 rfl) ?_
                                      refine va_get (D := D) (ci := 9) (v := .int x294) (C := RX10) (T := TX10) (N := 71) hx hb hts hin hown hK hP 0 rfl rfl 65 (by decide) k_47_12 (fun _ h9 => h9) rfl dX10_copies_326 ?_
                                      refine m_if_eq (X := x294.toInt) (tgt := 353) hx hb dX10_copies_329 (by decide) rfl (fun c329 => ?_) (fun c329 => ?_)
                                      · skip
                                        exact J353 H locs ls (by first | (intro q; exfalso; omega) | (intro q; exfalso; have z := hq2 (by omega); omega) | (intro h3; have h4 := hq1.2.1 h3; have h5 := hw333_0 h3; have h6 := (p_0.2.1 x316.toInt.toNat (by omega)).1; have h7 := ((hw345_1 (by omega) (by omega)).resolve_right (fun q => by omega)).2.dims; omega)) hP hD hS (lv_sub hl [0, 1, 2, 3, 4] rfl)
                                      · skip
                                        refine lv_aload_n hx hb dX10_copies_332 rfl (lv_at hl 0 rfl) ?_
                                        refine call_i (As := []) (rest := []) ⟨hx, hb, hml, hown, hts⟩ (tX10_classOf (l := l)  (by first | assumption | omega | (intros; omega) | decide) (by first | assumption | omega | (intros; omega) | decide)) (cwV 0 hts (gV (wr49 _ (List.mem_of_getElem? (i := 21) rfl)) (wr49 _ (List.mem_of_getElem? (i := 22) rfl)) (wr49 _ (List.mem_of_getElem? (i := 23) rfl)) (wr1 _ (List.mem_of_getElem? (i := 5) rfl)) (wr50 _ (List.mem_of_getElem? (i := 0) rfl))) rfl rfl rfl (by decide +kernel) ⟨Nat.le_of_ble_eq_true rfl, Nat.le_of_ble_eq_true rfl⟩) (va_recv hK hP (ci := 9) (q0 := 0) rfl rfl) hK hP hD hE hS hA rfl hl.1 rfl (Nat.le_of_ble_eq_true rfl) dX10_copies_333 ⟨Nat.le_of_ble_eq_true rfl, Nat.le_of_ble_eq_true rfl⟩ (fun r333 w9 H locs hw333 hP hD hS => ?_)
                                        obtain ⟨rfl, hw333_0, hw333_1⟩ := hw333
                                        have b_r333 := iB r333
                                        refine lv_aload_n hx hb dX10_copies_336 rfl (lv_at hl 0 rfl) ?_
                                        refine va_get (D := D) (ci := 9) (v := .ref (q 23)) (C := RX10) (T := TX10) (N := 71) hx hb hts hin hown hK hP 0 rfl rfl 44 (by decide) k_6_5 (fun _ h9 => h9) rfl dX10_copies_337 ?_
                                        refine lv_iload_n hx hb dX10_copies_340 rfl (lv_at hl 1 rfl) ?_
                                        refine m_iald hx hb hK hP 23 0 rfl rfl (ix (by omega) (by omega)) dX10_copies_341 (fun x341 e_x341 => ?_)
                                        have b_x341 := iB x341
                                        have hx341 := congrArg Int32.toInt e_x341
                                        refine call_iSP (As := [.int x341]) (rest := [.int r333]) ⟨hx, hb, hml, hown, hts⟩ (tX10_elements (l := l) x341) (va_cwS 1 hts (gS (wr49 _ (List.mem_of_getElem? (i := 18) rfl)) (wr49 _ (List.mem_of_getElem? (i := 19) rfl)) (wr1 _ (List.mem_of_getElem? (i := 5) rfl)) (wr49 _ (List.mem_of_getElem? (i := 20) rfl))) rfl rfl rfl (by decide +kernel) ⟨Nat.le_of_ble_eq_true rfl, Nat.le_of_ble_eq_true rfl⟩) (hK.sub [] rfl) hP hD hE hS hA rfl hl.1 rfl (Nat.le_of_ble_eq_true rfl) dX10_copies_342 ⟨Nat.le_of_ble_eq_true rfl, Nat.le_of_ble_eq_true rfl⟩ (fun r342 w9 H locs hw342 hP hD hS => ?_)
                                        obtain ⟨rfl, hw342_0⟩ := hw342
                                        have b_r342 := iB r342
                                        refine call_iSP (As := [.int r333, .int r342]) (rest := []) ⟨hx, hb, hml, hown, hts⟩ (tX10_isBelow (l := l) r333 r342) (va_cwS 2 hts (gS (wr50 _ (List.mem_of_getElem? (i := 1) rfl)) (wr50 _ (List.mem_of_getElem? (i := 2) rfl)) (wr1 _ (List.mem_of_getElem? (i := 5) rfl)) (wr50 _ (List.mem_of_getElem? (i := 3) rfl))) rfl rfl rfl (by decide +kernel) ⟨Nat.le_of_ble_eq_true rfl, Nat.le_of_ble_eq_true rfl⟩) (hK.sub [] rfl) hP hD hE hS hA rfl hl.1 rfl (Nat.le_of_ble_eq_true rfl) dX10_copies_345 ⟨Nat.le_of_ble_eq_true rfl, Nat.le_of_ble_eq_true rfl⟩ (fun r345 w9 H locs hw345 hP hD hS => ?_)
                                        obtain ⟨rfl, hw345_0, hw345_1⟩ := hw345
                                        have b_r345 := iB r345
                                        refine m_if_ne (X := r345.toInt) (tgt := 353) hx hb dX10_copies_348 (by decide) rfl (fun c348 => ?_) (fun c348 => ?_)
                                        · skip
                                          exact J353 H locs ls (by first | (intro q; exfalso; omega) | (intro q; exfalso; have z := hq2 (by omega); omega) | (intro h3; have h4 := hq1.2.1 h3; have h5 := hw333_0 h3; have h6 := (p_0.2.1 x316.toInt.toNat (by omega)).1; have h7 := ((hw345_1 (by omega) (by omega)).resolve_right (fun q => by omega)).2.dims; omega)) hP hD hS (lv_sub hl [0, 1, 2, 3, 4] rfl)
                                        · skip
                                          refine lv_iconst (v := 4) hx hb dX10_copies_351 (by decide) ?_
                                          subst hAe
                                          rw [hQ]
                                          exact W.iret (v := 4) hx hb hr (fun t ht hW => ⟨⟨4, _, rfl, ⟨a_cellSort_280, a_cellKind_280, a_cellValue_280, a_asideSort_217, a_asideKind_217, a_asideValue_217, x294, x305, x316, rfl, by first | assumption | omega | (intros; omega) | decide, by first | assumption | omega | (intros; omega) | decide⟩, by rw [ht]; exact hP, va_K.moved hW.alike hK, hD⟩, hS.F ht⟩) hS.2.2 dX10_copies_352
                              exact J280 ((x142.toInt - (0 : Int32).toInt).toNat + 1) (0 : Int32) a_cellKind a_cellSort a_cellValue v_kindAt_217 v_sort_217 v_value_217 H locs ls (by first | assumption | omega | (intros; omega) | decide) (by first | assumption | omega | (intros; omega) | decide) (by first | assumption | exact f280_2.setCell (a := x87.toNatClampNeg) (i := x363.toNatClampNeg) (by omega) (by have t9 := tn (i := x363) (by omega); omega) rfl hq1 f353_0 (fun q => hq2 (by omega)) hw364_0 hw364_1 hw364_2) (by omega) hP hD hS (lv_sub hl [1, 3, 4, 5, 0] rfl)
                            · skip
                              refine lv_aload_n hx hb dX10_copies_224 rfl (lv_at hl 0 rfl) ?_
                              refine lv_iload_n hx hb dX10_copies_225 rfl (lv_at hl 1 rfl) ?_
                              refine lv_aload_n hx hb dX10_copies_226 rfl (lv_at hl 0 rfl) ?_
                              refine va_get (D := D) (ci := 9) (v := .ref (q 37)) (C := RX10) (T := TX10) (N := 71) hx hb hts hin hown hK hP 0 rfl rfl 68 (by decide) k_6_19 (fun _ h9 => h9) rfl dX10_copies_227 ?_
                              refine lv_iconst (v := 0) hx hb dX10_copies_230 (by decide) ?_
                              refine m_iald hx hb hK hP 37 0 rfl rfl (ix (by decide) (by decide)) dX10_copies_231 (fun x231 e_x231 => ?_)
                              have b_x231 := iB x231
                              have hx231 := congrArg Int32.toInt e_x231
                              refine lv_iload hx hb dX10_copies_232 (lv_at hl 5 rfl) ?_
                              refine m_iadd (X := x231.toInt) (Y := l6_217.toInt) hx hb dX10_copies_234 rfl rfl (fun x234 e_x234 g9 => ?_)
                              obtain ⟨k_x234, g_x234⟩ := g9
                              have b_x234 := iB x234
                              try (have q_x234 : x234.toInt = x231.toInt + l6_217.toInt := (by omega); clear g_x234 k_x234)
                              have t6 := tn (i := l6_217) (by omega)
                              refine call_v (As := [.int x74, .int x234]) (rest := []) ⟨hx, hb, hml, hown, hts⟩ (tX10_ofCell (l := l) x74 x234 (by first | assumption | omega | (intros; omega) | decide) (by first | assumption | omega | (intros; omega) | decide) (by first | assumption | omega | (intros; omega) | decide) (by first | assumption | omega | (intros; omega) | decide) (by first | assumption | omega | (intros; omega) | decide)) (cwV 2 hts (gV (wr49 _ (List.mem_of_getElem? (i := 0) rfl)) (wr49 _ (List.mem_of_getElem? (i := 1) rfl)) (wr49 _ (List.mem_of_getElem? (i := 2) rfl)) (wr1 _ (List.mem_of_getElem? (i := 5) rfl)) (wr49 _ (List.mem_of_getElem? (i := 3) rfl))) rfl rfl rfl (by decide +kernel) ⟨Nat.le_of_ble_eq_true rfl, Nat.le_of_ble_eq_true rfl⟩) (va_recv hK hP (ci := 9) (q0 := 0) rfl rfl) hK hP hD hE hS hA rfl hl.1 rfl (Nat.le_of_ble_eq_true rfl) dX10_copies_235 ⟨Nat.le_of_ble_eq_true rfl, Nat.le_of_ble_eq_true rfl⟩ (fun w9 H locs hw235 hP hD hS => ?_)
                              obtain ⟨v_sort_235, v_kindAt_235, v_value_235, rfl, hw235_0, hw235_1, hw235_2⟩ := hw235
                              have b_v_sort_235 := iB v_sort_235
                              have b_v_kindAt_235 := iB v_kindAt_235
                              have b_v_value_235 := jB v_value_235
                              refine lv_aload_n hx hb dX10_copies_238 rfl (lv_at hl 0 rfl) ?_
                              refine va_get (D := D) (ci := 9) (v := .ref (q 29)) (C := RX10) (T := TX10) (N := 71) hx hb hts hin hown hK hP 0 rfl rfl 52 (by decide) k_6_11 (fun _ h9 => h9) rfl dX10_copies_239 ?_
                              refine lv_iload hx hb dX10_copies_242 (lv_at hl 5 rfl) ?_
                              refine lv_aload_n hx hb dX10_copies_244 rfl (lv_at hl 0 rfl) ?_
                              refine va_get (D := D) (ci := 9) (v := .int v_sort_235) (C := RX10) (T := TX10) (N := 71) hx hb hts hin hown hK hP 0 rfl rfl 65 (by decide) k_47_12 (fun _ h9 => h9) rfl dX10_copies_245 ?_
                              refine va_iast hx hb hK hP hD hS 29 0 rfl rfl (ix (by omega) (by omega)) dX10_copies_248 (fun H locs hP hD hS => ?_)
                              obtain ⟨a_asideSort_248, e_a_asideSort_248⟩ : ∃ g, g = upd a_asideSort_217 l6_217.toNatClampNeg v_sort_235 := ⟨_, rfl⟩
                              have hP : va_P D vwCl (mw cs q v_thrown a_tape v_taped v_size v_to v_kind v_from v_letters v_letterMany v_digits v_isBeyond v_suffix v_steps v_fault v_hasProgram a_text a_act a_guess a_take a_begin a_finish a_to1 a_one a_two a_what a_ats a_atVar a_atNumber a_atomSort a_atomKind a_atomValue v_wrong v_wrongAt v_variable v_number v_numberKind v_takes a_out v_outed a_varSort a_varKind a_varValue a_creature v_creatures a_arrayClass a_arrayFrom a_arrayLong v_arrays v_cells a_cellSort a_cellKind a_cellValue a_asideSort_248 a_asideKind_217 a_asideValue_217 a_outcome v_marks v_came v_guessed v_right v_taken a_markSort a_markKind a_markClass a_markValue v_sort_235 v_kindAt_235 v_value_235 a_index v_reached v_looked) H := by rw [e_a_asideSort_248]; exact hP
                              have hD : va_D A (mw cs q v_thrown a_tape v_taped v_size v_to v_kind v_from v_letters v_letterMany v_digits v_isBeyond v_suffix v_steps v_fault v_hasProgram a_text a_act a_guess a_take a_begin a_finish a_to1 a_one a_two a_what a_ats a_atVar a_atNumber a_atomSort a_atomKind a_atomValue v_wrong v_wrongAt v_variable v_number v_numberKind v_takes a_out v_outed a_varSort a_varKind a_varValue a_creature v_creatures a_arrayClass a_arrayFrom a_arrayLong v_arrays v_cells a_cellSort a_cellKind a_cellValue a_asideSort_248 a_asideKind_217 a_asideValue_217 a_outcome v_marks v_came v_guessed v_right v_taken a_markSort a_markKind a_markClass a_markValue v_sort_235 v_kindAt_235 v_value_235 a_index v_reached v_looked) := by rw [e_a_asideSort_248]; exact hD
                              refine lv_aload_n hx hb dX10_copies_249 rfl (lv_at hl 0 rfl) ?_
                              refine va_get (D := D) (ci := 9) (v := .ref (q 30)) (C := RX10) (T := TX10) (N := 71) hx hb hts hin hown hK hP 0 rfl rfl 53 (by decide) k_6_12 (fun _ h9 => h9) rfl dX10_copies_250 ?_
                              refine lv_iload hx hb dX10_copies_253 (lv_at hl 5 rfl) ?_
                              refine lv_aload_n hx hb dX10_copies_255 rfl (lv_at hl 0 rfl) ?_
                              refine va_get (D := D) (ci := 9) (v := .int v_kindAt_235) (C := RX10) (T := TX10) (N := 71) hx hb hts hin hown hK hP 0 rfl rfl 66 (by decide) k_47_13 (fun _ h9 => h9) rfl dX10_copies_256 ?_
                              refine va_iast hx hb hK hP hD hS 30 0 rfl rfl (ix (by omega) (by omega)) dX10_copies_259 (fun H locs hP hD hS => ?_)
                              obtain ⟨a_asideKind_259, e_a_asideKind_259⟩ : ∃ g, g = upd a_asideKind_217 l6_217.toNatClampNeg v_kindAt_235 := ⟨_, rfl⟩
                              have hP : va_P D vwCl (mw cs q v_thrown a_tape v_taped v_size v_to v_kind v_from v_letters v_letterMany v_digits v_isBeyond v_suffix v_steps v_fault v_hasProgram a_text a_act a_guess a_take a_begin a_finish a_to1 a_one a_two a_what a_ats a_atVar a_atNumber a_atomSort a_atomKind a_atomValue v_wrong v_wrongAt v_variable v_number v_numberKind v_takes a_out v_outed a_varSort a_varKind a_varValue a_creature v_creatures a_arrayClass a_arrayFrom a_arrayLong v_arrays v_cells a_cellSort a_cellKind a_cellValue a_asideSort_248 a_asideKind_259 a_asideValue_217 a_outcome v_marks v_came v_guessed v_right v_taken a_markSort a_markKind a_markClass a_markValue v_sort_235 v_kindAt_235 v_value_235 a_index v_reached v_looked) H := by rw [e_a_asideKind_259]; exact hP
                              have hD : va_D A (mw cs q v_thrown a_tape v_taped v_size v_to v_kind v_from v_letters v_letterMany v_digits v_isBeyond v_suffix v_steps v_fault v_hasProgram a_text a_act a_guess a_take a_begin a_finish a_to1 a_one a_two a_what a_ats a_atVar a_atNumber a_atomSort a_atomKind a_atomValue v_wrong v_wrongAt v_variable v_number v_numberKind v_takes a_out v_outed a_varSort a_varKind a_varValue a_creature v_creatures a_arrayClass a_arrayFrom a_arrayLong v_arrays v_cells a_cellSort a_cellKind a_cellValue a_asideSort_248 a_asideKind_259 a_asideValue_217 a_outcome v_marks v_came v_guessed v_right v_taken a_markSort a_markKind a_markClass a_markValue v_sort_235 v_kindAt_235 v_value_235 a_index v_reached v_looked) := by rw [e_a_asideKind_259]; exact hD
                              refine lv_aload_n hx hb dX10_copies_260 rfl (lv_at hl 0 rfl) ?_
                              refine va_get (D := D) (ci := 9) (v := .ref (q 31)) (C := RX10) (T := TX10) (N := 71) hx hb hts hin hown hK hP 0 rfl rfl 54 (by decide) k_6_13 (fun _ h9 => h9) rfl dX10_copies_261 ?_
                              refine lv_iload hx hb dX10_copies_264 (lv_at hl 5 rfl) ?_
                              refine lv_aload_n hx hb dX10_copies_266 rfl (lv_at hl 0 rfl) ?_
                              refine va_get (D := D) (ci := 9) (v := .long v_value_235) (C := RX10) (T := TX10) (N := 71) hx hb hts hin hown hK hP 0 rfl rfl 67 (by decide) k_47_14 (fun _ h9 => h9) rfl dX10_copies_267 ?_
                              refine va_last hx hb hK hP hD hS 31 1 rfl rfl (ix (by omega) (by omega)) dX10_copies_270 (fun H locs hP hD hS => ?_)
                              obtain ⟨a_asideValue_270, e_a_asideValue_270⟩ : ∃ g, g = vp_updL a_asideValue_217 l6_217.toNatClampNeg v_value_235 := ⟨_, rfl⟩
                              have hP : va_P D vwCl (mw cs q v_thrown a_tape v_taped v_size v_to v_kind v_from v_letters v_letterMany v_digits v_isBeyond v_suffix v_steps v_fault v_hasProgram a_text a_act a_guess a_take a_begin a_finish a_to1 a_one a_two a_what a_ats a_atVar a_atNumber a_atomSort a_atomKind a_atomValue v_wrong v_wrongAt v_variable v_number v_numberKind v_takes a_out v_outed a_varSort a_varKind a_varValue a_creature v_creatures a_arrayClass a_arrayFrom a_arrayLong v_arrays v_cells a_cellSort a_cellKind a_cellValue a_asideSort_248 a_asideKind_259 a_asideValue_270 a_outcome v_marks v_came v_guessed v_right v_taken a_markSort a_markKind a_markClass a_markValue v_sort_235 v_kindAt_235 v_value_235 a_index v_reached v_looked) H := by rw [e_a_asideValue_270]; exact hP
                              have hD : va_D A (mw cs q v_thrown a_tape v_taped v_size v_to v_kind v_from v_letters v_letterMany v_digits v_isBeyond v_suffix v_steps v_fault v_hasProgram a_text a_act a_guess a_take a_begin a_finish a_to1 a_one a_two a_what a_ats a_atVar a_atNumber a_atomSort a_atomKind a_atomValue v_wrong v_wrongAt v_variable v_number v_numberKind v_takes a_out v_outed a_varSort a_varKind a_varValue a_creature v_creatures a_arrayClass a_arrayFrom a_arrayLong v_arrays v_cells a_cellSort a_cellKind a_cellValue a_asideSort_248 a_asideKind_259 a_asideValue_270 a_outcome v_marks v_came v_guessed v_right v_taken a_markSort a_markKind a_markClass a_markValue v_sort_235 v_kindAt_235 v_value_235 a_index v_reached v_looked) := by rw [e_a_asideValue_270]; exact hD
                              obtain ⟨x271, e_x271⟩ : ∃ z : Int32, z = l6_217 + (1 : Int32) := ⟨_, rfl⟩
                              obtain ⟨k_x271, g_x271⟩ : ∃ k : Int, x271.toInt = l6_217.toInt + (1) + k * 4294967296 := by rw [e_x271]; exact iAdd l6_217 (1)
                              have b_x271 := iB x271
                              try (have q_x271 : x271.toInt = l6_217.toInt + (1) := (by omega); clear g_x271 k_x271)
                              refine lv_iinc (v := x271) (lv' := [(6, .int x271), (0, .ref (q 0)), (2, .int x74), (3, .int x87), (4, .int r95), (5, .int x142)]) hx hb dX10_copies_271 hl (k := 5) rfl (by rw [e_x271]; rfl) (by decide) rfl (fun ls hl => ?_)
                              refine lv_goto (tgt := 217) hx hb dX10_copies_274 (by decide) ?_
                              exact ih217 x271 a_asideKind_259 a_asideSort_248 a_asideValue_270 v_kindAt_235 v_sort_235 v_value_235 H locs ls (by first | assumption | omega | (intros; omega) | decide) (by first | assumption | omega | (intros; omega) | decide) (by first | (intros; omega) | exact asd_set f217_2 (by omega) (by omega) hw235_0 hw235_2 e_a_asideSort_248 e_a_asideKind_259 e_a_asideValue_270) (by omega) hP hD hS (lv_sub hl [1, 2, 3, 4, 5, 0] rfl)
                        exact J217 ((x142.toInt - (0 : Int32).toInt).toNat + 1) (0 : Int32) a_asideKind a_asideSort a_asideValue v_kindAt v_sort v_value H locs ls (by first | assumption | omega | (intros; omega) | decide) (by first | assumption | omega | (intros; omega) | decide) (by first | (intros; omega) | exact asd_set f217_2 (by omega) (by omega) hw235_0 hw235_2 e_a_asideSort_248 e_a_asideKind_259 e_a_asideValue_270) (by omega) hP hD hS (lv_sub hl [2, 3, 4, 5, 1, 0] rfl)
                      · skip
                        refine lv_iconst (v := 2) hx hb dX10_copies_212 (by decide) ?_
                        subst hAe
                        rw [hQ]
                        exact W.iret (v := 2) hx hb hr (fun t ht hW => ⟨⟨2, _, rfl, ⟨a_cellSort, a_cellKind, a_cellValue, a_asideSort, a_asideKind, a_asideValue, v_sort, v_kindAt, v_value, rfl, by first | assumption | omega | (intros; omega) | decide, by first | assumption | omega | (intros; omega) | decide⟩, by rw [ht]; exact hP, va_K.moved hW.alike hK, hD⟩, hS.F ht⟩) hS.2.2 dX10_copies_213
            refine m_if_eq (X := r95.toInt) (tgt := 137) hx hb dX10_copies_116 (by decide) rfl (fun c116 => ?_) (fun c116 => ?_)
            · skip
              exact J137 H locs ls (by first | assumption | omega | (intros; omega) | decide) hP hD hS (lv_sub hl [3, 2, 1, 0] rfl)
            · skip
              refine lv_aload_n hx hb dX10_copies_119 rfl (lv_at hl 3 rfl) ?_
              refine va_get (D := D) (ci := 9) (v := .ref (q 23)) (C := RX10) (T := TX10) (N := 71) hx hb hts hin hown hK hP 0 rfl rfl 44 (by decide) k_6_5 (fun _ h9 => h9) rfl dX10_copies_120 ?_
              refine lv_iload_n hx hb dX10_copies_123 rfl (lv_at hl 2 rfl) ?_
              refine m_iald hx hb hK hP 23 0 rfl rfl (ix (by omega) (by omega)) dX10_copies_124 (fun x124 e_x124 => ?_)
              have b_x124 := iB x124
              have hx124 := congrArg Int32.toInt e_x124
              refine lv_aload_n hx hb dX10_copies_125 rfl (lv_at hl 3 rfl) ?_
              refine va_get (D := D) (ci := 9) (v := .ref (q 23)) (C := RX10) (T := TX10) (N := 71) hx hb hts hin hown hK hP 0 rfl rfl 44 (by decide) k_6_5 (fun _ h9 => h9) rfl dX10_copies_126 ?_
              refine lv_iload_n hx hb dX10_copies_129 rfl (lv_at hl 1 rfl) ?_
              refine m_iald hx hb hK hP 23 0 rfl rfl (ix (by omega) (by omega)) dX10_copies_130 (fun x130 e_x130 => ?_)
              have b_x130 := iB x130
              have hx130 := congrArg Int32.toInt e_x130
              refine m_icmp_eq (X := x124.toInt) (Y := x130.toInt) (tgt := 137) hx hb dX10_copies_131 (by decide) rfl rfl (fun c131 => ?_) (fun c131 => ?_)
              · skip
                exact J137 H locs ls (by first | assumption | omega | (intros; omega) | decide) hP hD hS (lv_sub hl [3, 2, 1, 0] rfl)
              · skip
                refine lv_bipush (v := 6) hx hb dX10_copies_134 (by decide) ?_
                subst hAe
                rw [hQ]
                exact W.iret (v := 6) hx hb hr (fun t ht hW => ⟨⟨6, _, rfl, ⟨a_cellSort, a_cellKind, a_cellValue, a_asideSort, a_asideKind, a_asideValue, v_sort, v_kindAt, v_value, rfl, by first | assumption | omega | (intros; omega) | decide, by first | assumption | omega | (intros; omega) | decide⟩, by rw [ht]; exact hP, va_K.moved hW.alike hK, hD⟩, hS.F ht⟩) hS.2.2 dX10_copies_136
        · skip
          refine lv_bipush (v := 6) hx hb dX10_copies_60 (by decide) ?_
          subst hAe
          rw [hQ]
          exact W.iret (v := 6) hx hb hr (fun t ht hW => ⟨⟨6, _, rfl, ⟨a_cellSort, a_cellKind, a_cellValue, a_asideSort, a_asideKind, a_asideValue, v_sort, v_kindAt, v_value, rfl, by first | assumption | omega | (intros; omega) | decide, by first | assumption | omega | (intros; omega) | decide⟩, by rw [ht]; exact hP, va_K.moved hW.alike hK, hD⟩, hS.F ht⟩) hS.2.2 dX10_copies_62
    · skip
      refine lv_iconst (v := 1) hx hb dX10_copies_28 (by decide) ?_
      subst hAe
      rw [hQ]
      exact W.iret (v := 1) hx hb hr (fun t ht hW => ⟨⟨1, _, rfl, ⟨a_cellSort, a_cellKind, a_cellValue, a_asideSort, a_asideKind, a_asideValue, v_sort, v_kindAt, v_value, rfl, by first | assumption | omega | (intros; omega) | decide, by first | assumption | omega | (intros; omega) | decide⟩, by rw [ht]; exact hP, va_K.moved hW.alike hK, hD⟩, hS.F ht⟩) hS.2.2 dX10_copies_29
