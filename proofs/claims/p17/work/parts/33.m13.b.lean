def rmX10_clones : Room := { frames := 60, cells := 0, slots := 0, locals := 1200 }
set_option maxHeartbeats 4000000 in
set_option maxRecDepth 100000 in
theorem tX10_clones {l : Launch} {D : va_G} {K : Nat → Nat → Nat} {cs : Nat → ClassId} {q : Nat → Nat} {v_thrown v_taped v_size v_to v_kind v_from v_letterMany v_isBeyond v_suffix v_steps v_fault v_hasProgram v_wrong v_wrongAt v_variable v_numberKind v_takes v_outed v_creatures v_arrays v_cells v_marks v_came v_guessed v_right v_taken v_sort v_kindAt v_reached v_looked : Int32} {a_tape a_text a_act a_guess a_take a_begin a_finish a_to1 a_one a_two a_what a_ats a_atVar a_atNumber a_atomSort a_atomKind a_out a_varSort a_varKind a_creature a_arrayClass a_arrayFrom a_arrayLong a_cellSort a_cellKind a_asideSort a_asideKind a_outcome a_markSort a_markKind a_markClass a_index : Nat → Int32} {v_letters v_digits v_number v_value : Int64} {a_atomValue a_varValue a_cellValue a_asideValue a_markValue : Nat → Int64} (s9 : Int32) (p_0 : RUN a_varSort a_varKind a_varValue v_arrays v_cells v_creatures a_arrayClass a_arrayFrom a_arrayLong a_cellSort a_cellKind a_cellValue) (p_1 : R25 a_one) (p_2 : R25 a_to1) (p_3 : 0 ≤ s9.toInt) (p_4 : s9.toInt ≤ 201) : CtI l yX10_clones (wG yX10_clones cX10_clones 6 (some .int)) rmX10_clones D (mwT cs) K [.ref (q 0), .int s9] (mw cs q v_thrown a_tape v_taped v_size v_to v_kind v_from v_letters v_letterMany v_digits v_isBeyond v_suffix v_steps v_fault v_hasProgram a_text a_act a_guess a_take a_begin a_finish a_to1 a_one a_two a_what a_ats a_atVar a_atNumber a_atomSort a_atomKind a_atomValue v_wrong v_wrongAt v_variable v_number v_numberKind v_takes a_out v_outed a_varSort a_varKind a_varValue a_creature v_creatures a_arrayClass a_arrayFrom a_arrayLong v_arrays v_cells a_cellSort a_cellKind a_cellValue a_asideSort a_asideKind a_asideValue a_outcome v_marks v_came v_guessed v_right v_taken a_markSort a_markKind a_markClass a_markValue v_sort v_kindAt v_value a_index v_reached v_looked) (fun r w1 => ∃ (a_varSort' : Nat → Int32) (a_varKind' : Nat → Int32) (a_varValue' : Nat → Int64) (a_arrayClass' : Nat → Int32) (a_arrayFrom' : Nat → Int32) (a_arrayLong' : Nat → Int32) (v_arrays' : Int32) (v_cells' : Int32) (a_cellSort' : Nat → Int32) (a_cellKind' : Nat → Int32) (a_cellValue' : Nat → Int64) (v_sort' : Int32) (v_kindAt' : Int32) (v_value' : Int64) (v_reached' : Int32), w1 = (mw cs q v_thrown a_tape v_taped v_size v_to v_kind v_from v_letters v_letterMany v_digits v_isBeyond v_suffix v_steps v_fault v_hasProgram a_text a_act a_guess a_take a_begin a_finish a_to1 a_one a_two a_what a_ats a_atVar a_atNumber a_atomSort a_atomKind a_atomValue v_wrong v_wrongAt v_variable v_number v_numberKind v_takes a_out v_outed a_varSort' a_varKind' a_varValue' a_creature v_creatures a_arrayClass' a_arrayFrom' a_arrayLong' v_arrays' v_cells' a_cellSort' a_cellKind' a_cellValue' a_asideSort a_asideKind a_asideValue a_outcome v_marks v_came v_guessed v_right v_taken a_markSort a_markKind a_markClass a_markValue v_sort' v_kindAt' v_value' a_index v_reached' v_looked) ∧ (RUN a_varSort' a_varKind' a_varValue' v_arrays' v_cells' v_creatures a_arrayClass' a_arrayFrom' a_arrayLong' a_cellSort' a_cellKind' a_cellValue') ∧ (0 ≤ r.toInt)) 0 0 := by
  intro sz
  refine Met.ofW (cc := cX10_clones) (maxL := 6) (ret := (some .int)) (by decide) rfl ?_
  intro p e s m args below meth c s₁ B hml hv
  obtain ⟨rfl, hsz, hP, hK, hD0, hE⟩ := hv
  have hx := B.exec
  have hb := B.bytes
  have hr := B.returns
  have hts := atoms_spec (ws := (wG yX10_clones cX10_clones 6 (some .int))) B.pre
  have hown : s.vm.findClass RX10 = some m.cls := findClass_of_methodNamed B.named
  have hlocks := B.notSynchronized
  subst hsz
  have hD := hD0.self (sz := s.heap.size)
  obtain ⟨A, hAe⟩ : ∃ A : Nat → Prop, A = va_A (mw cs q v_thrown a_tape v_taped v_size v_to v_kind v_from v_letters v_letterMany v_digits v_isBeyond v_suffix v_steps v_fault v_hasProgram a_text a_act a_guess a_take a_begin a_finish a_to1 a_one a_two a_what a_ats a_atVar a_atNumber a_atomSort a_atomKind a_atomValue v_wrong v_wrongAt v_variable v_number v_numberKind v_takes a_out v_outed a_varSort a_varKind a_varValue a_creature v_creatures a_arrayClass a_arrayFrom a_arrayLong v_arrays v_cells a_cellSort a_cellKind a_cellValue a_asideSort a_asideKind a_asideValue a_outcome v_marks v_came v_guessed v_right v_taken a_markSort a_markKind a_markClass a_markValue v_sort v_kindAt v_value a_index v_reached v_looked) s.heap.size := ⟨_, rfl⟩
  rw [← hAe] at hD hE
  have hA : ∀ q : Nat, s.heap.size ≤ q → A q := fun q h => by rw [hAe]; exact Or.inr h
  have hS : va_S A s.heap s.heap [] := va_S.rf
  have hl := lv_entry ([.ref (q 0), .int s9]) (n := 6) (Nat.le_of_ble_eq_true rfl)
  rw [lg_entry_eq]
  generalize (lg_sl ([.ref (q 0), .int s9]) ++ List.replicate (6 - (lg_sl ([.ref (q 0), .int s9])).length) Slot.unset).toArray = ls at hl ⊢
  have hl : lv_has ls 6 [(0, .ref (q 0)), (1, .int s9)] := hl
  refine wq (fun Q hQ => ?_)
  have hin : ∀ w ∈ wsX100, w ∈ (wG yX10_clones cX10_clones 6 (some .int)) := fun w h => List.mem_cons_of_mem _ (inlX10 w h)
  have kc0 : (0 : Int32).toInt = 0 := by decide
  have kc1 : (3 : Int32).toInt = 3 := by decide
  have kc2 : (7 : Int32).toInt = 7 := by decide
  have kc3 : (1 : Int64).toInt = 1 := by decide
  have k_5_15 := hts (.fieldLink RX10 34 "ArrayTrainerModel" "one" "[I") (List.mem_cons_of_mem _ (wr5 _ (List.mem_of_getElem? (i := 15) rfl)))
  have k_48_11 := hts (.fieldLink RX10 510 "ArrayTrainerModel" "reached" "I") (List.mem_cons_of_mem _ (wr48 _ (List.mem_of_getElem? (i := 11) rfl)))
  have k_6_7 := hts (.fieldLink RX10 83 "ArrayTrainerModel" "arrayLong" "[I") (List.mem_cons_of_mem _ (wr6 _ (List.mem_of_getElem? (i := 7) rfl)))
  have k_6_5 := hts (.fieldLink RX10 77 "ArrayTrainerModel" "arrayClass" "[I") (List.mem_cons_of_mem _ (wr6 _ (List.mem_of_getElem? (i := 5) rfl)))
  have k_47_12 := hts (.fieldLink RX10 493 "ArrayTrainerModel" "sort" "I") (List.mem_cons_of_mem _ (wr47 _ (List.mem_of_getElem? (i := 12) rfl)))
  have k_47_13 := hts (.fieldLink RX10 496 "ArrayTrainerModel" "kindAt" "I") (List.mem_cons_of_mem _ (wr47 _ (List.mem_of_getElem? (i := 13) rfl)))
  have k_47_14 := hts (.fieldLink RX10 499 "ArrayTrainerModel" "value" "J") (List.mem_cons_of_mem _ (wr47 _ (List.mem_of_getElem? (i := 14) rfl)))
  have k_5_14 := hts (.fieldLink RX10 31 "ArrayTrainerModel" "to1" "[I") (List.mem_cons_of_mem _ (wr5 _ (List.mem_of_getElem? (i := 14) rfl)))
  obtain ⟨H, hH⟩ : ∃ H : Heap, H = s.heap := ⟨_, rfl⟩
  obtain ⟨locs, hlc⟩ : ∃ L : List Loc, L = [] := ⟨_, rfl⟩
  have hP : va_P D vwCl (mw cs q v_thrown a_tape v_taped v_size v_to v_kind v_from v_letters v_letterMany v_digits v_isBeyond v_suffix v_steps v_fault v_hasProgram a_text a_act a_guess a_take a_begin a_finish a_to1 a_one a_two a_what a_ats a_atVar a_atNumber a_atomSort a_atomKind a_atomValue v_wrong v_wrongAt v_variable v_number v_numberKind v_takes a_out v_outed a_varSort a_varKind a_varValue a_creature v_creatures a_arrayClass a_arrayFrom a_arrayLong v_arrays v_cells a_cellSort a_cellKind a_cellValue a_asideSort a_asideKind a_asideValue a_outcome v_marks v_came v_guessed v_right v_taken a_markSort a_markKind a_markClass a_markValue v_sort v_kindAt v_value a_index v_reached v_looked) H := by rw [hH]; exact hP
  have hS : va_S A s.heap H locs := by rw [hH, hlc]; exact hS
  refine wHL hH hlc ?_
  have b_s9 := iB s9
  have hr9 := p_0.1
  have ho9 := p_1 s9.toNatClampNeg
  have ht9 := p_2 s9.toNatClampNeg
  refine lv_aload_n hx hb dX10_clones_0 rfl (lv_at hl 0 rfl) ?_
  refine lv_aload_n hx hb dX10_clones_1 rfl (lv_at hl 0 rfl) ?_
  refine va_get (D := D) (ci := 9) (v := .ref (q 9)) (C := RX10) (T := TX10) (N := 71) hx hb hts hin hown hK hP 0 rfl rfl 22 (by decide) k_5_15 (fun _ h9 => h9) rfl dX10_clones_2 ?_
  refine lv_iload_n hx hb dX10_clones_5 rfl (lv_at hl 1 rfl) ?_
  refine m_iald hx hb hK hP 9 0 rfl rfl (ix (by omega) (by omega)) dX10_clones_6 (fun x6 e_x6 => ?_)
  have b_x6 := iB x6
  have hx6 := congrArg Int32.toInt e_x6
  refine call_v (As := [.int x6]) (rest := []) ⟨hx, hb, hml, hown, hts⟩ (tX10_ofVar (l := l) x6 (by first | assumption | omega | (intros; omega) | decide) (by first | assumption | omega | (intros; omega) | decide) (by first | assumption | omega | (intros; omega) | decide)) (cwV 1 hts (gV (wr47 _ (List.mem_of_getElem? (i := 15) rfl)) (wr47 _ (List.mem_of_getElem? (i := 16) rfl)) (wr47 _ (List.mem_of_getElem? (i := 17) rfl)) (wr1 _ (List.mem_of_getElem? (i := 5) rfl)) (wr47 _ (List.mem_of_getElem? (i := 18) rfl))) rfl rfl rfl (by decide +kernel) ⟨Nat.le_of_ble_eq_true rfl, Nat.le_of_ble_eq_true rfl⟩) (va_recv hK hP (ci := 9) (q0 := 0) rfl rfl) hK hP hD hE hS hA rfl hl.1 rfl (Nat.le_of_ble_eq_true rfl) dX10_clones_7 ⟨Nat.le_of_ble_eq_true rfl, Nat.le_of_ble_eq_true rfl⟩ (fun w9 H locs hw7 hP hD hS => ?_)
  obtain ⟨v_sort_7, v_kindAt_7, v_value_7, rfl, hw7_0, hw7_1, hw7_2, hw7_3⟩ := hw7
  have b_v_sort_7 := iB v_sort_7
  have b_v_kindAt_7 := iB v_kindAt_7
  have b_v_value_7 := jB v_value_7
  refine lv_aload_n hx hb dX10_clones_10 rfl (lv_at hl 0 rfl) ?_
  refine call_i (As := []) (rest := []) ⟨hx, hb, hml, hown, hts⟩ (tX10_asArray (l := l)  (by first | assumption | omega | (intros; omega) | decide) (by first | assumption | omega | (intros; omega) | decide)) (cwV 0 hts (gV (wr48 _ (List.mem_of_getElem? (i := 16) rfl)) (wr48 _ (List.mem_of_getElem? (i := 17) rfl)) (wr48 _ (List.mem_of_getElem? (i := 18) rfl)) (wr1 _ (List.mem_of_getElem? (i := 5) rfl)) (wr48 _ (List.mem_of_getElem? (i := 19) rfl))) rfl rfl rfl (by decide +kernel) ⟨Nat.le_of_ble_eq_true rfl, Nat.le_of_ble_eq_true rfl⟩) (va_recv hK hP (ci := 9) (q0 := 0) rfl rfl) hK hP hD hE hS hA rfl hl.1 rfl (Nat.le_of_ble_eq_true rfl) dX10_clones_11 ⟨Nat.le_of_ble_eq_true rfl, Nat.le_of_ble_eq_true rfl⟩ (fun r11 w9 H locs hw11 hP hD hS => ?_)
  obtain ⟨v_reached_11, rfl, hw11_0⟩ := hw11
  have b_v_reached_11 := iB v_reached_11
  have b_r11 := iB r11
  refine lv_istore_n (lv' := [(2, .int r11), (0, .ref (q 0)), (1, .int s9)]) hx hb dX10_clones_14 rfl hl (by decide) rfl (fun ls hl => ?_)
  refine lv_iload_n hx hb dX10_clones_15 rfl (lv_at hl 0 rfl) ?_
  refine m_if_le (X := r11.toInt) (tgt := 21) hx hb dX10_clones_16 (by decide) rfl (fun c16 => ?_) (fun c16 => ?_)
  · skip
    refine lv_aload_n hx hb dX10_clones_21 rfl (lv_at hl 1 rfl) ?_
    refine va_get (D := D) (ci := 9) (v := .int v_reached_11) (C := RX10) (T := TX10) (N := 71) hx hb hts hin hown hK hP 0 rfl rfl 69 (by decide) k_48_11 (fun _ h9 => h9) rfl dX10_clones_22 ?_
    refine lv_istore_n (lv' := [(3, .int v_reached_11), (2, .int r11), (0, .ref (q 0)), (1, .int s9)]) hx hb dX10_clones_25 rfl hl (by decide) rfl (fun ls hl => ?_)
    have t3 := tn (i := v_reached_11) (by omega)
    obtain ⟨ao1, ao2, ao3, ao4⟩ := p_0.2.1 v_reached_11.toNatClampNeg (by omega)
    refine lv_aload_n hx hb dX10_clones_26 rfl (lv_at hl 2 rfl) ?_
    refine lv_lconst (v := 1) hx hb dX10_clones_27 (by decide) ?_
    refine lv_aload_n hx hb dX10_clones_28 rfl (lv_at hl 2 rfl) ?_
    refine va_get (D := D) (ci := 9) (v := .ref (q 25)) (C := RX10) (T := TX10) (N := 71) hx hb hts hin hown hK hP 0 rfl rfl 46 (by decide) k_6_7 (fun _ h9 => h9) rfl dX10_clones_29 ?_
    refine lv_iload_n hx hb dX10_clones_32 rfl (lv_at hl 0 rfl) ?_
    refine m_iald hx hb hK hP 25 0 rfl rfl (ix (by omega) (by omega)) dX10_clones_33 (fun x33 e_x33 => ?_)
    have b_x33 := iB x33
    have hx33 := congrArg Int32.toInt e_x33
    refine m_i2l (X := x33.toInt) hx hb dX10_clones_34 rfl (fun x34 e_x34 g_x34 => ?_)
    refine call_i (As := [.long 1, .long x34]) (rest := []) ⟨hx, hb, hml, hown, hts⟩ (tX10_hasRoom (l := l) (1 : Int64) x34 (by first | assumption | omega | (intros; omega) | decide) (by first | assumption | omega | (intros; omega) | decide) (by first | assumption | omega | (intros; omega) | decide) (by first | assumption | omega | (intros; omega) | decide) (by first | assumption | omega | (intros; omega) | decide) (by first | assumption | omega | (intros; omega) | decide) (by first | assumption | omega | (intros; omega) | decide) (by first | assumption | omega | (intros; omega) | decide)) (cwV 2 hts (gV (wr50 _ (List.mem_of_getElem? (i := 16) rfl)) (wr50 _ (List.mem_of_getElem? (i := 17) rfl)) (wr50 _ (List.mem_of_getElem? (i := 18) rfl)) (wr1 _ (List.mem_of_getElem? (i := 5) rfl)) (wr50 _ (List.mem_of_getElem? (i := 19) rfl))) rfl rfl rfl (by decide +kernel) ⟨Nat.le_of_ble_eq_true rfl, Nat.le_of_ble_eq_true rfl⟩) (va_recv hK hP (ci := 9) (q0 := 0) rfl rfl) hK hP hD hE hS hA rfl hl.1 rfl (Nat.le_of_ble_eq_true rfl) dX10_clones_35 ⟨Nat.le_of_ble_eq_true rfl, Nat.le_of_ble_eq_true rfl⟩ (fun r35 w9 H locs hw35 hP hD hS => ?_)
    obtain ⟨rfl, hw35_0⟩ := hw35
    have b_r35 := iB r35
    refine m_if_ne (X := r35.toInt) (tgt := 44) hx hb dX10_clones_38 (by decide) rfl (fun c38 => ?_) (fun c38 => ?_)
    · skip
      refine lv_aload_n hx hb dX10_clones_44 rfl (lv_at hl 2 rfl) ?_
      refine lv_aload_n hx hb dX10_clones_45 rfl (lv_at hl 2 rfl) ?_
      refine va_get (D := D) (ci := 9) (v := .ref (q 23)) (C := RX10) (T := TX10) (N := 71) hx hb hts hin hown hK hP 0 rfl rfl 44 (by decide) k_6_5 (fun _ h9 => h9) rfl dX10_clones_46 ?_
      refine lv_iload_n hx hb dX10_clones_49 rfl (lv_at hl 0 rfl) ?_
      refine m_iald hx hb hK hP 23 0 rfl rfl (ix (by omega) (by omega)) dX10_clones_50 (fun x50 e_x50 => ?_)
      have b_x50 := iB x50
      refine lv_aload_n hx hb dX10_clones_51 rfl (lv_at hl 2 rfl) ?_
      refine va_get (D := D) (ci := 9) (v := .ref (q 25)) (C := RX10) (T := TX10) (N := 71) hx hb hts hin hown hK hP 0 rfl rfl 46 (by decide) k_6_7 (fun _ h9 => h9) rfl dX10_clones_52 ?_
      refine lv_iload_n hx hb dX10_clones_55 rfl (lv_at hl 0 rfl) ?_
      refine m_iald hx hb hK hP 25 0 rfl rfl (ix (by omega) (by omega)) dX10_clones_56 (fun x56 e_x56 => ?_)
      have b_x56 := iB x56
      have hx50 := congrArg Int32.toInt e_x50
      have hx56 := congrArg Int32.toInt e_x56
      refine call_i (As := [.int x50, .int x56]) (rest := []) ⟨hx, hb, hml, hown, hts⟩ (tX10_newArray (l := l) x50 x56 (by first | assumption | omega | (intros; omega) | decide) (by first | assumption | omega | (intros; omega) | decide) (by first | assumption | omega | (intros; omega) | decide) (by first | assumption | omega | (intros; omega) | decide) (by first | assumption | omega | (intros; omega) | decide) (by first | assumption | omega | (intros; omega) | decide) (by first | assumption | omega | (intros; omega) | decide)) (cwV 2 hts (gV (wr50 _ (List.mem_of_getElem? (i := 22) rfl)) (wr50 _ (List.mem_of_getElem? (i := 23) rfl)) (wr51 _ (List.mem_of_getElem? (i := 0) rfl)) (wr1 _ (List.mem_of_getElem? (i := 5) rfl)) (wr51 _ (List.mem_of_getElem? (i := 1) rfl))) rfl rfl rfl (by decide +kernel) ⟨Nat.le_of_ble_eq_true rfl, Nat.le_of_ble_eq_true rfl⟩) (va_recv hK hP (ci := 9) (q0 := 0) rfl rfl) hK hP hD hE hS hA rfl hl.1 rfl (Nat.le_of_ble_eq_true rfl) dX10_clones_57 ⟨Nat.le_of_ble_eq_true rfl, Nat.le_of_ble_eq_true rfl⟩ (fun r57 w9 H locs hw57 hP hD hS => ?_)
      obtain ⟨a_arrayClass_57, a_arrayFrom_57, a_arrayLong_57, v_arrays_57, v_cells_57, a_cellSort_57, a_cellKind_57, a_cellValue_57, v_sort_57, v_kindAt_57, v_value_57, rfl, hw57_0, hw57_1, hw57_2, hw57_3, hw57_4, hw57_5, hw57_6⟩ := hw57
      have b_v_arrays_57 := iB v_arrays_57
      have b_v_cells_57 := iB v_cells_57
      have b_v_sort_57 := iB v_sort_57
      have b_v_kindAt_57 := iB v_kindAt_57
      have b_v_value_57 := jB v_value_57
      have b_r57 := iB r57
      have hr57 := congrArg Int32.toInt hw57_1
      have tar := tn (i := v_arrays) (by omega)
      have t4 := tn (i := r57) (by omega)
      have ne3 : v_reached_11.toNatClampNeg ≠ v_arrays.toNatClampNeg := by omega
      have cl3 : a_arrayClass_57 v_reached_11.toNatClampNeg = a_arrayClass v_reached_11.toNatClampNeg := by rw [hw57_4, upd_ne _ _ ne3]
      have cl4 : a_arrayClass_57 r57.toNatClampNeg = a_arrayClass v_reached_11.toNatClampNeg := by rw [hw57_1, hw57_4, upd_at, e_x50]
      have ln3 := congrArg Int32.toInt (show a_arrayLong_57 v_reached_11.toNatClampNeg = a_arrayLong v_reached_11.toNatClampNeg by rw [hw57_6, upd_ne _ _ ne3])
      have ln4 := congrArg Int32.toInt (show a_arrayLong_57 r57.toNatClampNeg = a_arrayLong v_reached_11.toNatClampNeg by rw [hw57_1, hw57_6, upd_at, e_x56])
      have hrb := hw57_0.1
      obtain ⟨bo1, bo2, bo3, bo4⟩ := hw57_0.2.1 r57.toNatClampNeg (by omega)
      refine lv_istore (lv' := [(4, .int r57), (3, .int v_reached_11), (2, .int r11), (0, .ref (q 0)), (1, .int s9)]) hx hb dX10_clones_60 hl (by decide) rfl (fun ls hl => ?_)
      refine lv_iconst (v := 0) hx hb dX10_clones_62 (by decide) ?_
      refine lv_istore (lv' := [(5, .int 0), (4, .int r57), (3, .int v_reached_11), (2, .int r11), (0, .ref (q 0)), (1, .int s9)]) hx hb dX10_clones_63 hl (by decide) rfl (fun ls hl => ?_)
      have J65 : ∀ (n65 : Nat) (l5_65 : Int32) (a_cellKind_65 : Nat → Int32) (a_cellSort_65 : Nat → Int32) (a_cellValue_65 : Nat → Int64) (v_kindAt_65 : Int32) (v_sort_65 : Int32) (v_value_65 : Int64) (H : Heap) (locs : List Loc) (ls : Array Slot), (0 ≤ l5_65.toInt) → (l5_65.toInt ≤ 500) → (RUN a_varSort a_varKind a_varValue v_arrays_57 v_cells_57 v_creatures a_arrayClass_57 a_arrayFrom_57 a_arrayLong_57 a_cellSort_65 a_cellKind_65 a_cellValue_65) → (500 - l5_65.toInt < (n65 : Int)) → va_P D vwCl (mw cs q v_thrown a_tape v_taped v_size v_to v_kind v_from v_letters v_letterMany v_digits v_isBeyond v_suffix v_steps v_fault v_hasProgram a_text a_act a_guess a_take a_begin a_finish a_to1 a_one a_two a_what a_ats a_atVar a_atNumber a_atomSort a_atomKind a_atomValue v_wrong v_wrongAt v_variable v_number v_numberKind v_takes a_out v_outed a_varSort a_varKind a_varValue a_creature v_creatures a_arrayClass_57 a_arrayFrom_57 a_arrayLong_57 v_arrays_57 v_cells_57 a_cellSort_65 a_cellKind_65 a_cellValue_65 a_asideSort a_asideKind a_asideValue a_outcome v_marks v_came v_guessed v_right v_taken a_markSort a_markKind a_markClass a_markValue v_sort_65 v_kindAt_65 v_value_65 a_index v_reached_11 v_looked) H → va_D A (mw cs q v_thrown a_tape v_taped v_size v_to v_kind v_from v_letters v_letterMany v_digits v_isBeyond v_suffix v_steps v_fault v_hasProgram a_text a_act a_guess a_take a_begin a_finish a_to1 a_one a_two a_what a_ats a_atVar a_atNumber a_atomSort a_atomKind a_atomValue v_wrong v_wrongAt v_variable v_number v_numberKind v_takes a_out v_outed a_varSort a_varKind a_varValue a_creature v_creatures a_arrayClass_57 a_arrayFrom_57 a_arrayLong_57 v_arrays_57 v_cells_57 a_cellSort_65 a_cellKind_65 a_cellValue_65 a_asideSort a_asideKind a_asideValue a_outcome v_marks v_came v_guessed v_right v_taken a_markSort a_markKind a_markClass a_markValue v_sort_65 v_kindAt_65 v_value_65 a_index v_reached_11 v_looked) → va_S A s.heap H locs → lv_has ls 6 [(0, .ref (q 0)), (1, .int s9), (3, .int v_reached_11), (4, .int r57), (5, .int l5_65)] → W p l e (headSpec (wG yX10_clones cX10_clones 6 (some .int)) rmX10_clones).room s m ([.ref (q 0), .int s9] : List Value).toArray below meth c H locs 0 0 Q (F0 m 65 ls []) := by
        intro n65
        induction n65 with
        | zero =>
          intro l5_65 a_cellKind_65 a_cellSort_65 a_cellValue_65 v_kindAt_65 v_sort_65 v_value_65 H locs ls f65_0 f65_1 f65_2 hm65
          exfalso
          omega
        | succ n65 ih65 =>
          intro l5_65 a_cellKind_65 a_cellSort_65 a_cellValue_65 v_kindAt_65 v_sort_65 v_value_65 H locs ls f65_0 f65_1 f65_2 hm65 hP hD hS hl
          refine lv_iload hx hb dX10_clones_65 (lv_at hl 4 rfl) ?_
          refine lv_aload_n hx hb dX10_clones_67 rfl (lv_at hl 0 rfl) ?_
          refine va_get (D := D) (ci := 9) (v := .ref (q 25)) (C := RX10) (T := TX10) (N := 71) hx hb hts hin hown hK hP 0 rfl rfl 46 (by decide) k_6_7 (fun _ h9 => h9) rfl dX10_clones_68 ?_
          refine lv_iload_n hx hb dX10_clones_71 rfl (lv_at hl 2 rfl) ?_
          refine m_iald hx hb hK hP 25 0 rfl rfl (ix (by omega) (by omega)) dX10_clones_72 (fun x72 e_x72 => ?_)
          have b_x72 := iB x72
          have hx72 := congrArg Int32.toInt e_x72
          refine m_icmp_ge (X := l5_65.toInt) (Y := x72.toInt) (tgt := 97) hx hb dX10_clones_73 (by decide) rfl rfl (fun c73 => ?_) (fun c73 => ?_)
          · skip
            refine lv_aload_n hx hb dX10_clones_97 rfl (lv_at hl 0 rfl) ?_
            refine lv_iconst (v := 3) hx hb dX10_clones_98 (by decide) ?_
            refine va_put (D := D) (ci := 9) (v := .int 3) (ty := .int) (C := RX10) (T := TX10) (N := 71) hx hb hts hin tyX10 tyX10_ok nmX10 hown hK hP hD hS 0 rfl rfl 65 (by decide) k_47_12 (fun _ h9 => h9) rfl (by decide +kernel) rfl rfl (Nat.le_of_ble_eq_true rfl) dX10_clones_99 (fun H locs hP hD hS => ?_)
            have hP : va_P D vwCl (mw cs q v_thrown a_tape v_taped v_size v_to v_kind v_from v_letters v_letterMany v_digits v_isBeyond v_suffix v_steps v_fault v_hasProgram a_text a_act a_guess a_take a_begin a_finish a_to1 a_one a_two a_what a_ats a_atVar a_atNumber a_atomSort a_atomKind a_atomValue v_wrong v_wrongAt v_variable v_number v_numberKind v_takes a_out v_outed a_varSort a_varKind a_varValue a_creature v_creatures a_arrayClass_57 a_arrayFrom_57 a_arrayLong_57 v_arrays_57 v_cells_57 a_cellSort_65 a_cellKind_65 a_cellValue_65 a_asideSort a_asideKind a_asideValue a_outcome v_marks v_came v_guessed v_right v_taken a_markSort a_markKind a_markClass a_markValue (3 : Int32) v_kindAt_65 v_value_65 a_index v_reached_11 v_looked) H := hP
            have hD : va_D A (mw cs q v_thrown a_tape v_taped v_size v_to v_kind v_from v_letters v_letterMany v_digits v_isBeyond v_suffix v_steps v_fault v_hasProgram a_text a_act a_guess a_take a_begin a_finish a_to1 a_one a_two a_what a_ats a_atVar a_atNumber a_atomSort a_atomKind a_atomValue v_wrong v_wrongAt v_variable v_number v_numberKind v_takes a_out v_outed a_varSort a_varKind a_varValue a_creature v_creatures a_arrayClass_57 a_arrayFrom_57 a_arrayLong_57 v_arrays_57 v_cells_57 a_cellSort_65 a_cellKind_65 a_cellValue_65 a_asideSort a_asideKind a_asideValue a_outcome v_marks v_came v_guessed v_right v_taken a_markSort a_markKind a_markClass a_markValue (3 : Int32) v_kindAt_65 v_value_65 a_index v_reached_11 v_looked) := hD
            refine lv_aload_n hx hb dX10_clones_102 rfl (lv_at hl 0 rfl) ?_
            refine lv_iconst (v := 0) hx hb dX10_clones_103 (by decide) ?_
            refine va_put (D := D) (ci := 9) (v := .int 0) (ty := .int) (C := RX10) (T := TX10) (N := 71) hx hb hts hin tyX10 tyX10_ok nmX10 hown hK hP hD hS 0 rfl rfl 66 (by decide) k_47_13 (fun _ h9 => h9) rfl (by decide +kernel) rfl rfl (Nat.le_of_ble_eq_true rfl) dX10_clones_104 (fun H locs hP hD hS => ?_)
            have hP : va_P D vwCl (mw cs q v_thrown a_tape v_taped v_size v_to v_kind v_from v_letters v_letterMany v_digits v_isBeyond v_suffix v_steps v_fault v_hasProgram a_text a_act a_guess a_take a_begin a_finish a_to1 a_one a_two a_what a_ats a_atVar a_atNumber a_atomSort a_atomKind a_atomValue v_wrong v_wrongAt v_variable v_number v_numberKind v_takes a_out v_outed a_varSort a_varKind a_varValue a_creature v_creatures a_arrayClass_57 a_arrayFrom_57 a_arrayLong_57 v_arrays_57 v_cells_57 a_cellSort_65 a_cellKind_65 a_cellValue_65 a_asideSort a_asideKind a_asideValue a_outcome v_marks v_came v_guessed v_right v_taken a_markSort a_markKind a_markClass a_markValue (3 : Int32) (0 : Int32) v_value_65 a_index v_reached_11 v_looked) H := hP
            have hD : va_D A (mw cs q v_thrown a_tape v_taped v_size v_to v_kind v_from v_letters v_letterMany v_digits v_isBeyond v_suffix v_steps v_fault v_hasProgram a_text a_act a_guess a_take a_begin a_finish a_to1 a_one a_two a_what a_ats a_atVar a_atNumber a_atomSort a_atomKind a_atomValue v_wrong v_wrongAt v_variable v_number v_numberKind v_takes a_out v_outed a_varSort a_varKind a_varValue a_creature v_creatures a_arrayClass_57 a_arrayFrom_57 a_arrayLong_57 v_arrays_57 v_cells_57 a_cellSort_65 a_cellKind_65 a_cellValue_65 a_asideSort a_asideKind a_asideValue a_outcome v_marks v_came v_guessed v_right v_taken a_markSort a_markKind a_markClass a_markValue (3 : Int32) (0 : Int32) v_value_65 a_index v_reached_11 v_looked) := hD
            refine lv_aload_n hx hb dX10_clones_107 rfl (lv_at hl 0 rfl) ?_
            refine lv_iload hx hb dX10_clones_108 (lv_at hl 3 rfl) ?_
            refine m_i2l (X := r57.toInt) hx hb dX10_clones_110 rfl (fun x110 e_x110 g_x110 => ?_)
            refine va_put (D := D) (ci := 9) (v := .long x110) (ty := .long) (C := RX10) (T := TX10) (N := 71) hx hb hts hin tyX10 tyX10_ok nmX10 hown hK hP hD hS 0 rfl rfl 67 (by decide) k_47_14 (fun _ h9 => h9) rfl (by decide +kernel) rfl rfl (Nat.le_of_ble_eq_true rfl) dX10_clones_111 (fun H locs hP hD hS => ?_)
            have hP : va_P D vwCl (mw cs q v_thrown a_tape v_taped v_size v_to v_kind v_from v_letters v_letterMany v_digits v_isBeyond v_suffix v_steps v_fault v_hasProgram a_text a_act a_guess a_take a_begin a_finish a_to1 a_one a_two a_what a_ats a_atVar a_atNumber a_atomSort a_atomKind a_atomValue v_wrong v_wrongAt v_variable v_number v_numberKind v_takes a_out v_outed a_varSort a_varKind a_varValue a_creature v_creatures a_arrayClass_57 a_arrayFrom_57 a_arrayLong_57 v_arrays_57 v_cells_57 a_cellSort_65 a_cellKind_65 a_cellValue_65 a_asideSort a_asideKind a_asideValue a_outcome v_marks v_came v_guessed v_right v_taken a_markSort a_markKind a_markClass a_markValue (3 : Int32) (0 : Int32) x110 a_index v_reached_11 v_looked) H := hP
            have hD : va_D A (mw cs q v_thrown a_tape v_taped v_size v_to v_kind v_from v_letters v_letterMany v_digits v_isBeyond v_suffix v_steps v_fault v_hasProgram a_text a_act a_guess a_take a_begin a_finish a_to1 a_one a_two a_what a_ats a_atVar a_atNumber a_atomSort a_atomKind a_atomValue v_wrong v_wrongAt v_variable v_number v_numberKind v_takes a_out v_outed a_varSort a_varKind a_varValue a_creature v_creatures a_arrayClass_57 a_arrayFrom_57 a_arrayLong_57 v_arrays_57 v_cells_57 a_cellSort_65 a_cellKind_65 a_cellValue_65 a_asideSort a_asideKind a_asideValue a_outcome v_marks v_came v_guessed v_right v_taken a_markSort a_markKind a_markClass a_markValue (3 : Int32) (0 : Int32) x110 a_index v_reached_11 v_looked) := hD
            refine lv_aload_n hx hb dX10_clones_114 rfl (lv_at hl 0 rfl) ?_
            refine lv_aload_n hx hb dX10_clones_115 rfl (lv_at hl 0 rfl) ?_
            refine va_get (D := D) (ci := 9) (v := .ref (q 8)) (C := RX10) (T := TX10) (N := 71) hx hb hts hin hown hK hP 0 rfl rfl 21 (by decide) k_5_14 (fun _ h9 => h9) rfl dX10_clones_116 ?_
            refine lv_iload_n hx hb dX10_clones_119 rfl (lv_at hl 1 rfl) ?_
            refine m_iald hx hb hK hP 8 0 rfl rfl (ix (by omega) (by omega)) dX10_clones_120 (fun x120 e_x120 => ?_)
            have b_x120 := iB x120
            have hx120 := congrArg Int32.toInt e_x120
            refine call_v (As := [.int x120]) (rest := []) ⟨hx, hb, hml, hown, hts⟩ (tX10_toVar (l := l) x120 (by first | assumption | omega | (intros; omega) | decide) (by first | assumption | omega | (intros; omega) | decide) (by first | assumption | omega | (intros; omega) | decide) (by exact ⟨⟨by decide, by decide⟩, fun _ => ⟨by omega, by omega⟩, fun q => absurd q (by decide), fun q => absurd q (by decide)⟩)) (cwV 1 hts (gV (wr48 _ (List.mem_of_getElem? (i := 3) rfl)) (wr48 _ (List.mem_of_getElem? (i := 4) rfl)) (wr48 _ (List.mem_of_getElem? (i := 5) rfl)) (wr1 _ (List.mem_of_getElem? (i := 5) rfl)) (wr48 _ (List.mem_of_getElem? (i := 6) rfl))) rfl rfl rfl (by decide +kernel) ⟨Nat.le_of_ble_eq_true rfl, Nat.le_of_ble_eq_true rfl⟩) (va_recv hK hP (ci := 9) (q0 := 0) rfl rfl) hK hP hD hE hS hA rfl hl.1 rfl (Nat.le_of_ble_eq_true rfl) dX10_clones_121 ⟨Nat.le_of_ble_eq_true rfl, Nat.le_of_ble_eq_true rfl⟩ (fun w9 H locs hw121 hP hD hS => ?_)
            obtain ⟨a_varSort_121, a_varKind_121, a_varValue_121, rfl, hw121_0⟩ := hw121
            refine lv_iconst (v := 0) hx hb dX10_clones_124 (by decide) ?_
            subst hAe
            rw [hQ]
            exact W.iret (v := 0) hx hb hr (fun t ht hW => ⟨⟨0, _, rfl, ⟨a_varSort_121, a_varKind_121, a_varValue_121, a_arrayClass_57, a_arrayFrom_57, a_arrayLong_57, v_arrays_57, v_cells_57, a_cellSort_65, a_cellKind_65, a_cellValue_65, (3 : Int32), (0 : Int32), x110, v_reached_11, rfl, by first | assumption | omega | (intros; omega) | decide, by first | assumption | omega | (intros; omega) | decide⟩, by rw [ht]; exact hP, va_K.moved hW.alike hK, hD⟩, hS.F ht⟩) hS.2.2 dX10_clones_125
          · skip
            have t5 := tn (i := l5_65) (by omega)
            refine lv_aload_n hx hb dX10_clones_76 rfl (lv_at hl 0 rfl) ?_
            refine lv_iload_n hx hb dX10_clones_77 rfl (lv_at hl 2 rfl) ?_
            refine lv_iload hx hb dX10_clones_78 (lv_at hl 4 rfl) ?_
            refine call_v (As := [.int v_reached_11, .int l5_65]) (rest := []) ⟨hx, hb, hml, hown, hts⟩ (tX10_ofCell (l := l) v_reached_11 l5_65 (by first | assumption | omega | (intros; omega) | decide) (by first | assumption | omega | (intros; omega) | decide) (by first | assumption | omega | (intros; omega) | decide) (by first | assumption | omega | (intros; omega) | decide) (by first | assumption | omega | (intros; omega) | decide)) (cwV 2 hts (gV (wr49 _ (List.mem_of_getElem? (i := 0) rfl)) (wr49 _ (List.mem_of_getElem? (i := 1) rfl)) (wr49 _ (List.mem_of_getElem? (i := 2) rfl)) (wr1 _ (List.mem_of_getElem? (i := 5) rfl)) (wr49 _ (List.mem_of_getElem? (i := 3) rfl))) rfl rfl rfl (by decide +kernel) ⟨Nat.le_of_ble_eq_true rfl, Nat.le_of_ble_eq_true rfl⟩) (va_recv hK hP (ci := 9) (q0 := 0) rfl rfl) hK hP hD hE hS hA rfl hl.1 rfl (Nat.le_of_ble_eq_true rfl) dX10_clones_80 ⟨Nat.le_of_ble_eq_true rfl, Nat.le_of_ble_eq_true rfl⟩ (fun w9 H locs hw80 hP hD hS => ?_)
            obtain ⟨v_sort_80, v_kindAt_80, v_value_80, rfl, hw80_0, hw80_1, hw80_2⟩ := hw80
            have b_v_sort_80 := iB v_sort_80
            have b_v_kindAt_80 := iB v_kindAt_80
            have b_v_value_80 := jB v_value_80
            refine lv_aload_n hx hb dX10_clones_83 rfl (lv_at hl 0 rfl) ?_
            refine lv_iload hx hb dX10_clones_84 (lv_at hl 3 rfl) ?_
            refine lv_iload hx hb dX10_clones_86 (lv_at hl 4 rfl) ?_
            refine call_v (As := [.int r57, .int l5_65]) (rest := []) ⟨hx, hb, hml, hown, hts⟩ (tX10_toCell (l := l) r57 l5_65 (by first | assumption | omega | (intros; omega) | decide) (by first | assumption | omega | (intros; omega) | decide) (by first | assumption | omega | (intros; omega) | decide) (by first | assumption | omega | (intros; omega) | decide) (by first | assumption | omega | (intros; omega) | decide)) (cwV 2 hts (gV (wr50 _ (List.mem_of_getElem? (i := 7) rfl)) (wr50 _ (List.mem_of_getElem? (i := 8) rfl)) (wr50 _ (List.mem_of_getElem? (i := 9) rfl)) (wr1 _ (List.mem_of_getElem? (i := 5) rfl)) (wr50 _ (List.mem_of_getElem? (i := 10) rfl))) rfl rfl rfl (by decide +kernel) ⟨Nat.le_of_ble_eq_true rfl, Nat.le_of_ble_eq_true rfl⟩) (va_recv hK hP (ci := 9) (q0 := 0) rfl rfl) hK hP hD hE hS hA rfl hl.1 rfl (Nat.le_of_ble_eq_true rfl) dX10_clones_88 ⟨Nat.le_of_ble_eq_true rfl, Nat.le_of_ble_eq_true rfl⟩ (fun w9 H locs hw88 hP hD hS => ?_)
            obtain ⟨a_cellSort_88, a_cellKind_88, a_cellValue_88, rfl, hw88_0, hw88_1, hw88_2⟩ := hw88
            obtain ⟨x91, e_x91⟩ : ∃ z : Int32, z = l5_65 + (1 : Int32) := ⟨_, rfl⟩
            obtain ⟨k_x91, g_x91⟩ : ∃ k : Int, x91.toInt = l5_65.toInt + (1) + k * 4294967296 := by rw [e_x91]; exact iAdd l5_65 (1)
            have b_x91 := iB x91
            try (have q_x91 : x91.toInt = l5_65.toInt + (1) := (by omega); clear g_x91 k_x91)
            refine lv_iinc (v := x91) (lv' := [(5, .int x91), (0, .ref (q 0)), (1, .int s9), (3, .int v_reached_11), (4, .int r57)]) hx hb dX10_clones_91 hl (k := 4) rfl (by rw [e_x91]; rfl) (by decide) rfl (fun ls hl => ?_)
            refine lv_goto (tgt := 65) hx hb dX10_clones_94 (by decide) ?_
            exact ih65 x91 a_cellKind_88 a_cellSort_88 a_cellValue_88 v_kindAt_80 v_sort_80 v_value_80 H locs ls (by first | assumption | omega | (intros; omega) | decide) (by first | assumption | omega | (intros; omega) | decide) (by first | assumption | exact f65_2.setCell (a := r57.toNatClampNeg) (i := l5_65.toNatClampNeg) (by omega) (by omega) rfl hw80_0 (fun q => by rw [cl4, ← cl3]; exact hw80_1 q) (fun q => hw80_2 (by rw [cl3, ← cl4]; exact q)) hw88_0 hw88_1 hw88_2) (by omega) hP hD hS (lv_sub hl [1, 2, 3, 4, 0] rfl)
      exact J65 ((500 - (0 : Int32).toInt).toNat + 1) (0 : Int32) a_cellKind_57 a_cellSort_57 a_cellValue_57 v_kindAt_57 v_sort_57 v_value_57 H locs ls (by first | assumption | omega | (intros; omega) | decide) (by first | assumption | omega | (intros; omega) | decide) (by first | assumption | exact f65_2.setCell (a := r57.toNatClampNeg) (i := l5_65.toNatClampNeg) (by omega) (by omega) rfl hw80_0 (fun q => by rw [cl4, ← cl3]; exact hw80_1 q) (fun q => hw80_2 (by rw [cl3, ← cl4]; exact q)) hw88_0 hw88_1 hw88_2) (by omega) hP hD hS (lv_sub hl [4, 5, 2, 1, 0] rfl)
    · skip
      refine lv_bipush (v := 7) hx hb dX10_clones_41 (by decide) ?_
      subst hAe
      rw [hQ]
      exact W.iret (v := 7) hx hb hr (fun t ht hW => ⟨⟨7, _, rfl, ⟨a_varSort, a_varKind, a_varValue, a_arrayClass, a_arrayFrom, a_arrayLong, v_arrays, v_cells, a_cellSort, a_cellKind, a_cellValue, v_sort_7, v_kindAt_7, v_value_7, v_reached_11, rfl, by first | assumption | omega | (intros; omega) | decide, by first | assumption | omega | (intros; omega) | decide⟩, by rw [ht]; exact hP, va_K.moved hW.alike hK, hD⟩, hS.F ht⟩) hS.2.2 dX10_clones_43
  · skip
    refine lv_iload_n hx hb dX10_clones_19 rfl (lv_at hl 0 rfl) ?_
    subst hAe
    rw [hQ]
    exact W.iret (v := r11) hx hb hr (fun t ht hW => ⟨⟨r11, _, rfl, ⟨a_varSort, a_varKind, a_varValue, a_arrayClass, a_arrayFrom, a_arrayLong, v_arrays, v_cells, a_cellSort, a_cellKind, a_cellValue, v_sort_7, v_kindAt_7, v_value_7, v_reached_11, rfl, by first | assumption | omega | (intros; omega) | decide, by first | assumption | omega | (intros; omega) | decide⟩, by rw [ht]; exact hP, va_K.moved hW.alike hK, hD⟩, hS.F ht⟩) hS.2.2 dX10_clones_20

def rmX10_swap : Room := { frames := 40, cells := 0, slots := 0, locals := 800 }
set_option maxHeartbeats 4000000 in
set_option maxRecDepth 100000 in
theorem tX10_swap {l : Launch} {D : va_G} {K : Nat → Nat → Nat} {cs : Nat → ClassId} {q : Nat → Nat} {v_thrown v_taped v_size v_to v_kind v_from v_letterMany v_isBeyond v_suffix v_steps v_fault v_hasProgram v_wrong v_wrongAt v_variable v_numberKind v_takes v_outed v_creatures v_arrays v_cells v_marks v_came v_guessed v_right v_taken v_sort v_kindAt v_reached v_looked : Int32} {a_tape a_text a_act a_guess a_take a_begin a_finish a_to1 a_one a_two a_what a_ats a_atVar a_atNumber a_atomSort a_atomKind a_out a_varSort a_varKind a_creature a_arrayClass a_arrayFrom a_arrayLong a_cellSort a_cellKind a_asideSort a_asideKind a_outcome a_markSort a_markKind a_markClass a_index : Nat → Int32} {v_letters v_digits v_number v_value : Int64} {a_atomValue a_varValue a_cellValue a_asideValue a_markValue : Nat → Int64} (i9 : Int32) (j9 : Int32) (p_0 : RUN a_varSort a_varKind a_varValue v_arrays v_cells v_creatures a_arrayClass a_arrayFrom a_arrayLong a_cellSort a_cellKind a_cellValue) (p_1 : 0 ≤ v_reached.toInt) (p_2 : v_reached.toInt < v_arrays.toInt) (p_3 : 0 ≤ i9.toInt) (p_4 : i9.toInt < (a_arrayLong v_reached.toNatClampNeg).toInt) (p_5 : 0 ≤ j9.toInt) (p_6 : j9.toInt < (a_arrayLong v_reached.toNatClampNeg).toInt) : CtV l yX10_swap (wG yX10_swap cX10_swap 8 none) rmX10_swap D (mwT cs) K [.ref (q 0), .int i9, .int j9] (mw cs q v_thrown a_tape v_taped v_size v_to v_kind v_from v_letters v_letterMany v_digits v_isBeyond v_suffix v_steps v_fault v_hasProgram a_text a_act a_guess a_take a_begin a_finish a_to1 a_one a_two a_what a_ats a_atVar a_atNumber a_atomSort a_atomKind a_atomValue v_wrong v_wrongAt v_variable v_number v_numberKind v_takes a_out v_outed a_varSort a_varKind a_varValue a_creature v_creatures a_arrayClass a_arrayFrom a_arrayLong v_arrays v_cells a_cellSort a_cellKind a_cellValue a_asideSort a_asideKind a_asideValue a_outcome v_marks v_came v_guessed v_right v_taken a_markSort a_markKind a_markClass a_markValue v_sort v_kindAt v_value a_index v_reached v_looked) (fun w1 => ∃ (a_cellSort' : Nat → Int32) (a_cellKind' : Nat → Int32) (a_cellValue' : Nat → Int64) (v_sort' : Int32) (v_kindAt' : Int32) (v_value' : Int64), w1 = (mw cs q v_thrown a_tape v_taped v_size v_to v_kind v_from v_letters v_letterMany v_digits v_isBeyond v_suffix v_steps v_fault v_hasProgram a_text a_act a_guess a_take a_begin a_finish a_to1 a_one a_two a_what a_ats a_atVar a_atNumber a_atomSort a_atomKind a_atomValue v_wrong v_wrongAt v_variable v_number v_numberKind v_takes a_out v_outed a_varSort a_varKind a_varValue a_creature v_creatures a_arrayClass a_arrayFrom a_arrayLong v_arrays v_cells a_cellSort' a_cellKind' a_cellValue' a_asideSort a_asideKind a_asideValue a_outcome v_marks v_came v_guessed v_right v_taken a_markSort a_markKind a_markClass a_markValue v_sort' v_kindAt' v_value' a_index v_reached v_looked) ∧ (RUN a_varSort a_varKind a_varValue v_arrays v_cells v_creatures a_arrayClass a_arrayFrom a_arrayLong a_cellSort' a_cellKind' a_cellValue')) 0 0 := by
  intro sz
  refine Met.ofW (cc := cX10_swap) (maxL := 8) (ret := none) (by decide) rfl ?_
  intro p e s m args below meth c s₁ B hml hv
  obtain ⟨rfl, hsz, hP, hK, hD0, hE⟩ := hv
  have hx := B.exec
  have hb := B.bytes
  have hr := B.returns
  have hts := atoms_spec (ws := (wG yX10_swap cX10_swap 8 none)) B.pre
  have hown : s.vm.findClass RX10 = some m.cls := findClass_of_methodNamed B.named
  have hlocks := B.notSynchronized
  subst hsz
  have hD := hD0.self (sz := s.heap.size)
  obtain ⟨A, hAe⟩ : ∃ A : Nat → Prop, A = va_A (mw cs q v_thrown a_tape v_taped v_size v_to v_kind v_from v_letters v_letterMany v_digits v_isBeyond v_suffix v_steps v_fault v_hasProgram a_text a_act a_guess a_take a_begin a_finish a_to1 a_one a_two a_what a_ats a_atVar a_atNumber a_atomSort a_atomKind a_atomValue v_wrong v_wrongAt v_variable v_number v_numberKind v_takes a_out v_outed a_varSort a_varKind a_varValue a_creature v_creatures a_arrayClass a_arrayFrom a_arrayLong v_arrays v_cells a_cellSort a_cellKind a_cellValue a_asideSort a_asideKind a_asideValue a_outcome v_marks v_came v_guessed v_right v_taken a_markSort a_markKind a_markClass a_markValue v_sort v_kindAt v_value a_index v_reached v_looked) s.heap.size := ⟨_, rfl⟩
  rw [← hAe] at hD hE
  have hA : ∀ q : Nat, s.heap.size ≤ q → A q := fun q h => by rw [hAe]; exact Or.inr h
  have hS : va_S A s.heap s.heap [] := va_S.rf
  have hl := lv_entry ([.ref (q 0), .int i9, .int j9]) (n := 8) (Nat.le_of_ble_eq_true rfl)
  rw [lg_entry_eq]
  generalize (lg_sl ([.ref (q 0), .int i9, .int j9]) ++ List.replicate (8 - (lg_sl ([.ref (q 0), .int i9, .int j9])).length) Slot.unset).toArray = ls at hl ⊢
  have hl : lv_has ls 8 [(0, .ref (q 0)), (1, .int i9), (2, .int j9)] := hl
  refine wq (fun Q hQ => ?_)
  have hin : ∀ w ∈ wsX100, w ∈ (wG yX10_swap cX10_swap 8 none) := fun w h => List.mem_cons_of_mem _ (inlX10 w h)
  have k_6_6 := hts (.fieldLink RX10 80 "ArrayTrainerModel" "arrayFrom" "[I") (List.mem_cons_of_mem _ (wr6 _ (List.mem_of_getElem? (i := 6) rfl)))
  have k_48_11 := hts (.fieldLink RX10 510 "ArrayTrainerModel" "reached" "I") (List.mem_cons_of_mem _ (wr48 _ (List.mem_of_getElem? (i := 11) rfl)))
  have k_6_8 := hts (.fieldLink RX10 86 "ArrayTrainerModel" "cellSort" "[I") (List.mem_cons_of_mem _ (wr6 _ (List.mem_of_getElem? (i := 8) rfl)))
  have k_6_9 := hts (.fieldLink RX10 89 "ArrayTrainerModel" "cellKind" "[I") (List.mem_cons_of_mem _ (wr6 _ (List.mem_of_getElem? (i := 9) rfl)))
  have k_6_10 := hts (.fieldLink RX10 92 "ArrayTrainerModel" "cellValue" "[J") (List.mem_cons_of_mem _ (wr6 _ (List.mem_of_getElem? (i := 10) rfl)))
  have k_47_12 := hts (.fieldLink RX10 493 "ArrayTrainerModel" "sort" "I") (List.mem_cons_of_mem _ (wr47 _ (List.mem_of_getElem? (i := 12) rfl)))
  have k_47_13 := hts (.fieldLink RX10 496 "ArrayTrainerModel" "kindAt" "I") (List.mem_cons_of_mem _ (wr47 _ (List.mem_of_getElem? (i := 13) rfl)))
  have k_47_14 := hts (.fieldLink RX10 499 "ArrayTrainerModel" "value" "J") (List.mem_cons_of_mem _ (wr47 _ (List.mem_of_getElem? (i := 14) rfl)))
  obtain ⟨H, hH⟩ : ∃ H : Heap, H = s.heap := ⟨_, rfl⟩
  obtain ⟨locs, hlc⟩ : ∃ L : List Loc, L = [] := ⟨_, rfl⟩
  have hP : va_P D vwCl (mw cs q v_thrown a_tape v_taped v_size v_to v_kind v_from v_letters v_letterMany v_digits v_isBeyond v_suffix v_steps v_fault v_hasProgram a_text a_act a_guess a_take a_begin a_finish a_to1 a_one a_two a_what a_ats a_atVar a_atNumber a_atomSort a_atomKind a_atomValue v_wrong v_wrongAt v_variable v_number v_numberKind v_takes a_out v_outed a_varSort a_varKind a_varValue a_creature v_creatures a_arrayClass a_arrayFrom a_arrayLong v_arrays v_cells a_cellSort a_cellKind a_cellValue a_asideSort a_asideKind a_asideValue a_outcome v_marks v_came v_guessed v_right v_taken a_markSort a_markKind a_markClass a_markValue v_sort v_kindAt v_value a_index v_reached v_looked) H := by rw [hH]; exact hP
  have hS : va_S A s.heap H locs := by rw [hH, hlc]; exact hS
  refine wHL hH hlc ?_
  have b_i9 := iB i9
  have b_j9 := iB j9
  have ta := tn (i := v_reached) (by omega)
  have ti9 := tn (i := i9) (by omega)
  have tj9 := tn (i := j9) (by omega)
  obtain ⟨hc9, hf9, hl9, hs9⟩ := p_0.2.1 v_reached.toNatClampNeg (by omega)
  have hr9 := p_0.1
  have tf := tn (i := a_arrayFrom v_reached.toNatClampNeg) (by omega)
  refine lv_aload_n hx hb dX10_swap_0 rfl (lv_at hl 0 rfl) ?_
  refine va_get (D := D) (ci := 9) (v := .ref (q 24)) (C := RX10) (T := TX10) (N := 71) hx hb hts hin hown hK hP 0 rfl rfl 45 (by decide) k_6_6 (fun _ h9 => h9) rfl dX10_swap_1 ?_
  refine lv_aload_n hx hb dX10_swap_4 rfl (lv_at hl 0 rfl) ?_
  refine va_get (D := D) (ci := 9) (v := .int v_reached) (C := RX10) (T := TX10) (N := 71) hx hb hts hin hown hK hP 0 rfl rfl 69 (by decide) k_48_11 (fun _ h9 => h9) rfl dX10_swap_5 ?_
  refine m_iald hx hb hK hP 24 0 rfl rfl (ix (by omega) (by omega)) dX10_swap_8 (fun x8 e_x8 => ?_)
  have b_x8 := iB x8
  have hx8 := congrArg Int32.toInt e_x8
  refine lv_iload_n hx hb dX10_swap_9 rfl (lv_at hl 1 rfl) ?_
  refine m_iadd (X := x8.toInt) (Y := i9.toInt) hx hb dX10_swap_10 rfl rfl (fun x10 e_x10 g9 => ?_)
  obtain ⟨k_x10, g_x10⟩ := g9
  have b_x10 := iB x10
  try (have q_x10 : x10.toInt = x8.toInt + i9.toInt := (by omega); clear g_x10 k_x10)
  refine lv_istore_n (lv' := [(3, .int x10), (0, .ref (q 0)), (1, .int i9), (2, .int j9)]) hx hb dX10_swap_11 rfl hl (by decide) rfl (fun ls hl => ?_)
  have tx := tn (i := x10) (by omega)
  refine lv_aload_n hx hb dX10_swap_12 rfl (lv_at hl 1 rfl) ?_
  refine va_get (D := D) (ci := 9) (v := .ref (q 26)) (C := RX10) (T := TX10) (N := 71) hx hb hts hin hown hK hP 0 rfl rfl 49 (by decide) k_6_8 (fun _ h9 => h9) rfl dX10_swap_13 ?_
  refine lv_iload_n hx hb dX10_swap_16 rfl (lv_at hl 0 rfl) ?_
  refine m_iald hx hb hK hP 26 0 rfl rfl (ix (by omega) (by omega)) dX10_swap_17 (fun x17 e_x17 => ?_)
  have b_x17 := iB x17
  refine lv_istore (lv' := [(4, .int x17), (3, .int x10), (0, .ref (q 0)), (1, .int i9), (2, .int j9)]) hx hb dX10_swap_18 hl (by decide) rfl (fun ls hl => ?_)
  refine lv_aload_n hx hb dX10_swap_20 rfl (lv_at hl 2 rfl) ?_
  refine va_get (D := D) (ci := 9) (v := .ref (q 27)) (C := RX10) (T := TX10) (N := 71) hx hb hts hin hown hK hP 0 rfl rfl 50 (by decide) k_6_9 (fun _ h9 => h9) rfl dX10_swap_21 ?_
  refine lv_iload_n hx hb dX10_swap_24 rfl (lv_at hl 1 rfl) ?_
  refine m_iald hx hb hK hP 27 0 rfl rfl (ix (by omega) (by omega)) dX10_swap_25 (fun x25 e_x25 => ?_)
  have b_x25 := iB x25
  refine lv_istore (lv' := [(5, .int x25), (4, .int x17), (3, .int x10), (0, .ref (q 0)), (1, .int i9), (2, .int j9)]) hx hb dX10_swap_26 hl (by decide) rfl (fun ls hl => ?_)
  refine lv_aload_n hx hb dX10_swap_28 rfl (lv_at hl 3 rfl) ?_
  refine va_get (D := D) (ci := 9) (v := .ref (q 28)) (C := RX10) (T := TX10) (N := 71) hx hb hts hin hown hK hP 0 rfl rfl 51 (by decide) k_6_10 (fun _ h9 => h9) rfl dX10_swap_29 ?_
  refine lv_iload_n hx hb dX10_swap_32 rfl (lv_at hl 2 rfl) ?_
  refine m_lald hx hb hK hP 28 1 rfl rfl (ix (by omega) (by omega)) dX10_swap_33 (fun x33 e_x33 => ?_)
  have b_x33 := jB x33
  refine lv_lstore (lv' := [(6, .long x33), (5, .int x25), (4, .int x17), (3, .int x10), (0, .ref (q 0)), (1, .int i9), (2, .int j9)]) hx hb dX10_swap_34 hl (by decide) rfl (fun ls hl => ?_)
  have hh := p_0.2.2.2.1 v_reached.toNatClampNeg i9.toNatClampNeg (by omega) (by omega)
  rw [show (a_arrayFrom v_reached.toNatClampNeg).toNatClampNeg + i9.toNatClampNeg = x10.toNatClampNeg by omega] at hh
  obtain ⟨hh1, hh2, hh3⟩ := hh
  rw [← e_x17, ← e_x25, ← e_x33] at hh1
  rw [← e_x17, ← e_x33] at hh2
  rw [← e_x17] at hh3
  refine lv_aload_n hx hb dX10_swap_36 rfl (lv_at hl 4 rfl) ?_
  refine lv_aload_n hx hb dX10_swap_37 rfl (lv_at hl 4 rfl) ?_
  refine va_get (D := D) (ci := 9) (v := .int v_reached) (C := RX10) (T := TX10) (N := 71) hx hb hts hin hown hK hP 0 rfl rfl 69 (by decide) k_48_11 (fun _ h9 => h9) rfl dX10_swap_38 ?_
  refine lv_iload_n hx hb dX10_swap_41 rfl (lv_at hl 6 rfl) ?_
  refine call_v (As := [.int v_reached, .int j9]) (rest := []) ⟨hx, hb, hml, hown, hts⟩ (tX10_ofCell (l := l) v_reached j9 (by first | assumption | omega | (intros; omega) | decide) (by first | assumption | omega | (intros; omega) | decide) (by first | assumption | omega | (intros; omega) | decide) (by first | assumption | omega | (intros; omega) | decide) (by first | assumption | omega | (intros; omega) | decide)) (cwV 2 hts (gV (wr49 _ (List.mem_of_getElem? (i := 0) rfl)) (wr49 _ (List.mem_of_getElem? (i := 1) rfl)) (wr49 _ (List.mem_of_getElem? (i := 2) rfl)) (wr1 _ (List.mem_of_getElem? (i := 5) rfl)) (wr49 _ (List.mem_of_getElem? (i := 3) rfl))) rfl rfl rfl (by decide +kernel) ⟨Nat.le_of_ble_eq_true rfl, Nat.le_of_ble_eq_true rfl⟩) (va_recv hK hP (ci := 9) (q0 := 0) rfl rfl) hK hP hD hE hS hA rfl hl.1 rfl (Nat.le_of_ble_eq_true rfl) dX10_swap_42 ⟨Nat.le_of_ble_eq_true rfl, Nat.le_of_ble_eq_true rfl⟩ (fun w9 H locs hw42 hP hD hS => ?_)
  obtain ⟨v_sort_42, v_kindAt_42, v_value_42, rfl, hw42_0, hw42_1, hw42_2⟩ := hw42
  have b_v_sort_42 := iB v_sort_42
  have b_v_kindAt_42 := iB v_kindAt_42
  have b_v_value_42 := jB v_value_42
  refine lv_aload_n hx hb dX10_swap_45 rfl (lv_at hl 4 rfl) ?_
  refine lv_aload_n hx hb dX10_swap_46 rfl (lv_at hl 4 rfl) ?_
  refine va_get (D := D) (ci := 9) (v := .int v_reached) (C := RX10) (T := TX10) (N := 71) hx hb hts hin hown hK hP 0 rfl rfl 69 (by decide) k_48_11 (fun _ h9 => h9) rfl dX10_swap_47 ?_
  refine lv_iload_n hx hb dX10_swap_50 rfl (lv_at hl 5 rfl) ?_
  refine call_v (As := [.int v_reached, .int i9]) (rest := []) ⟨hx, hb, hml, hown, hts⟩ (tX10_toCell (l := l) v_reached i9 (by first | assumption | omega | (intros; omega) | decide) (by first | assumption | omega | (intros; omega) | decide) (by first | assumption | omega | (intros; omega) | decide) (by first | assumption | omega | (intros; omega) | decide) (by first | assumption | omega | (intros; omega) | decide)) (cwV 2 hts (gV (wr50 _ (List.mem_of_getElem? (i := 7) rfl)) (wr50 _ (List.mem_of_getElem? (i := 8) rfl)) (wr50 _ (List.mem_of_getElem? (i := 9) rfl)) (wr1 _ (List.mem_of_getElem? (i := 5) rfl)) (wr50 _ (List.mem_of_getElem? (i := 10) rfl))) rfl rfl rfl (by decide +kernel) ⟨Nat.le_of_ble_eq_true rfl, Nat.le_of_ble_eq_true rfl⟩) (va_recv hK hP (ci := 9) (q0 := 0) rfl rfl) hK hP hD hE hS hA rfl hl.1 rfl (Nat.le_of_ble_eq_true rfl) dX10_swap_51 ⟨Nat.le_of_ble_eq_true rfl, Nat.le_of_ble_eq_true rfl⟩ (fun w9 H locs hw51 hP hD hS => ?_)
  obtain ⟨a_cellSort_51, a_cellKind_51, a_cellValue_51, rfl, hw51_0, hw51_1, hw51_2⟩ := hw51
  have hR := p_0.setCell (a := v_reached.toNatClampNeg) (i := i9.toNatClampNeg) (by omega) (by omega) rfl hw42_0 hw42_1 hw42_2 hw51_0 hw51_1 hw51_2
  refine lv_aload_n hx hb dX10_swap_54 rfl (lv_at hl 4 rfl) ?_
  refine lv_iload hx hb dX10_swap_55 (lv_at hl 2 rfl) ?_
  refine va_put (D := D) (ci := 9) (v := .int x17) (ty := .int) (C := RX10) (T := TX10) (N := 71) hx hb hts hin tyX10 tyX10_ok nmX10 hown hK hP hD hS 0 rfl rfl 65 (by decide) k_47_12 (fun _ h9 => h9) rfl (by decide +kernel) rfl rfl (Nat.le_of_ble_eq_true rfl) dX10_swap_57 (fun H locs hP hD hS => ?_)
  have hP : va_P D vwCl (mw cs q v_thrown a_tape v_taped v_size v_to v_kind v_from v_letters v_letterMany v_digits v_isBeyond v_suffix v_steps v_fault v_hasProgram a_text a_act a_guess a_take a_begin a_finish a_to1 a_one a_two a_what a_ats a_atVar a_atNumber a_atomSort a_atomKind a_atomValue v_wrong v_wrongAt v_variable v_number v_numberKind v_takes a_out v_outed a_varSort a_varKind a_varValue a_creature v_creatures a_arrayClass a_arrayFrom a_arrayLong v_arrays v_cells a_cellSort_51 a_cellKind_51 a_cellValue_51 a_asideSort a_asideKind a_asideValue a_outcome v_marks v_came v_guessed v_right v_taken a_markSort a_markKind a_markClass a_markValue x17 v_kindAt_42 v_value_42 a_index v_reached v_looked) H := hP
  have hD : va_D A (mw cs q v_thrown a_tape v_taped v_size v_to v_kind v_from v_letters v_letterMany v_digits v_isBeyond v_suffix v_steps v_fault v_hasProgram a_text a_act a_guess a_take a_begin a_finish a_to1 a_one a_two a_what a_ats a_atVar a_atNumber a_atomSort a_atomKind a_atomValue v_wrong v_wrongAt v_variable v_number v_numberKind v_takes a_out v_outed a_varSort a_varKind a_varValue a_creature v_creatures a_arrayClass a_arrayFrom a_arrayLong v_arrays v_cells a_cellSort_51 a_cellKind_51 a_cellValue_51 a_asideSort a_asideKind a_asideValue a_outcome v_marks v_came v_guessed v_right v_taken a_markSort a_markKind a_markClass a_markValue x17 v_kindAt_42 v_value_42 a_index v_reached v_looked) := hD
  refine lv_aload_n hx hb dX10_swap_60 rfl (lv_at hl 4 rfl) ?_
  refine lv_iload hx hb dX10_swap_61 (lv_at hl 1 rfl) ?_
  refine va_put (D := D) (ci := 9) (v := .int x25) (ty := .int) (C := RX10) (T := TX10) (N := 71) hx hb hts hin tyX10 tyX10_ok nmX10 hown hK hP hD hS 0 rfl rfl 66 (by decide) k_47_13 (fun _ h9 => h9) rfl (by decide +kernel) rfl rfl (Nat.le_of_ble_eq_true rfl) dX10_swap_63 (fun H locs hP hD hS => ?_)
  have hP : va_P D vwCl (mw cs q v_thrown a_tape v_taped v_size v_to v_kind v_from v_letters v_letterMany v_digits v_isBeyond v_suffix v_steps v_fault v_hasProgram a_text a_act a_guess a_take a_begin a_finish a_to1 a_one a_two a_what a_ats a_atVar a_atNumber a_atomSort a_atomKind a_atomValue v_wrong v_wrongAt v_variable v_number v_numberKind v_takes a_out v_outed a_varSort a_varKind a_varValue a_creature v_creatures a_arrayClass a_arrayFrom a_arrayLong v_arrays v_cells a_cellSort_51 a_cellKind_51 a_cellValue_51 a_asideSort a_asideKind a_asideValue a_outcome v_marks v_came v_guessed v_right v_taken a_markSort a_markKind a_markClass a_markValue x17 x25 v_value_42 a_index v_reached v_looked) H := hP
  have hD : va_D A (mw cs q v_thrown a_tape v_taped v_size v_to v_kind v_from v_letters v_letterMany v_digits v_isBeyond v_suffix v_steps v_fault v_hasProgram a_text a_act a_guess a_take a_begin a_finish a_to1 a_one a_two a_what a_ats a_atVar a_atNumber a_atomSort a_atomKind a_atomValue v_wrong v_wrongAt v_variable v_number v_numberKind v_takes a_out v_outed a_varSort a_varKind a_varValue a_creature v_creatures a_arrayClass a_arrayFrom a_arrayLong v_arrays v_cells a_cellSort_51 a_cellKind_51 a_cellValue_51 a_asideSort a_asideKind a_asideValue a_outcome v_marks v_came v_guessed v_right v_taken a_markSort a_markKind a_markClass a_markValue x17 x25 v_value_42 a_index v_reached v_looked) := hD
  refine lv_aload_n hx hb dX10_swap_66 rfl (lv_at hl 4 rfl) ?_
  refine lv_lload hx hb dX10_swap_67 (lv_at hl 0 rfl) ?_
  refine va_put (D := D) (ci := 9) (v := .long x33) (ty := .long) (C := RX10) (T := TX10) (N := 71) hx hb hts hin tyX10 tyX10_ok nmX10 hown hK hP hD hS 0 rfl rfl 67 (by decide) k_47_14 (fun _ h9 => h9) rfl (by decide +kernel) rfl rfl (Nat.le_of_ble_eq_true rfl) dX10_swap_69 (fun H locs hP hD hS => ?_)
  have hP : va_P D vwCl (mw cs q v_thrown a_tape v_taped v_size v_to v_kind v_from v_letters v_letterMany v_digits v_isBeyond v_suffix v_steps v_fault v_hasProgram a_text a_act a_guess a_take a_begin a_finish a_to1 a_one a_two a_what a_ats a_atVar a_atNumber a_atomSort a_atomKind a_atomValue v_wrong v_wrongAt v_variable v_number v_numberKind v_takes a_out v_outed a_varSort a_varKind a_varValue a_creature v_creatures a_arrayClass a_arrayFrom a_arrayLong v_arrays v_cells a_cellSort_51 a_cellKind_51 a_cellValue_51 a_asideSort a_asideKind a_asideValue a_outcome v_marks v_came v_guessed v_right v_taken a_markSort a_markKind a_markClass a_markValue x17 x25 x33 a_index v_reached v_looked) H := hP
  have hD : va_D A (mw cs q v_thrown a_tape v_taped v_size v_to v_kind v_from v_letters v_letterMany v_digits v_isBeyond v_suffix v_steps v_fault v_hasProgram a_text a_act a_guess a_take a_begin a_finish a_to1 a_one a_two a_what a_ats a_atVar a_atNumber a_atomSort a_atomKind a_atomValue v_wrong v_wrongAt v_variable v_number v_numberKind v_takes a_out v_outed a_varSort a_varKind a_varValue a_creature v_creatures a_arrayClass a_arrayFrom a_arrayLong v_arrays v_cells a_cellSort_51 a_cellKind_51 a_cellValue_51 a_asideSort a_asideKind a_asideValue a_outcome v_marks v_came v_guessed v_right v_taken a_markSort a_markKind a_markClass a_markValue x17 x25 x33 a_index v_reached v_looked) := hD
  refine lv_aload_n hx hb dX10_swap_72 rfl (lv_at hl 4 rfl) ?_
  refine lv_aload_n hx hb dX10_swap_73 rfl (lv_at hl 4 rfl) ?_
  refine va_get (D := D) (ci := 9) (v := .int v_reached) (C := RX10) (T := TX10) (N := 71) hx hb hts hin hown hK hP 0 rfl rfl 69 (by decide) k_48_11 (fun _ h9 => h9) rfl dX10_swap_74 ?_
  refine lv_iload_n hx hb dX10_swap_77 rfl (lv_at hl 6 rfl) ?_
  refine call_v (As := [.int v_reached, .int j9]) (rest := []) ⟨hx, hb, hml, hown, hts⟩ (tX10_toCell (l := l) v_reached j9 (by first | assumption | omega | (intros; omega) | decide) (by first | assumption | omega | (intros; omega) | decide) (by first | assumption | omega | (intros; omega) | decide) (by first | assumption | omega | (intros; omega) | decide) (by first | assumption | omega | (intros; omega) | decide)) (cwV 2 hts (gV (wr50 _ (List.mem_of_getElem? (i := 7) rfl)) (wr50 _ (List.mem_of_getElem? (i := 8) rfl)) (wr50 _ (List.mem_of_getElem? (i := 9) rfl)) (wr1 _ (List.mem_of_getElem? (i := 5) rfl)) (wr50 _ (List.mem_of_getElem? (i := 10) rfl))) rfl rfl rfl (by decide +kernel) ⟨Nat.le_of_ble_eq_true rfl, Nat.le_of_ble_eq_true rfl⟩) (va_recv hK hP (ci := 9) (q0 := 0) rfl rfl) hK hP hD hE hS hA rfl hl.1 rfl (Nat.le_of_ble_eq_true rfl) dX10_swap_78 ⟨Nat.le_of_ble_eq_true rfl, Nat.le_of_ble_eq_true rfl⟩ (fun w9 H locs hw78 hP hD hS => ?_)
  obtain ⟨a_cellSort_78, a_cellKind_78, a_cellValue_78, rfl, hw78_0, hw78_1, hw78_2⟩ := hw78
  subst hAe
  rw [hQ]
  exact W.vret hx hb hr (fun t ht hW => ⟨⟨_, rfl, ⟨a_cellSort_78, a_cellKind_78, a_cellValue_78, x17, x25, x33, rfl, by exact hR.setCell (a := v_reached.toNatClampNeg) (i := j9.toNatClampNeg) (by omega) (by omega) rfl hh1 hh2 hh3 hw78_0 hw78_1 hw78_2⟩, by rw [ht]; exact hP, va_K.moved hW.alike hK, hD⟩, hS.F ht⟩) hS.2.2 dX10_swap_81

def rmX10_turns : Room := { frames := 60, cells := 0, slots := 0, locals := 1200 }
set_option maxHeartbeats 4000000 in
set_option maxRecDepth 100000 in
theorem tX10_turns {l : Launch} {D : va_G} {K : Nat → Nat → Nat} {cs : Nat → ClassId} {q : Nat → Nat} {v_thrown v_taped v_size v_to v_kind v_from v_letterMany v_isBeyond v_suffix v_steps v_fault v_hasProgram v_wrong v_wrongAt v_variable v_numberKind v_takes v_outed v_creatures v_arrays v_cells v_marks v_came v_guessed v_right v_taken v_sort v_kindAt v_reached v_looked : Int32} {a_tape a_text a_act a_guess a_take a_begin a_finish a_to1 a_one a_two a_what a_ats a_atVar a_atNumber a_atomSort a_atomKind a_out a_varSort a_varKind a_creature a_arrayClass a_arrayFrom a_arrayLong a_cellSort a_cellKind a_asideSort a_asideKind a_outcome a_markSort a_markKind a_markClass a_index : Nat → Int32} {v_letters v_digits v_number v_value : Int64} {a_atomValue a_varValue a_cellValue a_asideValue a_markValue : Nat → Int64} (s9 : Int32) (p_0 : RUN a_varSort a_varKind a_varValue v_arrays v_cells v_creatures a_arrayClass a_arrayFrom a_arrayLong a_cellSort a_cellKind a_cellValue) (p_1 : R25 a_one) (p_2 : 0 ≤ s9.toInt) (p_3 : s9.toInt ≤ 201) : CtI l yX10_turns (wG yX10_turns cX10_turns 4 (some .int)) rmX10_turns D (mwT cs) K [.ref (q 0), .int s9] (mw cs q v_thrown a_tape v_taped v_size v_to v_kind v_from v_letters v_letterMany v_digits v_isBeyond v_suffix v_steps v_fault v_hasProgram a_text a_act a_guess a_take a_begin a_finish a_to1 a_one a_two a_what a_ats a_atVar a_atNumber a_atomSort a_atomKind a_atomValue v_wrong v_wrongAt v_variable v_number v_numberKind v_takes a_out v_outed a_varSort a_varKind a_varValue a_creature v_creatures a_arrayClass a_arrayFrom a_arrayLong v_arrays v_cells a_cellSort a_cellKind a_cellValue a_asideSort a_asideKind a_asideValue a_outcome v_marks v_came v_guessed v_right v_taken a_markSort a_markKind a_markClass a_markValue v_sort v_kindAt v_value a_index v_reached v_looked) (fun r w1 => ∃ (a_cellSort' : Nat → Int32) (a_cellKind' : Nat → Int32) (a_cellValue' : Nat → Int64) (v_sort' : Int32) (v_kindAt' : Int32) (v_value' : Int64) (v_reached' : Int32), w1 = (mw cs q v_thrown a_tape v_taped v_size v_to v_kind v_from v_letters v_letterMany v_digits v_isBeyond v_suffix v_steps v_fault v_hasProgram a_text a_act a_guess a_take a_begin a_finish a_to1 a_one a_two a_what a_ats a_atVar a_atNumber a_atomSort a_atomKind a_atomValue v_wrong v_wrongAt v_variable v_number v_numberKind v_takes a_out v_outed a_varSort a_varKind a_varValue a_creature v_creatures a_arrayClass a_arrayFrom a_arrayLong v_arrays v_cells a_cellSort' a_cellKind' a_cellValue' a_asideSort a_asideKind a_asideValue a_outcome v_marks v_came v_guessed v_right v_taken a_markSort a_markKind a_markClass a_markValue v_sort' v_kindAt' v_value' a_index v_reached' v_looked) ∧ (RUN a_varSort a_varKind a_varValue v_arrays v_cells v_creatures a_arrayClass a_arrayFrom a_arrayLong a_cellSort' a_cellKind' a_cellValue') ∧ (0 ≤ r.toInt)) 0 0 := by
  intro sz
  refine Met.ofW (cc := cX10_turns) (maxL := 4) (ret := (some .int)) (by decide) rfl ?_
  intro p e s m args below meth c s₁ B hml hv
  obtain ⟨rfl, hsz, hP, hK, hD0, hE⟩ := hv
  have hx := B.exec
  have hb := B.bytes
  have hr := B.returns
  have hts := atoms_spec (ws := (wG yX10_turns cX10_turns 4 (some .int))) B.pre
  have hown : s.vm.findClass RX10 = some m.cls := findClass_of_methodNamed B.named
  have hlocks := B.notSynchronized
  subst hsz
  have hD := hD0.self (sz := s.heap.size)
  obtain ⟨A, hAe⟩ : ∃ A : Nat → Prop, A = va_A (mw cs q v_thrown a_tape v_taped v_size v_to v_kind v_from v_letters v_letterMany v_digits v_isBeyond v_suffix v_steps v_fault v_hasProgram a_text a_act a_guess a_take a_begin a_finish a_to1 a_one a_two a_what a_ats a_atVar a_atNumber a_atomSort a_atomKind a_atomValue v_wrong v_wrongAt v_variable v_number v_numberKind v_takes a_out v_outed a_varSort a_varKind a_varValue a_creature v_creatures a_arrayClass a_arrayFrom a_arrayLong v_arrays v_cells a_cellSort a_cellKind a_cellValue a_asideSort a_asideKind a_asideValue a_outcome v_marks v_came v_guessed v_right v_taken a_markSort a_markKind a_markClass a_markValue v_sort v_kindAt v_value a_index v_reached v_looked) s.heap.size := ⟨_, rfl⟩
  rw [← hAe] at hD hE
  have hA : ∀ q : Nat, s.heap.size ≤ q → A q := fun q h => by rw [hAe]; exact Or.inr h
  have hS : va_S A s.heap s.heap [] := va_S.rf
  have hl := lv_entry ([.ref (q 0), .int s9]) (n := 4) (Nat.le_of_ble_eq_true rfl)
  rw [lg_entry_eq]
  generalize (lg_sl ([.ref (q 0), .int s9]) ++ List.replicate (4 - (lg_sl ([.ref (q 0), .int s9])).length) Slot.unset).toArray = ls at hl ⊢
  have hl : lv_has ls 4 [(0, .ref (q 0)), (1, .int s9)] := hl
  refine wq (fun Q hQ => ?_)
  have hin : ∀ w ∈ wsX100, w ∈ (wG yX10_turns cX10_turns 4 (some .int)) := fun w h => List.mem_cons_of_mem _ (inlX10 w h)
  have kc0 : (0 : Int32).toInt = 0 := by decide
  have kc1 : (1 : Int32).toInt = 1 := by decide
  have kc2 : (2 : Int32).toInt = 2 := by decide
  have kc3 : (19 : Int32).toInt = 19 := by decide
  have k_5_15 := hts (.fieldLink RX10 34 "ArrayTrainerModel" "one" "[I") (List.mem_cons_of_mem _ (wr5 _ (List.mem_of_getElem? (i := 15) rfl)))
  have k_5_9 := hts (.fieldLink RX10 16 "ArrayTrainerModel" "act" "[I") (List.mem_cons_of_mem _ (wr5 _ (List.mem_of_getElem? (i := 9) rfl)))
  have k_6_7 := hts (.fieldLink RX10 83 "ArrayTrainerModel" "arrayLong" "[I") (List.mem_cons_of_mem _ (wr6 _ (List.mem_of_getElem? (i := 7) rfl)))
  have k_48_11 := hts (.fieldLink RX10 510 "ArrayTrainerModel" "reached" "I") (List.mem_cons_of_mem _ (wr48 _ (List.mem_of_getElem? (i := 11) rfl)))
  have k_6_19 := hts (.fieldLink RX10 119 "ArrayTrainerModel" "index" "[I") (List.mem_cons_of_mem _ (wr6 _ (List.mem_of_getElem? (i := 19) rfl)))
  obtain ⟨H, hH⟩ : ∃ H : Heap, H = s.heap := ⟨_, rfl⟩
  obtain ⟨locs, hlc⟩ : ∃ L : List Loc, L = [] := ⟨_, rfl⟩
  have hP : va_P D vwCl (mw cs q v_thrown a_tape v_taped v_size v_to v_kind v_from v_letters v_letterMany v_digits v_isBeyond v_suffix v_steps v_fault v_hasProgram a_text a_act a_guess a_take a_begin a_finish a_to1 a_one a_two a_what a_ats a_atVar a_atNumber a_atomSort a_atomKind a_atomValue v_wrong v_wrongAt v_variable v_number v_numberKind v_takes a_out v_outed a_varSort a_varKind a_varValue a_creature v_creatures a_arrayClass a_arrayFrom a_arrayLong v_arrays v_cells a_cellSort a_cellKind a_cellValue a_asideSort a_asideKind a_asideValue a_outcome v_marks v_came v_guessed v_right v_taken a_markSort a_markKind a_markClass a_markValue v_sort v_kindAt v_value a_index v_reached v_looked) H := by rw [hH]; exact hP
  have hS : va_S A s.heap H locs := by rw [hH, hlc]; exact hS
  refine wHL hH hlc ?_
  have b_s9 := iB s9
  have hr9 := p_0.1
  have ho9 := p_1 s9.toNatClampNeg
  refine lv_aload_n hx hb dX10_turns_0 rfl (lv_at hl 0 rfl) ?_
  refine lv_aload_n hx hb dX10_turns_1 rfl (lv_at hl 0 rfl) ?_
  refine va_get (D := D) (ci := 9) (v := .ref (q 9)) (C := RX10) (T := TX10) (N := 71) hx hb hts hin hown hK hP 0 rfl rfl 22 (by decide) k_5_15 (fun _ h9 => h9) rfl dX10_turns_2 ?_
  refine lv_iload_n hx hb dX10_turns_5 rfl (lv_at hl 1 rfl) ?_
  refine m_iald hx hb hK hP 9 0 rfl rfl (ix (by omega) (by omega)) dX10_turns_6 (fun x6 e_x6 => ?_)
  have b_x6 := iB x6
  have hx6 := congrArg Int32.toInt e_x6
  refine call_v (As := [.int x6]) (rest := []) ⟨hx, hb, hml, hown, hts⟩ (tX10_ofVar (l := l) x6 (by first | assumption | omega | (intros; omega) | decide) (by first | assumption | omega | (intros; omega) | decide) (by first | assumption | omega | (intros; omega) | decide)) (cwV 1 hts (gV (wr47 _ (List.mem_of_getElem? (i := 15) rfl)) (wr47 _ (List.mem_of_getElem? (i := 16) rfl)) (wr47 _ (List.mem_of_getElem? (i := 17) rfl)) (wr1 _ (List.mem_of_getElem? (i := 5) rfl)) (wr47 _ (List.mem_of_getElem? (i := 18) rfl))) rfl rfl rfl (by decide +kernel) ⟨Nat.le_of_ble_eq_true rfl, Nat.le_of_ble_eq_true rfl⟩) (va_recv hK hP (ci := 9) (q0 := 0) rfl rfl) hK hP hD hE hS hA rfl hl.1 rfl (Nat.le_of_ble_eq_true rfl) dX10_turns_7 ⟨Nat.le_of_ble_eq_true rfl, Nat.le_of_ble_eq_true rfl⟩ (fun w9 H locs hw7 hP hD hS => ?_)
  obtain ⟨v_sort_7, v_kindAt_7, v_value_7, rfl, hw7_0, hw7_1, hw7_2, hw7_3⟩ := hw7
  have b_v_sort_7 := iB v_sort_7
  have b_v_kindAt_7 := iB v_kindAt_7
  have b_v_value_7 := jB v_value_7
  refine lv_aload_n hx hb dX10_turns_10 rfl (lv_at hl 0 rfl) ?_
  refine call_i (As := []) (rest := []) ⟨hx, hb, hml, hown, hts⟩ (tX10_asArray (l := l)  (by first | assumption | omega | (intros; omega) | decide) (by first | assumption | omega | (intros; omega) | decide)) (cwV 0 hts (gV (wr48 _ (List.mem_of_getElem? (i := 16) rfl)) (wr48 _ (List.mem_of_getElem? (i := 17) rfl)) (wr48 _ (List.mem_of_getElem? (i := 18) rfl)) (wr1 _ (List.mem_of_getElem? (i := 5) rfl)) (wr48 _ (List.mem_of_getElem? (i := 19) rfl))) rfl rfl rfl (by decide +kernel) ⟨Nat.le_of_ble_eq_true rfl, Nat.le_of_ble_eq_true rfl⟩) (va_recv hK hP (ci := 9) (q0 := 0) rfl rfl) hK hP hD hE hS hA rfl hl.1 rfl (Nat.le_of_ble_eq_true rfl) dX10_turns_11 ⟨Nat.le_of_ble_eq_true rfl, Nat.le_of_ble_eq_true rfl⟩ (fun r11 w9 H locs hw11 hP hD hS => ?_)
  obtain ⟨v_reached_11, rfl, hw11_0⟩ := hw11
  have b_v_reached_11 := iB v_reached_11
  have b_r11 := iB r11
  refine lv_istore_n (lv' := [(2, .int r11), (0, .ref (q 0)), (1, .int s9)]) hx hb dX10_turns_14 rfl hl (by decide) rfl (fun ls hl => ?_)
  refine lv_iload_n hx hb dX10_turns_15 rfl (lv_at hl 0 rfl) ?_
  refine m_if_le (X := r11.toInt) (tgt := 21) hx hb dX10_turns_16 (by decide) rfl (fun c16 => ?_) (fun c16 => ?_)
  · skip
    refine lv_aload_n hx hb dX10_turns_21 rfl (lv_at hl 1 rfl) ?_
    refine va_get (D := D) (ci := 9) (v := .ref (q 3)) (C := RX10) (T := TX10) (N := 71) hx hb hts hin hown hK hP 0 rfl rfl 16 (by decide) k_5_9 (fun _ h9 => h9) rfl dX10_turns_22 ?_
    refine lv_iload_n hx hb dX10_turns_25 rfl (lv_at hl 2 rfl) ?_
    refine m_iald hx hb hK hP 3 0 rfl rfl (ix (by omega) (by omega)) dX10_turns_26 (fun x26 e_x26 => ?_)
    have b_x26 := iB x26
    refine lv_bipush (v := 19) hx hb dX10_turns_27 (by decide) ?_
    refine m_icmp_ne (X := x26.toInt) (Y := 19) (tgt := 78) hx hb dX10_turns_29 (by decide) rfl (by decide) (fun c29 => ?_) (fun c29 => ?_)
    · skip
      have ta := tn (i := v_reached_11) (by omega)
      obtain ⟨hc9, hf9, hl9, hs9⟩ := p_0.2.1 v_reached_11.toNatClampNeg (by omega)
      refine lv_iconst (v := 0) hx hb dX10_turns_78 (by decide) ?_
      refine lv_istore_n (lv' := [(3, .int 0), (2, .int r11), (0, .ref (q 0)), (1, .int s9)]) hx hb dX10_turns_79 rfl hl (by decide) rfl (fun ls hl => ?_)
      have J80 : ∀ (n80 : Nat) (l3_80 : Int32) (a_cellKind_80 : Nat → Int32) (a_cellSort_80 : Nat → Int32) (a_cellValue_80 : Nat → Int64) (v_kindAt_80 : Int32) (v_sort_80 : Int32) (v_value_80 : Int64) (H : Heap) (locs : List Loc) (ls : Array Slot), (0 ≤ l3_80.toInt) → (l3_80.toInt ≤ 250) → (RUN a_varSort a_varKind a_varValue v_arrays v_cells v_creatures a_arrayClass a_arrayFrom a_arrayLong a_cellSort_80 a_cellKind_80 a_cellValue_80) → (250 - l3_80.toInt < (n80 : Int)) → va_P D vwCl (mw cs q v_thrown a_tape v_taped v_size v_to v_kind v_from v_letters v_letterMany v_digits v_isBeyond v_suffix v_steps v_fault v_hasProgram a_text a_act a_guess a_take a_begin a_finish a_to1 a_one a_two a_what a_ats a_atVar a_atNumber a_atomSort a_atomKind a_atomValue v_wrong v_wrongAt v_variable v_number v_numberKind v_takes a_out v_outed a_varSort a_varKind a_varValue a_creature v_creatures a_arrayClass a_arrayFrom a_arrayLong v_arrays v_cells a_cellSort_80 a_cellKind_80 a_cellValue_80 a_asideSort a_asideKind a_asideValue a_outcome v_marks v_came v_guessed v_right v_taken a_markSort a_markKind a_markClass a_markValue v_sort_80 v_kindAt_80 v_value_80 a_index v_reached_11 v_looked) H → va_D A (mw cs q v_thrown a_tape v_taped v_size v_to v_kind v_from v_letters v_letterMany v_digits v_isBeyond v_suffix v_steps v_fault v_hasProgram a_text a_act a_guess a_take a_begin a_finish a_to1 a_one a_two a_what a_ats a_atVar a_atNumber a_atomSort a_atomKind a_atomValue v_wrong v_wrongAt v_variable v_number v_numberKind v_takes a_out v_outed a_varSort a_varKind a_varValue a_creature v_creatures a_arrayClass a_arrayFrom a_arrayLong v_arrays v_cells a_cellSort_80 a_cellKind_80 a_cellValue_80 a_asideSort a_asideKind a_asideValue a_outcome v_marks v_came v_guessed v_right v_taken a_markSort a_markKind a_markClass a_markValue v_sort_80 v_kindAt_80 v_value_80 a_index v_reached_11 v_looked) → va_S A s.heap H locs → lv_has ls 4 [(0, .ref (q 0)), (3, .int l3_80)] → W p l e (headSpec (wG yX10_turns cX10_turns 4 (some .int)) rmX10_turns).room s m ([.ref (q 0), .int s9] : List Value).toArray below meth c H locs 0 0 Q (F0 m 80 ls []) := by
        intro n80
        induction n80 with
        | zero =>
          intro l3_80 a_cellKind_80 a_cellSort_80 a_cellValue_80 v_kindAt_80 v_sort_80 v_value_80 H locs ls f80_0 f80_1 f80_2 hm80
          exfalso
          omega
        | succ n80 ih80 =>
          intro l3_80 a_cellKind_80 a_cellSort_80 a_cellValue_80 v_kindAt_80 v_sort_80 v_value_80 H locs ls f80_0 f80_1 f80_2 hm80 hP hD hS hl
          refine lv_iload_n hx hb dX10_turns_80 rfl (lv_at hl 1 rfl) ?_
          refine lv_aload_n hx hb dX10_turns_81 rfl (lv_at hl 0 rfl) ?_
          refine va_get (D := D) (ci := 9) (v := .ref (q 25)) (C := RX10) (T := TX10) (N := 71) hx hb hts hin hown hK hP 0 rfl rfl 46 (by decide) k_6_7 (fun _ h9 => h9) rfl dX10_turns_82 ?_
          refine lv_aload_n hx hb dX10_turns_85 rfl (lv_at hl 0 rfl) ?_
          refine va_get (D := D) (ci := 9) (v := .int v_reached_11) (C := RX10) (T := TX10) (N := 71) hx hb hts hin hown hK hP 0 rfl rfl 69 (by decide) k_48_11 (fun _ h9 => h9) rfl dX10_turns_86 ?_
          refine m_iald hx hb hK hP 25 0 rfl rfl (ix (by omega) (by omega)) dX10_turns_89 (fun x89 e_x89 => ?_)
          have b_x89 := iB x89
          have hx89 := congrArg Int32.toInt e_x89
          refine lv_iconst (v := 2) hx hb dX10_turns_90 (by decide) ?_
          refine m_idiv hx hb dX10_turns_91 (by decide) (fun x91 e_x91 => ?_)
          have b_x91 := iB x91
          obtain ⟨k_x91, g_x91⟩ := iDivL (x := x89) (y := (2 : Int32)) (z := x91) (Y := 2) (by decide) (by decide) e_x91
          refine m_icmp_ge (X := l3_80.toInt) (Y := x91.toInt) (tgt := 119) hx hb dX10_turns_92 (by decide) rfl rfl (fun c92 => ?_) (fun c92 => ?_)
          · skip
            refine lv_iconst (v := 0) hx hb dX10_turns_119 (by decide) ?_
            subst hAe
            rw [hQ]
            exact W.iret (v := 0) hx hb hr (fun t ht hW => ⟨⟨0, _, rfl, ⟨a_cellSort_80, a_cellKind_80, a_cellValue_80, v_sort_80, v_kindAt_80, v_value_80, v_reached_11, rfl, by first | assumption | omega | (intros; omega) | decide, by first | assumption | omega | (intros; omega) | decide⟩, by rw [ht]; exact hP, va_K.moved hW.alike hK, hD⟩, hS.F ht⟩) hS.2.2 dX10_turns_120
          · skip
            refine lv_aload_n hx hb dX10_turns_95 rfl (lv_at hl 0 rfl) ?_
            refine lv_iload_n hx hb dX10_turns_96 rfl (lv_at hl 1 rfl) ?_
            refine lv_aload_n hx hb dX10_turns_97 rfl (lv_at hl 0 rfl) ?_
            refine va_get (D := D) (ci := 9) (v := .ref (q 25)) (C := RX10) (T := TX10) (N := 71) hx hb hts hin hown hK hP 0 rfl rfl 46 (by decide) k_6_7 (fun _ h9 => h9) rfl dX10_turns_98 ?_
            refine lv_aload_n hx hb dX10_turns_101 rfl (lv_at hl 0 rfl) ?_
            refine va_get (D := D) (ci := 9) (v := .int v_reached_11) (C := RX10) (T := TX10) (N := 71) hx hb hts hin hown hK hP 0 rfl rfl 69 (by decide) k_48_11 (fun _ h9 => h9) rfl dX10_turns_102 ?_
            refine m_iald hx hb hK hP 25 0 rfl rfl (ix (by omega) (by omega)) dX10_turns_105 (fun x105 e_x105 => ?_)
            have b_x105 := iB x105
            have hx105 := congrArg Int32.toInt e_x105
            refine lv_iconst (v := 1) hx hb dX10_turns_106 (by decide) ?_
            refine m_isub (X := x105.toInt) (Y := 1) hx hb dX10_turns_107 rfl (by decide) (fun x107 e_x107 g9 => ?_)
            obtain ⟨k_x107, g_x107⟩ := g9
            have b_x107 := iB x107
            try (have q_x107 : x107.toInt = x105.toInt - 1 := (by omega); clear g_x107 k_x107)
            refine lv_iload_n hx hb dX10_turns_108 rfl (lv_at hl 1 rfl) ?_
            refine m_isub (X := x107.toInt) (Y := l3_80.toInt) hx hb dX10_turns_109 rfl rfl (fun x109 e_x109 g9 => ?_)
            obtain ⟨k_x109, g_x109⟩ := g9
            have b_x109 := iB x109
            try (have q_x109 : x109.toInt = x107.toInt - l3_80.toInt := (by omega); clear g_x109 k_x109)
            refine call_v (As := [.int l3_80, .int x109]) (rest := []) ⟨hx, hb, hml, hown, hts⟩ (tX10_swap (l := l) l3_80 x109 (by first | assumption | omega | (intros; omega) | decide) (by first | assumption | omega | (intros; omega) | decide) (by first | assumption | omega | (intros; omega) | decide) (by first | assumption | omega | (intros; omega) | decide) (by first | assumption | omega | (intros; omega) | decide) (by first | assumption | omega | (intros; omega) | decide) (by first | assumption | omega | (intros; omega) | decide)) (cwV 2 hts (gV (wr51 _ (List.mem_of_getElem? (i := 22) rfl)) (wr51 _ (List.mem_of_getElem? (i := 23) rfl)) (wr52 _ (List.mem_of_getElem? (i := 0) rfl)) (wr1 _ (List.mem_of_getElem? (i := 5) rfl)) (wr52 _ (List.mem_of_getElem? (i := 1) rfl))) rfl rfl rfl (by decide +kernel) ⟨Nat.le_of_ble_eq_true rfl, Nat.le_of_ble_eq_true rfl⟩) (va_recv hK hP (ci := 9) (q0 := 0) rfl rfl) hK hP hD hE hS hA rfl hl.1 rfl (Nat.le_of_ble_eq_true rfl) dX10_turns_110 ⟨Nat.le_of_ble_eq_true rfl, Nat.le_of_ble_eq_true rfl⟩ (fun w9 H locs hw110 hP hD hS => ?_)
            obtain ⟨a_cellSort_110, a_cellKind_110, a_cellValue_110, v_sort_110, v_kindAt_110, v_value_110, rfl, hw110_0⟩ := hw110
            have b_v_sort_110 := iB v_sort_110
            have b_v_kindAt_110 := iB v_kindAt_110
            have b_v_value_110 := jB v_value_110
            obtain ⟨x113, e_x113⟩ : ∃ z : Int32, z = l3_80 + (1 : Int32) := ⟨_, rfl⟩
            obtain ⟨k_x113, g_x113⟩ : ∃ k : Int, x113.toInt = l3_80.toInt + (1) + k * 4294967296 := by rw [e_x113]; exact iAdd l3_80 (1)
            have b_x113 := iB x113
            try (have q_x113 : x113.toInt = l3_80.toInt + (1) := (by omega); clear g_x113 k_x113)
            refine lv_iinc (v := x113) (lv' := [(3, .int x113), (0, .ref (q 0))]) hx hb dX10_turns_113 hl (k := 1) rfl (by rw [e_x113]; rfl) (by decide) rfl (fun ls hl => ?_)
            refine lv_goto (tgt := 80) hx hb dX10_turns_116 (by decide) ?_
            exact ih80 x113 a_cellKind_110 a_cellSort_110 a_cellValue_110 v_kindAt_110 v_sort_110 v_value_110 H locs ls (by first | assumption | omega | (intros; omega) | decide) (by first | assumption | omega | (intros; omega) | decide) (by first | assumption | omega | (intros; omega) | decide) (by omega) hP hD hS (lv_sub hl [1, 0] rfl)
      exact J80 ((250 - (0 : Int32).toInt).toNat + 1) (0 : Int32) a_cellKind a_cellSort a_cellValue v_kindAt_7 v_sort_7 v_value_7 H locs ls (by first | assumption | omega | (intros; omega) | decide) (by first | assumption | omega | (intros; omega) | decide) (by first | assumption | omega | (intros; omega) | decide) (by omega) hP hD hS (lv_sub hl [2, 0] rfl)
    · skip
      refine lv_aload_n hx hb dX10_turns_32 rfl (lv_at hl 1 rfl) ?_
      refine lv_aload_n hx hb dX10_turns_33 rfl (lv_at hl 1 rfl) ?_
      refine va_get (D := D) (ci := 9) (v := .ref (q 37)) (C := RX10) (T := TX10) (N := 71) hx hb hts hin hown hK hP 0 rfl rfl 68 (by decide) k_6_19 (fun _ h9 => h9) rfl dX10_turns_34 ?_
      refine lv_iconst (v := 0) hx hb dX10_turns_37 (by decide) ?_
      refine m_iald hx hb hK hP 37 0 rfl rfl (ix (by decide) (by decide)) dX10_turns_38 (fun x38 e_x38 => ?_)
      have b_x38 := iB x38
      refine call_i (As := [.int x38]) (rest := []) ⟨hx, hb, hml, hown, hts⟩ (tX10_isCell (l := l) x38 (by first | assumption | omega | (intros; omega) | decide) (by first | assumption | omega | (intros; omega) | decide)) (cwV 1 hts (gV (wr48 _ (List.mem_of_getElem? (i := 20) rfl)) (wr48 _ (List.mem_of_getElem? (i := 21) rfl)) (wr48 _ (List.mem_of_getElem? (i := 22) rfl)) (wr1 _ (List.mem_of_getElem? (i := 5) rfl)) (wr48 _ (List.mem_of_getElem? (i := 23) rfl))) rfl rfl rfl (by decide +kernel) ⟨Nat.le_of_ble_eq_true rfl, Nat.le_of_ble_eq_true rfl⟩) (va_recv hK hP (ci := 9) (q0 := 0) rfl rfl) hK hP hD hE hS hA rfl hl.1 rfl (Nat.le_of_ble_eq_true rfl) dX10_turns_39 ⟨Nat.le_of_ble_eq_true rfl, Nat.le_of_ble_eq_true rfl⟩ (fun r39 w9 H locs hw39 hP hD hS => ?_)
      obtain ⟨rfl, hw39_0⟩ := hw39
      have b_r39 := iB r39
      refine m_if_eq (X := r39.toInt) (tgt := 58) hx hb dX10_turns_42 (by decide) rfl (fun c42 => ?_) (fun c42 => ?_)
      · skip
        refine lv_iconst (v := 2) hx hb dX10_turns_58 (by decide) ?_
        subst hAe
        rw [hQ]
        exact W.iret (v := 2) hx hb hr (fun t ht hW => ⟨⟨2, _, rfl, ⟨a_cellSort, a_cellKind, a_cellValue, v_sort_7, v_kindAt_7, v_value_7, v_reached_11, rfl, by first | assumption | omega | (intros; omega) | decide, by first | assumption | omega | (intros; omega) | decide⟩, by rw [ht]; exact hP, va_K.moved hW.alike hK, hD⟩, hS.F ht⟩) hS.2.2 dX10_turns_59
      · skip
        refine lv_aload_n hx hb dX10_turns_45 rfl (lv_at hl 1 rfl) ?_
        refine lv_aload_n hx hb dX10_turns_46 rfl (lv_at hl 1 rfl) ?_
        refine va_get (D := D) (ci := 9) (v := .ref (q 37)) (C := RX10) (T := TX10) (N := 71) hx hb hts hin hown hK hP 0 rfl rfl 68 (by decide) k_6_19 (fun _ h9 => h9) rfl dX10_turns_47 ?_
        refine lv_iconst (v := 1) hx hb dX10_turns_50 (by decide) ?_
        refine m_iald hx hb hK hP 37 0 rfl rfl (ix (by decide) (by decide)) dX10_turns_51 (fun x51 e_x51 => ?_)
        have b_x51 := iB x51
        refine call_i (As := [.int x51]) (rest := []) ⟨hx, hb, hml, hown, hts⟩ (tX10_isCell (l := l) x51 (by first | assumption | omega | (intros; omega) | decide) (by first | assumption | omega | (intros; omega) | decide)) (cwV 1 hts (gV (wr48 _ (List.mem_of_getElem? (i := 20) rfl)) (wr48 _ (List.mem_of_getElem? (i := 21) rfl)) (wr48 _ (List.mem_of_getElem? (i := 22) rfl)) (wr1 _ (List.mem_of_getElem? (i := 5) rfl)) (wr48 _ (List.mem_of_getElem? (i := 23) rfl))) rfl rfl rfl (by decide +kernel) ⟨Nat.le_of_ble_eq_true rfl, Nat.le_of_ble_eq_true rfl⟩) (va_recv hK hP (ci := 9) (q0 := 0) rfl rfl) hK hP hD hE hS hA rfl hl.1 rfl (Nat.le_of_ble_eq_true rfl) dX10_turns_52 ⟨Nat.le_of_ble_eq_true rfl, Nat.le_of_ble_eq_true rfl⟩ (fun r52 w9 H locs hw52 hP hD hS => ?_)
        obtain ⟨rfl, hw52_0⟩ := hw52
        have b_r52 := iB r52
        refine m_if_ne (X := r52.toInt) (tgt := 60) hx hb dX10_turns_55 (by decide) rfl (fun c55 => ?_) (fun c55 => ?_)
        · skip
          refine lv_aload_n hx hb dX10_turns_60 rfl (lv_at hl 1 rfl) ?_
          refine lv_aload_n hx hb dX10_turns_61 rfl (lv_at hl 1 rfl) ?_
          refine va_get (D := D) (ci := 9) (v := .ref (q 37)) (C := RX10) (T := TX10) (N := 71) hx hb hts hin hown hK hP 0 rfl rfl 68 (by decide) k_6_19 (fun _ h9 => h9) rfl dX10_turns_62 ?_
          refine lv_iconst (v := 0) hx hb dX10_turns_65 (by decide) ?_
          refine m_iald hx hb hK hP 37 0 rfl rfl (ix (by decide) (by decide)) dX10_turns_66 (fun x66 e_x66 => ?_)
          have b_x66 := iB x66
          refine lv_aload_n hx hb dX10_turns_67 rfl (lv_at hl 1 rfl) ?_
          refine va_get (D := D) (ci := 9) (v := .ref (q 37)) (C := RX10) (T := TX10) (N := 71) hx hb hts hin hown hK hP 0 rfl rfl 68 (by decide) k_6_19 (fun _ h9 => h9) rfl dX10_turns_68 ?_
          refine lv_iconst (v := 1) hx hb dX10_turns_71 (by decide) ?_
          refine m_iald hx hb hK hP 37 0 rfl rfl (ix (by decide) (by decide)) dX10_turns_72 (fun x72 e_x72 => ?_)
          have b_x72 := iB x72
          have hx38 := congrArg Int32.toInt e_x38
          have hx51 := congrArg Int32.toInt e_x51
          have hx66 := congrArg Int32.toInt e_x66
          have hx72 := congrArg Int32.toInt e_x72
          refine call_v (As := [.int x66, .int x72]) (rest := []) ⟨hx, hb, hml, hown, hts⟩ (tX10_swap (l := l) x66 x72 (by first | assumption | omega | (intros; omega) | decide) (by first | assumption | omega | (intros; omega) | decide) (by first | assumption | omega | (intros; omega) | decide) (by first | assumption | omega | (intros; omega) | decide) (by first | assumption | omega | (intros; omega) | decide) (by first | assumption | omega | (intros; omega) | decide) (by first | assumption | omega | (intros; omega) | decide)) (cwV 2 hts (gV (wr51 _ (List.mem_of_getElem? (i := 22) rfl)) (wr51 _ (List.mem_of_getElem? (i := 23) rfl)) (wr52 _ (List.mem_of_getElem? (i := 0) rfl)) (wr1 _ (List.mem_of_getElem? (i := 5) rfl)) (wr52 _ (List.mem_of_getElem? (i := 1) rfl))) rfl rfl rfl (by decide +kernel) ⟨Nat.le_of_ble_eq_true rfl, Nat.le_of_ble_eq_true rfl⟩) (va_recv hK hP (ci := 9) (q0 := 0) rfl rfl) hK hP hD hE hS hA rfl hl.1 rfl (Nat.le_of_ble_eq_true rfl) dX10_turns_73 ⟨Nat.le_of_ble_eq_true rfl, Nat.le_of_ble_eq_true rfl⟩ (fun w9 H locs hw73 hP hD hS => ?_)
          obtain ⟨a_cellSort_73, a_cellKind_73, a_cellValue_73, v_sort_73, v_kindAt_73, v_value_73, rfl, hw73_0⟩ := hw73
          have b_v_sort_73 := iB v_sort_73
          have b_v_kindAt_73 := iB v_kindAt_73
          have b_v_value_73 := jB v_value_73
          refine lv_iconst (v := 0) hx hb dX10_turns_76 (by decide) ?_
          subst hAe
          rw [hQ]
          exact W.iret (v := 0) hx hb hr (fun t ht hW => ⟨⟨0, _, rfl, ⟨a_cellSort_73, a_cellKind_73, a_cellValue_73, v_sort_73, v_kindAt_73, v_value_73, v_reached_11, rfl, by first | assumption | omega | (intros; omega) | decide, by first | assumption | omega | (intros; omega) | decide⟩, by rw [ht]; exact hP, va_K.moved hW.alike hK, hD⟩, hS.F ht⟩) hS.2.2 dX10_turns_77
        · skip
          refine lv_iconst (v := 2) hx hb dX10_turns_58 (by decide) ?_
          subst hAe
          rw [hQ]
          exact W.iret (v := 2) hx hb hr (fun t ht hW => ⟨⟨2, _, rfl, ⟨a_cellSort, a_cellKind, a_cellValue, v_sort_7, v_kindAt_7, v_value_7, v_reached_11, rfl, by first | assumption | omega | (intros; omega) | decide, by first | assumption | omega | (intros; omega) | decide⟩, by rw [ht]; exact hP, va_K.moved hW.alike hK, hD⟩, hS.F ht⟩) hS.2.2 dX10_turns_59
  · skip
    refine lv_iload_n hx hb dX10_turns_19 rfl (lv_at hl 0 rfl) ?_
    subst hAe
    rw [hQ]
    exact W.iret (v := r11) hx hb hr (fun t ht hW => ⟨⟨r11, _, rfl, ⟨a_cellSort, a_cellKind, a_cellValue, v_sort_7, v_kindAt_7, v_value_7, v_reached_11, rfl, by first | assumption | omega | (intros; omega) | decide, by first | assumption | omega | (intros; omega) | decide⟩, by rw [ht]; exact hP, va_K.moved hW.alike hK, hD⟩, hS.F ht⟩) hS.2.2 dX10_turns_20

def rmX10_fills : Room := { frames := 100, cells := 0, slots := 0, locals := 2000 }
set_option maxHeartbeats 4000000 in
set_option maxRecDepth 100000 in
theorem tX10_fills {l : Launch} {D : va_G} {K : Nat → Nat → Nat} {cs : Nat → ClassId} {q : Nat → Nat} {v_thrown v_taped v_size v_to v_kind v_from v_letterMany v_isBeyond v_suffix v_steps v_fault v_hasProgram v_wrong v_wrongAt v_variable v_numberKind v_takes v_outed v_creatures v_arrays v_cells v_marks v_came v_guessed v_right v_taken v_sort v_kindAt v_reached v_looked : Int32} {a_tape a_text a_act a_guess a_take a_begin a_finish a_to1 a_one a_two a_what a_ats a_atVar a_atNumber a_atomSort a_atomKind a_out a_varSort a_varKind a_creature a_arrayClass a_arrayFrom a_arrayLong a_cellSort a_cellKind a_asideSort a_asideKind a_outcome a_markSort a_markKind a_markClass a_index : Nat → Int32} {v_letters v_digits v_number v_value : Int64} {a_atomValue a_varValue a_cellValue a_asideValue a_markValue : Nat → Int64} (s9 : Int32) (p_0 : ATM a_atomSort a_atomKind a_atomValue) (p_1 : RUN a_varSort a_varKind a_varValue v_arrays v_cells v_creatures a_arrayClass a_arrayFrom a_arrayLong a_cellSort a_cellKind a_cellValue) (p_2 : R25 a_one) (p_3 : 0 ≤ s9.toInt) (p_4 : s9.toInt ≤ 201) (p_5 : v_creatures.toInt ≤ 99) : CtI l yX10_fills (wG yX10_fills cX10_fills 8 (some .int)) rmX10_fills D (mwT cs) K [.ref (q 0), .int s9] (mw cs q v_thrown a_tape v_taped v_size v_to v_kind v_from v_letters v_letterMany v_digits v_isBeyond v_suffix v_steps v_fault v_hasProgram a_text a_act a_guess a_take a_begin a_finish a_to1 a_one a_two a_what a_ats a_atVar a_atNumber a_atomSort a_atomKind a_atomValue v_wrong v_wrongAt v_variable v_number v_numberKind v_takes a_out v_outed a_varSort a_varKind a_varValue a_creature v_creatures a_arrayClass a_arrayFrom a_arrayLong v_arrays v_cells a_cellSort a_cellKind a_cellValue a_asideSort a_asideKind a_asideValue a_outcome v_marks v_came v_guessed v_right v_taken a_markSort a_markKind a_markClass a_markValue v_sort v_kindAt v_value a_index v_reached v_looked) (fun r w1 => ∃ (a_creature' : Nat → Int32) (v_creatures' : Int32) (a_cellSort' : Nat → Int32) (a_cellKind' : Nat → Int32) (a_cellValue' : Nat → Int64) (v_sort' : Int32) (v_kindAt' : Int32) (v_value' : Int64) (v_reached' : Int32), w1 = (mw cs q v_thrown a_tape v_taped v_size v_to v_kind v_from v_letters v_letterMany v_digits v_isBeyond v_suffix v_steps v_fault v_hasProgram a_text a_act a_guess a_take a_begin a_finish a_to1 a_one a_two a_what a_ats a_atVar a_atNumber a_atomSort a_atomKind a_atomValue v_wrong v_wrongAt v_variable v_number v_numberKind v_takes a_out v_outed a_varSort a_varKind a_varValue a_creature' v_creatures' a_arrayClass a_arrayFrom a_arrayLong v_arrays v_cells a_cellSort' a_cellKind' a_cellValue' a_asideSort a_asideKind a_asideValue a_outcome v_marks v_came v_guessed v_right v_taken a_markSort a_markKind a_markClass a_markValue v_sort' v_kindAt' v_value' a_index v_reached' v_looked) ∧ (RUN a_varSort a_varKind a_varValue v_arrays v_cells v_creatures' a_arrayClass a_arrayFrom a_arrayLong a_cellSort' a_cellKind' a_cellValue') ∧ (0 ≤ r.toInt) ∧ (v_creatures.toInt ≤ v_creatures'.toInt) ∧ (v_creatures'.toInt ≤ v_creatures.toInt + 1)) 0 0 := by
  intro sz
  refine Met.ofW (cc := cX10_fills) (maxL := 8) (ret := (some .int)) (by decide) rfl ?_
  intro p e s m args below meth c s₁ B hml hv
  obtain ⟨rfl, hsz, hP, hK, hD0, hE⟩ := hv
  have hx := B.exec
  have hb := B.bytes
  have hr := B.returns
  have hts := atoms_spec (ws := (wG yX10_fills cX10_fills 8 (some .int))) B.pre
  have hown : s.vm.findClass RX10 = some m.cls := findClass_of_methodNamed B.named
  have hlocks := B.notSynchronized
  subst hsz
  have hD := hD0.self (sz := s.heap.size)
  obtain ⟨A, hAe⟩ : ∃ A : Nat → Prop, A = va_A (mw cs q v_thrown a_tape v_taped v_size v_to v_kind v_from v_letters v_letterMany v_digits v_isBeyond v_suffix v_steps v_fault v_hasProgram a_text a_act a_guess a_take a_begin a_finish a_to1 a_one a_two a_what a_ats a_atVar a_atNumber a_atomSort a_atomKind a_atomValue v_wrong v_wrongAt v_variable v_number v_numberKind v_takes a_out v_outed a_varSort a_varKind a_varValue a_creature v_creatures a_arrayClass a_arrayFrom a_arrayLong v_arrays v_cells a_cellSort a_cellKind a_cellValue a_asideSort a_asideKind a_asideValue a_outcome v_marks v_came v_guessed v_right v_taken a_markSort a_markKind a_markClass a_markValue v_sort v_kindAt v_value a_index v_reached v_looked) s.heap.size := ⟨_, rfl⟩
  rw [← hAe] at hD hE
  have hA : ∀ q : Nat, s.heap.size ≤ q → A q := fun q h => by rw [hAe]; exact Or.inr h
  have hS : va_S A s.heap s.heap [] := va_S.rf
  have hl := lv_entry ([.ref (q 0), .int s9]) (n := 8) (Nat.le_of_ble_eq_true rfl)
  rw [lg_entry_eq]
  generalize (lg_sl ([.ref (q 0), .int s9]) ++ List.replicate (8 - (lg_sl ([.ref (q 0), .int s9])).length) Slot.unset).toArray = ls at hl ⊢
  have hl : lv_has ls 8 [(0, .ref (q 0)), (1, .int s9)] := hl
  refine wq (fun Q hQ => ?_)
  have hin : ∀ w ∈ wsX100, w ∈ (wG yX10_fills cX10_fills 8 (some .int)) := fun w h => List.mem_cons_of_mem _ (inlX10 w h)
  have kc0 : (0 : Int32).toInt = 0 := by decide
  have kc1 : (1 : Int32).toInt = 1 := by decide
  have k_47_12 := hts (.fieldLink RX10 493 "ArrayTrainerModel" "sort" "I") (List.mem_cons_of_mem _ (wr47 _ (List.mem_of_getElem? (i := 12) rfl)))
  have k_47_13 := hts (.fieldLink RX10 496 "ArrayTrainerModel" "kindAt" "I") (List.mem_cons_of_mem _ (wr47 _ (List.mem_of_getElem? (i := 13) rfl)))
  have k_47_14 := hts (.fieldLink RX10 499 "ArrayTrainerModel" "value" "J") (List.mem_cons_of_mem _ (wr47 _ (List.mem_of_getElem? (i := 14) rfl)))
  have k_5_15 := hts (.fieldLink RX10 34 "ArrayTrainerModel" "one" "[I") (List.mem_cons_of_mem _ (wr5 _ (List.mem_of_getElem? (i := 15) rfl)))
  have k_6_7 := hts (.fieldLink RX10 83 "ArrayTrainerModel" "arrayLong" "[I") (List.mem_cons_of_mem _ (wr6 _ (List.mem_of_getElem? (i := 7) rfl)))
  have k_48_11 := hts (.fieldLink RX10 510 "ArrayTrainerModel" "reached" "I") (List.mem_cons_of_mem _ (wr48 _ (List.mem_of_getElem? (i := 11) rfl)))
  have k_6_5 := hts (.fieldLink RX10 77 "ArrayTrainerModel" "arrayClass" "[I") (List.mem_cons_of_mem _ (wr6 _ (List.mem_of_getElem? (i := 5) rfl)))
  obtain ⟨H, hH⟩ : ∃ H : Heap, H = s.heap := ⟨_, rfl⟩
  obtain ⟨locs, hlc⟩ : ∃ L : List Loc, L = [] := ⟨_, rfl⟩
  have hP : va_P D vwCl (mw cs q v_thrown a_tape v_taped v_size v_to v_kind v_from v_letters v_letterMany v_digits v_isBeyond v_suffix v_steps v_fault v_hasProgram a_text a_act a_guess a_take a_begin a_finish a_to1 a_one a_two a_what a_ats a_atVar a_atNumber a_atomSort a_atomKind a_atomValue v_wrong v_wrongAt v_variable v_number v_numberKind v_takes a_out v_outed a_varSort a_varKind a_varValue a_creature v_creatures a_arrayClass a_arrayFrom a_arrayLong v_arrays v_cells a_cellSort a_cellKind a_cellValue a_asideSort a_asideKind a_asideValue a_outcome v_marks v_came v_guessed v_right v_taken a_markSort a_markKind a_markClass a_markValue v_sort v_kindAt v_value a_index v_reached v_looked) H := by rw [hH]; exact hP
  have hS : va_S A s.heap H locs := by rw [hH, hlc]; exact hS
  refine wHL hH hlc ?_
  have b_s9 := iB s9
  have hr9 := p_1.1
  have ho9 := p_2 s9.toNatClampNeg
  refine lv_aload_n hx hb dX10_fills_0 rfl (lv_at hl 0 rfl) ?_
  refine lv_iload_n hx hb dX10_fills_1 rfl (lv_at hl 1 rfl) ?_
  refine call_v (As := [.int s9]) (rest := []) ⟨hx, hb, hml, hown, hts⟩ (tX10_atom (l := l) s9 (by first | assumption | omega | (intros; omega) | decide) (by first | assumption | omega | (intros; omega) | decide) (by first | assumption | omega | (intros; omega) | decide) (by first | assumption | omega | (intros; omega) | decide) (by first | assumption | omega | (intros; omega) | decide)) (cwV 1 hts (gV (wr47 _ (List.mem_of_getElem? (i := 8) rfl)) (wr47 _ (List.mem_of_getElem? (i := 9) rfl)) (wr47 _ (List.mem_of_getElem? (i := 10) rfl)) (wr1 _ (List.mem_of_getElem? (i := 5) rfl)) (wr47 _ (List.mem_of_getElem? (i := 11) rfl))) rfl rfl rfl (by decide +kernel) ⟨Nat.le_of_ble_eq_true rfl, Nat.le_of_ble_eq_true rfl⟩) (va_recv hK hP (ci := 9) (q0 := 0) rfl rfl) hK hP hD hE hS hA rfl hl.1 rfl (Nat.le_of_ble_eq_true rfl) dX10_fills_2 ⟨Nat.le_of_ble_eq_true rfl, Nat.le_of_ble_eq_true rfl⟩ (fun w9 H locs hw2 hP hD hS => ?_)
  obtain ⟨a_creature_2, v_creatures_2, v_sort_2, v_kindAt_2, v_value_2, rfl, hw2_0, hw2_1, hw2_2, hw2_3⟩ := hw2
  have b_v_creatures_2 := iB v_creatures_2
  have b_v_sort_2 := iB v_sort_2
  have b_v_kindAt_2 := iB v_kindAt_2
  have b_v_value_2 := jB v_value_2
  have hr2 := hw2_0.1
  refine lv_aload_n hx hb dX10_fills_5 rfl (lv_at hl 0 rfl) ?_
  refine va_get (D := D) (ci := 9) (v := .int v_sort_2) (C := RX10) (T := TX10) (N := 71) hx hb hts hin hown hK hP 0 rfl rfl 65 (by decide) k_47_12 (fun _ h9 => h9) rfl dX10_fills_6 ?_
  refine lv_istore_n (lv' := [(2, .int v_sort_2), (0, .ref (q 0)), (1, .int s9)]) hx hb dX10_fills_9 rfl hl (by decide) rfl (fun ls hl => ?_)
  refine lv_aload_n hx hb dX10_fills_10 rfl (lv_at hl 1 rfl) ?_
  refine va_get (D := D) (ci := 9) (v := .int v_kindAt_2) (C := RX10) (T := TX10) (N := 71) hx hb hts hin hown hK hP 0 rfl rfl 66 (by decide) k_47_13 (fun _ h9 => h9) rfl dX10_fills_11 ?_
  refine lv_istore_n (lv' := [(3, .int v_kindAt_2), (2, .int v_sort_2), (0, .ref (q 0)), (1, .int s9)]) hx hb dX10_fills_14 rfl hl (by decide) rfl (fun ls hl => ?_)
  refine lv_aload_n hx hb dX10_fills_15 rfl (lv_at hl 2 rfl) ?_
  refine va_get (D := D) (ci := 9) (v := .long v_value_2) (C := RX10) (T := TX10) (N := 71) hx hb hts hin hown hK hP 0 rfl rfl 67 (by decide) k_47_14 (fun _ h9 => h9) rfl dX10_fills_16 ?_
  refine lv_lstore (lv' := [(4, .long v_value_2), (3, .int v_kindAt_2), (2, .int v_sort_2), (0, .ref (q 0)), (1, .int s9)]) hx hb dX10_fills_19 hl (by decide) rfl (fun ls hl => ?_)
  refine lv_aload_n hx hb dX10_fills_21 rfl (lv_at hl 3 rfl) ?_
  refine lv_aload_n hx hb dX10_fills_22 rfl (lv_at hl 3 rfl) ?_
  refine va_get (D := D) (ci := 9) (v := .ref (q 9)) (C := RX10) (T := TX10) (N := 71) hx hb hts hin hown hK hP 0 rfl rfl 22 (by decide) k_5_15 (fun _ h9 => h9) rfl dX10_fills_23 ?_
  refine lv_iload_n hx hb dX10_fills_26 rfl (lv_at hl 4 rfl) ?_
  refine m_iald hx hb hK hP 9 0 rfl rfl (ix (by omega) (by omega)) dX10_fills_27 (fun x27 e_x27 => ?_)
  have b_x27 := iB x27
  have hx27 := congrArg Int32.toInt e_x27
  refine call_v (As := [.int x27]) (rest := []) ⟨hx, hb, hml, hown, hts⟩ (tX10_ofVar (l := l) x27 (by first | assumption | omega | (intros; omega) | decide) (by first | assumption | omega | (intros; omega) | decide) (by first | assumption | omega | (intros; omega) | decide)) (cwV 1 hts (gV (wr47 _ (List.mem_of_getElem? (i := 15) rfl)) (wr47 _ (List.mem_of_getElem? (i := 16) rfl)) (wr47 _ (List.mem_of_getElem? (i := 17) rfl)) (wr1 _ (List.mem_of_getElem? (i := 5) rfl)) (wr47 _ (List.mem_of_getElem? (i := 18) rfl))) rfl rfl rfl (by decide +kernel) ⟨Nat.le_of_ble_eq_true rfl, Nat.le_of_ble_eq_true rfl⟩) (va_recv hK hP (ci := 9) (q0 := 0) rfl rfl) hK hP hD hE hS hA rfl hl.1 rfl (Nat.le_of_ble_eq_true rfl) dX10_fills_28 ⟨Nat.le_of_ble_eq_true rfl, Nat.le_of_ble_eq_true rfl⟩ (fun w9 H locs hw28 hP hD hS => ?_)
  obtain ⟨v_sort_28, v_kindAt_28, v_value_28, rfl, hw28_0, hw28_1, hw28_2, hw28_3⟩ := hw28
  have b_v_sort_28 := iB v_sort_28
  have b_v_kindAt_28 := iB v_kindAt_28
  have b_v_value_28 := jB v_value_28
  refine lv_aload_n hx hb dX10_fills_31 rfl (lv_at hl 3 rfl) ?_
  refine call_i (As := []) (rest := []) ⟨hx, hb, hml, hown, hts⟩ (tX10_asArray (l := l)  (by first | assumption | omega | (intros; omega) | decide) (by first | assumption | omega | (intros; omega) | decide)) (cwV 0 hts (gV (wr48 _ (List.mem_of_getElem? (i := 16) rfl)) (wr48 _ (List.mem_of_getElem? (i := 17) rfl)) (wr48 _ (List.mem_of_getElem? (i := 18) rfl)) (wr1 _ (List.mem_of_getElem? (i := 5) rfl)) (wr48 _ (List.mem_of_getElem? (i := 19) rfl))) rfl rfl rfl (by decide +kernel) ⟨Nat.le_of_ble_eq_true rfl, Nat.le_of_ble_eq_true rfl⟩) (va_recv hK hP (ci := 9) (q0 := 0) rfl rfl) hK hP hD hE hS hA rfl hl.1 rfl (Nat.le_of_ble_eq_true rfl) dX10_fills_32 ⟨Nat.le_of_ble_eq_true rfl, Nat.le_of_ble_eq_true rfl⟩ (fun r32 w9 H locs hw32 hP hD hS => ?_)
  obtain ⟨v_reached_32, rfl, hw32_0⟩ := hw32
  have b_v_reached_32 := iB v_reached_32
  have b_r32 := iB r32
  refine lv_istore (lv' := [(6, .int r32), (4, .long v_value_2), (3, .int v_kindAt_2), (2, .int v_sort_2), (0, .ref (q 0)), (1, .int s9)]) hx hb dX10_fills_35 hl (by decide) rfl (fun ls hl => ?_)
  refine lv_iconst (v := 0) hx hb dX10_fills_37 (by decide) ?_
  refine lv_istore (lv' := [(7, .int 0), (6, .int r32), (4, .long v_value_2), (3, .int v_kindAt_2), (2, .int v_sort_2), (0, .ref (q 0)), (1, .int s9)]) hx hb dX10_fills_38 hl (by decide) rfl (fun ls hl => ?_)
  have J40 : ∀ (n40 : Nat) (l6_40 : Int32) (l7_40 : Int32) (a_cellKind_40 : Nat → Int32) (a_cellSort_40 : Nat → Int32) (a_cellValue_40 : Nat → Int64) (v_kindAt_40 : Int32) (v_sort_40 : Int32) (v_value_40 : Int64) (H : Heap) (locs : List Loc) (ls : Array Slot), (0 ≤ l7_40.toInt) → (l7_40.toInt ≤ 500) → (0 ≤ l6_40.toInt) → (l6_40.toInt = 0 → (0 ≤ v_reached_32.toInt ∧ v_reached_32.toInt < v_arrays.toInt)) → (RUN a_varSort a_varKind a_varValue v_arrays v_cells v_creatures_2 a_arrayClass a_arrayFrom a_arrayLong a_cellSort_40 a_cellKind_40 a_cellValue_40) → (501 - l7_40.toInt < (n40 : Int)) → va_P D vwCl (mw cs q v_thrown a_tape v_taped v_size v_to v_kind v_from v_letters v_letterMany v_digits v_isBeyond v_suffix v_steps v_fault v_hasProgram a_text a_act a_guess a_take a_begin a_finish a_to1 a_one a_two a_what a_ats a_atVar a_atNumber a_atomSort a_atomKind a_atomValue v_wrong v_wrongAt v_variable v_number v_numberKind v_takes a_out v_outed a_varSort a_varKind a_varValue a_creature_2 v_creatures_2 a_arrayClass a_arrayFrom a_arrayLong v_arrays v_cells a_cellSort_40 a_cellKind_40 a_cellValue_40 a_asideSort a_asideKind a_asideValue a_outcome v_marks v_came v_guessed v_right v_taken a_markSort a_markKind a_markClass a_markValue v_sort_40 v_kindAt_40 v_value_40 a_index v_reached_32 v_looked) H → va_D A (mw cs q v_thrown a_tape v_taped v_size v_to v_kind v_from v_letters v_letterMany v_digits v_isBeyond v_suffix v_steps v_fault v_hasProgram a_text a_act a_guess a_take a_begin a_finish a_to1 a_one a_two a_what a_ats a_atVar a_atNumber a_atomSort a_atomKind a_atomValue v_wrong v_wrongAt v_variable v_number v_numberKind v_takes a_out v_outed a_varSort a_varKind a_varValue a_creature_2 v_creatures_2 a_arrayClass a_arrayFrom a_arrayLong v_arrays v_cells a_cellSort_40 a_cellKind_40 a_cellValue_40 a_asideSort a_asideKind a_asideValue a_outcome v_marks v_came v_guessed v_right v_taken a_markSort a_markKind a_markClass a_markValue v_sort_40 v_kindAt_40 v_value_40 a_index v_reached_32 v_looked) → va_S A s.heap H locs → lv_has ls 8 [(0, .ref (q 0)), (2, .int v_sort_2), (3, .int v_kindAt_2), (4, .long v_value_2), (6, .int l6_40), (7, .int l7_40)] → W p l e (headSpec (wG yX10_fills cX10_fills 8 (some .int)) rmX10_fills).room s m ([.ref (q 0), .int s9] : List Value).toArray below meth c H locs 0 0 Q (F0 m 40 ls []) := by
    intro n40
    induction n40 with
    | zero =>
      intro l6_40 l7_40 a_cellKind_40 a_cellSort_40 a_cellValue_40 v_kindAt_40 v_sort_40 v_value_40 H locs ls f40_0 f40_1 f40_2 f40_3 f40_4 hm40
      exfalso
      omega
    | succ n40 ih40 =>
      intro l6_40 l7_40 a_cellKind_40 a_cellSort_40 a_cellValue_40 v_kindAt_40 v_sort_40 v_value_40 H locs ls f40_0 f40_1 f40_2 f40_3 f40_4 hm40 hP hD hS hl
      refine lv_iload hx hb dX10_fills_40 (lv_at hl 4 rfl) ?_
      refine m_if_ne (X := l6_40.toInt) (tgt := 112) hx hb dX10_fills_42 (by decide) rfl (fun c42 => ?_) (fun c42 => ?_)
      · skip
        refine lv_iload hx hb dX10_fills_112 (lv_at hl 4 rfl) ?_
        subst hAe
        rw [hQ]
        exact W.iret (v := l6_40) hx hb hr (fun t ht hW => ⟨⟨l6_40, _, rfl, ⟨a_creature_2, v_creatures_2, a_cellSort_40, a_cellKind_40, a_cellValue_40, v_sort_40, v_kindAt_40, v_value_40, v_reached_32, rfl, by first | assumption | omega | (intros; omega) | decide, by first | assumption | omega | (intros; omega) | decide, by first | assumption | omega | (intros; omega) | decide, by first | assumption | omega | (intros; omega) | decide⟩, by rw [ht]; exact hP, va_K.moved hW.alike hK, hD⟩, hS.F ht⟩) hS.2.2 dX10_fills_114
      · skip
        have hq := f40_3 (by omega)
        have ta := tn (i := v_reached_32) (by omega)
        obtain ⟨hc9, hf9, hl9, hs9⟩ := hw2_0.2.1 v_reached_32.toNatClampNeg (by omega)
        refine lv_iload hx hb dX10_fills_45 (lv_at hl 5 rfl) ?_
        refine lv_aload_n hx hb dX10_fills_47 rfl (lv_at hl 0 rfl) ?_
        refine va_get (D := D) (ci := 9) (v := .ref (q 25)) (C := RX10) (T := TX10) (N := 71) hx hb hts hin hown hK hP 0 rfl rfl 46 (by decide) k_6_7 (fun _ h9 => h9) rfl dX10_fills_48 ?_
        refine lv_aload_n hx hb dX10_fills_51 rfl (lv_at hl 0 rfl) ?_
        refine va_get (D := D) (ci := 9) (v := .int v_reached_32) (C := RX10) (T := TX10) (N := 71) hx hb hts hin hown hK hP 0 rfl rfl 69 (by decide) k_48_11 (fun _ h9 => h9) rfl dX10_fills_52 ?_
        refine m_iald hx hb hK hP 25 0 rfl rfl (ix (by omega) (by omega)) dX10_fills_55 (fun x55 e_x55 => ?_)
        have b_x55 := iB x55
        have hx55 := congrArg Int32.toInt e_x55
        refine m_icmp_ge (X := l7_40.toInt) (Y := x55.toInt) (tgt := 112) hx hb dX10_fills_56 (by decide) rfl rfl (fun c56 => ?_) (fun c56 => ?_)
        · skip
          refine lv_iload hx hb dX10_fills_112 (lv_at hl 4 rfl) ?_
          subst hAe
          rw [hQ]
          exact W.iret (v := l6_40) hx hb hr (fun t ht hW => ⟨⟨l6_40, _, rfl, ⟨a_creature_2, v_creatures_2, a_cellSort_40, a_cellKind_40, a_cellValue_40, v_sort_40, v_kindAt_40, v_value_40, v_reached_32, rfl, by first | assumption | omega | (intros; omega) | decide, by first | assumption | omega | (intros; omega) | decide, by first | assumption | omega | (intros; omega) | decide, by first | assumption | omega | (intros; omega) | decide⟩, by rw [ht]; exact hP, va_K.moved hW.alike hK, hD⟩, hS.F ht⟩) hS.2.2 dX10_fills_114
        · skip
          refine lv_aload_n hx hb dX10_fills_59 rfl (lv_at hl 0 rfl) ?_
          refine lv_iload_n hx hb dX10_fills_60 rfl (lv_at hl 1 rfl) ?_
          refine va_put (D := D) (ci := 9) (v := .int v_sort_2) (ty := .int) (C := RX10) (T := TX10) (N := 71) hx hb hts hin tyX10 tyX10_ok nmX10 hown hK hP hD hS 0 rfl rfl 65 (by decide) k_47_12 (fun _ h9 => h9) rfl (by decide +kernel) rfl rfl (Nat.le_of_ble_eq_true rfl) dX10_fills_61 (fun H locs hP hD hS => ?_)
          have hP : va_P D vwCl (mw cs q v_thrown a_tape v_taped v_size v_to v_kind v_from v_letters v_letterMany v_digits v_isBeyond v_suffix v_steps v_fault v_hasProgram a_text a_act a_guess a_take a_begin a_finish a_to1 a_one a_two a_what a_ats a_atVar a_atNumber a_atomSort a_atomKind a_atomValue v_wrong v_wrongAt v_variable v_number v_numberKind v_takes a_out v_outed a_varSort a_varKind a_varValue a_creature_2 v_creatures_2 a_arrayClass a_arrayFrom a_arrayLong v_arrays v_cells a_cellSort_40 a_cellKind_40 a_cellValue_40 a_asideSort a_asideKind a_asideValue a_outcome v_marks v_came v_guessed v_right v_taken a_markSort a_markKind a_markClass a_markValue v_sort_2 v_kindAt_40 v_value_40 a_index v_reached_32 v_looked) H := hP
          have hD : va_D A (mw cs q v_thrown a_tape v_taped v_size v_to v_kind v_from v_letters v_letterMany v_digits v_isBeyond v_suffix v_steps v_fault v_hasProgram a_text a_act a_guess a_take a_begin a_finish a_to1 a_one a_two a_what a_ats a_atVar a_atNumber a_atomSort a_atomKind a_atomValue v_wrong v_wrongAt v_variable v_number v_numberKind v_takes a_out v_outed a_varSort a_varKind a_varValue a_creature_2 v_creatures_2 a_arrayClass a_arrayFrom a_arrayLong v_arrays v_cells a_cellSort_40 a_cellKind_40 a_cellValue_40 a_asideSort a_asideKind a_asideValue a_outcome v_marks v_came v_guessed v_right v_taken a_markSort a_markKind a_markClass a_markValue v_sort_2 v_kindAt_40 v_value_40 a_index v_reached_32 v_looked) := hD
          refine lv_aload_n hx hb dX10_fills_64 rfl (lv_at hl 0 rfl) ?_
          refine lv_iload_n hx hb dX10_fills_65 rfl (lv_at hl 2 rfl) ?_
          refine va_put (D := D) (ci := 9) (v := .int v_kindAt_2) (ty := .int) (C := RX10) (T := TX10) (N := 71) hx hb hts hin tyX10 tyX10_ok nmX10 hown hK hP hD hS 0 rfl rfl 66 (by decide) k_47_13 (fun _ h9 => h9) rfl (by decide +kernel) rfl rfl (Nat.le_of_ble_eq_true rfl) dX10_fills_66 (fun H locs hP hD hS => ?_)
          have hP : va_P D vwCl (mw cs q v_thrown a_tape v_taped v_size v_to v_kind v_from v_letters v_letterMany v_digits v_isBeyond v_suffix v_steps v_fault v_hasProgram a_text a_act a_guess a_take a_begin a_finish a_to1 a_one a_two a_what a_ats a_atVar a_atNumber a_atomSort a_atomKind a_atomValue v_wrong v_wrongAt v_variable v_number v_numberKind v_takes a_out v_outed a_varSort a_varKind a_varValue a_creature_2 v_creatures_2 a_arrayClass a_arrayFrom a_arrayLong v_arrays v_cells a_cellSort_40 a_cellKind_40 a_cellValue_40 a_asideSort a_asideKind a_asideValue a_outcome v_marks v_came v_guessed v_right v_taken a_markSort a_markKind a_markClass a_markValue v_sort_2 v_kindAt_2 v_value_40 a_index v_reached_32 v_looked) H := hP
          have hD : va_D A (mw cs q v_thrown a_tape v_taped v_size v_to v_kind v_from v_letters v_letterMany v_digits v_isBeyond v_suffix v_steps v_fault v_hasProgram a_text a_act a_guess a_take a_begin a_finish a_to1 a_one a_two a_what a_ats a_atVar a_atNumber a_atomSort a_atomKind a_atomValue v_wrong v_wrongAt v_variable v_number v_numberKind v_takes a_out v_outed a_varSort a_varKind a_varValue a_creature_2 v_creatures_2 a_arrayClass a_arrayFrom a_arrayLong v_arrays v_cells a_cellSort_40 a_cellKind_40 a_cellValue_40 a_asideSort a_asideKind a_asideValue a_outcome v_marks v_came v_guessed v_right v_taken a_markSort a_markKind a_markClass a_markValue v_sort_2 v_kindAt_2 v_value_40 a_index v_reached_32 v_looked) := hD
          refine lv_aload_n hx hb dX10_fills_69 rfl (lv_at hl 0 rfl) ?_
          refine lv_lload hx hb dX10_fills_70 (lv_at hl 3 rfl) ?_
          refine va_put (D := D) (ci := 9) (v := .long v_value_2) (ty := .long) (C := RX10) (T := TX10) (N := 71) hx hb hts hin tyX10 tyX10_ok nmX10 hown hK hP hD hS 0 rfl rfl 67 (by decide) k_47_14 (fun _ h9 => h9) rfl (by decide +kernel) rfl rfl (Nat.le_of_ble_eq_true rfl) dX10_fills_72 (fun H locs hP hD hS => ?_)
          have hP : va_P D vwCl (mw cs q v_thrown a_tape v_taped v_size v_to v_kind v_from v_letters v_letterMany v_digits v_isBeyond v_suffix v_steps v_fault v_hasProgram a_text a_act a_guess a_take a_begin a_finish a_to1 a_one a_two a_what a_ats a_atVar a_atNumber a_atomSort a_atomKind a_atomValue v_wrong v_wrongAt v_variable v_number v_numberKind v_takes a_out v_outed a_varSort a_varKind a_varValue a_creature_2 v_creatures_2 a_arrayClass a_arrayFrom a_arrayLong v_arrays v_cells a_cellSort_40 a_cellKind_40 a_cellValue_40 a_asideSort a_asideKind a_asideValue a_outcome v_marks v_came v_guessed v_right v_taken a_markSort a_markKind a_markClass a_markValue v_sort_2 v_kindAt_2 v_value_2 a_index v_reached_32 v_looked) H := hP
          have hD : va_D A (mw cs q v_thrown a_tape v_taped v_size v_to v_kind v_from v_letters v_letterMany v_digits v_isBeyond v_suffix v_steps v_fault v_hasProgram a_text a_act a_guess a_take a_begin a_finish a_to1 a_one a_two a_what a_ats a_atVar a_atNumber a_atomSort a_atomKind a_atomValue v_wrong v_wrongAt v_variable v_number v_numberKind v_takes a_out v_outed a_varSort a_varKind a_varValue a_creature_2 v_creatures_2 a_arrayClass a_arrayFrom a_arrayLong v_arrays v_cells a_cellSort_40 a_cellKind_40 a_cellValue_40 a_asideSort a_asideKind a_asideValue a_outcome v_marks v_came v_guessed v_right v_taken a_markSort a_markKind a_markClass a_markValue v_sort_2 v_kindAt_2 v_value_2 a_index v_reached_32 v_looked) := hD
          refine lv_aload_n hx hb dX10_fills_75 rfl (lv_at hl 0 rfl) ?_
          refine lv_aload_n hx hb dX10_fills_76 rfl (lv_at hl 0 rfl) ?_
          refine va_get (D := D) (ci := 9) (v := .ref (q 23)) (C := RX10) (T := TX10) (N := 71) hx hb hts hin hown hK hP 0 rfl rfl 44 (by decide) k_6_5 (fun _ h9 => h9) rfl dX10_fills_77 ?_
          refine lv_aload_n hx hb dX10_fills_80 rfl (lv_at hl 0 rfl) ?_
          refine va_get (D := D) (ci := 9) (v := .int v_reached_32) (C := RX10) (T := TX10) (N := 71) hx hb hts hin hown hK hP 0 rfl rfl 69 (by decide) k_48_11 (fun _ h9 => h9) rfl dX10_fills_81 ?_
          refine m_iald hx hb hK hP 23 0 rfl rfl (ix (by omega) (by omega)) dX10_fills_84 (fun x84 e_x84 => ?_)
          have b_x84 := iB x84
          have hx84 := congrArg Int32.toInt e_x84
          refine lv_iconst (v := 1) hx hb dX10_fills_85 (by decide) ?_
          refine call_i (As := [.int x84, .int 1]) (rest := []) ⟨hx, hb, hml, hown, hts⟩ (tX10_mayStore (l := l) x84 (1 : Int32) (by first | assumption | omega | (intros; omega) | decide) (by first | assumption | omega | (intros; omega) | decide) (by first | assumption | omega | (intros; omega) | decide) (by first | assumption | omega | (intros; omega) | decide)) (cwV 2 hts (gV (wr49 _ (List.mem_of_getElem? (i := 14) rfl)) (wr49 _ (List.mem_of_getElem? (i := 15) rfl)) (wr49 _ (List.mem_of_getElem? (i := 16) rfl)) (wr1 _ (List.mem_of_getElem? (i := 5) rfl)) (wr49 _ (List.mem_of_getElem? (i := 17) rfl))) rfl rfl rfl (by decide +kernel) ⟨Nat.le_of_ble_eq_true rfl, Nat.le_of_ble_eq_true rfl⟩) (va_recv hK hP (ci := 9) (q0 := 0) rfl rfl) hK hP hD hE hS hA rfl hl.1 rfl (Nat.le_of_ble_eq_true rfl) dX10_fills_86 ⟨Nat.le_of_ble_eq_true rfl, Nat.le_of_ble_eq_true rfl⟩ (fun r86 w9 H locs hw86 hP hD hS => ?_)
          obtain ⟨v_kindAt_86, v_value_86, rfl, hw86_0, hw86_1, hw86_2⟩ := hw86
          have b_v_kindAt_86 := iB v_kindAt_86
          have b_v_value_86 := jB v_value_86
          have b_r86 := iB r86
          refine lv_istore (lv' := [(6, .int r86), (0, .ref (q 0)), (2, .int v_sort_2), (3, .int v_kindAt_2), (4, .long v_value_2), (7, .int l7_40)]) hx hb dX10_fills_89 hl (by decide) rfl (fun ls hl => ?_)
          refine lv_iload hx hb dX10_fills_91 (lv_at hl 0 rfl) ?_
          have J106 : ∀ (a_cellKind_106 : Nat → Int32) (a_cellSort_106 : Nat → Int32) (a_cellValue_106 : Nat → Int64) (H : Heap) (locs : List Loc) (ls : Array Slot), (RUN a_varSort a_varKind a_varValue v_arrays v_cells v_creatures_2 a_arrayClass a_arrayFrom a_arrayLong a_cellSort_106 a_cellKind_106 a_cellValue_106) → va_P D vwCl (mw cs q v_thrown a_tape v_taped v_size v_to v_kind v_from v_letters v_letterMany v_digits v_isBeyond v_suffix v_steps v_fault v_hasProgram a_text a_act a_guess a_take a_begin a_finish a_to1 a_one a_two a_what a_ats a_atVar a_atNumber a_atomSort a_atomKind a_atomValue v_wrong v_wrongAt v_variable v_number v_numberKind v_takes a_out v_outed a_varSort a_varKind a_varValue a_creature_2 v_creatures_2 a_arrayClass a_arrayFrom a_arrayLong v_arrays v_cells a_cellSort_106 a_cellKind_106 a_cellValue_106 a_asideSort a_asideKind a_asideValue a_outcome v_marks v_came v_guessed v_right v_taken a_markSort a_markKind a_markClass a_markValue v_sort_2 v_kindAt_86 v_value_86 a_index v_reached_32 v_looked) H → va_D A (mw cs q v_thrown a_tape v_taped v_size v_to v_kind v_from v_letters v_letterMany v_digits v_isBeyond v_suffix v_steps v_fault v_hasProgram a_text a_act a_guess a_take a_begin a_finish a_to1 a_one a_two a_what a_ats a_atVar a_atNumber a_atomSort a_atomKind a_atomValue v_wrong v_wrongAt v_variable v_number v_numberKind v_takes a_out v_outed a_varSort a_varKind a_varValue a_creature_2 v_creatures_2 a_arrayClass a_arrayFrom a_arrayLong v_arrays v_cells a_cellSort_106 a_cellKind_106 a_cellValue_106 a_asideSort a_asideKind a_asideValue a_outcome v_marks v_came v_guessed v_right v_taken a_markSort a_markKind a_markClass a_markValue v_sort_2 v_kindAt_86 v_value_86 a_index v_reached_32 v_looked) → va_S A s.heap H locs → lv_has ls 8 [(0, .ref (q 0)), (2, .int v_sort_2), (3, .int v_kindAt_2), (4, .long v_value_2), (6, .int r86), (7, .int l7_40)] → W p l e (headSpec (wG yX10_fills cX10_fills 8 (some .int)) rmX10_fills).room s m ([.ref (q 0), .int s9] : List Value).toArray below meth c H locs 0 0 Q (F0 m 106 ls []) := by
            intro a_cellKind_106 a_cellSort_106 a_cellValue_106 H locs ls f106_0 hP hD hS hl
            obtain ⟨x106, e_x106⟩ : ∃ z : Int32, z = l7_40 + (1 : Int32) := ⟨_, rfl⟩
            obtain ⟨k_x106, g_x106⟩ : ∃ k : Int, x106.toInt = l7_40.toInt + (1) + k * 4294967296 := by rw [e_x106]; exact iAdd l7_40 (1)
            have b_x106 := iB x106
            try (have q_x106 : x106.toInt = l7_40.toInt + (1) := (by omega); clear g_x106 k_x106)
            refine lv_iinc (v := x106) (lv' := [(7, .int x106), (0, .ref (q 0)), (2, .int v_sort_2), (3, .int v_kindAt_2), (4, .long v_value_2), (6, .int r86)]) hx hb dX10_fills_106 hl (k := 5) rfl (by rw [e_x106]; rfl) (by decide) rfl (fun ls hl => ?_)
            refine lv_goto (tgt := 40) hx hb dX10_fills_109 (by decide) ?_
            exact ih40 r86 x106 a_cellKind_106 a_cellSort_106 a_cellValue_106 v_kindAt_86 v_sort_2 v_value_86 H locs ls (by first | assumption | omega | (intros; omega) | decide) (by first | assumption | omega | (intros; omega) | decide) (by first | assumption | omega | (intros; omega) | decide) (by first | assumption | omega | (intros; omega) | decide) (by first | assumption | omega | (intros; omega) | decide) (by omega) hP hD hS (lv_sub hl [1, 2, 3, 4, 5, 0] rfl)
          refine m_if_ne (X := r86.toInt) (tgt := 106) hx hb dX10_fills_93 (by decide) rfl (fun c93 => ?_) (fun c93 => ?_)
          · skip
            exact J106 a_cellKind_40 a_cellSort_40 a_cellValue_40 H locs ls (by first | assumption | exact f40_4.setCell (a := v_reached_32.toNatClampNeg) (i := l7_40.toNatClampNeg) (by omega) (by omega) rfl hw86_0 (fun q => by have z := (hw86_2.resolve_left (fun q => by omega)).2.1 q; rw [← e_x84]; exact z) (fun q => by have z := (hw86_2.resolve_left (fun q => by omega)).2.2; rw [← e_x84] at q; exact z q) hw103_0 hw103_1 hw103_2) hP hD hS (lv_sub hl [1, 2, 3, 4, 0, 5] rfl)
          · skip
            have t7 := tn (i := l7_40) (by omega)
            refine lv_aload_n hx hb dX10_fills_96 rfl (lv_at hl 1 rfl) ?_
            refine lv_aload_n hx hb dX10_fills_97 rfl (lv_at hl 1 rfl) ?_
            refine va_get (D := D) (ci := 9) (v := .int v_reached_32) (C := RX10) (T := TX10) (N := 71) hx hb hts hin hown hK hP 0 rfl rfl 69 (by decide) k_48_11 (fun _ h9 => h9) rfl dX10_fills_98 ?_
            refine lv_iload hx hb dX10_fills_101 (lv_at hl 5 rfl) ?_
            refine call_v (As := [.int v_reached_32, .int l7_40]) (rest := []) ⟨hx, hb, hml, hown, hts⟩ (tX10_toCell (l := l) v_reached_32 l7_40 (by first | assumption | omega | (intros; omega) | decide) (by first | assumption | omega | (intros; omega) | decide) (by first | assumption | omega | (intros; omega) | decide) (by first | assumption | omega | (intros; omega) | decide) (by first | assumption | omega | (intros; omega) | decide)) (cwV 2 hts (gV (wr50 _ (List.mem_of_getElem? (i := 7) rfl)) (wr50 _ (List.mem_of_getElem? (i := 8) rfl)) (wr50 _ (List.mem_of_getElem? (i := 9) rfl)) (wr1 _ (List.mem_of_getElem? (i := 5) rfl)) (wr50 _ (List.mem_of_getElem? (i := 10) rfl))) rfl rfl rfl (by decide +kernel) ⟨Nat.le_of_ble_eq_true rfl, Nat.le_of_ble_eq_true rfl⟩) (va_recv hK hP (ci := 9) (q0 := 0) rfl rfl) hK hP hD hE hS hA rfl hl.1 rfl (Nat.le_of_ble_eq_true rfl) dX10_fills_103 ⟨Nat.le_of_ble_eq_true rfl, Nat.le_of_ble_eq_true rfl⟩ (fun w9 H locs hw103 hP hD hS => ?_)
            obtain ⟨a_cellSort_103, a_cellKind_103, a_cellValue_103, rfl, hw103_0, hw103_1, hw103_2⟩ := hw103
            exact J106 a_cellKind_103 a_cellSort_103 a_cellValue_103 H locs ls (by first | assumption | exact f40_4.setCell (a := v_reached_32.toNatClampNeg) (i := l7_40.toNatClampNeg) (by omega) (by omega) rfl hw86_0 (fun q => by have z := (hw86_2.resolve_left (fun q => by omega)).2.1 q; rw [← e_x84]; exact z) (fun q => by have z := (hw86_2.resolve_left (fun q => by omega)).2.2; rw [← e_x84] at q; exact z q) hw103_0 hw103_1 hw103_2) hP hD hS (lv_sub hl [1, 2, 3, 4, 0, 5] rfl)
  exact J40 ((501 - (0 : Int32).toInt).toNat + 1) r32 (0 : Int32) a_cellKind a_cellSort a_cellValue v_kindAt_28 v_sort_28 v_value_28 H locs ls (by first | assumption | omega | (intros; omega) | decide) (by first | assumption | omega | (intros; omega) | decide) (by first | assumption | omega | (intros; omega) | decide) (by first | assumption | omega | (intros; omega) | decide) (by first | assumption | omega | (intros; omega) | decide) (by omega) hP hD hS (lv_sub hl [5, 4, 3, 2, 1, 0] rfl)
