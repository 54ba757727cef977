def rmX10_come : Room := { frames := 20, cells := 0, slots := 0, locals := 400 }
set_option maxHeartbeats 4000000 in
set_option maxRecDepth 100000 in
theorem tX10_come {l : Launch} {D : va_G} {K : Nat → Nat → Nat} {cs : Nat → ClassId} {q : Nat → Nat} {v_thrown v_taped v_size v_to v_kind v_from v_letterMany v_isBeyond v_suffix v_steps v_fault v_hasProgram v_wrong v_wrongAt v_variable v_numberKind v_takes v_outed v_creatures v_arrays v_cells v_marks v_came v_guessed v_right v_taken v_sort v_kindAt v_reached v_looked : Int32} {a_tape a_text a_act a_guess a_take a_begin a_finish a_to1 a_one a_two a_what a_ats a_atVar a_atNumber a_atomSort a_atomKind a_out a_varSort a_varKind a_creature a_arrayClass a_arrayFrom a_arrayLong a_cellSort a_cellKind a_asideSort a_asideKind a_outcome a_markSort a_markKind a_markClass a_index : Nat → Int32} {v_letters v_digits v_number v_value : Int64} {a_atomValue a_varValue a_cellValue a_asideValue a_markValue : Nat → Int64} (w : Int32) (p_0 : 0 ≤ v_taped.toInt) (p_1 : v_taped.toInt ≤ 3096) : CtV l yX10_come (wG yX10_come cX10_come 3 none) rmX10_come D (mwT cs) K [.ref (q 0), .int w] (mw cs q v_thrown a_tape v_taped v_size v_to v_kind v_from v_letters v_letterMany v_digits v_isBeyond v_suffix v_steps v_fault v_hasProgram a_text a_act a_guess a_take a_begin a_finish a_to1 a_one a_two a_what a_ats a_atVar a_atNumber a_atomSort a_atomKind a_atomValue v_wrong v_wrongAt v_variable v_number v_numberKind v_takes a_out v_outed a_varSort a_varKind a_varValue a_creature v_creatures a_arrayClass a_arrayFrom a_arrayLong v_arrays v_cells a_cellSort a_cellKind a_cellValue a_asideSort a_asideKind a_asideValue a_outcome v_marks v_came v_guessed v_right v_taken a_markSort a_markKind a_markClass a_markValue v_sort v_kindAt v_value a_index v_reached v_looked) (fun w1 => ∃ (a_tape' : Nat → Int32) (v_taped' : Int32), w1 = (mw cs q v_thrown a_tape' v_taped' v_size v_to v_kind v_from v_letters v_letterMany v_digits v_isBeyond v_suffix v_steps v_fault v_hasProgram a_text a_act a_guess a_take a_begin a_finish a_to1 a_one a_two a_what a_ats a_atVar a_atNumber a_atomSort a_atomKind a_atomValue v_wrong v_wrongAt v_variable v_number v_numberKind v_takes a_out v_outed a_varSort a_varKind a_varValue a_creature v_creatures a_arrayClass a_arrayFrom a_arrayLong v_arrays v_cells a_cellSort a_cellKind a_cellValue a_asideSort a_asideKind a_asideValue a_outcome v_marks v_came v_guessed v_right v_taken a_markSort a_markKind a_markClass a_markValue v_sort v_kindAt v_value a_index v_reached v_looked) ∧ (v_taped'.toInt = v_taped.toInt + 4)) 0 0 := by
  intro sz
  refine Met.ofW (cc := cX10_come) (maxL := 3) (ret := none) (by decide) rfl ?_
  intro p e s m args below meth c s₁ B hml hv
  obtain ⟨rfl, hsz, hP, hK, hD0, hE⟩ := hv
  have hx := B.exec
  have hb := B.bytes
  have hr := B.returns
  have hts := atoms_spec (ws := (wG yX10_come cX10_come 3 none)) B.pre
  have hown : s.vm.findClass RX10 = some m.cls := findClass_of_methodNamed B.named
  have hlocks := B.notSynchronized
  subst hsz
  have hD := hD0.self (sz := s.heap.size)
  obtain ⟨A, hAe⟩ : ∃ A : Nat → Prop, A = va_A (mw cs q v_thrown a_tape v_taped v_size v_to v_kind v_from v_letters v_letterMany v_digits v_isBeyond v_suffix v_steps v_fault v_hasProgram a_text a_act a_guess a_take a_begin a_finish a_to1 a_one a_two a_what a_ats a_atVar a_atNumber a_atomSort a_atomKind a_atomValue v_wrong v_wrongAt v_variable v_number v_numberKind v_takes a_out v_outed a_varSort a_varKind a_varValue a_creature v_creatures a_arrayClass a_arrayFrom a_arrayLong v_arrays v_cells a_cellSort a_cellKind a_cellValue a_asideSort a_asideKind a_asideValue a_outcome v_marks v_came v_guessed v_right v_taken a_markSort a_markKind a_markClass a_markValue v_sort v_kindAt v_value a_index v_reached v_looked) s.heap.size := ⟨_, rfl⟩
  rw [← hAe] at hD hE
  have hA : ∀ q : Nat, s.heap.size ≤ q → A q := fun q h => by rw [hAe]; exact Or.inr h
  have hS : va_S A s.heap s.heap [] := va_S.rf
  have hl := lv_entry ([.ref (q 0), .int w]) (n := 3) (Nat.le_of_ble_eq_true rfl)
  rw [lg_entry_eq]
  generalize (lg_sl ([.ref (q 0), .int w]) ++ List.replicate (3 - (lg_sl ([.ref (q 0), .int w])).length) Slot.unset).toArray = ls at hl ⊢
  have hl : lv_has ls 3 [(0, .ref (q 0)), (1, .int w)] := hl
  refine wq (fun Q hQ => ?_)
  have hin : ∀ w ∈ wsX100, w ∈ (wG yX10_come cX10_come 3 none) := fun w h => List.mem_cons_of_mem _ (inlX10 w h)
  have kc0 : (1 : Int32).toInt = 1 := by decide
  have kc1 : (24 : Int32).toInt = 24 := by decide
  have kc2 : (255 : Int32).toInt = 255 := by decide
  have k_5_7 := hts (.fieldLink RX10 9 "ArrayTrainerModel" "tape" "[I") (List.mem_cons_of_mem _ (wr5 _ (List.mem_of_getElem? (i := 7) rfl)))
  have k_7_10 := hts (.fieldLink RX10 126 "ArrayTrainerModel" "taped" "I") (List.mem_cons_of_mem _ (wr7 _ (List.mem_of_getElem? (i := 10) rfl)))
  obtain ⟨H, hH⟩ : ∃ H : Heap, H = s.heap := ⟨_, rfl⟩
  obtain ⟨locs, hlc⟩ : ∃ L : List Loc, L = [] := ⟨_, rfl⟩
  have hP : va_P D vwCl (mw cs q v_thrown a_tape v_taped v_size v_to v_kind v_from v_letters v_letterMany v_digits v_isBeyond v_suffix v_steps v_fault v_hasProgram a_text a_act a_guess a_take a_begin a_finish a_to1 a_one a_two a_what a_ats a_atVar a_atNumber a_atomSort a_atomKind a_atomValue v_wrong v_wrongAt v_variable v_number v_numberKind v_takes a_out v_outed a_varSort a_varKind a_varValue a_creature v_creatures a_arrayClass a_arrayFrom a_arrayLong v_arrays v_cells a_cellSort a_cellKind a_cellValue a_asideSort a_asideKind a_asideValue a_outcome v_marks v_came v_guessed v_right v_taken a_markSort a_markKind a_markClass a_markValue v_sort v_kindAt v_value a_index v_reached v_looked) H := by rw [hH]; exact hP
  have hS : va_S A s.heap H locs := by rw [hH, hlc]; exact hS
  refine wHL hH hlc ?_
  have b_w := iB w
  refine lv_bipush (v := 24) hx hb dX10_come_0 (by decide) ?_
  refine lv_istore_n (lv' := [(2, .int 24), (0, .ref (q 0)), (1, .int w)]) hx hb dX10_come_2 rfl hl (by decide) rfl (fun ls hl => ?_)
  have J3 : ∀ (n3 : Nat) (l2_3 : Int32) (a_tape_3 : Nat → Int32) (v_taped_3 : Int32) (H : Heap) (locs : List Loc) (ls : Array Slot), (-8 ≤ l2_3.toInt) → (l2_3.toInt ≤ 24) → (0 ≤ v_taped_3.toInt) → (4 * (v_taped_3.toInt - v_taped.toInt) ≤ 24 - l2_3.toInt) → ((v_taped_3.toInt - v_taped.toInt) * 8 = 24 - l2_3.toInt) → (l2_3.toInt + 8 < (n3 : Int)) → va_P D vwCl (mw cs q v_thrown a_tape_3 v_taped_3 v_size v_to v_kind v_from v_letters v_letterMany v_digits v_isBeyond v_suffix v_steps v_fault v_hasProgram a_text a_act a_guess a_take a_begin a_finish a_to1 a_one a_two a_what a_ats a_atVar a_atNumber a_atomSort a_atomKind a_atomValue v_wrong v_wrongAt v_variable v_number v_numberKind v_takes a_out v_outed a_varSort a_varKind a_varValue a_creature v_creatures a_arrayClass a_arrayFrom a_arrayLong v_arrays v_cells a_cellSort a_cellKind a_cellValue a_asideSort a_asideKind a_asideValue a_outcome v_marks v_came v_guessed v_right v_taken a_markSort a_markKind a_markClass a_markValue v_sort v_kindAt v_value a_index v_reached v_looked) H → va_D A (mw cs q v_thrown a_tape_3 v_taped_3 v_size v_to v_kind v_from v_letters v_letterMany v_digits v_isBeyond v_suffix v_steps v_fault v_hasProgram a_text a_act a_guess a_take a_begin a_finish a_to1 a_one a_two a_what a_ats a_atVar a_atNumber a_atomSort a_atomKind a_atomValue v_wrong v_wrongAt v_variable v_number v_numberKind v_takes a_out v_outed a_varSort a_varKind a_varValue a_creature v_creatures a_arrayClass a_arrayFrom a_arrayLong v_arrays v_cells a_cellSort a_cellKind a_cellValue a_asideSort a_asideKind a_asideValue a_outcome v_marks v_came v_guessed v_right v_taken a_markSort a_markKind a_markClass a_markValue v_sort v_kindAt v_value a_index v_reached v_looked) → va_S A s.heap H locs → lv_has ls 3 [(0, .ref (q 0)), (1, .int w), (2, .int l2_3)] → W p l e (headSpec (wG yX10_come cX10_come 3 none) rmX10_come).room s m ([.ref (q 0), .int w] : List Value).toArray below meth c H locs 0 0 Q (F0 m 3 ls []) := by
    intro n3
    induction n3 with
    | zero =>
      intro l2_3 a_tape_3 v_taped_3 H locs ls f3_0 f3_1 f3_2 f3_3 f3_4 hm3
      exfalso
      omega
    | succ n3 ih3 =>
      intro l2_3 a_tape_3 v_taped_3 H locs ls f3_0 f3_1 f3_2 f3_3 f3_4 hm3 hP hD hS hl
      refine lv_iload_n hx hb dX10_come_3 rfl (lv_at hl 2 rfl) ?_
      refine m_if_lt (X := l2_3.toInt) (tgt := 39) hx hb dX10_come_4 (by decide) rfl (fun c4 => ?_) (fun c4 => ?_)
      · skip
        subst hAe
        rw [hQ]
        exact W.vret hx hb hr (fun t ht hW => ⟨⟨_, rfl, ⟨a_tape_3, v_taped_3, rfl, by first | assumption | omega | (intros; omega) | decide⟩, by rw [ht]; exact hP, va_K.moved hW.alike hK, hD⟩, hS.F ht⟩) hS.2.2 dX10_come_39
      · skip
        refine lv_aload_n hx hb dX10_come_7 rfl (lv_at hl 0 rfl) ?_
        refine va_get (D := D) (ci := 9) (v := .ref (q 1)) (C := RX10) (T := TX10) (N := 71) hx hb hts hin hown hK hP 0 rfl rfl 1 (by decide) k_5_7 (fun _ h9 => h9) rfl dX10_come_8 ?_
        refine lv_aload_n hx hb dX10_come_11 rfl (lv_at hl 0 rfl) ?_
        refine va_get (D := D) (ci := 9) (v := .int v_taped_3) (C := RX10) (T := TX10) (N := 71) hx hb hts hin hown hK hP 0 rfl rfl 2 (by decide) k_7_10 (fun _ h9 => h9) rfl dX10_come_12 ?_
        refine lv_iload_n hx hb dX10_come_15 rfl (lv_at hl 1 rfl) ?_
        refine lv_iload_n hx hb dX10_come_16 rfl (lv_at hl 2 rfl) ?_
        refine m_iushr hx hb dX10_come_17 (fun x17 e_x17 => ?_)
        have b_x17 := iB x17
        refine lv_sipush (v := 255) hx hb dX10_come_18 (by decide) ?_
        refine m_iand hx hb dX10_come_21 (fun x21 e_x21 => ?_)
        have b_x21 := iB x21
        refine va_iast hx hb hK hP hD hS 1 0 rfl rfl (ix (by omega) (by omega)) dX10_come_22 (fun H locs hP hD hS => ?_)
        obtain ⟨a_tape_22, e_a_tape_22⟩ : ∃ g, g = upd a_tape_3 v_taped_3.toNatClampNeg x21 := ⟨_, rfl⟩
        have hP : va_P D vwCl (mw cs q v_thrown a_tape_22 v_taped_3 v_size v_to v_kind v_from v_letters v_letterMany v_digits v_isBeyond v_suffix v_steps v_fault v_hasProgram a_text a_act a_guess a_take a_begin a_finish a_to1 a_one a_two a_what a_ats a_atVar a_atNumber a_atomSort a_atomKind a_atomValue v_wrong v_wrongAt v_variable v_number v_numberKind v_takes a_out v_outed a_varSort a_varKind a_varValue a_creature v_creatures a_arrayClass a_arrayFrom a_arrayLong v_arrays v_cells a_cellSort a_cellKind a_cellValue a_asideSort a_asideKind a_asideValue a_outcome v_marks v_came v_guessed v_right v_taken a_markSort a_markKind a_markClass a_markValue v_sort v_kindAt v_value a_index v_reached v_looked) H := by rw [e_a_tape_22]; exact hP
        have hD : va_D A (mw cs q v_thrown a_tape_22 v_taped_3 v_size v_to v_kind v_from v_letters v_letterMany v_digits v_isBeyond v_suffix v_steps v_fault v_hasProgram a_text a_act a_guess a_take a_begin a_finish a_to1 a_one a_two a_what a_ats a_atVar a_atNumber a_atomSort a_atomKind a_atomValue v_wrong v_wrongAt v_variable v_number v_numberKind v_takes a_out v_outed a_varSort a_varKind a_varValue a_creature v_creatures a_arrayClass a_arrayFrom a_arrayLong v_arrays v_cells a_cellSort a_cellKind a_cellValue a_asideSort a_asideKind a_asideValue a_outcome v_marks v_came v_guessed v_right v_taken a_markSort a_markKind a_markClass a_markValue v_sort v_kindAt v_value a_index v_reached v_looked) := by rw [e_a_tape_22]; exact hD
        refine lv_aload_n hx hb dX10_come_23 rfl (lv_at hl 0 rfl) ?_
        refine lv_dup hx hb dX10_come_24 rfl ?_
        refine va_get (D := D) (ci := 9) (v := .int v_taped_3) (C := RX10) (T := TX10) (N := 71) hx hb hts hin hown hK hP 0 rfl rfl 2 (by decide) k_7_10 (fun _ h9 => h9) rfl dX10_come_25 ?_
        refine lv_iconst (v := 1) hx hb dX10_come_28 (by decide) ?_
        refine m_iadd (X := v_taped_3.toInt) (Y := 1) hx hb dX10_come_29 rfl (by decide) (fun x29 e_x29 g9 => ?_)
        obtain ⟨k_x29, g_x29⟩ := g9
        have b_x29 := iB x29
        try (have q_x29 : x29.toInt = v_taped_3.toInt + 1 := (by omega); clear g_x29 k_x29)
        refine va_put (D := D) (ci := 9) (v := .int x29) (ty := .int) (C := RX10) (T := TX10) (N := 71) hx hb hts hin tyX10 tyX10_ok nmX10 hown hK hP hD hS 0 rfl rfl 2 (by decide) k_7_10 (fun _ h9 => h9) rfl (by decide +kernel) rfl rfl (Nat.le_of_ble_eq_true rfl) dX10_come_30 (fun H locs hP hD hS => ?_)
        have hP : va_P D vwCl (mw cs q v_thrown a_tape_22 x29 v_size v_to v_kind v_from v_letters v_letterMany v_digits v_isBeyond v_suffix v_steps v_fault v_hasProgram a_text a_act a_guess a_take a_begin a_finish a_to1 a_one a_two a_what a_ats a_atVar a_atNumber a_atomSort a_atomKind a_atomValue v_wrong v_wrongAt v_variable v_number v_numberKind v_takes a_out v_outed a_varSort a_varKind a_varValue a_creature v_creatures a_arrayClass a_arrayFrom a_arrayLong v_arrays v_cells a_cellSort a_cellKind a_cellValue a_asideSort a_asideKind a_asideValue a_outcome v_marks v_came v_guessed v_right v_taken a_markSort a_markKind a_markClass a_markValue v_sort v_kindAt v_value a_index v_reached v_looked) H := hP
        have hD : va_D A (mw cs q v_thrown a_tape_22 x29 v_size v_to v_kind v_from v_letters v_letterMany v_digits v_isBeyond v_suffix v_steps v_fault v_hasProgram a_text a_act a_guess a_take a_begin a_finish a_to1 a_one a_two a_what a_ats a_atVar a_atNumber a_atomSort a_atomKind a_atomValue v_wrong v_wrongAt v_variable v_number v_numberKind v_takes a_out v_outed a_varSort a_varKind a_varValue a_creature v_creatures a_arrayClass a_arrayFrom a_arrayLong v_arrays v_cells a_cellSort a_cellKind a_cellValue a_asideSort a_asideKind a_asideValue a_outcome v_marks v_came v_guessed v_right v_taken a_markSort a_markKind a_markClass a_markValue v_sort v_kindAt v_value a_index v_reached v_looked) := hD
        obtain ⟨x33, e_x33⟩ : ∃ z : Int32, z = l2_3 + (-8 : Int32) := ⟨_, rfl⟩
        obtain ⟨k_x33, g_x33⟩ : ∃ k : Int, x33.toInt = l2_3.toInt + (-8) + k * 4294967296 := by rw [e_x33]; exact iAdd l2_3 (-8)
        have b_x33 := iB x33
        try (have q_x33 : x33.toInt = l2_3.toInt + (-8) := (by omega); clear g_x33 k_x33)
        refine lv_iinc (v := x33) (lv' := [(2, .int x33), (0, .ref (q 0)), (1, .int w)]) hx hb dX10_come_33 hl (k := 2) rfl (by rw [e_x33]; rfl) (by decide) rfl (fun ls hl => ?_)
        refine lv_goto (tgt := 3) hx hb dX10_come_36 (by decide) ?_
        exact ih3 x33 a_tape_22 x29 H locs ls (by first | assumption | omega | (intros; omega) | decide) (by first | assumption | omega | (intros; omega) | decide) (by first | assumption | omega | (intros; omega) | decide) (by first | assumption | omega | (intros; omega) | decide) (by first | assumption | omega | (intros; omega) | decide) (by omega) hP hD hS (lv_sub hl [1, 2, 0] rfl)
  exact J3 (((24 : Int32).toInt + 8).toNat + 1) (24 : Int32) a_tape v_taped H locs ls (by first | assumption | omega | (intros; omega) | decide) (by first | assumption | omega | (intros; omega) | decide) (by first | assumption | omega | (intros; omega) | decide) (by first | assumption | omega | (intros; omega) | decide) (by first | assumption | omega | (intros; omega) | decide) (by omega) hP hD hS (lv_sub hl [1, 2, 0] rfl)

def rmX10_feed : Room := { frames := 40, cells := 0, slots := 0, locals := 800 }
set_option maxHeartbeats 4000000 in
set_option maxRecDepth 100000 in
theorem tX10_feed {l : Launch} {D : va_G} {K : Nat → Nat → Nat} {cs : Nat → ClassId} {q : Nat → Nat} {v_thrown v_taped v_size v_to v_kind v_from v_letterMany v_isBeyond v_suffix v_steps v_fault v_hasProgram v_wrong v_wrongAt v_variable v_numberKind v_takes v_outed v_creatures v_arrays v_cells v_marks v_came v_guessed v_right v_taken v_sort v_kindAt v_reached v_looked : Int32} {a_tape a_text a_act a_guess a_take a_begin a_finish a_to1 a_one a_two a_what a_ats a_atVar a_atNumber a_atomSort a_atomKind a_out a_varSort a_varKind a_creature a_arrayClass a_arrayFrom a_arrayLong a_cellSort a_cellKind a_asideSort a_asideKind a_outcome a_markSort a_markKind a_markClass a_index : Nat → Int32} {v_letters v_digits v_number v_value : Int64} {a_atomValue a_varValue a_cellValue a_asideValue a_markValue : Nat → Int64} (a : Int32) (b : Int32) (c9 : Int32) (d9 : Int32) (e9 : Int32) (p_0 : 0 ≤ v_taped.toInt) (p_1 : v_taped.toInt ≤ 3100) : CtI l yX10_feed (wG yX10_feed cX10_feed 6 (some .int)) rmX10_feed D (mwT cs) K [.ref (q 0), .int a, .int b, .int c9, .int d9, .int e9] (mw cs q v_thrown a_tape v_taped v_size v_to v_kind v_from v_letters v_letterMany v_digits v_isBeyond v_suffix v_steps v_fault v_hasProgram a_text a_act a_guess a_take a_begin a_finish a_to1 a_one a_two a_what a_ats a_atVar a_atNumber a_atomSort a_atomKind a_atomValue v_wrong v_wrongAt v_variable v_number v_numberKind v_takes a_out v_outed a_varSort a_varKind a_varValue a_creature v_creatures a_arrayClass a_arrayFrom a_arrayLong v_arrays v_cells a_cellSort a_cellKind a_cellValue a_asideSort a_asideKind a_asideValue a_outcome v_marks v_came v_guessed v_right v_taken a_markSort a_markKind a_markClass a_markValue v_sort v_kindAt v_value a_index v_reached v_looked) (fun r w1 => ∃ (v_thrown' : Int32) (a_tape' : Nat → Int32) (v_taped' : Int32), w1 = (mw cs q v_thrown' a_tape' v_taped' v_size v_to v_kind v_from v_letters v_letterMany v_digits v_isBeyond v_suffix v_steps v_fault v_hasProgram a_text a_act a_guess a_take a_begin a_finish a_to1 a_one a_two a_what a_ats a_atVar a_atNumber a_atomSort a_atomKind a_atomValue v_wrong v_wrongAt v_variable v_number v_numberKind v_takes a_out v_outed a_varSort a_varKind a_varValue a_creature v_creatures a_arrayClass a_arrayFrom a_arrayLong v_arrays v_cells a_cellSort a_cellKind a_cellValue a_asideSort a_asideKind a_asideValue a_outcome v_marks v_came v_guessed v_right v_taken a_markSort a_markKind a_markClass a_markValue v_sort v_kindAt v_value a_index v_reached v_looked) ∧ (0 ≤ v_taped'.toInt) ∧ (v_taped'.toInt ≤ 3100)) 0 0 := by
  intro sz
  refine Met.ofW (cc := cX10_feed) (maxL := 6) (ret := (some .int)) (by decide) rfl ?_
  intro p e s m args below meth c s₁ B hml hv
  obtain ⟨rfl, hsz, hP, hK, hD0, hE⟩ := hv
  have hx := B.exec
  have hb := B.bytes
  have hr := B.returns
  have hts := atoms_spec (ws := (wG yX10_feed cX10_feed 6 (some .int))) B.pre
  have hown : s.vm.findClass RX10 = some m.cls := findClass_of_methodNamed B.named
  have hlocks := B.notSynchronized
  subst hsz
  have hD := hD0.self (sz := s.heap.size)
  obtain ⟨A, hAe⟩ : ∃ A : Nat → Prop, A = va_A (mw cs q v_thrown a_tape v_taped v_size v_to v_kind v_from v_letters v_letterMany v_digits v_isBeyond v_suffix v_steps v_fault v_hasProgram a_text a_act a_guess a_take a_begin a_finish a_to1 a_one a_two a_what a_ats a_atVar a_atNumber a_atomSort a_atomKind a_atomValue v_wrong v_wrongAt v_variable v_number v_numberKind v_takes a_out v_outed a_varSort a_varKind a_varValue a_creature v_creatures a_arrayClass a_arrayFrom a_arrayLong v_arrays v_cells a_cellSort a_cellKind a_cellValue a_asideSort a_asideKind a_asideValue a_outcome v_marks v_came v_guessed v_right v_taken a_markSort a_markKind a_markClass a_markValue v_sort v_kindAt v_value a_index v_reached v_looked) s.heap.size := ⟨_, rfl⟩
  rw [← hAe] at hD hE
  have hA : ∀ q : Nat, s.heap.size ≤ q → A q := fun q h => by rw [hAe]; exact Or.inr h
  have hS : va_S A s.heap s.heap [] := va_S.rf
  have hl := lv_entry ([.ref (q 0), .int a, .int b, .int c9, .int d9, .int e9]) (n := 6) (Nat.le_of_ble_eq_true rfl)
  rw [lg_entry_eq]
  generalize (lg_sl ([.ref (q 0), .int a, .int b, .int c9, .int d9, .int e9]) ++ List.replicate (6 - (lg_sl ([.ref (q 0), .int a, .int b, .int c9, .int d9, .int e9])).length) Slot.unset).toArray = ls at hl ⊢
  have hl : lv_has ls 6 [(0, .ref (q 0)), (1, .int a), (2, .int b), (3, .int c9), (4, .int d9), (5, .int e9)] := hl
  refine wq (fun Q hQ => ?_)
  have hin : ∀ w ∈ wsX100, w ∈ (wG yX10_feed cX10_feed 6 (some .int)) := fun w h => List.mem_cons_of_mem _ (inlX10 w h)
  have kc0 : (-1 : Int32).toInt = -1 := by decide
  have kc1 : (0 : Int32).toInt = 0 := by decide
  have kc2 : (20 : Int32).toInt = 20 := by decide
  have kc3 : (3100 : Int32).toInt = 3100 := by decide
  have k_7_9 := hts (.fieldLink RX10 122 "ArrayTrainerModel" "thrown" "I") (List.mem_cons_of_mem _ (wr7 _ (List.mem_of_getElem? (i := 9) rfl)))
  have k_7_10 := hts (.fieldLink RX10 126 "ArrayTrainerModel" "taped" "I") (List.mem_cons_of_mem _ (wr7 _ (List.mem_of_getElem? (i := 10) rfl)))
  obtain ⟨H, hH⟩ : ∃ H : Heap, H = s.heap := ⟨_, rfl⟩
  obtain ⟨locs, hlc⟩ : ∃ L : List Loc, L = [] := ⟨_, rfl⟩
  have hP : va_P D vwCl (mw cs q v_thrown a_tape v_taped v_size v_to v_kind v_from v_letters v_letterMany v_digits v_isBeyond v_suffix v_steps v_fault v_hasProgram a_text a_act a_guess a_take a_begin a_finish a_to1 a_one a_two a_what a_ats a_atVar a_atNumber a_atomSort a_atomKind a_atomValue v_wrong v_wrongAt v_variable v_number v_numberKind v_takes a_out v_outed a_varSort a_varKind a_varValue a_creature v_creatures a_arrayClass a_arrayFrom a_arrayLong v_arrays v_cells a_cellSort a_cellKind a_cellValue a_asideSort a_asideKind a_asideValue a_outcome v_marks v_came v_guessed v_right v_taken a_markSort a_markKind a_markClass a_markValue v_sort v_kindAt v_value a_index v_reached v_looked) H := by rw [hH]; exact hP
  have hS : va_S A s.heap H locs := by rw [hH, hlc]; exact hS
  refine wHL hH hlc ?_
  have b_a := iB a
  have b_b := iB b
  have b_c9 := iB c9
  have b_d9 := iB d9
  have b_e9 := iB e9
  refine lv_aload_n hx hb dX10_feed_0 rfl (lv_at hl 0 rfl) ?_
  refine lv_iconst (v := 0) hx hb dX10_feed_1 (by decide) ?_
  refine va_put (D := D) (ci := 9) (v := .int 0) (ty := .int) (C := RX10) (T := TX10) (N := 71) hx hb hts hin tyX10 tyX10_ok nmX10 hown hK hP hD hS 0 rfl rfl 0 (by decide) k_7_9 (fun _ h9 => h9) rfl (by decide +kernel) rfl rfl (Nat.le_of_ble_eq_true rfl) dX10_feed_2 (fun H locs hP hD hS => ?_)
  have hP : va_P D vwCl (mw cs q (0 : Int32) a_tape v_taped v_size v_to v_kind v_from v_letters v_letterMany v_digits v_isBeyond v_suffix v_steps v_fault v_hasProgram a_text a_act a_guess a_take a_begin a_finish a_to1 a_one a_two a_what a_ats a_atVar a_atNumber a_atomSort a_atomKind a_atomValue v_wrong v_wrongAt v_variable v_number v_numberKind v_takes a_out v_outed a_varSort a_varKind a_varValue a_creature v_creatures a_arrayClass a_arrayFrom a_arrayLong v_arrays v_cells a_cellSort a_cellKind a_cellValue a_asideSort a_asideKind a_asideValue a_outcome v_marks v_came v_guessed v_right v_taken a_markSort a_markKind a_markClass a_markValue v_sort v_kindAt v_value a_index v_reached v_looked) H := hP
  have hD : va_D A (mw cs q (0 : Int32) a_tape v_taped v_size v_to v_kind v_from v_letters v_letterMany v_digits v_isBeyond v_suffix v_steps v_fault v_hasProgram a_text a_act a_guess a_take a_begin a_finish a_to1 a_one a_two a_what a_ats a_atVar a_atNumber a_atomSort a_atomKind a_atomValue v_wrong v_wrongAt v_variable v_number v_numberKind v_takes a_out v_outed a_varSort a_varKind a_varValue a_creature v_creatures a_arrayClass a_arrayFrom a_arrayLong v_arrays v_cells a_cellSort a_cellKind a_cellValue a_asideSort a_asideKind a_asideValue a_outcome v_marks v_came v_guessed v_right v_taken a_markSort a_markKind a_markClass a_markValue v_sort v_kindAt v_value a_index v_reached v_looked) := hD
  refine lv_aload_n hx hb dX10_feed_5 rfl (lv_at hl 0 rfl) ?_
  refine va_get (D := D) (ci := 9) (v := .int v_taped) (C := RX10) (T := TX10) (N := 71) hx hb hts hin hown hK hP 0 rfl rfl 2 (by decide) k_7_10 (fun _ h9 => h9) rfl dX10_feed_6 ?_
  refine lv_bipush (v := 20) hx hb dX10_feed_9 (by decide) ?_
  refine m_iadd (X := v_taped.toInt) (Y := 20) hx hb dX10_feed_11 rfl (by decide) (fun x11 e_x11 g9 => ?_)
  obtain ⟨k_x11, g_x11⟩ := g9
  have b_x11 := iB x11
  try (have q_x11 : x11.toInt = v_taped.toInt + 20 := (by omega); clear g_x11 k_x11)
  refine lv_sipush (v := 3100) hx hb dX10_feed_12 (by decide) ?_
  refine m_icmp_le (X := x11.toInt) (Y := 3100) (tgt := 20) hx hb dX10_feed_15 (by decide) rfl (by decide) (fun c15 => ?_) (fun c15 => ?_)
  · skip
    refine lv_aload_n hx hb dX10_feed_20 rfl (lv_at hl 0 rfl) ?_
    refine lv_iload_n hx hb dX10_feed_21 rfl (lv_at hl 1 rfl) ?_
    refine call_v (As := [.int a]) (rest := []) ⟨hx, hb, hml, hown, hts⟩ (tX10_come (l := l) a (by first | assumption | omega | (intros; omega) | decide) (by first | assumption | omega | (intros; omega) | decide)) (cwV 1 hts (gV (wr7 _ (List.mem_of_getElem? (i := 11) rfl)) (wr7 _ (List.mem_of_getElem? (i := 12) rfl)) (wr7 _ (List.mem_of_getElem? (i := 13) rfl)) (wr1 _ (List.mem_of_getElem? (i := 5) rfl)) (wr7 _ (List.mem_of_getElem? (i := 14) rfl))) rfl rfl rfl (by decide +kernel) ⟨Nat.le_of_ble_eq_true rfl, Nat.le_of_ble_eq_true rfl⟩) (va_recv hK hP (ci := 9) (q0 := 0) rfl rfl) hK hP hD hE hS hA rfl hl.1 rfl (Nat.le_of_ble_eq_true rfl) dX10_feed_22 ⟨Nat.le_of_ble_eq_true rfl, Nat.le_of_ble_eq_true rfl⟩ (fun w9 H locs hw22 hP hD hS => ?_)
    obtain ⟨a_tape_22, v_taped_22, rfl, hw22_0⟩ := hw22
    have b_v_taped_22 := iB v_taped_22
    refine lv_aload_n hx hb dX10_feed_25 rfl (lv_at hl 0 rfl) ?_
    refine lv_iload_n hx hb dX10_feed_26 rfl (lv_at hl 2 rfl) ?_
    refine call_v (As := [.int b]) (rest := []) ⟨hx, hb, hml, hown, hts⟩ (tX10_come (l := l) b (by first | assumption | omega | (intros; omega) | decide) (by first | assumption | omega | (intros; omega) | decide)) (cwV 1 hts (gV (wr7 _ (List.mem_of_getElem? (i := 11) rfl)) (wr7 _ (List.mem_of_getElem? (i := 12) rfl)) (wr7 _ (List.mem_of_getElem? (i := 13) rfl)) (wr1 _ (List.mem_of_getElem? (i := 5) rfl)) (wr7 _ (List.mem_of_getElem? (i := 14) rfl))) rfl rfl rfl (by decide +kernel) ⟨Nat.le_of_ble_eq_true rfl, Nat.le_of_ble_eq_true rfl⟩) (va_recv hK hP (ci := 9) (q0 := 0) rfl rfl) hK hP hD hE hS hA rfl hl.1 rfl (Nat.le_of_ble_eq_true rfl) dX10_feed_27 ⟨Nat.le_of_ble_eq_true rfl, Nat.le_of_ble_eq_true rfl⟩ (fun w9 H locs hw27 hP hD hS => ?_)
    obtain ⟨a_tape_27, v_taped_27, rfl, hw27_0⟩ := hw27
    have b_v_taped_27 := iB v_taped_27
    refine lv_aload_n hx hb dX10_feed_30 rfl (lv_at hl 0 rfl) ?_
    refine lv_iload_n hx hb dX10_feed_31 rfl (lv_at hl 3 rfl) ?_
    refine call_v (As := [.int c9]) (rest := []) ⟨hx, hb, hml, hown, hts⟩ (tX10_come (l := l) c9 (by first | assumption | omega | (intros; omega) | decide) (by first | assumption | omega | (intros; omega) | decide)) (cwV 1 hts (gV (wr7 _ (List.mem_of_getElem? (i := 11) rfl)) (wr7 _ (List.mem_of_getElem? (i := 12) rfl)) (wr7 _ (List.mem_of_getElem? (i := 13) rfl)) (wr1 _ (List.mem_of_getElem? (i := 5) rfl)) (wr7 _ (List.mem_of_getElem? (i := 14) rfl))) rfl rfl rfl (by decide +kernel) ⟨Nat.le_of_ble_eq_true rfl, Nat.le_of_ble_eq_true rfl⟩) (va_recv hK hP (ci := 9) (q0 := 0) rfl rfl) hK hP hD hE hS hA rfl hl.1 rfl (Nat.le_of_ble_eq_true rfl) dX10_feed_32 ⟨Nat.le_of_ble_eq_true rfl, Nat.le_of_ble_eq_true rfl⟩ (fun w9 H locs hw32 hP hD hS => ?_)
    obtain ⟨a_tape_32, v_taped_32, rfl, hw32_0⟩ := hw32
    have b_v_taped_32 := iB v_taped_32
    refine lv_aload_n hx hb dX10_feed_35 rfl (lv_at hl 0 rfl) ?_
    refine lv_iload hx hb dX10_feed_36 (lv_at hl 4 rfl) ?_
    refine call_v (As := [.int d9]) (rest := []) ⟨hx, hb, hml, hown, hts⟩ (tX10_come (l := l) d9 (by first | assumption | omega | (intros; omega) | decide) (by first | assumption | omega | (intros; omega) | decide)) (cwV 1 hts (gV (wr7 _ (List.mem_of_getElem? (i := 11) rfl)) (wr7 _ (List.mem_of_getElem? (i := 12) rfl)) (wr7 _ (List.mem_of_getElem? (i := 13) rfl)) (wr1 _ (List.mem_of_getElem? (i := 5) rfl)) (wr7 _ (List.mem_of_getElem? (i := 14) rfl))) rfl rfl rfl (by decide +kernel) ⟨Nat.le_of_ble_eq_true rfl, Nat.le_of_ble_eq_true rfl⟩) (va_recv hK hP (ci := 9) (q0 := 0) rfl rfl) hK hP hD hE hS hA rfl hl.1 rfl (Nat.le_of_ble_eq_true rfl) dX10_feed_38 ⟨Nat.le_of_ble_eq_true rfl, Nat.le_of_ble_eq_true rfl⟩ (fun w9 H locs hw38 hP hD hS => ?_)
    obtain ⟨a_tape_38, v_taped_38, rfl, hw38_0⟩ := hw38
    have b_v_taped_38 := iB v_taped_38
    refine lv_aload_n hx hb dX10_feed_41 rfl (lv_at hl 0 rfl) ?_
    refine lv_iload hx hb dX10_feed_42 (lv_at hl 5 rfl) ?_
    refine call_v (As := [.int e9]) (rest := []) ⟨hx, hb, hml, hown, hts⟩ (tX10_come (l := l) e9 (by first | assumption | omega | (intros; omega) | decide) (by first | assumption | omega | (intros; omega) | decide)) (cwV 1 hts (gV (wr7 _ (List.mem_of_getElem? (i := 11) rfl)) (wr7 _ (List.mem_of_getElem? (i := 12) rfl)) (wr7 _ (List.mem_of_getElem? (i := 13) rfl)) (wr1 _ (List.mem_of_getElem? (i := 5) rfl)) (wr7 _ (List.mem_of_getElem? (i := 14) rfl))) rfl rfl rfl (by decide +kernel) ⟨Nat.le_of_ble_eq_true rfl, Nat.le_of_ble_eq_true rfl⟩) (va_recv hK hP (ci := 9) (q0 := 0) rfl rfl) hK hP hD hE hS hA rfl hl.1 rfl (Nat.le_of_ble_eq_true rfl) dX10_feed_44 ⟨Nat.le_of_ble_eq_true rfl, Nat.le_of_ble_eq_true rfl⟩ (fun w9 H locs hw44 hP hD hS => ?_)
    obtain ⟨a_tape_44, v_taped_44, rfl, hw44_0⟩ := hw44
    have b_v_taped_44 := iB v_taped_44
    refine lv_aload_n hx hb dX10_feed_47 rfl (lv_at hl 0 rfl) ?_
    refine va_get (D := D) (ci := 9) (v := .int v_taped_44) (C := RX10) (T := TX10) (N := 71) hx hb hts hin hown hK hP 0 rfl rfl 2 (by decide) k_7_10 (fun _ h9 => h9) rfl dX10_feed_48 ?_
    subst hAe
    rw [hQ]
    exact W.iret (v := v_taped_44) hx hb hr (fun t ht hW => ⟨⟨v_taped_44, _, rfl, ⟨(0 : Int32), a_tape_44, v_taped_44, rfl, by first | assumption | omega | (intros; omega) | decide, by first | assumption | omega | (intros; omega) | decide⟩, by rw [ht]; exact hP, va_K.moved hW.alike hK, hD⟩, hS.F ht⟩) hS.2.2 dX10_feed_51
  · skip
    refine lv_iconst (v := (-1)) hx hb dX10_feed_18 (by decide) ?_
    subst hAe
    rw [hQ]
    exact W.iret (v := (-1)) hx hb hr (fun t ht hW => ⟨⟨(-1), _, rfl, ⟨(0 : Int32), a_tape, v_taped, rfl, by first | assumption | omega | (intros; omega) | decide, by first | assumption | omega | (intros; omega) | decide⟩, by rw [ht]; exact hP, va_K.moved hW.alike hK, hD⟩, hS.F ht⟩) hS.2.2 dX10_feed_19

def rmX10_end : Room := { frames := 20, cells := 0, slots := 0, locals := 400 }
set_option maxHeartbeats 4000000 in
set_option maxRecDepth 100000 in
theorem tX10_end {l : Launch} {D : va_G} {K : Nat → Nat → Nat} {cs : Nat → ClassId} {q : Nat → Nat} {v_thrown v_taped v_size v_to v_kind v_from v_letterMany v_isBeyond v_suffix v_steps v_fault v_hasProgram v_wrong v_wrongAt v_variable v_numberKind v_takes v_outed v_creatures v_arrays v_cells v_marks v_came v_guessed v_right v_taken v_sort v_kindAt v_reached v_looked : Int32} {a_tape a_text a_act a_guess a_take a_begin a_finish a_to1 a_one a_two a_what a_ats a_atVar a_atNumber a_atomSort a_atomKind a_out a_varSort a_varKind a_creature a_arrayClass a_arrayFrom a_arrayLong a_cellSort a_cellKind a_asideSort a_asideKind a_outcome a_markSort a_markKind a_markClass a_index : Nat → Int32} {v_letters v_digits v_number v_value : Int64} {a_atomValue a_varValue a_cellValue a_asideValue a_markValue : Nat → Int64} (n9 : Int32) (p_0 : 0 ≤ v_taped.toInt) (p_1 : v_taped.toInt ≤ 3100) : CtI l yX10_end (wG yX10_end cX10_end 2 (some .boolean)) rmX10_end D (mwT cs) K [.ref (q 0), .int n9] (mw cs q v_thrown a_tape v_taped v_size v_to v_kind v_from v_letters v_letterMany v_digits v_isBeyond v_suffix v_steps v_fault v_hasProgram a_text a_act a_guess a_take a_begin a_finish a_to1 a_one a_two a_what a_ats a_atVar a_atNumber a_atomSort a_atomKind a_atomValue v_wrong v_wrongAt v_variable v_number v_numberKind v_takes a_out v_outed a_varSort a_varKind a_varValue a_creature v_creatures a_arrayClass a_arrayFrom a_arrayLong v_arrays v_cells a_cellSort a_cellKind a_cellValue a_asideSort a_asideKind a_asideValue a_outcome v_marks v_came v_guessed v_right v_taken a_markSort a_markKind a_markClass a_markValue v_sort v_kindAt v_value a_index v_reached v_looked) (fun r w1 => ∃ (v_thrown' : Int32) (v_taped' : Int32), w1 = (mw cs q v_thrown' a_tape v_taped' v_size v_to v_kind v_from v_letters v_letterMany v_digits v_isBeyond v_suffix v_steps v_fault v_hasProgram a_text a_act a_guess a_take a_begin a_finish a_to1 a_one a_two a_what a_ats a_atVar a_atNumber a_atomSort a_atomKind a_atomValue v_wrong v_wrongAt v_variable v_number v_numberKind v_takes a_out v_outed a_varSort a_varKind a_varValue a_creature v_creatures a_arrayClass a_arrayFrom a_arrayLong v_arrays v_cells a_cellSort a_cellKind a_cellValue a_asideSort a_asideKind a_asideValue a_outcome v_marks v_came v_guessed v_right v_taken a_markSort a_markKind a_markClass a_markValue v_sort v_kindAt v_value a_index v_reached v_looked) ∧ (0 ≤ v_taped'.toInt) ∧ (v_taped'.toInt ≤ 3100) ∧ (r.toInt = 0 ∨ r.toInt = 1)) 0 0 := by
  intro sz
  refine Met.ofW (cc := cX10_end) (maxL := 2) (ret := (some .boolean)) (by decide) rfl ?_
  intro p e s m args below meth c s₁ B hml hv
  obtain ⟨rfl, hsz, hP, hK, hD0, hE⟩ := hv
  have hx := B.exec
  have hb := B.bytes
  have hr := B.returns
  have hts := atoms_spec (ws := (wG yX10_end cX10_end 2 (some .boolean))) B.pre
  have hown : s.vm.findClass RX10 = some m.cls := findClass_of_methodNamed B.named
  have hlocks := B.notSynchronized
  subst hsz
  have hD := hD0.self (sz := s.heap.size)
  obtain ⟨A, hAe⟩ : ∃ A : Nat → Prop, A = va_A (mw cs q v_thrown a_tape v_taped v_size v_to v_kind v_from v_letters v_letterMany v_digits v_isBeyond v_suffix v_steps v_fault v_hasProgram a_text a_act a_guess a_take a_begin a_finish a_to1 a_one a_two a_what a_ats a_atVar a_atNumber a_atomSort a_atomKind a_atomValue v_wrong v_wrongAt v_variable v_number v_numberKind v_takes a_out v_outed a_varSort a_varKind a_varValue a_creature v_creatures a_arrayClass a_arrayFrom a_arrayLong v_arrays v_cells a_cellSort a_cellKind a_cellValue a_asideSort a_asideKind a_asideValue a_outcome v_marks v_came v_guessed v_right v_taken a_markSort a_markKind a_markClass a_markValue v_sort v_kindAt v_value a_index v_reached v_looked) s.heap.size := ⟨_, rfl⟩
  rw [← hAe] at hD hE
  have hA : ∀ q : Nat, s.heap.size ≤ q → A q := fun q h => by rw [hAe]; exact Or.inr h
  have hS : va_S A s.heap s.heap [] := va_S.rf
  have hl := lv_entry ([.ref (q 0), .int n9]) (n := 2) (Nat.le_of_ble_eq_true rfl)
  rw [lg_entry_eq]
  generalize (lg_sl ([.ref (q 0), .int n9]) ++ List.replicate (2 - (lg_sl ([.ref (q 0), .int n9])).length) Slot.unset).toArray = ls at hl ⊢
  have hl : lv_has ls 2 [(0, .ref (q 0)), (1, .int n9)] := hl
  refine wq (fun Q hQ => ?_)
  have hin : ∀ w ∈ wsX100, w ∈ (wG yX10_end cX10_end 2 (some .boolean)) := fun w h => List.mem_cons_of_mem _ (inlX10 w h)
  have kc0 : (0 : Int32).toInt = 0 := by decide
  have kc1 : (1 : Int32).toInt = 1 := by decide
  have k_7_9 := hts (.fieldLink RX10 122 "ArrayTrainerModel" "thrown" "I") (List.mem_cons_of_mem _ (wr7 _ (List.mem_of_getElem? (i := 9) rfl)))
  have k_7_10 := hts (.fieldLink RX10 126 "ArrayTrainerModel" "taped" "I") (List.mem_cons_of_mem _ (wr7 _ (List.mem_of_getElem? (i := 10) rfl)))
  obtain ⟨H, hH⟩ : ∃ H : Heap, H = s.heap := ⟨_, rfl⟩
  obtain ⟨locs, hlc⟩ : ∃ L : List Loc, L = [] := ⟨_, rfl⟩
  have hP : va_P D vwCl (mw cs q v_thrown a_tape v_taped v_size v_to v_kind v_from v_letters v_letterMany v_digits v_isBeyond v_suffix v_steps v_fault v_hasProgram a_text a_act a_guess a_take a_begin a_finish a_to1 a_one a_two a_what a_ats a_atVar a_atNumber a_atomSort a_atomKind a_atomValue v_wrong v_wrongAt v_variable v_number v_numberKind v_takes a_out v_outed a_varSort a_varKind a_varValue a_creature v_creatures a_arrayClass a_arrayFrom a_arrayLong v_arrays v_cells a_cellSort a_cellKind a_cellValue a_asideSort a_asideKind a_asideValue a_outcome v_marks v_came v_guessed v_right v_taken a_markSort a_markKind a_markClass a_markValue v_sort v_kindAt v_value a_index v_reached v_looked) H := by rw [hH]; exact hP
  have hS : va_S A s.heap H locs := by rw [hH, hlc]; exact hS
  refine wHL hH hlc ?_
  have b_n9 := iB n9
  refine lv_aload_n hx hb dX10_end_0 rfl (lv_at hl 0 rfl) ?_
  refine lv_iconst (v := 0) hx hb dX10_end_1 (by decide) ?_
  refine va_put (D := D) (ci := 9) (v := .int 0) (ty := .int) (C := RX10) (T := TX10) (N := 71) hx hb hts hin tyX10 tyX10_ok nmX10 hown hK hP hD hS 0 rfl rfl 0 (by decide) k_7_9 (fun _ h9 => h9) rfl (by decide +kernel) rfl rfl (Nat.le_of_ble_eq_true rfl) dX10_end_2 (fun H locs hP hD hS => ?_)
  have hP : va_P D vwCl (mw cs q (0 : Int32) a_tape v_taped v_size v_to v_kind v_from v_letters v_letterMany v_digits v_isBeyond v_suffix v_steps v_fault v_hasProgram a_text a_act a_guess a_take a_begin a_finish a_to1 a_one a_two a_what a_ats a_atVar a_atNumber a_atomSort a_atomKind a_atomValue v_wrong v_wrongAt v_variable v_number v_numberKind v_takes a_out v_outed a_varSort a_varKind a_varValue a_creature v_creatures a_arrayClass a_arrayFrom a_arrayLong v_arrays v_cells a_cellSort a_cellKind a_cellValue a_asideSort a_asideKind a_asideValue a_outcome v_marks v_came v_guessed v_right v_taken a_markSort a_markKind a_markClass a_markValue v_sort v_kindAt v_value a_index v_reached v_looked) H := hP
  have hD : va_D A (mw cs q (0 : Int32) a_tape v_taped v_size v_to v_kind v_from v_letters v_letterMany v_digits v_isBeyond v_suffix v_steps v_fault v_hasProgram a_text a_act a_guess a_take a_begin a_finish a_to1 a_one a_two a_what a_ats a_atVar a_atNumber a_atomSort a_atomKind a_atomValue v_wrong v_wrongAt v_variable v_number v_numberKind v_takes a_out v_outed a_varSort a_varKind a_varValue a_creature v_creatures a_arrayClass a_arrayFrom a_arrayLong v_arrays v_cells a_cellSort a_cellKind a_cellValue a_asideSort a_asideKind a_asideValue a_outcome v_marks v_came v_guessed v_right v_taken a_markSort a_markKind a_markClass a_markValue v_sort v_kindAt v_value a_index v_reached v_looked) := hD
  refine lv_iload_n hx hb dX10_end_5 rfl (lv_at hl 1 rfl) ?_
  refine m_if_lt (X := n9.toInt) (tgt := 17) hx hb dX10_end_6 (by decide) rfl (fun c6 => ?_) (fun c6 => ?_)
  · skip
    refine lv_iconst (v := 0) hx hb dX10_end_17 (by decide) ?_
    subst hAe
    rw [hQ]
    exact W.zret (v := 0) hx hb hr (by decide) (fun t ht hW => ⟨⟨0, _, rfl, ⟨(0 : Int32), v_taped, rfl, by first | assumption | omega | (intros; omega) | decide, by first | assumption | omega | (intros; omega) | decide, by first | assumption | omega | (intros; omega) | decide⟩, by rw [ht]; exact hP, va_K.moved hW.alike hK, hD⟩, hS.F ht⟩) hS.2.2 dX10_end_18
  · skip
    refine lv_iload_n hx hb dX10_end_9 rfl (lv_at hl 1 rfl) ?_
    refine lv_aload_n hx hb dX10_end_10 rfl (lv_at hl 0 rfl) ?_
    refine va_get (D := D) (ci := 9) (v := .int v_taped) (C := RX10) (T := TX10) (N := 71) hx hb hts hin hown hK hP 0 rfl rfl 2 (by decide) k_7_10 (fun _ h9 => h9) rfl dX10_end_11 ?_
    refine m_icmp_le (X := n9.toInt) (Y := v_taped.toInt) (tgt := 19) hx hb dX10_end_14 (by decide) rfl rfl (fun c14 => ?_) (fun c14 => ?_)
    · skip
      refine lv_aload_n hx hb dX10_end_19 rfl (lv_at hl 0 rfl) ?_
      refine lv_iload_n hx hb dX10_end_20 rfl (lv_at hl 1 rfl) ?_
      refine va_put (D := D) (ci := 9) (v := .int n9) (ty := .int) (C := RX10) (T := TX10) (N := 71) hx hb hts hin tyX10 tyX10_ok nmX10 hown hK hP hD hS 0 rfl rfl 2 (by decide) k_7_10 (fun _ h9 => h9) rfl (by decide +kernel) rfl rfl (Nat.le_of_ble_eq_true rfl) dX10_end_21 (fun H locs hP hD hS => ?_)
      have hP : va_P D vwCl (mw cs q (0 : Int32) a_tape n9 v_size v_to v_kind v_from v_letters v_letterMany v_digits v_isBeyond v_suffix v_steps v_fault v_hasProgram a_text a_act a_guess a_take a_begin a_finish a_to1 a_one a_two a_what a_ats a_atVar a_atNumber a_atomSort a_atomKind a_atomValue v_wrong v_wrongAt v_variable v_number v_numberKind v_takes a_out v_outed a_varSort a_varKind a_varValue a_creature v_creatures a_arrayClass a_arrayFrom a_arrayLong v_arrays v_cells a_cellSort a_cellKind a_cellValue a_asideSort a_asideKind a_asideValue a_outcome v_marks v_came v_guessed v_right v_taken a_markSort a_markKind a_markClass a_markValue v_sort v_kindAt v_value a_index v_reached v_looked) H := hP
      have hD : va_D A (mw cs q (0 : Int32) a_tape n9 v_size v_to v_kind v_from v_letters v_letterMany v_digits v_isBeyond v_suffix v_steps v_fault v_hasProgram a_text a_act a_guess a_take a_begin a_finish a_to1 a_one a_two a_what a_ats a_atVar a_atNumber a_atomSort a_atomKind a_atomValue v_wrong v_wrongAt v_variable v_number v_numberKind v_takes a_out v_outed a_varSort a_varKind a_varValue a_creature v_creatures a_arrayClass a_arrayFrom a_arrayLong v_arrays v_cells a_cellSort a_cellKind a_cellValue a_asideSort a_asideKind a_asideValue a_outcome v_marks v_came v_guessed v_right v_taken a_markSort a_markKind a_markClass a_markValue v_sort v_kindAt v_value a_index v_reached v_looked) := hD
      refine lv_iconst (v := 1) hx hb dX10_end_24 (by decide) ?_
      subst hAe
      rw [hQ]
      exact W.zret (v := 1) hx hb hr (by decide) (fun t ht hW => ⟨⟨1, _, rfl, ⟨(0 : Int32), n9, rfl, by first | assumption | omega | (intros; omega) | decide, by first | assumption | omega | (intros; omega) | decide, by first | assumption | omega | (intros; omega) | decide⟩, by rw [ht]; exact hP, va_K.moved hW.alike hK, hD⟩, hS.F ht⟩) hS.2.2 dX10_end_25
    · skip
      refine lv_iconst (v := 0) hx hb dX10_end_17 (by decide) ?_
      subst hAe
      rw [hQ]
      exact W.zret (v := 0) hx hb hr (by decide) (fun t ht hW => ⟨⟨0, _, rfl, ⟨(0 : Int32), v_taped, rfl, by first | assumption | omega | (intros; omega) | decide, by first | assumption | omega | (intros; omega) | decide, by first | assumption | omega | (intros; omega) | decide⟩, by rw [ht]; exact hP, va_K.moved hW.alike hK, hD⟩, hS.F ht⟩) hS.2.2 dX10_end_18

def rmX10_at : Room := { frames := 20, cells := 0, slots := 0, locals := 400 }
set_option maxHeartbeats 4000000 in
set_option maxRecDepth 100000 in
theorem tX10_at {l : Launch} {D : va_G} {K : Nat → Nat → Nat} {cs : Nat → ClassId} {q : Nat → Nat} {v_thrown v_taped v_size v_to v_kind v_from v_letterMany v_isBeyond v_suffix v_steps v_fault v_hasProgram v_wrong v_wrongAt v_variable v_numberKind v_takes v_outed v_creatures v_arrays v_cells v_marks v_came v_guessed v_right v_taken v_sort v_kindAt v_reached v_looked : Int32} {a_tape a_text a_act a_guess a_take a_begin a_finish a_to1 a_one a_two a_what a_ats a_atVar a_atNumber a_atomSort a_atomKind a_out a_varSort a_varKind a_creature a_arrayClass a_arrayFrom a_arrayLong a_cellSort a_cellKind a_asideSort a_asideKind a_outcome a_markSort a_markKind a_markClass a_index : Nat → Int32} {v_letters v_digits v_number v_value : Int64} {a_atomValue a_varValue a_cellValue a_asideValue a_markValue : Nat → Int64} (p9 : Int32) (p_0 : 0 ≤ p9.toInt) (p_1 : 0 ≤ v_size.toInt) (p_2 : v_size.toInt ≤ 3100) : CtI l yX10_at (wG yX10_at cX10_at 2 (some .int)) rmX10_at D (mwT cs) K [.ref (q 0), .int p9] (mw cs q v_thrown a_tape v_taped v_size v_to v_kind v_from v_letters v_letterMany v_digits v_isBeyond v_suffix v_steps v_fault v_hasProgram a_text a_act a_guess a_take a_begin a_finish a_to1 a_one a_two a_what a_ats a_atVar a_atNumber a_atomSort a_atomKind a_atomValue v_wrong v_wrongAt v_variable v_number v_numberKind v_takes a_out v_outed a_varSort a_varKind a_varValue a_creature v_creatures a_arrayClass a_arrayFrom a_arrayLong v_arrays v_cells a_cellSort a_cellKind a_cellValue a_asideSort a_asideKind a_asideValue a_outcome v_marks v_came v_guessed v_right v_taken a_markSort a_markKind a_markClass a_markValue v_sort v_kindAt v_value a_index v_reached v_looked) (fun r w1 => w1 = (mw cs q v_thrown a_tape v_taped v_size v_to v_kind v_from v_letters v_letterMany v_digits v_isBeyond v_suffix v_steps v_fault v_hasProgram a_text a_act a_guess a_take a_begin a_finish a_to1 a_one a_two a_what a_ats a_atVar a_atNumber a_atomSort a_atomKind a_atomValue v_wrong v_wrongAt v_variable v_number v_numberKind v_takes a_out v_outed a_varSort a_varKind a_varValue a_creature v_creatures a_arrayClass a_arrayFrom a_arrayLong v_arrays v_cells a_cellSort a_cellKind a_cellValue a_asideSort a_asideKind a_asideValue a_outcome v_marks v_came v_guessed v_right v_taken a_markSort a_markKind a_markClass a_markValue v_sort v_kindAt v_value a_index v_reached v_looked) ∧ ((p9.toInt < v_size.toInt ∧ r.toInt = (a_tape p9.toNatClampNeg).toInt) ∨ (v_size.toInt ≤ p9.toInt ∧ r.toInt = 0))) 0 0 := by
  intro sz
  refine Met.ofW (cc := cX10_at) (maxL := 2) (ret := (some .int)) (by decide) rfl ?_
  intro p e s m args below meth c s₁ B hml hv
  obtain ⟨rfl, hsz, hP, hK, hD0, hE⟩ := hv
  have hx := B.exec
  have hb := B.bytes
  have hr := B.returns
  have hts := atoms_spec (ws := (wG yX10_at cX10_at 2 (some .int))) B.pre
  have hown : s.vm.findClass RX10 = some m.cls := findClass_of_methodNamed B.named
  have hlocks := B.notSynchronized
  subst hsz
  have hD := hD0.self (sz := s.heap.size)
  obtain ⟨A, hAe⟩ : ∃ A : Nat → Prop, A = va_A (mw cs q v_thrown a_tape v_taped v_size v_to v_kind v_from v_letters v_letterMany v_digits v_isBeyond v_suffix v_steps v_fault v_hasProgram a_text a_act a_guess a_take a_begin a_finish a_to1 a_one a_two a_what a_ats a_atVar a_atNumber a_atomSort a_atomKind a_atomValue v_wrong v_wrongAt v_variable v_number v_numberKind v_takes a_out v_outed a_varSort a_varKind a_varValue a_creature v_creatures a_arrayClass a_arrayFrom a_arrayLong v_arrays v_cells a_cellSort a_cellKind a_cellValue a_asideSort a_asideKind a_asideValue a_outcome v_marks v_came v_guessed v_right v_taken a_markSort a_markKind a_markClass a_markValue v_sort v_kindAt v_value a_index v_reached v_looked) s.heap.size := ⟨_, rfl⟩
  rw [← hAe] at hD hE
  have hA : ∀ q : Nat, s.heap.size ≤ q → A q := fun q h => by rw [hAe]; exact Or.inr h
  have hS : va_S A s.heap s.heap [] := va_S.rf
  have hl := lv_entry ([.ref (q 0), .int p9]) (n := 2) (Nat.le_of_ble_eq_true rfl)
  rw [lg_entry_eq]
  generalize (lg_sl ([.ref (q 0), .int p9]) ++ List.replicate (2 - (lg_sl ([.ref (q 0), .int p9])).length) Slot.unset).toArray = ls at hl ⊢
  have hl : lv_has ls 2 [(0, .ref (q 0)), (1, .int p9)] := hl
  refine wq (fun Q hQ => ?_)
  have hin : ∀ w ∈ wsX100, w ∈ (wG yX10_at cX10_at 2 (some .int)) := fun w h => List.mem_cons_of_mem _ (inlX10 w h)
  have kc0 : (0 : Int32).toInt = 0 := by decide
  have k_22_11 := hts (.fieldLink RX10 261 "ArrayTrainerModel" "size" "I") (List.mem_cons_of_mem _ (wr22 _ (List.mem_of_getElem? (i := 11) rfl)))
  have k_5_7 := hts (.fieldLink RX10 9 "ArrayTrainerModel" "tape" "[I") (List.mem_cons_of_mem _ (wr5 _ (List.mem_of_getElem? (i := 7) rfl)))
  obtain ⟨H, hH⟩ : ∃ H : Heap, H = s.heap := ⟨_, rfl⟩
  obtain ⟨locs, hlc⟩ : ∃ L : List Loc, L = [] := ⟨_, rfl⟩
  have hP : va_P D vwCl (mw cs q v_thrown a_tape v_taped v_size v_to v_kind v_from v_letters v_letterMany v_digits v_isBeyond v_suffix v_steps v_fault v_hasProgram a_text a_act a_guess a_take a_begin a_finish a_to1 a_one a_two a_what a_ats a_atVar a_atNumber a_atomSort a_atomKind a_atomValue v_wrong v_wrongAt v_variable v_number v_numberKind v_takes a_out v_outed a_varSort a_varKind a_varValue a_creature v_creatures a_arrayClass a_arrayFrom a_arrayLong v_arrays v_cells a_cellSort a_cellKind a_cellValue a_asideSort a_asideKind a_asideValue a_outcome v_marks v_came v_guessed v_right v_taken a_markSort a_markKind a_markClass a_markValue v_sort v_kindAt v_value a_index v_reached v_looked) H := by rw [hH]; exact hP
  have hS : va_S A s.heap H locs := by rw [hH, hlc]; exact hS
  refine wHL hH hlc ?_
  have b_p9 := iB p9
  refine lv_iload_n hx hb dX10_at_0 rfl (lv_at hl 1 rfl) ?_
  refine lv_aload_n hx hb dX10_at_1 rfl (lv_at hl 0 rfl) ?_
  refine va_get (D := D) (ci := 9) (v := .int v_size) (C := RX10) (T := TX10) (N := 71) hx hb hts hin hown hK hP 0 rfl rfl 3 (by decide) k_22_11 (fun _ h9 => h9) rfl dX10_at_2 ?_
  refine m_icmp_ge (X := p9.toInt) (Y := v_size.toInt) (tgt := 17) hx hb dX10_at_5 (by decide) rfl rfl (fun c5 => ?_) (fun c5 => ?_)
  · skip
    refine lv_iconst (v := 0) hx hb dX10_at_17 (by decide) ?_
    subst hAe
    rw [hQ]
    exact W.iret (v := 0) hx hb hr (fun t ht hW => ⟨⟨0, _, rfl, ⟨rfl, by first | exact Or.inl ⟨by omega, congrArg Int32.toInt (by assumption)⟩ | exact Or.inr ⟨by omega, by decide⟩⟩, by rw [ht]; exact hP, va_K.moved hW.alike hK, hD⟩, hS.F ht⟩) hS.2.2 dX10_at_18
  · skip
    refine lv_aload_n hx hb dX10_at_8 rfl (lv_at hl 0 rfl) ?_
    refine va_get (D := D) (ci := 9) (v := .ref (q 1)) (C := RX10) (T := TX10) (N := 71) hx hb hts hin hown hK hP 0 rfl rfl 1 (by decide) k_5_7 (fun _ h9 => h9) rfl dX10_at_9 ?_
    refine lv_iload_n hx hb dX10_at_12 rfl (lv_at hl 1 rfl) ?_
    refine m_iald hx hb hK hP 1 0 rfl rfl (ix (by omega) (by omega)) dX10_at_13 (fun x13 e_x13 => ?_)
    have b_x13 := iB x13
    refine lv_goto (tgt := 18) hx hb dX10_at_14 (by decide) ?_
    subst hAe
    rw [hQ]
    exact W.iret (v := x13) hx hb hr (fun t ht hW => ⟨⟨x13, _, rfl, ⟨rfl, by first | exact Or.inl ⟨by omega, congrArg Int32.toInt (by assumption)⟩ | exact Or.inr ⟨by omega, by decide⟩⟩, by rw [ht]; exact hP, va_K.moved hW.alike hK, hD⟩, hS.F ht⟩) hS.2.2 dX10_at_18

def rmX10_isDigit : Room := { frames := 20, cells := 0, slots := 0, locals := 400 }
set_option maxHeartbeats 4000000 in
set_option maxRecDepth 100000 in
theorem tX10_isDigit {l : Launch} {D : va_G} {K : Nat → Nat → Nat} (c9 : Int32) : CtI l yX10_isDigit (wG yX10_isDigit cX10_isDigit 1 (some .boolean)) rmX10_isDigit D [] K [.int c9] [] (fun r w1 => w1 = [] ∧ ((r.toInt = 1 ∧ 48 ≤ c9.toInt ∧ c9.toInt ≤ 57) ∨ (r.toInt = 0 ∧ (c9.toInt < 48 ∨ 57 < c9.toInt)))) 0 0 := by
  intro sz
  refine Met.ofW (cc := cX10_isDigit) (maxL := 1) (ret := (some .boolean)) (by decide) rfl ?_
  intro p e s m args below meth c s₁ B hml hv
  obtain ⟨rfl, hsz, hP, hK, hD0, hE⟩ := hv
  have hx := B.exec
  have hb := B.bytes
  have hr := B.returns
  have hts := atoms_spec (ws := (wG yX10_isDigit cX10_isDigit 1 (some .boolean))) B.pre
  have hown : s.vm.findClass RX10 = some m.cls := findClass_of_methodNamed B.named
  have hlocks := B.notSynchronized
  subst hsz
  have hD := hD0.self (sz := s.heap.size)
  obtain ⟨A, hAe⟩ : ∃ A : Nat → Prop, A = va_A [] s.heap.size := ⟨_, rfl⟩
  rw [← hAe] at hD hE
  have hA : ∀ q : Nat, s.heap.size ≤ q → A q := fun q h => by rw [hAe]; exact Or.inr h
  have hS : va_S A s.heap s.heap [] := va_S.rf
  have hl := lv_entry ([.int c9]) (n := 1) (Nat.le_of_ble_eq_true rfl)
  rw [lg_entry_eq]
  generalize (lg_sl ([.int c9]) ++ List.replicate (1 - (lg_sl ([.int c9])).length) Slot.unset).toArray = ls at hl ⊢
  have hl : lv_has ls 1 [(0, .int c9)] := hl
  refine wq (fun Q hQ => ?_)
  have kc0 : (0 : Int32).toInt = 0 := by decide
  have kc1 : (1 : Int32).toInt = 1 := by decide
  have kc2 : (48 : Int32).toInt = 48 := by decide
  have kc3 : (57 : Int32).toInt = 57 := by decide
  obtain ⟨H, hH⟩ : ∃ H : Heap, H = s.heap := ⟨_, rfl⟩
  obtain ⟨locs, hlc⟩ : ∃ L : List Loc, L = [] := ⟨_, rfl⟩
  have hP : va_P D vwCl [] H := by rw [hH]; exact hP
  have hS : va_S A s.heap H locs := by rw [hH, hlc]; exact hS
  refine wHL hH hlc ?_
  have b_c9 := iB c9
  refine lv_iload_n hx hb dX10_isDigit_0 rfl (lv_at hl 0 rfl) ?_
  refine lv_bipush (v := 48) hx hb dX10_isDigit_1 (by decide) ?_
  refine m_icmp_lt (X := c9.toInt) (Y := 48) (tgt := 16) hx hb dX10_isDigit_3 (by decide) rfl (by decide) (fun c3 => ?_) (fun c3 => ?_)
  · skip
    refine lv_iconst (v := 0) hx hb dX10_isDigit_16 (by decide) ?_
    subst hAe
    rw [hQ]
    exact W.zret (v := 0) hx hb hr (by decide) (fun t ht hW => ⟨⟨0, _, rfl, ⟨rfl, by first | exact Or.inl ⟨by decide, by omega, by omega⟩ | exact Or.inr ⟨by decide, by omega⟩⟩, by rw [ht]; exact hP, va_K.moved hW.alike hK, hD⟩, hS.F ht⟩) hS.2.2 dX10_isDigit_17
  · skip
    refine lv_iload_n hx hb dX10_isDigit_6 rfl (lv_at hl 0 rfl) ?_
    refine lv_bipush (v := 57) hx hb dX10_isDigit_7 (by decide) ?_
    refine m_icmp_gt (X := c9.toInt) (Y := 57) (tgt := 16) hx hb dX10_isDigit_9 (by decide) rfl (by decide) (fun c9 => ?_) (fun c9 => ?_)
    · skip
      refine lv_iconst (v := 0) hx hb dX10_isDigit_16 (by decide) ?_
      subst hAe
      rw [hQ]
      exact W.zret (v := 0) hx hb hr (by decide) (fun t ht hW => ⟨⟨0, _, rfl, ⟨rfl, by first | exact Or.inl ⟨by decide, by omega, by omega⟩ | exact Or.inr ⟨by decide, by omega⟩⟩, by rw [ht]; exact hP, va_K.moved hW.alike hK, hD⟩, hS.F ht⟩) hS.2.2 dX10_isDigit_17
    · skip
      refine lv_iconst (v := 1) hx hb dX10_isDigit_12 (by decide) ?_
      refine lv_goto (tgt := 17) hx hb dX10_isDigit_13 (by decide) ?_
      subst hAe
      rw [hQ]
      exact W.zret (v := 1) hx hb hr (by decide) (fun t ht hW => ⟨⟨1, _, rfl, ⟨rfl, by first | exact Or.inl ⟨by decide, by omega, by omega⟩ | exact Or.inr ⟨by decide, by omega⟩⟩, by rw [ht]; exact hP, va_K.moved hW.alike hK, hD⟩, hS.F ht⟩) hS.2.2 dX10_isDigit_17

def rmX10_isLetter : Room := { frames := 20, cells := 0, slots := 0, locals := 400 }
set_option maxHeartbeats 4000000 in
set_option maxRecDepth 100000 in
theorem tX10_isLetter {l : Launch} {D : va_G} {K : Nat → Nat → Nat} (c9 : Int32) : CtI l yX10_isLetter (wG yX10_isLetter cX10_isLetter 1 (some .boolean)) rmX10_isLetter D [] K [.int c9] [] (fun r w1 => w1 = [] ∧ ((r.toInt = 1 ∧ 97 ≤ c9.toInt ∧ c9.toInt ≤ 122) ∨ (r.toInt = 0 ∧ (c9.toInt < 97 ∨ 122 < c9.toInt)))) 0 0 := by
  intro sz
  refine Met.ofW (cc := cX10_isLetter) (maxL := 1) (ret := (some .boolean)) (by decide) rfl ?_
  intro p e s m args below meth c s₁ B hml hv
  obtain ⟨rfl, hsz, hP, hK, hD0, hE⟩ := hv
  have hx := B.exec
  have hb := B.bytes
  have hr := B.returns
  have hts := atoms_spec (ws := (wG yX10_isLetter cX10_isLetter 1 (some .boolean))) B.pre
  have hown : s.vm.findClass RX10 = some m.cls := findClass_of_methodNamed B.named
  have hlocks := B.notSynchronized
  subst hsz
  have hD := hD0.self (sz := s.heap.size)
  obtain ⟨A, hAe⟩ : ∃ A : Nat → Prop, A = va_A [] s.heap.size := ⟨_, rfl⟩
  rw [← hAe] at hD hE
  have hA : ∀ q : Nat, s.heap.size ≤ q → A q := fun q h => by rw [hAe]; exact Or.inr h
  have hS : va_S A s.heap s.heap [] := va_S.rf
  have hl := lv_entry ([.int c9]) (n := 1) (Nat.le_of_ble_eq_true rfl)
  rw [lg_entry_eq]
  generalize (lg_sl ([.int c9]) ++ List.replicate (1 - (lg_sl ([.int c9])).length) Slot.unset).toArray = ls at hl ⊢
  have hl : lv_has ls 1 [(0, .int c9)] := hl
  refine wq (fun Q hQ => ?_)
  have kc0 : (0 : Int32).toInt = 0 := by decide
  have kc1 : (1 : Int32).toInt = 1 := by decide
  have kc2 : (97 : Int32).toInt = 97 := by decide
  have kc3 : (122 : Int32).toInt = 122 := by decide
  obtain ⟨H, hH⟩ : ∃ H : Heap, H = s.heap := ⟨_, rfl⟩
  obtain ⟨locs, hlc⟩ : ∃ L : List Loc, L = [] := ⟨_, rfl⟩
  have hP : va_P D vwCl [] H := by rw [hH]; exact hP
  have hS : va_S A s.heap H locs := by rw [hH, hlc]; exact hS
  refine wHL hH hlc ?_
  have b_c9 := iB c9
  refine lv_iload_n hx hb dX10_isLetter_0 rfl (lv_at hl 0 rfl) ?_
  refine lv_bipush (v := 97) hx hb dX10_isLetter_1 (by decide) ?_
  refine m_icmp_lt (X := c9.toInt) (Y := 97) (tgt := 16) hx hb dX10_isLetter_3 (by decide) rfl (by decide) (fun c3 => ?_) (fun c3 => ?_)
  · skip
    refine lv_iconst (v := 0) hx hb dX10_isLetter_16 (by decide) ?_
    subst hAe
    rw [hQ]
    exact W.zret (v := 0) hx hb hr (by decide) (fun t ht hW => ⟨⟨0, _, rfl, ⟨rfl, by first | exact Or.inl ⟨by decide, by omega, by omega⟩ | exact Or.inr ⟨by decide, by omega⟩⟩, by rw [ht]; exact hP, va_K.moved hW.alike hK, hD⟩, hS.F ht⟩) hS.2.2 dX10_isLetter_17
  · skip
    refine lv_iload_n hx hb dX10_isLetter_6 rfl (lv_at hl 0 rfl) ?_
    refine lv_bipush (v := 122) hx hb dX10_isLetter_7 (by decide) ?_
    refine m_icmp_gt (X := c9.toInt) (Y := 122) (tgt := 16) hx hb dX10_isLetter_9 (by decide) rfl (by decide) (fun c9 => ?_) (fun c9 => ?_)
    · skip
      refine lv_iconst (v := 0) hx hb dX10_isLetter_16 (by decide) ?_
      subst hAe
      rw [hQ]
      exact W.zret (v := 0) hx hb hr (by decide) (fun t ht hW => ⟨⟨0, _, rfl, ⟨rfl, by first | exact Or.inl ⟨by decide, by omega, by omega⟩ | exact Or.inr ⟨by decide, by omega⟩⟩, by rw [ht]; exact hP, va_K.moved hW.alike hK, hD⟩, hS.F ht⟩) hS.2.2 dX10_isLetter_17
    · skip
      refine lv_iconst (v := 1) hx hb dX10_isLetter_12 (by decide) ?_
      refine lv_goto (tgt := 17) hx hb dX10_isLetter_13 (by decide) ?_
      subst hAe
      rw [hQ]
      exact W.zret (v := 1) hx hb hr (by decide) (fun t ht hW => ⟨⟨1, _, rfl, ⟨rfl, by first | exact Or.inl ⟨by decide, by omega, by omega⟩ | exact Or.inr ⟨by decide, by omega⟩⟩, by rw [ht]; exact hP, va_K.moved hW.alike hK, hD⟩, hS.F ht⟩) hS.2.2 dX10_isLetter_17

def rmX10_readWord : Room := { frames := 40, cells := 0, slots := 0, locals := 800 }
set_option maxHeartbeats 4000000 in
set_option maxRecDepth 100000 in
theorem tX10_readWord {l : Launch} {D : va_G} {K : Nat → Nat → Nat} {cs : Nat → ClassId} {q : Nat → Nat} {v_thrown v_taped v_size v_to v_kind v_from v_letterMany v_isBeyond v_suffix v_steps v_fault v_hasProgram v_wrong v_wrongAt v_variable v_numberKind v_takes v_outed v_creatures v_arrays v_cells v_marks v_came v_guessed v_right v_taken v_sort v_kindAt v_reached v_looked : Int32} {a_tape a_text a_act a_guess a_take a_begin a_finish a_to1 a_one a_two a_what a_ats a_atVar a_atNumber a_atomSort a_atomKind a_out a_varSort a_varKind a_creature a_arrayClass a_arrayFrom a_arrayLong a_cellSort a_cellKind a_asideSort a_asideKind a_outcome a_markSort a_markKind a_markClass a_index : Nat → Int32} {v_letters v_digits v_number v_value : Int64} {a_atomValue a_varValue a_cellValue a_asideValue a_markValue : Nat → Int64} (p_0 : 0 ≤ v_from.toInt) (p_1 : v_from.toInt < v_to.toInt) (p_2 : v_to.toInt ≤ v_size.toInt) (p_3 : 0 ≤ v_size.toInt) (p_4 : v_size.toInt ≤ 3100) : CtV l yX10_readWord (wG yX10_readWord cX10_readWord 3 none) rmX10_readWord D (mwT cs) K [.ref (q 0)] (mw cs q v_thrown a_tape v_taped v_size v_to v_kind v_from v_letters v_letterMany v_digits v_isBeyond v_suffix v_steps v_fault v_hasProgram a_text a_act a_guess a_take a_begin a_finish a_to1 a_one a_two a_what a_ats a_atVar a_atNumber a_atomSort a_atomKind a_atomValue v_wrong v_wrongAt v_variable v_number v_numberKind v_takes a_out v_outed a_varSort a_varKind a_varValue a_creature v_creatures a_arrayClass a_arrayFrom a_arrayLong v_arrays v_cells a_cellSort a_cellKind a_cellValue a_asideSort a_asideKind a_asideValue a_outcome v_marks v_came v_guessed v_right v_taken a_markSort a_markKind a_markClass a_markValue v_sort v_kindAt v_value a_index v_reached v_looked) (fun w1 => ∃ (v_kind' : Int32) (v_letters' : Int64) (v_letterMany' : Int32), w1 = (mw cs q v_thrown a_tape v_taped v_size v_to v_kind' v_from v_letters' v_letterMany' v_digits v_isBeyond v_suffix v_steps v_fault v_hasProgram a_text a_act a_guess a_take a_begin a_finish a_to1 a_one a_two a_what a_ats a_atVar a_atNumber a_atomSort a_atomKind a_atomValue v_wrong v_wrongAt v_variable v_number v_numberKind v_takes a_out v_outed a_varSort a_varKind a_varValue a_creature v_creatures a_arrayClass a_arrayFrom a_arrayLong v_arrays v_cells a_cellSort a_cellKind a_cellValue a_asideSort a_asideKind a_asideValue a_outcome v_marks v_came v_guessed v_right v_taken a_markSort a_markKind a_markClass a_markValue v_sort v_kindAt v_value a_index v_reached v_looked) ∧ (v_kind'.toInt = 1 ∨ v_kind'.toInt = 2) ∧ (v_kind'.toInt = 2 → v_letterMany'.toInt = 1 → 1 ≤ v_letters'.toInt ∧ v_letters'.toInt ≤ 26)) 0 0 := by
  intro sz
  refine Met.ofW (cc := cX10_readWord) (maxL := 3) (ret := none) (by decide) rfl ?_
  intro p e s m args below meth c s₁ B hml hv
  obtain ⟨rfl, hsz, hP, hK, hD0, hE⟩ := hv
  have hx := B.exec
  have hb := B.bytes
  have hr := B.returns
  have hts := atoms_spec (ws := (wG yX10_readWord cX10_readWord 3 none)) B.pre
  have hown : s.vm.findClass RX10 = some m.cls := findClass_of_methodNamed B.named
  have hlocks := B.notSynchronized
  subst hsz
  have hD := hD0.self (sz := s.heap.size)
  obtain ⟨A, hAe⟩ : ∃ A : Nat → Prop, A = va_A (mw cs q v_thrown a_tape v_taped v_size v_to v_kind v_from v_letters v_letterMany v_digits v_isBeyond v_suffix v_steps v_fault v_hasProgram a_text a_act a_guess a_take a_begin a_finish a_to1 a_one a_two a_what a_ats a_atVar a_atNumber a_atomSort a_atomKind a_atomValue v_wrong v_wrongAt v_variable v_number v_numberKind v_takes a_out v_outed a_varSort a_varKind a_varValue a_creature v_creatures a_arrayClass a_arrayFrom a_arrayLong v_arrays v_cells a_cellSort a_cellKind a_cellValue a_asideSort a_asideKind a_asideValue a_outcome v_marks v_came v_guessed v_right v_taken a_markSort a_markKind a_markClass a_markValue v_sort v_kindAt v_value a_index v_reached v_looked) s.heap.size := ⟨_, rfl⟩
  rw [← hAe] at hD hE
  have hA : ∀ q : Nat, s.heap.size ≤ q → A q := fun q h => by rw [hAe]; exact Or.inr h
  have hS : va_S A s.heap s.heap [] := va_S.rf
  have hl := lv_entry ([.ref (q 0)]) (n := 3) (Nat.le_of_ble_eq_true rfl)
  rw [lg_entry_eq]
  generalize (lg_sl ([.ref (q 0)]) ++ List.replicate (3 - (lg_sl ([.ref (q 0)])).length) Slot.unset).toArray = ls at hl ⊢
  have hl : lv_has ls 3 [(0, .ref (q 0))] := hl
  refine wq (fun Q hQ => ?_)
  have hin : ∀ w ∈ wsX100, w ∈ (wG yX10_readWord cX10_readWord 3 none) := fun w h => List.mem_cons_of_mem _ (inlX10 w h)
  have kc0 : (0 : Int32).toInt = 0 := by decide
  have kc1 : (1 : Int32).toInt = 1 := by decide
  have kc2 : (2 : Int32).toInt = 2 := by decide
  have kc3 : (8 : Int32).toInt = 8 := by decide
  have kc4 : (0 : Int64).toInt = 0 := by decide
  have kc5 : (32 : Int64).toInt = 32 := by decide
  have kc6 : (96 : Int64).toInt = 96 := by decide
  have k_23_1 := hts (.fieldLink RX10 289 "ArrayTrainerModel" "letters" "J") (List.mem_cons_of_mem _ (wr23 _ (List.mem_of_getElem? (i := 1) rfl)))
  have k_22_12 := hts (.fieldLink RX10 263 "ArrayTrainerModel" "to" "I") (List.mem_cons_of_mem _ (wr22 _ (List.mem_of_getElem? (i := 12) rfl)))
  have k_23_0 := hts (.fieldLink RX10 270 "ArrayTrainerModel" "from" "I") (List.mem_cons_of_mem _ (wr23 _ (List.mem_of_getElem? (i := 0) rfl)))
  have k_23_16 := hts (.fieldLink RX10 293 "ArrayTrainerModel" "letterMany" "I") (List.mem_cons_of_mem _ (wr23 _ (List.mem_of_getElem? (i := 16) rfl)))
  have k_22_15 := hts (.fieldLink RX10 273 "ArrayTrainerModel" "kind" "I") (List.mem_cons_of_mem _ (wr22 _ (List.mem_of_getElem? (i := 15) rfl)))
  have k_23_17 := hts (.constantLong RX10 139 (32)) (List.mem_cons_of_mem _ (wr23 _ (List.mem_of_getElem? (i := 17) rfl)))
  have k_23_18 := hts (.constantLong RX10 145 (96)) (List.mem_cons_of_mem _ (wr23 _ (List.mem_of_getElem? (i := 18) rfl)))
  obtain ⟨H, hH⟩ : ∃ H : Heap, H = s.heap := ⟨_, rfl⟩
  obtain ⟨locs, hlc⟩ : ∃ L : List Loc, L = [] := ⟨_, rfl⟩
  have hP : va_P D vwCl (mw cs q v_thrown a_tape v_taped v_size v_to v_kind v_from v_letters v_letterMany v_digits v_isBeyond v_suffix v_steps v_fault v_hasProgram a_text a_act a_guess a_take a_begin a_finish a_to1 a_one a_two a_what a_ats a_atVar a_atNumber a_atomSort a_atomKind a_atomValue v_wrong v_wrongAt v_variable v_number v_numberKind v_takes a_out v_outed a_varSort a_varKind a_varValue a_creature v_creatures a_arrayClass a_arrayFrom a_arrayLong v_arrays v_cells a_cellSort a_cellKind a_cellValue a_asideSort a_asideKind a_asideValue a_outcome v_marks v_came v_guessed v_right v_taken a_markSort a_markKind a_markClass a_markValue v_sort v_kindAt v_value a_index v_reached v_looked) H := by rw [hH]; exact hP
  have hS : va_S A s.heap H locs := by rw [hH, hlc]; exact hS
  refine wHL hH hlc ?_
  refine lv_aload_n hx hb dX10_readWord_0 rfl (lv_at hl 0 rfl) ?_
  refine lv_lconst (v := 0) hx hb dX10_readWord_1 (by decide) ?_
  refine va_put (D := D) (ci := 9) (v := .long 0) (ty := .long) (C := RX10) (T := TX10) (N := 71) hx hb hts hin tyX10 tyX10_ok nmX10 hown hK hP hD hS 0 rfl rfl 7 (by decide) k_23_1 (fun _ h9 => h9) rfl (by decide +kernel) rfl rfl (Nat.le_of_ble_eq_true rfl) dX10_readWord_2 (fun H locs hP hD hS => ?_)
  have hP : va_P D vwCl (mw cs q v_thrown a_tape v_taped v_size v_to v_kind v_from (0 : Int64) v_letterMany v_digits v_isBeyond v_suffix v_steps v_fault v_hasProgram a_text a_act a_guess a_take a_begin a_finish a_to1 a_one a_two a_what a_ats a_atVar a_atNumber a_atomSort a_atomKind a_atomValue v_wrong v_wrongAt v_variable v_number v_numberKind v_takes a_out v_outed a_varSort a_varKind a_varValue a_creature v_creatures a_arrayClass a_arrayFrom a_arrayLong v_arrays v_cells a_cellSort a_cellKind a_cellValue a_asideSort a_asideKind a_asideValue a_outcome v_marks v_came v_guessed v_right v_taken a_markSort a_markKind a_markClass a_markValue v_sort v_kindAt v_value a_index v_reached v_looked) H := hP
  have hD : va_D A (mw cs q v_thrown a_tape v_taped v_size v_to v_kind v_from (0 : Int64) v_letterMany v_digits v_isBeyond v_suffix v_steps v_fault v_hasProgram a_text a_act a_guess a_take a_begin a_finish a_to1 a_one a_two a_what a_ats a_atVar a_atNumber a_atomSort a_atomKind a_atomValue v_wrong v_wrongAt v_variable v_number v_numberKind v_takes a_out v_outed a_varSort a_varKind a_varValue a_creature v_creatures a_arrayClass a_arrayFrom a_arrayLong v_arrays v_cells a_cellSort a_cellKind a_cellValue a_asideSort a_asideKind a_asideValue a_outcome v_marks v_came v_guessed v_right v_taken a_markSort a_markKind a_markClass a_markValue v_sort v_kindAt v_value a_index v_reached v_looked) := hD
  refine lv_aload_n hx hb dX10_readWord_5 rfl (lv_at hl 0 rfl) ?_
  refine lv_aload_n hx hb dX10_readWord_6 rfl (lv_at hl 0 rfl) ?_
  refine va_get (D := D) (ci := 9) (v := .int v_to) (C := RX10) (T := TX10) (N := 71) hx hb hts hin hown hK hP 0 rfl rfl 4 (by decide) k_22_12 (fun _ h9 => h9) rfl dX10_readWord_7 ?_
  refine lv_aload_n hx hb dX10_readWord_10 rfl (lv_at hl 0 rfl) ?_
  refine va_get (D := D) (ci := 9) (v := .int v_from) (C := RX10) (T := TX10) (N := 71) hx hb hts hin hown hK hP 0 rfl rfl 6 (by decide) k_23_0 (fun _ h9 => h9) rfl dX10_readWord_11 ?_
  refine m_isub (X := v_to.toInt) (Y := v_from.toInt) hx hb dX10_readWord_14 rfl rfl (fun x14 e_x14 g9 => ?_)
  obtain ⟨k_x14, g_x14⟩ := g9
  have b_x14 := iB x14
  try (have q_x14 : x14.toInt = v_to.toInt - v_from.toInt := (by omega); clear g_x14 k_x14)
  refine va_put (D := D) (ci := 9) (v := .int x14) (ty := .int) (C := RX10) (T := TX10) (N := 71) hx hb hts hin tyX10 tyX10_ok nmX10 hown hK hP hD hS 0 rfl rfl 8 (by decide) k_23_16 (fun _ h9 => h9) rfl (by decide +kernel) rfl rfl (Nat.le_of_ble_eq_true rfl) dX10_readWord_15 (fun H locs hP hD hS => ?_)
  have hP : va_P D vwCl (mw cs q v_thrown a_tape v_taped v_size v_to v_kind v_from (0 : Int64) x14 v_digits v_isBeyond v_suffix v_steps v_fault v_hasProgram a_text a_act a_guess a_take a_begin a_finish a_to1 a_one a_two a_what a_ats a_atVar a_atNumber a_atomSort a_atomKind a_atomValue v_wrong v_wrongAt v_variable v_number v_numberKind v_takes a_out v_outed a_varSort a_varKind a_varValue a_creature v_creatures a_arrayClass a_arrayFrom a_arrayLong v_arrays v_cells a_cellSort a_cellKind a_cellValue a_asideSort a_asideKind a_asideValue a_outcome v_marks v_came v_guessed v_right v_taken a_markSort a_markKind a_markClass a_markValue v_sort v_kindAt v_value a_index v_reached v_looked) H := hP
  have hD : va_D A (mw cs q v_thrown a_tape v_taped v_size v_to v_kind v_from (0 : Int64) x14 v_digits v_isBeyond v_suffix v_steps v_fault v_hasProgram a_text a_act a_guess a_take a_begin a_finish a_to1 a_one a_two a_what a_ats a_atVar a_atNumber a_atomSort a_atomKind a_atomValue v_wrong v_wrongAt v_variable v_number v_numberKind v_takes a_out v_outed a_varSort a_varKind a_varValue a_creature v_creatures a_arrayClass a_arrayFrom a_arrayLong v_arrays v_cells a_cellSort a_cellKind a_cellValue a_asideSort a_asideKind a_asideValue a_outcome v_marks v_came v_guessed v_right v_taken a_markSort a_markKind a_markClass a_markValue v_sort v_kindAt v_value a_index v_reached v_looked) := hD
  refine lv_aload_n hx hb dX10_readWord_18 rfl (lv_at hl 0 rfl) ?_
  refine va_get (D := D) (ci := 9) (v := .int x14) (C := RX10) (T := TX10) (N := 71) hx hb hts hin hown hK hP 0 rfl rfl 8 (by decide) k_23_16 (fun _ h9 => h9) rfl dX10_readWord_19 ?_
  refine lv_bipush (v := 8) hx hb dX10_readWord_22 (by decide) ?_
  have J32 : ∀ (s0_32 : Int32) (H : Heap) (locs : List Loc) (ls : Array Slot), (s0_32.toInt = 0 ∨ s0_32.toInt = 1) → va_P D vwCl (mw cs q v_thrown a_tape v_taped v_size v_to v_kind v_from (0 : Int64) x14 v_digits v_isBeyond v_suffix v_steps v_fault v_hasProgram a_text a_act a_guess a_take a_begin a_finish a_to1 a_one a_two a_what a_ats a_atVar a_atNumber a_atomSort a_atomKind a_atomValue v_wrong v_wrongAt v_variable v_number v_numberKind v_takes a_out v_outed a_varSort a_varKind a_varValue a_creature v_creatures a_arrayClass a_arrayFrom a_arrayLong v_arrays v_cells a_cellSort a_cellKind a_cellValue a_asideSort a_asideKind a_asideValue a_outcome v_marks v_came v_guessed v_right v_taken a_markSort a_markKind a_markClass a_markValue v_sort v_kindAt v_value a_index v_reached v_looked) H → va_D A (mw cs q v_thrown a_tape v_taped v_size v_to v_kind v_from (0 : Int64) x14 v_digits v_isBeyond v_suffix v_steps v_fault v_hasProgram a_text a_act a_guess a_take a_begin a_finish a_to1 a_one a_two a_what a_ats a_atVar a_atNumber a_atomSort a_atomKind a_atomValue v_wrong v_wrongAt v_variable v_number v_numberKind v_takes a_out v_outed a_varSort a_varKind a_varValue a_creature v_creatures a_arrayClass a_arrayFrom a_arrayLong v_arrays v_cells a_cellSort a_cellKind a_cellValue a_asideSort a_asideKind a_asideValue a_outcome v_marks v_came v_guessed v_right v_taken a_markSort a_markKind a_markClass a_markValue v_sort v_kindAt v_value a_index v_reached v_looked) → va_S A s.heap H locs → lv_has ls 3 [(0, .ref (q 0))] → W p l e (headSpec (wG yX10_readWord cX10_readWord 3 none) rmX10_readWord).room s m ([.ref (q 0)] : List Value).toArray below meth c H locs 0 0 Q (F0 m 32 ls [.int s0_32]) := by
    intro s0_32 H locs ls f32_0 hP hD hS hl
    refine lv_istore_n (lv' := [(1, .int s0_32), (0, .ref (q 0))]) hx hb dX10_readWord_32 rfl hl (by decide) rfl (fun ls hl => ?_)
    refine lv_aload_n hx hb dX10_readWord_33 rfl (lv_at hl 1 rfl) ?_
    refine va_get (D := D) (ci := 9) (v := .int v_from) (C := RX10) (T := TX10) (N := 71) hx hb hts hin hown hK hP 0 rfl rfl 6 (by decide) k_23_0 (fun _ h9 => h9) rfl dX10_readWord_34 ?_
    refine lv_istore_n (lv' := [(2, .int v_from), (1, .int s0_32), (0, .ref (q 0))]) hx hb dX10_readWord_37 rfl hl (by decide) rfl (fun ls hl => ?_)
    have J38 : ∀ (n38 : Nat) (l1_38 : Int32) (l2_38 : Int32) (v_letters_38 : Int64) (H : Heap) (locs : List Loc) (ls : Array Slot), (v_from.toInt ≤ l2_38.toInt) → (l2_38.toInt ≤ v_to.toInt) → (l1_38.toInt = 0 ∨ l1_38.toInt = 1) → (l2_38.toInt = v_from.toInt → v_letters_38.toInt = 0) → (l2_38.toInt = v_from.toInt + 1 → l1_38.toInt = 1 → 1 ≤ v_letters_38.toInt ∧ v_letters_38.toInt ≤ 26) → (v_to.toInt - l2_38.toInt < (n38 : Int)) → va_P D vwCl (mw cs q v_thrown a_tape v_taped v_size v_to v_kind v_from v_letters_38 x14 v_digits v_isBeyond v_suffix v_steps v_fault v_hasProgram a_text a_act a_guess a_take a_begin a_finish a_to1 a_one a_two a_what a_ats a_atVar a_atNumber a_atomSort a_atomKind a_atomValue v_wrong v_wrongAt v_variable v_number v_numberKind v_takes a_out v_outed a_varSort a_varKind a_varValue a_creature v_creatures a_arrayClass a_arrayFrom a_arrayLong v_arrays v_cells a_cellSort a_cellKind a_cellValue a_asideSort a_asideKind a_asideValue a_outcome v_marks v_came v_guessed v_right v_taken a_markSort a_markKind a_markClass a_markValue v_sort v_kindAt v_value a_index v_reached v_looked) H → va_D A (mw cs q v_thrown a_tape v_taped v_size v_to v_kind v_from v_letters_38 x14 v_digits v_isBeyond v_suffix v_steps v_fault v_hasProgram a_text a_act a_guess a_take a_begin a_finish a_to1 a_one a_two a_what a_ats a_atVar a_atNumber a_atomSort a_atomKind a_atomValue v_wrong v_wrongAt v_variable v_number v_numberKind v_takes a_out v_outed a_varSort a_varKind a_varValue a_creature v_creatures a_arrayClass a_arrayFrom a_arrayLong v_arrays v_cells a_cellSort a_cellKind a_cellValue a_asideSort a_asideKind a_asideValue a_outcome v_marks v_came v_guessed v_right v_taken a_markSort a_markKind a_markClass a_markValue v_sort v_kindAt v_value a_index v_reached v_looked) → va_S A s.heap H locs → lv_has ls 3 [(0, .ref (q 0)), (1, .int l1_38), (2, .int l2_38)] → W p l e (headSpec (wG yX10_readWord cX10_readWord 3 none) rmX10_readWord).room s m ([.ref (q 0)] : List Value).toArray below meth c H locs 0 0 Q (F0 m 38 ls []) := by
      intro n38
      induction n38 with
      | zero =>
        intro l1_38 l2_38 v_letters_38 H locs ls f38_0 f38_1 f38_2 f38_3 f38_4 hm38
        exfalso
        omega
      | succ n38 ih38 =>
        intro l1_38 l2_38 v_letters_38 H locs ls f38_0 f38_1 f38_2 f38_3 f38_4 hm38 hP hD hS hl
        refine lv_iload_n hx hb dX10_readWord_38 rfl (lv_at hl 2 rfl) ?_
        refine lv_aload_n hx hb dX10_readWord_39 rfl (lv_at hl 0 rfl) ?_
        refine va_get (D := D) (ci := 9) (v := .int v_to) (C := RX10) (T := TX10) (N := 71) hx hb hts hin hown hK hP 0 rfl rfl 4 (by decide) k_22_12 (fun _ h9 => h9) rfl dX10_readWord_40 ?_
        refine m_icmp_ge (X := l2_38.toInt) (Y := v_to.toInt) (tgt := 88) hx hb dX10_readWord_43 (by decide) rfl rfl (fun c43 => ?_) (fun c43 => ?_)
        · skip
          refine lv_aload_n hx hb dX10_readWord_88 rfl (lv_at hl 0 rfl) ?_
          refine lv_iload_n hx hb dX10_readWord_89 rfl (lv_at hl 1 rfl) ?_
          refine m_if_eq (X := l1_38.toInt) (tgt := 97) hx hb dX10_readWord_90 (by decide) rfl (fun c90 => ?_) (fun c90 => ?_)
          · skip
            refine lv_iconst (v := 1) hx hb dX10_readWord_97 (by decide) ?_
            refine va_put (D := D) (ci := 9) (v := .int 1) (ty := .int) (C := RX10) (T := TX10) (N := 71) hx hb hts hin tyX10 tyX10_ok nmX10 hown hK hP hD hS 0 rfl rfl 5 (by decide) k_22_15 (fun _ h9 => h9) rfl (by decide +kernel) rfl rfl (Nat.le_of_ble_eq_true rfl) dX10_readWord_98 (fun H locs hP hD hS => ?_)
            have hP : va_P D vwCl (mw cs q v_thrown a_tape v_taped v_size v_to (1 : Int32) v_from v_letters_38 x14 v_digits v_isBeyond v_suffix v_steps v_fault v_hasProgram a_text a_act a_guess a_take a_begin a_finish a_to1 a_one a_two a_what a_ats a_atVar a_atNumber a_atomSort a_atomKind a_atomValue v_wrong v_wrongAt v_variable v_number v_numberKind v_takes a_out v_outed a_varSort a_varKind a_varValue a_creature v_creatures a_arrayClass a_arrayFrom a_arrayLong v_arrays v_cells a_cellSort a_cellKind a_cellValue a_asideSort a_asideKind a_asideValue a_outcome v_marks v_came v_guessed v_right v_taken a_markSort a_markKind a_markClass a_markValue v_sort v_kindAt v_value a_index v_reached v_looked) H := hP
            have hD : va_D A (mw cs q v_thrown a_tape v_taped v_size v_to (1 : Int32) v_from v_letters_38 x14 v_digits v_isBeyond v_suffix v_steps v_fault v_hasProgram a_text a_act a_guess a_take a_begin a_finish a_to1 a_one a_two a_what a_ats a_atVar a_atNumber a_atomSort a_atomKind a_atomValue v_wrong v_wrongAt v_variable v_number v_numberKind v_takes a_out v_outed a_varSort a_varKind a_varValue a_creature v_creatures a_arrayClass a_arrayFrom a_arrayLong v_arrays v_cells a_cellSort a_cellKind a_cellValue a_asideSort a_asideKind a_asideValue a_outcome v_marks v_came v_guessed v_right v_taken a_markSort a_markKind a_markClass a_markValue v_sort v_kindAt v_value a_index v_reached v_looked) := hD
            subst hAe
            rw [hQ]
            exact W.vret hx hb hr (fun t ht hW => ⟨⟨_, rfl, ⟨(1 : Int32), v_letters_38, x14, rfl, by first | assumption | omega | (intros; omega) | decide, by first | assumption | omega | (intros; omega) | decide⟩, by rw [ht]; exact hP, va_K.moved hW.alike hK, hD⟩, hS.F ht⟩) hS.2.2 dX10_readWord_101
          · skip
            refine lv_iconst (v := 2) hx hb dX10_readWord_93 (by decide) ?_
            refine lv_goto (tgt := 98) hx hb dX10_readWord_94 (by decide) ?_
            refine va_put (D := D) (ci := 9) (v := .int 2) (ty := .int) (C := RX10) (T := TX10) (N := 71) hx hb hts hin tyX10 tyX10_ok nmX10 hown hK hP hD hS 0 rfl rfl 5 (by decide) k_22_15 (fun _ h9 => h9) rfl (by decide +kernel) rfl rfl (Nat.le_of_ble_eq_true rfl) dX10_readWord_98 (fun H locs hP hD hS => ?_)
            have hP : va_P D vwCl (mw cs q v_thrown a_tape v_taped v_size v_to (2 : Int32) v_from v_letters_38 x14 v_digits v_isBeyond v_suffix v_steps v_fault v_hasProgram a_text a_act a_guess a_take a_begin a_finish a_to1 a_one a_two a_what a_ats a_atVar a_atNumber a_atomSort a_atomKind a_atomValue v_wrong v_wrongAt v_variable v_number v_numberKind v_takes a_out v_outed a_varSort a_varKind a_varValue a_creature v_creatures a_arrayClass a_arrayFrom a_arrayLong v_arrays v_cells a_cellSort a_cellKind a_cellValue a_asideSort a_asideKind a_asideValue a_outcome v_marks v_came v_guessed v_right v_taken a_markSort a_markKind a_markClass a_markValue v_sort v_kindAt v_value a_index v_reached v_looked) H := hP
            have hD : va_D A (mw cs q v_thrown a_tape v_taped v_size v_to (2 : Int32) v_from v_letters_38 x14 v_digits v_isBeyond v_suffix v_steps v_fault v_hasProgram a_text a_act a_guess a_take a_begin a_finish a_to1 a_one a_two a_what a_ats a_atVar a_atNumber a_atomSort a_atomKind a_atomValue v_wrong v_wrongAt v_variable v_number v_numberKind v_takes a_out v_outed a_varSort a_varKind a_varValue a_creature v_creatures a_arrayClass a_arrayFrom a_arrayLong v_arrays v_cells a_cellSort a_cellKind a_cellValue a_asideSort a_asideKind a_asideValue a_outcome v_marks v_came v_guessed v_right v_taken a_markSort a_markKind a_markClass a_markValue v_sort v_kindAt v_value a_index v_reached v_looked) := hD
            subst hAe
            rw [hQ]
            exact W.vret hx hb hr (fun t ht hW => ⟨⟨_, rfl, ⟨(2 : Int32), v_letters_38, x14, rfl, by first | assumption | omega | (intros; omega) | decide, by first | assumption | omega | (intros; omega) | decide⟩, by rw [ht]; exact hP, va_K.moved hW.alike hK, hD⟩, hS.F ht⟩) hS.2.2 dX10_readWord_101
        · skip
          refine lv_iload_n hx hb dX10_readWord_46 rfl (lv_at hl 1 rfl) ?_
          refine m_if_eq (X := l1_38.toInt) (tgt := 88) hx hb dX10_readWord_47 (by decide) rfl (fun c47 => ?_) (fun c47 => ?_)
          · skip
            refine lv_aload_n hx hb dX10_readWord_88 rfl (lv_at hl 0 rfl) ?_
            refine lv_iload_n hx hb dX10_readWord_89 rfl (lv_at hl 1 rfl) ?_
            refine m_if_eq (X := l1_38.toInt) (tgt := 97) hx hb dX10_readWord_90 (by decide) rfl (fun c90 => ?_) (fun c90 => ?_)
            · skip
              refine lv_iconst (v := 1) hx hb dX10_readWord_97 (by decide) ?_
              refine va_put (D := D) (ci := 9) (v := .int 1) (ty := .int) (C := RX10) (T := TX10) (N := 71) hx hb hts hin tyX10 tyX10_ok nmX10 hown hK hP hD hS 0 rfl rfl 5 (by decide) k_22_15 (fun _ h9 => h9) rfl (by decide +kernel) rfl rfl (Nat.le_of_ble_eq_true rfl) dX10_readWord_98 (fun H locs hP hD hS => ?_)
              have hP : va_P D vwCl (mw cs q v_thrown a_tape v_taped v_size v_to (1 : Int32) v_from v_letters_38 x14 v_digits v_isBeyond v_suffix v_steps v_fault v_hasProgram a_text a_act a_guess a_take a_begin a_finish a_to1 a_one a_two a_what a_ats a_atVar a_atNumber a_atomSort a_atomKind a_atomValue v_wrong v_wrongAt v_variable v_number v_numberKind v_takes a_out v_outed a_varSort a_varKind a_varValue a_creature v_creatures a_arrayClass a_arrayFrom a_arrayLong v_arrays v_cells a_cellSort a_cellKind a_cellValue a_asideSort a_asideKind a_asideValue a_outcome v_marks v_came v_guessed v_right v_taken a_markSort a_markKind a_markClass a_markValue v_sort v_kindAt v_value a_index v_reached v_looked) H := hP
              have hD : va_D A (mw cs q v_thrown a_tape v_taped v_size v_to (1 : Int32) v_from v_letters_38 x14 v_digits v_isBeyond v_suffix v_steps v_fault v_hasProgram a_text a_act a_guess a_take a_begin a_finish a_to1 a_one a_two a_what a_ats a_atVar a_atNumber a_atomSort a_atomKind a_atomValue v_wrong v_wrongAt v_variable v_number v_numberKind v_takes a_out v_outed a_varSort a_varKind a_varValue a_creature v_creatures a_arrayClass a_arrayFrom a_arrayLong v_arrays v_cells a_cellSort a_cellKind a_cellValue a_asideSort a_asideKind a_asideValue a_outcome v_marks v_came v_guessed v_right v_taken a_markSort a_markKind a_markClass a_markValue v_sort v_kindAt v_value a_index v_reached v_looked) := hD
              subst hAe
              rw [hQ]
              exact W.vret hx hb hr (fun t ht hW => ⟨⟨_, rfl, ⟨(1 : Int32), v_letters_38, x14, rfl, by first | assumption | omega | (intros; omega) | decide, by first | assumption | omega | (intros; omega) | decide⟩, by rw [ht]; exact hP, va_K.moved hW.alike hK, hD⟩, hS.F ht⟩) hS.2.2 dX10_readWord_101
            · skip
              refine lv_iconst (v := 2) hx hb dX10_readWord_93 (by decide) ?_
              refine lv_goto (tgt := 98) hx hb dX10_readWord_94 (by decide) ?_
              refine va_put (D := D) (ci := 9) (v := .int 2) (ty := .int) (C := RX10) (T := TX10) (N := 71) hx hb hts hin tyX10 tyX10_ok nmX10 hown hK hP hD hS 0 rfl rfl 5 (by decide) k_22_15 (fun _ h9 => h9) rfl (by decide +kernel) rfl rfl (Nat.le_of_ble_eq_true rfl) dX10_readWord_98 (fun H locs hP hD hS => ?_)
              have hP : va_P D vwCl (mw cs q v_thrown a_tape v_taped v_size v_to (2 : Int32) v_from v_letters_38 x14 v_digits v_isBeyond v_suffix v_steps v_fault v_hasProgram a_text a_act a_guess a_take a_begin a_finish a_to1 a_one a_two a_what a_ats a_atVar a_atNumber a_atomSort a_atomKind a_atomValue v_wrong v_wrongAt v_variable v_number v_numberKind v_takes a_out v_outed a_varSort a_varKind a_varValue a_creature v_creatures a_arrayClass a_arrayFrom a_arrayLong v_arrays v_cells a_cellSort a_cellKind a_cellValue a_asideSort a_asideKind a_asideValue a_outcome v_marks v_came v_guessed v_right v_taken a_markSort a_markKind a_markClass a_markValue v_sort v_kindAt v_value a_index v_reached v_looked) H := hP
              have hD : va_D A (mw cs q v_thrown a_tape v_taped v_size v_to (2 : Int32) v_from v_letters_38 x14 v_digits v_isBeyond v_suffix v_steps v_fault v_hasProgram a_text a_act a_guess a_take a_begin a_finish a_to1 a_one a_two a_what a_ats a_atVar a_atNumber a_atomSort a_atomKind a_atomValue v_wrong v_wrongAt v_variable v_number v_numberKind v_takes a_out v_outed a_varSort a_varKind a_varValue a_creature v_creatures a_arrayClass a_arrayFrom a_arrayLong v_arrays v_cells a_cellSort a_cellKind a_cellValue a_asideSort a_asideKind a_asideValue a_outcome v_marks v_came v_guessed v_right v_taken a_markSort a_markKind a_markClass a_markValue v_sort v_kindAt v_value a_index v_reached v_looked) := hD
              subst hAe
              rw [hQ]
              exact W.vret hx hb hr (fun t ht hW => ⟨⟨_, rfl, ⟨(2 : Int32), v_letters_38, x14, rfl, by first | assumption | omega | (intros; omega) | decide, by first | assumption | omega | (intros; omega) | decide⟩, by rw [ht]; exact hP, va_K.moved hW.alike hK, hD⟩, hS.F ht⟩) hS.2.2 dX10_readWord_101
          · skip
            refine lv_aload_n hx hb dX10_readWord_50 rfl (lv_at hl 0 rfl) ?_
            refine lv_iload_n hx hb dX10_readWord_51 rfl (lv_at hl 2 rfl) ?_
            refine call_i (As := [.int l2_38]) (rest := []) ⟨hx, hb, hml, hown, hts⟩ (tX10_at (l := l) l2_38 (by first | assumption | omega | (intros; omega) | decide) (by first | assumption | omega | (intros; omega) | decide) (by first | assumption | omega | (intros; omega) | decide)) (cwV 1 hts (gV (wr23 _ (List.mem_of_getElem? (i := 2) rfl)) (wr23 _ (List.mem_of_getElem? (i := 3) rfl)) (wr23 _ (List.mem_of_getElem? (i := 4) rfl)) (wr1 _ (List.mem_of_getElem? (i := 5) rfl)) (wr23 _ (List.mem_of_getElem? (i := 5) rfl))) rfl rfl rfl (by decide +kernel) ⟨Nat.le_of_ble_eq_true rfl, Nat.le_of_ble_eq_true rfl⟩) (va_recv hK hP (ci := 9) (q0 := 0) rfl rfl) hK hP hD hE hS hA rfl hl.1 rfl (Nat.le_of_ble_eq_true rfl) dX10_readWord_52 ⟨Nat.le_of_ble_eq_true rfl, Nat.le_of_ble_eq_true rfl⟩ (fun r52 w9 H locs hw52 hP hD hS => ?_)
            obtain ⟨rfl, hw52_0⟩ := hw52
            have b_r52 := iB r52
            refine call_iSP (As := [.int r52]) (rest := []) ⟨hx, hb, hml, hown, hts⟩ (tX10_isLetter (l := l) r52) (va_cwS 1 hts (gS (wr23 _ (List.mem_of_getElem? (i := 6) rfl)) (wr23 _ (List.mem_of_getElem? (i := 7) rfl)) (wr1 _ (List.mem_of_getElem? (i := 5) rfl)) (wr23 _ (List.mem_of_getElem? (i := 8) rfl))) rfl rfl rfl (by decide +kernel) ⟨Nat.le_of_ble_eq_true rfl, Nat.le_of_ble_eq_true rfl⟩) (hK.sub [] rfl) hP hD hE hS hA rfl hl.1 rfl (Nat.le_of_ble_eq_true rfl) dX10_readWord_55 ⟨Nat.le_of_ble_eq_true rfl, Nat.le_of_ble_eq_true rfl⟩ (fun r55 w9 H locs hw55 hP hD hS => ?_)
            obtain ⟨rfl, hw55_0⟩ := hw55
            have b_r55 := iB r55
            refine lv_istore_n (lv' := [(1, .int r55), (0, .ref (q 0)), (2, .int l2_38)]) hx hb dX10_readWord_58 rfl hl (by decide) rfl (fun ls hl => ?_)
            refine lv_aload_n hx hb dX10_readWord_59 rfl (lv_at hl 1 rfl) ?_
            refine lv_aload_n hx hb dX10_readWord_60 rfl (lv_at hl 1 rfl) ?_
            refine va_get (D := D) (ci := 9) (v := .long v_letters_38) (C := RX10) (T := TX10) (N := 71) hx hb hts hin hown hK hP 0 rfl rfl 7 (by decide) k_23_1 (fun _ h9 => h9) rfl dX10_readWord_61 ?_
            refine lv_ldc2 (v := 32) hx hb hown k_23_17 dX10_readWord_64 ?_
            refine m_lmul (X := v_letters_38.toInt) (Y := 32) hx hb dX10_readWord_67 rfl (by decide) (fun x67 e_x67 g9 => ?_)
            obtain ⟨k_x67, g_x67⟩ := g9
            have b_x67 := jB x67
            try (have q_x67 : x67.toInt = v_letters_38.toInt * 32 := (by omega); clear g_x67 k_x67)
            refine lv_aload_n hx hb dX10_readWord_68 rfl (lv_at hl 1 rfl) ?_
            refine lv_iload_n hx hb dX10_readWord_69 rfl (lv_at hl 2 rfl) ?_
            refine call_i (As := [.int l2_38]) (rest := [.long x67, .ref (q 0)]) ⟨hx, hb, hml, hown, hts⟩ (tX10_at (l := l) l2_38 (by first | assumption | omega | (intros; omega) | decide) (by first | assumption | omega | (intros; omega) | decide) (by first | assumption | omega | (intros; omega) | decide)) (cwV 1 hts (gV (wr23 _ (List.mem_of_getElem? (i := 2) rfl)) (wr23 _ (List.mem_of_getElem? (i := 3) rfl)) (wr23 _ (List.mem_of_getElem? (i := 4) rfl)) (wr1 _ (List.mem_of_getElem? (i := 5) rfl)) (wr23 _ (List.mem_of_getElem? (i := 5) rfl))) rfl rfl rfl (by decide +kernel) ⟨Nat.le_of_ble_eq_true rfl, Nat.le_of_ble_eq_true rfl⟩) (va_recv hK hP (ci := 9) (q0 := 0) rfl rfl) hK hP hD hE hS hA rfl hl.1 rfl (Nat.le_of_ble_eq_true rfl) dX10_readWord_70 ⟨Nat.le_of_ble_eq_true rfl, Nat.le_of_ble_eq_true rfl⟩ (fun r70 w9 H locs hw70 hP hD hS => ?_)
            obtain ⟨rfl, hw70_0⟩ := hw70
            have b_r70 := iB r70
            refine m_i2l (X := r70.toInt) hx hb dX10_readWord_73 rfl (fun x73 e_x73 g_x73 => ?_)
            refine m_ladd (X := x67.toInt) (Y := x73.toInt) hx hb dX10_readWord_74 rfl rfl (fun x74 e_x74 g9 => ?_)
            obtain ⟨k_x74, g_x74⟩ := g9
            have b_x74 := jB x74
            try (have q_x74 : x74.toInt = x67.toInt + x73.toInt := (by omega); clear g_x74 k_x74)
            refine lv_ldc2 (v := 96) hx hb hown k_23_18 dX10_readWord_75 ?_
            refine m_lsub (X := x74.toInt) (Y := 96) hx hb dX10_readWord_78 rfl (by decide) (fun x78 e_x78 g9 => ?_)
            obtain ⟨k_x78, g_x78⟩ := g9
            have b_x78 := jB x78
            try (have q_x78 : x78.toInt = x74.toInt - 96 := (by omega); clear g_x78 k_x78)
            refine va_put (D := D) (ci := 9) (v := .long x78) (ty := .long) (C := RX10) (T := TX10) (N := 71) hx hb hts hin tyX10 tyX10_ok nmX10 hown hK hP hD hS 0 rfl rfl 7 (by decide) k_23_1 (fun _ h9 => h9) rfl (by decide +kernel) rfl rfl (Nat.le_of_ble_eq_true rfl) dX10_readWord_79 (fun H locs hP hD hS => ?_)
            have hP : va_P D vwCl (mw cs q v_thrown a_tape v_taped v_size v_to v_kind v_from x78 x14 v_digits v_isBeyond v_suffix v_steps v_fault v_hasProgram a_text a_act a_guess a_take a_begin a_finish a_to1 a_one a_two a_what a_ats a_atVar a_atNumber a_atomSort a_atomKind a_atomValue v_wrong v_wrongAt v_variable v_number v_numberKind v_takes a_out v_outed a_varSort a_varKind a_varValue a_creature v_creatures a_arrayClass a_arrayFrom a_arrayLong v_arrays v_cells a_cellSort a_cellKind a_cellValue a_asideSort a_asideKind a_asideValue a_outcome v_marks v_came v_guessed v_right v_taken a_markSort a_markKind a_markClass a_markValue v_sort v_kindAt v_value a_index v_reached v_looked) H := hP
            have hD : va_D A (mw cs q v_thrown a_tape v_taped v_size v_to v_kind v_from x78 x14 v_digits v_isBeyond v_suffix v_steps v_fault v_hasProgram a_text a_act a_guess a_take a_begin a_finish a_to1 a_one a_two a_what a_ats a_atVar a_atNumber a_atomSort a_atomKind a_atomValue v_wrong v_wrongAt v_variable v_number v_numberKind v_takes a_out v_outed a_varSort a_varKind a_varValue a_creature v_creatures a_arrayClass a_arrayFrom a_arrayLong v_arrays v_cells a_cellSort a_cellKind a_cellValue a_asideSort a_asideKind a_asideValue a_outcome v_marks v_came v_guessed v_right v_taken a_markSort a_markKind a_markClass a_markValue v_sort v_kindAt v_value a_index v_reached v_looked) := hD
            obtain ⟨x82, e_x82⟩ : ∃ z : Int32, z = l2_38 + (1 : Int32) := ⟨_, rfl⟩
            obtain ⟨k_x82, g_x82⟩ : ∃ k : Int, x82.toInt = l2_38.toInt + (1) + k * 4294967296 := by rw [e_x82]; exact iAdd l2_38 (1)
            have b_x82 := iB x82
            try (have q_x82 : x82.toInt = l2_38.toInt + (1) := (by omega); clear g_x82 k_x82)
            refine lv_iinc (v := x82) (lv' := [(2, .int x82), (1, .int r55), (0, .ref (q 0))]) hx hb dX10_readWord_82 hl (k := 2) rfl (by rw [e_x82]; rfl) (by decide) rfl (fun ls hl => ?_)
            refine lv_goto (tgt := 38) hx hb dX10_readWord_85 (by decide) ?_
            exact ih38 r55 x82 x78 H locs ls (by first | assumption | omega | (intros; omega) | decide) (by first | assumption | omega | (intros; omega) | decide) (by first | assumption | omega | (intros; omega) | decide) (by first | assumption | omega | (intros; omega) | decide) (by first | assumption | omega | (intros; omega) | decide) (by omega) hP hD hS (lv_sub hl [2, 1, 0] rfl)
    exact J38 ((v_to.toInt - v_from.toInt).toNat + 1) s0_32 v_from (0 : Int64) H locs ls (by first | assumption | omega | (intros; omega) | decide) (by first | assumption | omega | (intros; omega) | decide) (by first | assumption | omega | (intros; omega) | decide) (by first | assumption | omega | (intros; omega) | decide) (by first | assumption | omega | (intros; omega) | decide) (by omega) hP hD hS (lv_sub hl [2, 1, 0] rfl)
  refine m_icmp_gt (X := x14.toInt) (Y := 8) (tgt := 31) hx hb dX10_readWord_24 (by decide) rfl (by decide) (fun c24 => ?_) (fun c24 => ?_)
  · skip
    refine lv_iconst (v := 0) hx hb dX10_readWord_31 (by decide) ?_
    exact J32 (0 : Int32) H locs ls (by first | decide | omega) hP hD hS (lv_sub hl [0] rfl)
  · skip
    refine lv_iconst (v := 1) hx hb dX10_readWord_27 (by decide) ?_
    refine lv_goto (tgt := 32) hx hb dX10_readWord_28 (by decide) ?_
    exact J32 (1 : Int32) H locs ls (by first | decide | omega) hP hD hS (lv_sub hl [0] rfl)

def rmX10_readNumber : Room := { frames := 40, cells := 0, slots := 0, locals := 800 }
set_option maxHeartbeats 4000000 in
set_option maxRecDepth 100000 in
theorem tX10_readNumber {l : Launch} {D : va_G} {K : Nat → Nat → Nat} {cs : Nat → ClassId} {q : Nat → Nat} {v_thrown v_taped v_size v_to v_kind v_from v_letterMany v_isBeyond v_suffix v_steps v_fault v_hasProgram v_wrong v_wrongAt v_variable v_numberKind v_takes v_outed v_creatures v_arrays v_cells v_marks v_came v_guessed v_right v_taken v_sort v_kindAt v_reached v_looked : Int32} {a_tape a_text a_act a_guess a_take a_begin a_finish a_to1 a_one a_two a_what a_ats a_atVar a_atNumber a_atomSort a_atomKind a_out a_varSort a_varKind a_creature a_arrayClass a_arrayFrom a_arrayLong a_cellSort a_cellKind a_asideSort a_asideKind a_outcome a_markSort a_markKind a_markClass a_index : Nat → Int32} {v_letters v_digits v_number v_value : Int64} {a_atomValue a_varValue a_cellValue a_asideValue a_markValue : Nat → Int64} (p_0 : 0 ≤ v_from.toInt) (p_1 : v_from.toInt < v_to.toInt) (p_2 : v_to.toInt ≤ v_size.toInt) (p_3 : 0 ≤ v_size.toInt) (p_4 : v_size.toInt ≤ 3100) : CtV l yX10_readNumber (wG yX10_readNumber cX10_readNumber 5 none) rmX10_readNumber D (mwT cs) K [.ref (q 0)] (mw cs q v_thrown a_tape v_taped v_size v_to v_kind v_from v_letters v_letterMany v_digits v_isBeyond v_suffix v_steps v_fault v_hasProgram a_text a_act a_guess a_take a_begin a_finish a_to1 a_one a_two a_what a_ats a_atVar a_atNumber a_atomSort a_atomKind a_atomValue v_wrong v_wrongAt v_variable v_number v_numberKind v_takes a_out v_outed a_varSort a_varKind a_varValue a_creature v_creatures a_arrayClass a_arrayFrom a_arrayLong v_arrays v_cells a_cellSort a_cellKind a_cellValue a_asideSort a_asideKind a_asideValue a_outcome v_marks v_came v_guessed v_right v_taken a_markSort a_markKind a_markClass a_markValue v_sort v_kindAt v_value a_index v_reached v_looked) (fun w1 => ∃ (v_kind' : Int32) (v_digits' : Int64) (v_isBeyond' : Int32) (v_suffix' : Int32), w1 = (mw cs q v_thrown a_tape v_taped v_size v_to v_kind' v_from v_letters v_letterMany v_digits' v_isBeyond' v_suffix' v_steps v_fault v_hasProgram a_text a_act a_guess a_take a_begin a_finish a_to1 a_one a_two a_what a_ats a_atVar a_atNumber a_atomSort a_atomKind a_atomValue v_wrong v_wrongAt v_variable v_number v_numberKind v_takes a_out v_outed a_varSort a_varKind a_varValue a_creature v_creatures a_arrayClass a_arrayFrom a_arrayLong v_arrays v_cells a_cellSort a_cellKind a_cellValue a_asideSort a_asideKind a_asideValue a_outcome v_marks v_came v_guessed v_right v_taken a_markSort a_markKind a_markClass a_markValue v_sort v_kindAt v_value a_index v_reached v_looked) ∧ (v_kind'.toInt = 1 ∨ v_kind'.toInt = 3) ∧ (v_isBeyond'.toInt = 0 ∨ v_isBeyond'.toInt = 1)) 0 0 := by
  intro sz
  refine Met.ofW (cc := cX10_readNumber) (maxL := 5) (ret := none) (by decide) rfl ?_
  intro p e s m args below meth c s₁ B hml hv
  obtain ⟨rfl, hsz, hP, hK, hD0, hE⟩ := hv
  have hx := B.exec
  have hb := B.bytes
  have hr := B.returns
  have hts := atoms_spec (ws := (wG yX10_readNumber cX10_readNumber 5 none)) B.pre
  have hown : s.vm.findClass RX10 = some m.cls := findClass_of_methodNamed B.named
  have hlocks := B.notSynchronized
  subst hsz
  have hD := hD0.self (sz := s.heap.size)
  obtain ⟨A, hAe⟩ : ∃ A : Nat → Prop, A = va_A (mw cs q v_thrown a_tape v_taped v_size v_to v_kind v_from v_letters v_letterMany v_digits v_isBeyond v_suffix v_steps v_fault v_hasProgram a_text a_act a_guess a_take a_begin a_finish a_to1 a_one a_two a_what a_ats a_atVar a_atNumber a_atomSort a_atomKind a_atomValue v_wrong v_wrongAt v_variable v_number v_numberKind v_takes a_out v_outed a_varSort a_varKind a_varValue a_creature v_creatures a_arrayClass a_arrayFrom a_arrayLong v_arrays v_cells a_cellSort a_cellKind a_cellValue a_asideSort a_asideKind a_asideValue a_outcome v_marks v_came v_guessed v_right v_taken a_markSort a_markKind a_markClass a_markValue v_sort v_kindAt v_value a_index v_reached v_looked) s.heap.size := ⟨_, rfl⟩
  rw [← hAe] at hD hE
  have hA : ∀ q : Nat, s.heap.size ≤ q → A q := fun q h => by rw [hAe]; exact Or.inr h
  have hS : va_S A s.heap s.heap [] := va_S.rf
  have hl := lv_entry ([.ref (q 0)]) (n := 5) (Nat.le_of_ble_eq_true rfl)
  rw [lg_entry_eq]
  generalize (lg_sl ([.ref (q 0)]) ++ List.replicate (5 - (lg_sl ([.ref (q 0)])).length) Slot.unset).toArray = ls at hl ⊢
  have hl : lv_has ls 5 [(0, .ref (q 0))] := hl
  refine wq (fun Q hQ => ?_)
  have hin : ∀ w ∈ wsX100, w ∈ (wG yX10_readNumber cX10_readNumber 5 none) := fun w h => List.mem_cons_of_mem _ (inlX10 w h)
  have kc0 : (0 : Int32).toInt = 0 := by decide
  have kc1 : (1 : Int32).toInt = 1 := by decide
  have kc2 : (3 : Int32).toInt = 3 := by decide
  have kc3 : (8 : Int32).toInt = 8 := by decide
  have kc4 : (19 : Int32).toInt = 19 := by decide
  have kc5 : (48 : Int32).toInt = 48 := by decide
  have kc6 : (98 : Int32).toInt = 98 := by decide
  have kc7 : (99 : Int32).toInt = 99 := by decide
  have kc8 : (100 : Int32).toInt = 100 := by decide
  have kc9 : (102 : Int32).toInt = 102 := by decide
  have kc10 : (108 : Int32).toInt = 108 := by decide
  have kc11 : (115 : Int32).toInt = 115 := by decide
  have kc12 : (0 : Int64).toInt = 0 := by decide
  have kc13 : (10 : Int64).toInt = 10 := by decide
  have kc14 : (922337203685477580 : Int64).toInt = 922337203685477580 := by decide
  have k_22_12 := hts (.fieldLink RX10 263 "ArrayTrainerModel" "to" "I") (List.mem_cons_of_mem _ (wr22 _ (List.mem_of_getElem? (i := 12) rfl)))
  have k_23_23 := hts (.fieldLink RX10 296 "ArrayTrainerModel" "suffix" "I") (List.mem_cons_of_mem _ (wr23 _ (List.mem_of_getElem? (i := 23) rfl)))
  have k_23_0 := hts (.fieldLink RX10 270 "ArrayTrainerModel" "from" "I") (List.mem_cons_of_mem _ (wr23 _ (List.mem_of_getElem? (i := 0) rfl)))
  have k_24_0 := hts (.fieldLink RX10 299 "ArrayTrainerModel" "digits" "J") (List.mem_cons_of_mem _ (wr24 _ (List.mem_of_getElem? (i := 0) rfl)))
  have k_24_1 := hts (.fieldLink RX10 302 "ArrayTrainerModel" "isBeyond" "Z") (List.mem_cons_of_mem _ (wr24 _ (List.mem_of_getElem? (i := 1) rfl)))
  have k_22_15 := hts (.fieldLink RX10 273 "ArrayTrainerModel" "kind" "I") (List.mem_cons_of_mem _ (wr22 _ (List.mem_of_getElem? (i := 15) rfl)))
  have k_24_2 := hts (.constantLong RX10 306 (922337203685477580)) (List.mem_cons_of_mem _ (wr24 _ (List.mem_of_getElem? (i := 2) rfl)))
  have k_24_3 := hts (.constantLong RX10 308 (10)) (List.mem_cons_of_mem _ (wr24 _ (List.mem_of_getElem? (i := 3) rfl)))
  obtain ⟨H, hH⟩ : ∃ H : Heap, H = s.heap := ⟨_, rfl⟩
  obtain ⟨locs, hlc⟩ : ∃ L : List Loc, L = [] := ⟨_, rfl⟩
  have hP : va_P D vwCl (mw cs q v_thrown a_tape v_taped v_size v_to v_kind v_from v_letters v_letterMany v_digits v_isBeyond v_suffix v_steps v_fault v_hasProgram a_text a_act a_guess a_take a_begin a_finish a_to1 a_one a_two a_what a_ats a_atVar a_atNumber a_atomSort a_atomKind a_atomValue v_wrong v_wrongAt v_variable v_number v_numberKind v_takes a_out v_outed a_varSort a_varKind a_varValue a_creature v_creatures a_arrayClass a_arrayFrom a_arrayLong v_arrays v_cells a_cellSort a_cellKind a_cellValue a_asideSort a_asideKind a_asideValue a_outcome v_marks v_came v_guessed v_right v_taken a_markSort a_markKind a_markClass a_markValue v_sort v_kindAt v_value a_index v_reached v_looked) H := by rw [hH]; exact hP
  have hS : va_S A s.heap H locs := by rw [hH, hlc]; exact hS
  refine wHL hH hlc ?_
  refine lv_aload_n hx hb dX10_readNumber_0 rfl (lv_at hl 0 rfl) ?_
  refine va_get (D := D) (ci := 9) (v := .int v_to) (C := RX10) (T := TX10) (N := 71) hx hb hts hin hown hK hP 0 rfl rfl 4 (by decide) k_22_12 (fun _ h9 => h9) rfl dX10_readNumber_1 ?_
  refine lv_istore_n (lv' := [(1, .int v_to), (0, .ref (q 0))]) hx hb dX10_readNumber_4 rfl hl (by decide) rfl (fun ls hl => ?_)
  refine lv_aload_n hx hb dX10_readNumber_5 rfl (lv_at hl 1 rfl) ?_
  refine lv_iconst (v := 0) hx hb dX10_readNumber_6 (by decide) ?_
  refine va_put (D := D) (ci := 9) (v := .int 0) (ty := .int) (C := RX10) (T := TX10) (N := 71) hx hb hts hin tyX10 tyX10_ok nmX10 hown hK hP hD hS 0 rfl rfl 11 (by decide) k_23_23 (fun _ h9 => h9) rfl (by decide +kernel) rfl rfl (Nat.le_of_ble_eq_true rfl) dX10_readNumber_7 (fun H locs hP hD hS => ?_)
  have hP : va_P D vwCl (mw cs q v_thrown a_tape v_taped v_size v_to v_kind v_from v_letters v_letterMany v_digits v_isBeyond (0 : Int32) v_steps v_fault v_hasProgram a_text a_act a_guess a_take a_begin a_finish a_to1 a_one a_two a_what a_ats a_atVar a_atNumber a_atomSort a_atomKind a_atomValue v_wrong v_wrongAt v_variable v_number v_numberKind v_takes a_out v_outed a_varSort a_varKind a_varValue a_creature v_creatures a_arrayClass a_arrayFrom a_arrayLong v_arrays v_cells a_cellSort a_cellKind a_cellValue a_asideSort a_asideKind a_asideValue a_outcome v_marks v_came v_guessed v_right v_taken a_markSort a_markKind a_markClass a_markValue v_sort v_kindAt v_value a_index v_reached v_looked) H := hP
  have hD : va_D A (mw cs q v_thrown a_tape v_taped v_size v_to v_kind v_from v_letters v_letterMany v_digits v_isBeyond (0 : Int32) v_steps v_fault v_hasProgram a_text a_act a_guess a_take a_begin a_finish a_to1 a_one a_two a_what a_ats a_atVar a_atNumber a_atomSort a_atomKind a_atomValue v_wrong v_wrongAt v_variable v_number v_numberKind v_takes a_out v_outed a_varSort a_varKind a_varValue a_creature v_creatures a_arrayClass a_arrayFrom a_arrayLong v_arrays v_cells a_cellSort a_cellKind a_cellValue a_asideSort a_asideKind a_asideValue a_outcome v_marks v_came v_guessed v_right v_taken a_markSort a_markKind a_markClass a_markValue v_sort v_kindAt v_value a_index v_reached v_looked) := hD
  refine lv_aload_n hx hb dX10_readNumber_10 rfl (lv_at hl 1 rfl) ?_
  refine lv_aload_n hx hb dX10_readNumber_11 rfl (lv_at hl 1 rfl) ?_
  refine va_get (D := D) (ci := 9) (v := .int v_to) (C := RX10) (T := TX10) (N := 71) hx hb hts hin hown hK hP 0 rfl rfl 4 (by decide) k_22_12 (fun _ h9 => h9) rfl dX10_readNumber_12 ?_
  refine lv_iconst (v := 1) hx hb dX10_readNumber_15 (by decide) ?_
  refine m_isub (X := v_to.toInt) (Y := 1) hx hb dX10_readNumber_16 rfl (by decide) (fun x16 e_x16 g9 => ?_)
  obtain ⟨k_x16, g_x16⟩ := g9
  have b_x16 := iB x16
  try (have q_x16 : x16.toInt = v_to.toInt - 1 := (by omega); clear g_x16 k_x16)
  refine call_i (As := [.int x16]) (rest := []) ⟨hx, hb, hml, hown, hts⟩ (tX10_at (l := l) x16 (by first | assumption | omega | (intros; omega) | decide) (by first | assumption | omega | (intros; omega) | decide) (by first | assumption | omega | (intros; omega) | decide)) (cwV 1 hts (gV (wr23 _ (List.mem_of_getElem? (i := 2) rfl)) (wr23 _ (List.mem_of_getElem? (i := 3) rfl)) (wr23 _ (List.mem_of_getElem? (i := 4) rfl)) (wr1 _ (List.mem_of_getElem? (i := 5) rfl)) (wr23 _ (List.mem_of_getElem? (i := 5) rfl))) rfl rfl rfl (by decide +kernel) ⟨Nat.le_of_ble_eq_true rfl, Nat.le_of_ble_eq_true rfl⟩) (va_recv hK hP (ci := 9) (q0 := 0) rfl rfl) hK hP hD hE hS hA rfl hl.1 rfl (Nat.le_of_ble_eq_true rfl) dX10_readNumber_17 ⟨Nat.le_of_ble_eq_true rfl, Nat.le_of_ble_eq_true rfl⟩ (fun r17 w9 H locs hw17 hP hD hS => ?_)
  obtain ⟨rfl, hw17_0⟩ := hw17
  have b_r17 := iB r17
  refine call_iSP (As := [.int r17]) (rest := []) ⟨hx, hb, hml, hown, hts⟩ (tX10_isLetter (l := l) r17) (va_cwS 1 hts (gS (wr23 _ (List.mem_of_getElem? (i := 6) rfl)) (wr23 _ (List.mem_of_getElem? (i := 7) rfl)) (wr1 _ (List.mem_of_getElem? (i := 5) rfl)) (wr23 _ (List.mem_of_getElem? (i := 8) rfl))) rfl rfl rfl (by decide +kernel) ⟨Nat.le_of_ble_eq_true rfl, Nat.le_of_ble_eq_true rfl⟩) (hK.sub [] rfl) hP hD hE hS hA rfl hl.1 rfl (Nat.le_of_ble_eq_true rfl) dX10_readNumber_20 ⟨Nat.le_of_ble_eq_true rfl, Nat.le_of_ble_eq_true rfl⟩ (fun r20 w9 H locs hw20 hP hD hS => ?_)
  obtain ⟨rfl, hw20_0⟩ := hw20
  have b_r20 := iB r20
  have J43 : ∀ (l1_43 : Int32) (v_suffix_43 : Int32) (H : Heap) (locs : List Loc) (ls : Array Slot), (v_to.toInt - 1 ≤ l1_43.toInt) → (l1_43.toInt ≤ v_to.toInt) → va_P D vwCl (mw cs q v_thrown a_tape v_taped v_size v_to v_kind v_from v_letters v_letterMany v_digits v_isBeyond v_suffix_43 v_steps v_fault v_hasProgram a_text a_act a_guess a_take a_begin a_finish a_to1 a_one a_two a_what a_ats a_atVar a_atNumber a_atomSort a_atomKind a_atomValue v_wrong v_wrongAt v_variable v_number v_numberKind v_takes a_out v_outed a_varSort a_varKind a_varValue a_creature v_creatures a_arrayClass a_arrayFrom a_arrayLong v_arrays v_cells a_cellSort a_cellKind a_cellValue a_asideSort a_asideKind a_asideValue a_outcome v_marks v_came v_guessed v_right v_taken a_markSort a_markKind a_markClass a_markValue v_sort v_kindAt v_value a_index v_reached v_looked) H → va_D A (mw cs q v_thrown a_tape v_taped v_size v_to v_kind v_from v_letters v_letterMany v_digits v_isBeyond v_suffix_43 v_steps v_fault v_hasProgram a_text a_act a_guess a_take a_begin a_finish a_to1 a_one a_two a_what a_ats a_atVar a_atNumber a_atomSort a_atomKind a_atomValue v_wrong v_wrongAt v_variable v_number v_numberKind v_takes a_out v_outed a_varSort a_varKind a_varValue a_creature v_creatures a_arrayClass a_arrayFrom a_arrayLong v_arrays v_cells a_cellSort a_cellKind a_cellValue a_asideSort a_asideKind a_asideValue a_outcome v_marks v_came v_guessed v_right v_taken a_markSort a_markKind a_markClass a_markValue v_sort v_kindAt v_value a_index v_reached v_looked) → va_S A s.heap H locs → lv_has ls 5 [(0, .ref (q 0)), (1, .int l1_43)] → W p l e (headSpec (wG yX10_readNumber cX10_readNumber 5 none) rmX10_readNumber).room s m ([.ref (q 0)] : List Value).toArray below meth c H locs 0 0 Q (F0 m 43 ls []) := by
    intro l1_43 v_suffix_43 H locs ls f43_0 f43_1 hP hD hS hl
    refine lv_iload_n hx hb dX10_readNumber_43 rfl (lv_at hl 1 rfl) ?_
    refine lv_aload_n hx hb dX10_readNumber_44 rfl (lv_at hl 0 rfl) ?_
    refine va_get (D := D) (ci := 9) (v := .int v_from) (C := RX10) (T := TX10) (N := 71) hx hb hts hin hown hK hP 0 rfl rfl 6 (by decide) k_23_0 (fun _ h9 => h9) rfl dX10_readNumber_45 ?_
    refine m_isub (X := l1_43.toInt) (Y := v_from.toInt) hx hb dX10_readNumber_48 rfl rfl (fun x48 e_x48 g9 => ?_)
    obtain ⟨k_x48, g_x48⟩ := g9
    have b_x48 := iB x48
    try (have q_x48 : x48.toInt = l1_43.toInt - v_from.toInt := (by omega); clear g_x48 k_x48)
    refine lv_bipush (v := 19) hx hb dX10_readNumber_49 (by decide) ?_
    have J120 : ∀ (s0_120 : Int32) (H : Heap) (locs : List Loc) (ls : Array Slot), (s0_120.toInt = 0 ∨ s0_120.toInt = 1) → va_P D vwCl (mw cs q v_thrown a_tape v_taped v_size v_to v_kind v_from v_letters v_letterMany v_digits v_isBeyond v_suffix_43 v_steps v_fault v_hasProgram a_text a_act a_guess a_take a_begin a_finish a_to1 a_one a_two a_what a_ats a_atVar a_atNumber a_atomSort a_atomKind a_atomValue v_wrong v_wrongAt v_variable v_number v_numberKind v_takes a_out v_outed a_varSort a_varKind a_varValue a_creature v_creatures a_arrayClass a_arrayFrom a_arrayLong v_arrays v_cells a_cellSort a_cellKind a_cellValue a_asideSort a_asideKind a_asideValue a_outcome v_marks v_came v_guessed v_right v_taken a_markSort a_markKind a_markClass a_markValue v_sort v_kindAt v_value a_index v_reached v_looked) H → va_D A (mw cs q v_thrown a_tape v_taped v_size v_to v_kind v_from v_letters v_letterMany v_digits v_isBeyond v_suffix_43 v_steps v_fault v_hasProgram a_text a_act a_guess a_take a_begin a_finish a_to1 a_one a_two a_what a_ats a_atVar a_atNumber a_atomSort a_atomKind a_atomValue v_wrong v_wrongAt v_variable v_number v_numberKind v_takes a_out v_outed a_varSort a_varKind a_varValue a_creature v_creatures a_arrayClass a_arrayFrom a_arrayLong v_arrays v_cells a_cellSort a_cellKind a_cellValue a_asideSort a_asideKind a_asideValue a_outcome v_marks v_came v_guessed v_right v_taken a_markSort a_markKind a_markClass a_markValue v_sort v_kindAt v_value a_index v_reached v_looked) → va_S A s.heap H locs → lv_has ls 5 [(0, .ref (q 0)), (1, .int l1_43)] → W p l e (headSpec (wG yX10_readNumber cX10_readNumber 5 none) rmX10_readNumber).room s m ([.ref (q 0)] : List Value).toArray below meth c H locs 0 0 Q (F0 m 120 ls [.int s0_120]) := by
      intro s0_120 H locs ls f120_0 hP hD hS hl
      refine lv_istore_n (lv' := [(2, .int s0_120), (0, .ref (q 0)), (1, .int l1_43)]) hx hb dX10_readNumber_120 rfl hl (by decide) rfl (fun ls hl => ?_)
      refine lv_aload_n hx hb dX10_readNumber_121 rfl (lv_at hl 1 rfl) ?_
      refine lv_lconst (v := 0) hx hb dX10_readNumber_122 (by decide) ?_
      refine va_put (D := D) (ci := 9) (v := .long 0) (ty := .long) (C := RX10) (T := TX10) (N := 71) hx hb hts hin tyX10 tyX10_ok nmX10 hown hK hP hD hS 0 rfl rfl 9 (by decide) k_24_0 (fun _ h9 => h9) rfl (by decide +kernel) rfl rfl (Nat.le_of_ble_eq_true rfl) dX10_readNumber_123 (fun H locs hP hD hS => ?_)
      have hP : va_P D vwCl (mw cs q v_thrown a_tape v_taped v_size v_to v_kind v_from v_letters v_letterMany (0 : Int64) v_isBeyond v_suffix_43 v_steps v_fault v_hasProgram a_text a_act a_guess a_take a_begin a_finish a_to1 a_one a_two a_what a_ats a_atVar a_atNumber a_atomSort a_atomKind a_atomValue v_wrong v_wrongAt v_variable v_number v_numberKind v_takes a_out v_outed a_varSort a_varKind a_varValue a_creature v_creatures a_arrayClass a_arrayFrom a_arrayLong v_arrays v_cells a_cellSort a_cellKind a_cellValue a_asideSort a_asideKind a_asideValue a_outcome v_marks v_came v_guessed v_right v_taken a_markSort a_markKind a_markClass a_markValue v_sort v_kindAt v_value a_index v_reached v_looked) H := hP
      have hD : va_D A (mw cs q v_thrown a_tape v_taped v_size v_to v_kind v_from v_letters v_letterMany (0 : Int64) v_isBeyond v_suffix_43 v_steps v_fault v_hasProgram a_text a_act a_guess a_take a_begin a_finish a_to1 a_one a_two a_what a_ats a_atVar a_atNumber a_atomSort a_atomKind a_atomValue v_wrong v_wrongAt v_variable v_number v_numberKind v_takes a_out v_outed a_varSort a_varKind a_varValue a_creature v_creatures a_arrayClass a_arrayFrom a_arrayLong v_arrays v_cells a_cellSort a_cellKind a_cellValue a_asideSort a_asideKind a_asideValue a_outcome v_marks v_came v_guessed v_right v_taken a_markSort a_markKind a_markClass a_markValue v_sort v_kindAt v_value a_index v_reached v_looked) := hD
      refine lv_aload_n hx hb dX10_readNumber_126 rfl (lv_at hl 1 rfl) ?_
      refine lv_iconst (v := 0) hx hb dX10_readNumber_127 (by decide) ?_
      refine va_put (D := D) (ci := 9) (v := .int 0) (ty := .boolean) (C := RX10) (T := TX10) (N := 71) hx hb hts hin tyX10 tyX10_ok nmX10 hown hK hP hD hS 0 rfl rfl 10 (by decide) k_24_1 (fun _ h9 => h9) rfl (by decide +kernel) (by decide) (by decide) (Nat.le_of_ble_eq_true rfl) dX10_readNumber_128 (fun H locs hP hD hS => ?_)
      have hP : va_P D vwCl (mw cs q v_thrown a_tape v_taped v_size v_to v_kind v_from v_letters v_letterMany (0 : Int64) (0 : Int32) v_suffix_43 v_steps v_fault v_hasProgram a_text a_act a_guess a_take a_begin a_finish a_to1 a_one a_two a_what a_ats a_atVar a_atNumber a_atomSort a_atomKind a_atomValue v_wrong v_wrongAt v_variable v_number v_numberKind v_takes a_out v_outed a_varSort a_varKind a_varValue a_creature v_creatures a_arrayClass a_arrayFrom a_arrayLong v_arrays v_cells a_cellSort a_cellKind a_cellValue a_asideSort a_asideKind a_asideValue a_outcome v_marks v_came v_guessed v_right v_taken a_markSort a_markKind a_markClass a_markValue v_sort v_kindAt v_value a_index v_reached v_looked) H := hP
      have hD : va_D A (mw cs q v_thrown a_tape v_taped v_size v_to v_kind v_from v_letters v_letterMany (0 : Int64) (0 : Int32) v_suffix_43 v_steps v_fault v_hasProgram a_text a_act a_guess a_take a_begin a_finish a_to1 a_one a_two a_what a_ats a_atVar a_atNumber a_atomSort a_atomKind a_atomValue v_wrong v_wrongAt v_variable v_number v_numberKind v_takes a_out v_outed a_varSort a_varKind a_varValue a_creature v_creatures a_arrayClass a_arrayFrom a_arrayLong v_arrays v_cells a_cellSort a_cellKind a_cellValue a_asideSort a_asideKind a_asideValue a_outcome v_marks v_came v_guessed v_right v_taken a_markSort a_markKind a_markClass a_markValue v_sort v_kindAt v_value a_index v_reached v_looked) := hD
      refine lv_aload_n hx hb dX10_readNumber_131 rfl (lv_at hl 1 rfl) ?_
      refine va_get (D := D) (ci := 9) (v := .int v_from) (C := RX10) (T := TX10) (N := 71) hx hb hts hin hown hK hP 0 rfl rfl 6 (by decide) k_23_0 (fun _ h9 => h9) rfl dX10_readNumber_132 ?_
      refine lv_istore_n (lv' := [(3, .int v_from), (2, .int s0_120), (0, .ref (q 0)), (1, .int l1_43)]) hx hb dX10_readNumber_135 rfl hl (by decide) rfl (fun ls hl => ?_)
      have J136 : ∀ (n136 : Nat) (l2_136 : Int32) (l3_136 : Int32) (v_digits_136 : Int64) (v_isBeyond_136 : Int32) (H : Heap) (locs : List Loc) (ls : Array Slot), (v_from.toInt ≤ l3_136.toInt) → (l3_136.toInt ≤ l1_43.toInt) → (l2_136.toInt = 0 ∨ l2_136.toInt = 1) → (v_isBeyond_136.toInt = 0 ∨ v_isBeyond_136.toInt = 1) → (l1_43.toInt - l3_136.toInt < (n136 : Int)) → va_P D vwCl (mw cs q v_thrown a_tape v_taped v_size v_to v_kind v_from v_letters v_letterMany v_digits_136 v_isBeyond_136 v_suffix_43 v_steps v_fault v_hasProgram a_text a_act a_guess a_take a_begin a_finish a_to1 a_one a_two a_what a_ats a_atVar a_atNumber a_atomSort a_atomKind a_atomValue v_wrong v_wrongAt v_variable v_number v_numberKind v_takes a_out v_outed a_varSort a_varKind a_varValue a_creature v_creatures a_arrayClass a_arrayFrom a_arrayLong v_arrays v_cells a_cellSort a_cellKind a_cellValue a_asideSort a_asideKind a_asideValue a_outcome v_marks v_came v_guessed v_right v_taken a_markSort a_markKind a_markClass a_markValue v_sort v_kindAt v_value a_index v_reached v_looked) H → va_D A (mw cs q v_thrown a_tape v_taped v_size v_to v_kind v_from v_letters v_letterMany v_digits_136 v_isBeyond_136 v_suffix_43 v_steps v_fault v_hasProgram a_text a_act a_guess a_take a_begin a_finish a_to1 a_one a_two a_what a_ats a_atVar a_atNumber a_atomSort a_atomKind a_atomValue v_wrong v_wrongAt v_variable v_number v_numberKind v_takes a_out v_outed a_varSort a_varKind a_varValue a_creature v_creatures a_arrayClass a_arrayFrom a_arrayLong v_arrays v_cells a_cellSort a_cellKind a_cellValue a_asideSort a_asideKind a_asideValue a_outcome v_marks v_came v_guessed v_right v_taken a_markSort a_markKind a_markClass a_markValue v_sort v_kindAt v_value a_index v_reached v_looked) → va_S A s.heap H locs → lv_has ls 5 [(0, .ref (q 0)), (1, .int l1_43), (2, .int l2_136), (3, .int l3_136)] → W p l e (headSpec (wG yX10_readNumber cX10_readNumber 5 none) rmX10_readNumber).room s m ([.ref (q 0)] : List Value).toArray below meth c H locs 0 0 Q (F0 m 136 ls []) := by
        intro n136
        induction n136 with
        | zero =>
          intro l2_136 l3_136 v_digits_136 v_isBeyond_136 H locs ls f136_0 f136_1 f136_2 f136_3 hm136
          exfalso
          omega
        | succ n136 ih136 =>
          intro l2_136 l3_136 v_digits_136 v_isBeyond_136 H locs ls f136_0 f136_1 f136_2 f136_3 hm136 hP hD hS hl
          refine lv_iload_n hx hb dX10_readNumber_136 rfl (lv_at hl 3 rfl) ?_
          refine lv_iload_n hx hb dX10_readNumber_137 rfl (lv_at hl 1 rfl) ?_
          refine m_icmp_ge (X := l3_136.toInt) (Y := l1_43.toInt) (tgt := 223) hx hb dX10_readNumber_138 (by decide) rfl rfl (fun c138 => ?_) (fun c138 => ?_)
          · skip
            refine lv_aload_n hx hb dX10_readNumber_223 rfl (lv_at hl 0 rfl) ?_
            refine lv_iload_n hx hb dX10_readNumber_224 rfl (lv_at hl 2 rfl) ?_
            refine m_if_eq (X := l2_136.toInt) (tgt := 232) hx hb dX10_readNumber_225 (by decide) rfl (fun c225 => ?_) (fun c225 => ?_)
            · skip
              refine lv_iconst (v := 1) hx hb dX10_readNumber_232 (by decide) ?_
              refine va_put (D := D) (ci := 9) (v := .int 1) (ty := .int) (C := RX10) (T := TX10) (N := 71) hx hb hts hin tyX10 tyX10_ok nmX10 hown hK hP hD hS 0 rfl rfl 5 (by decide) k_22_15 (fun _ h9 => h9) rfl (by decide +kernel) rfl rfl (Nat.le_of_ble_eq_true rfl) dX10_readNumber_233 (fun H locs hP hD hS => ?_)
              have hP : va_P D vwCl (mw cs q v_thrown a_tape v_taped v_size v_to (1 : Int32) v_from v_letters v_letterMany v_digits_136 v_isBeyond_136 v_suffix_43 v_steps v_fault v_hasProgram a_text a_act a_guess a_take a_begin a_finish a_to1 a_one a_two a_what a_ats a_atVar a_atNumber a_atomSort a_atomKind a_atomValue v_wrong v_wrongAt v_variable v_number v_numberKind v_takes a_out v_outed a_varSort a_varKind a_varValue a_creature v_creatures a_arrayClass a_arrayFrom a_arrayLong v_arrays v_cells a_cellSort a_cellKind a_cellValue a_asideSort a_asideKind a_asideValue a_outcome v_marks v_came v_guessed v_right v_taken a_markSort a_markKind a_markClass a_markValue v_sort v_kindAt v_value a_index v_reached v_looked) H := hP
              have hD : va_D A (mw cs q v_thrown a_tape v_taped v_size v_to (1 : Int32) v_from v_letters v_letterMany v_digits_136 v_isBeyond_136 v_suffix_43 v_steps v_fault v_hasProgram a_text a_act a_guess a_take a_begin a_finish a_to1 a_one a_two a_what a_ats a_atVar a_atNumber a_atomSort a_atomKind a_atomValue v_wrong v_wrongAt v_variable v_number v_numberKind v_takes a_out v_outed a_varSort a_varKind a_varValue a_creature v_creatures a_arrayClass a_arrayFrom a_arrayLong v_arrays v_cells a_cellSort a_cellKind a_cellValue a_asideSort a_asideKind a_asideValue a_outcome v_marks v_came v_guessed v_right v_taken a_markSort a_markKind a_markClass a_markValue v_sort v_kindAt v_value a_index v_reached v_looked) := hD
              subst hAe
              rw [hQ]
              exact W.vret hx hb hr (fun t ht hW => ⟨⟨_, rfl, ⟨(1 : Int32), v_digits_136, v_isBeyond_136, v_suffix_43, rfl, by first | assumption | omega | (intros; omega) | decide, by first | assumption | omega | (intros; omega) | decide⟩, by rw [ht]; exact hP, va_K.moved hW.alike hK, hD⟩, hS.F ht⟩) hS.2.2 dX10_readNumber_236
            · skip
              refine lv_iconst (v := 3) hx hb dX10_readNumber_228 (by decide) ?_
              refine lv_goto (tgt := 233) hx hb dX10_readNumber_229 (by decide) ?_
              refine va_put (D := D) (ci := 9) (v := .int 3) (ty := .int) (C := RX10) (T := TX10) (N := 71) hx hb hts hin tyX10 tyX10_ok nmX10 hown hK hP hD hS 0 rfl rfl 5 (by decide) k_22_15 (fun _ h9 => h9) rfl (by decide +kernel) rfl rfl (Nat.le_of_ble_eq_true rfl) dX10_readNumber_233 (fun H locs hP hD hS => ?_)
              have hP : va_P D vwCl (mw cs q v_thrown a_tape v_taped v_size v_to (3 : Int32) v_from v_letters v_letterMany v_digits_136 v_isBeyond_136 v_suffix_43 v_steps v_fault v_hasProgram a_text a_act a_guess a_take a_begin a_finish a_to1 a_one a_two a_what a_ats a_atVar a_atNumber a_atomSort a_atomKind a_atomValue v_wrong v_wrongAt v_variable v_number v_numberKind v_takes a_out v_outed a_varSort a_varKind a_varValue a_creature v_creatures a_arrayClass a_arrayFrom a_arrayLong v_arrays v_cells a_cellSort a_cellKind a_cellValue a_asideSort a_asideKind a_asideValue a_outcome v_marks v_came v_guessed v_right v_taken a_markSort a_markKind a_markClass a_markValue v_sort v_kindAt v_value a_index v_reached v_looked) H := hP
              have hD : va_D A (mw cs q v_thrown a_tape v_taped v_size v_to (3 : Int32) v_from v_letters v_letterMany v_digits_136 v_isBeyond_136 v_suffix_43 v_steps v_fault v_hasProgram a_text a_act a_guess a_take a_begin a_finish a_to1 a_one a_two a_what a_ats a_atVar a_atNumber a_atomSort a_atomKind a_atomValue v_wrong v_wrongAt v_variable v_number v_numberKind v_takes a_out v_outed a_varSort a_varKind a_varValue a_creature v_creatures a_arrayClass a_arrayFrom a_arrayLong v_arrays v_cells a_cellSort a_cellKind a_cellValue a_asideSort a_asideKind a_asideValue a_outcome v_marks v_came v_guessed v_right v_taken a_markSort a_markKind a_markClass a_markValue v_sort v_kindAt v_value a_index v_reached v_looked) := hD
              subst hAe
              rw [hQ]
              exact W.vret hx hb hr (fun t ht hW => ⟨⟨_, rfl, ⟨(3 : Int32), v_digits_136, v_isBeyond_136, v_suffix_43, rfl, by first | assumption | omega | (intros; omega) | decide, by first | assumption | omega | (intros; omega) | decide⟩, by rw [ht]; exact hP, va_K.moved hW.alike hK, hD⟩, hS.F ht⟩) hS.2.2 dX10_readNumber_236
          · skip
            refine lv_iload_n hx hb dX10_readNumber_141 rfl (lv_at hl 2 rfl) ?_
            refine m_if_eq (X := l2_136.toInt) (tgt := 223) hx hb dX10_readNumber_142 (by decide) rfl (fun c142 => ?_) (fun c142 => ?_)
            · skip
              refine lv_aload_n hx hb dX10_readNumber_223 rfl (lv_at hl 0 rfl) ?_
              refine lv_iload_n hx hb dX10_readNumber_224 rfl (lv_at hl 2 rfl) ?_
              refine m_if_eq (X := l2_136.toInt) (tgt := 232) hx hb dX10_readNumber_225 (by decide) rfl (fun c225 => ?_) (fun c225 => ?_)
              · skip
                refine lv_iconst (v := 1) hx hb dX10_readNumber_232 (by decide) ?_
                refine va_put (D := D) (ci := 9) (v := .int 1) (ty := .int) (C := RX10) (T := TX10) (N := 71) hx hb hts hin tyX10 tyX10_ok nmX10 hown hK hP hD hS 0 rfl rfl 5 (by decide) k_22_15 (fun _ h9 => h9) rfl (by decide +kernel) rfl rfl (Nat.le_of_ble_eq_true rfl) dX10_readNumber_233 (fun H locs hP hD hS => ?_)
                have hP : va_P D vwCl (mw cs q v_thrown a_tape v_taped v_size v_to (1 : Int32) v_from v_letters v_letterMany v_digits_136 v_isBeyond_136 v_suffix_43 v_steps v_fault v_hasProgram a_text a_act a_guess a_take a_begin a_finish a_to1 a_one a_two a_what a_ats a_atVar a_atNumber a_atomSort a_atomKind a_atomValue v_wrong v_wrongAt v_variable v_number v_numberKind v_takes a_out v_outed a_varSort a_varKind a_varValue a_creature v_creatures a_arrayClass a_arrayFrom a_arrayLong v_arrays v_cells a_cellSort a_cellKind a_cellValue a_asideSort a_asideKind a_asideValue a_outcome v_marks v_came v_guessed v_right v_taken a_markSort a_markKind a_markClass a_markValue v_sort v_kindAt v_value a_index v_reached v_looked) H := hP
                have hD : va_D A (mw cs q v_thrown a_tape v_taped v_size v_to (1 : Int32) v_from v_letters v_letterMany v_digits_136 v_isBeyond_136 v_suffix_43 v_steps v_fault v_hasProgram a_text a_act a_guess a_take a_begin a_finish a_to1 a_one a_two a_what a_ats a_atVar a_atNumber a_atomSort a_atomKind a_atomValue v_wrong v_wrongAt v_variable v_number v_numberKind v_takes a_out v_outed a_varSort a_varKind a_varValue a_creature v_creatures a_arrayClass a_arrayFrom a_arrayLong v_arrays v_cells a_cellSort a_cellKind a_cellValue a_asideSort a_asideKind a_asideValue a_outcome v_marks v_came v_guessed v_right v_taken a_markSort a_markKind a_markClass a_markValue v_sort v_kindAt v_value a_index v_reached v_looked) := hD
                subst hAe
                rw [hQ]
                exact W.vret hx hb hr (fun t ht hW => ⟨⟨_, rfl, ⟨(1 : Int32), v_digits_136, v_isBeyond_136, v_suffix_43, rfl, by first | assumption | omega | (intros; omega) | decide, by first | assumption | omega | (intros; omega) | decide⟩, by rw [ht]; exact hP, va_K.moved hW.alike hK, hD⟩, hS.F ht⟩) hS.2.2 dX10_readNumber_236
              · skip
                refine lv_iconst (v := 3) hx hb dX10_readNumber_228 (by decide) ?_
                refine lv_goto (tgt := 233) hx hb dX10_readNumber_229 (by decide) ?_
                refine va_put (D := D) (ci := 9) (v := .int 3) (ty := .int) (C := RX10) (T := TX10) (N := 71) hx hb hts hin tyX10 tyX10_ok nmX10 hown hK hP hD hS 0 rfl rfl 5 (by decide) k_22_15 (fun _ h9 => h9) rfl (by decide +kernel) rfl rfl (Nat.le_of_ble_eq_true rfl) dX10_readNumber_233 (fun H locs hP hD hS => ?_)
                have hP : va_P D vwCl (mw cs q v_thrown a_tape v_taped v_size v_to (3 : Int32) v_from v_letters v_letterMany v_digits_136 v_isBeyond_136 v_suffix_43 v_steps v_fault v_hasProgram a_text a_act a_guess a_take a_begin a_finish a_to1 a_one a_two a_what a_ats a_atVar a_atNumber a_atomSort a_atomKind a_atomValue v_wrong v_wrongAt v_variable v_number v_numberKind v_takes a_out v_outed a_varSort a_varKind a_varValue a_creature v_creatures a_arrayClass a_arrayFrom a_arrayLong v_arrays v_cells a_cellSort a_cellKind a_cellValue a_asideSort a_asideKind a_asideValue a_outcome v_marks v_came v_guessed v_right v_taken a_markSort a_markKind a_markClass a_markValue v_sort v_kindAt v_value a_index v_reached v_looked) H := hP
                have hD : va_D A (mw cs q v_thrown a_tape v_taped v_size v_to (3 : Int32) v_from v_letters v_letterMany v_digits_136 v_isBeyond_136 v_suffix_43 v_steps v_fault v_hasProgram a_text a_act a_guess a_take a_begin a_finish a_to1 a_one a_two a_what a_ats a_atVar a_atNumber a_atomSort a_atomKind a_atomValue v_wrong v_wrongAt v_variable v_number v_numberKind v_takes a_out v_outed a_varSort a_varKind a_varValue a_creature v_creatures a_arrayClass a_arrayFrom a_arrayLong v_arrays v_cells a_cellSort a_cellKind a_cellValue a_asideSort a_asideKind a_asideValue a_outcome v_marks v_came v_guessed v_right v_taken a_markSort a_markKind a_markClass a_markValue v_sort v_kindAt v_value a_index v_reached v_looked) := hD
                subst hAe
                rw [hQ]
                exact W.vret hx hb hr (fun t ht hW => ⟨⟨_, rfl, ⟨(3 : Int32), v_digits_136, v_isBeyond_136, v_suffix_43, rfl, by first | assumption | omega | (intros; omega) | decide, by first | assumption | omega | (intros; omega) | decide⟩, by rw [ht]; exact hP, va_K.moved hW.alike hK, hD⟩, hS.F ht⟩) hS.2.2 dX10_readNumber_236
            · skip
              refine lv_aload_n hx hb dX10_readNumber_145 rfl (lv_at hl 0 rfl) ?_
              refine lv_iload_n hx hb dX10_readNumber_146 rfl (lv_at hl 3 rfl) ?_
              refine call_i (As := [.int l3_136]) (rest := []) ⟨hx, hb, hml, hown, hts⟩ (tX10_at (l := l) l3_136 (by first | assumption | omega | (intros; omega) | decide) (by first | assumption | omega | (intros; omega) | decide) (by first | assumption | omega | (intros; omega) | decide)) (cwV 1 hts (gV (wr23 _ (List.mem_of_getElem? (i := 2) rfl)) (wr23 _ (List.mem_of_getElem? (i := 3) rfl)) (wr23 _ (List.mem_of_getElem? (i := 4) rfl)) (wr1 _ (List.mem_of_getElem? (i := 5) rfl)) (wr23 _ (List.mem_of_getElem? (i := 5) rfl))) rfl rfl rfl (by decide +kernel) ⟨Nat.le_of_ble_eq_true rfl, Nat.le_of_ble_eq_true rfl⟩) (va_recv hK hP (ci := 9) (q0 := 0) rfl rfl) hK hP hD hE hS hA rfl hl.1 rfl (Nat.le_of_ble_eq_true rfl) dX10_readNumber_147 ⟨Nat.le_of_ble_eq_true rfl, Nat.le_of_ble_eq_true rfl⟩ (fun r147 w9 H locs hw147 hP hD hS => ?_)
              obtain ⟨rfl, hw147_0⟩ := hw147
              have b_r147 := iB r147
              refine call_iSP (As := [.int r147]) (rest := []) ⟨hx, hb, hml, hown, hts⟩ (tX10_isDigit (l := l) r147) (va_cwS 1 hts (gS (wr23 _ (List.mem_of_getElem? (i := 9) rfl)) (wr23 _ (List.mem_of_getElem? (i := 10) rfl)) (wr1 _ (List.mem_of_getElem? (i := 5) rfl)) (wr23 _ (List.mem_of_getElem? (i := 11) rfl))) rfl rfl rfl (by decide +kernel) ⟨Nat.le_of_ble_eq_true rfl, Nat.le_of_ble_eq_true rfl⟩) (hK.sub [] rfl) hP hD hE hS hA rfl hl.1 rfl (Nat.le_of_ble_eq_true rfl) dX10_readNumber_150 ⟨Nat.le_of_ble_eq_true rfl, Nat.le_of_ble_eq_true rfl⟩ (fun r150 w9 H locs hw150 hP hD hS => ?_)
              obtain ⟨rfl, hw150_0⟩ := hw150
              have b_r150 := iB r150
              refine lv_istore_n (lv' := [(2, .int r150), (0, .ref (q 0)), (1, .int l1_43), (3, .int l3_136)]) hx hb dX10_readNumber_153 rfl hl (by decide) rfl (fun ls hl => ?_)
              refine lv_aload_n hx hb dX10_readNumber_154 rfl (lv_at hl 1 rfl) ?_
              refine lv_iload_n hx hb dX10_readNumber_155 rfl (lv_at hl 3 rfl) ?_
              refine call_i (As := [.int l3_136]) (rest := []) ⟨hx, hb, hml, hown, hts⟩ (tX10_at (l := l) l3_136 (by first | assumption | omega | (intros; omega) | decide) (by first | assumption | omega | (intros; omega) | decide) (by first | assumption | omega | (intros; omega) | decide)) (cwV 1 hts (gV (wr23 _ (List.mem_of_getElem? (i := 2) rfl)) (wr23 _ (List.mem_of_getElem? (i := 3) rfl)) (wr23 _ (List.mem_of_getElem? (i := 4) rfl)) (wr1 _ (List.mem_of_getElem? (i := 5) rfl)) (wr23 _ (List.mem_of_getElem? (i := 5) rfl))) rfl rfl rfl (by decide +kernel) ⟨Nat.le_of_ble_eq_true rfl, Nat.le_of_ble_eq_true rfl⟩) (va_recv hK hP (ci := 9) (q0 := 0) rfl rfl) hK hP hD hE hS hA rfl hl.1 rfl (Nat.le_of_ble_eq_true rfl) dX10_readNumber_156 ⟨Nat.le_of_ble_eq_true rfl, Nat.le_of_ble_eq_true rfl⟩ (fun r156 w9 H locs hw156 hP hD hS => ?_)
              obtain ⟨rfl, hw156_0⟩ := hw156
              have b_r156 := iB r156
              refine lv_bipush (v := 48) hx hb dX10_readNumber_159 (by decide) ?_
              refine m_isub (X := r156.toInt) (Y := 48) hx hb dX10_readNumber_161 rfl (by decide) (fun x161 e_x161 g9 => ?_)
              obtain ⟨k_x161, g_x161⟩ := g9
              have b_x161 := iB x161
              try (have q_x161 : x161.toInt = r156.toInt - 48 := (by omega); clear g_x161 k_x161)
              refine lv_istore (lv' := [(4, .int x161), (2, .int r150), (0, .ref (q 0)), (1, .int l1_43), (3, .int l3_136)]) hx hb dX10_readNumber_162 hl (by decide) rfl (fun ls hl => ?_)
              refine lv_aload_n hx hb dX10_readNumber_164 rfl (lv_at hl 2 rfl) ?_
              refine va_get (D := D) (ci := 9) (v := .long v_digits_136) (C := RX10) (T := TX10) (N := 71) hx hb hts hin hown hK hP 0 rfl rfl 9 (by decide) k_24_0 (fun _ h9 => h9) rfl dX10_readNumber_165 ?_
              refine lv_ldc2 (v := 922337203685477580) hx hb hown k_24_2 dX10_readNumber_168 ?_
              refine m_lcmp (X := v_digits_136.toInt) (Y := 922337203685477580) hx hb dX10_readNumber_171 rfl (by decide) (fun x171 g_x171 => ?_)
              have J217 : ∀ (v_digits_217 : Int64) (v_isBeyond_217 : Int32) (H : Heap) (locs : List Loc) (ls : Array Slot), (v_isBeyond_217.toInt = 0 ∨ v_isBeyond_217.toInt = 1) → va_P D vwCl (mw cs q v_thrown a_tape v_taped v_size v_to v_kind v_from v_letters v_letterMany v_digits_217 v_isBeyond_217 v_suffix_43 v_steps v_fault v_hasProgram a_text a_act a_guess a_take a_begin a_finish a_to1 a_one a_two a_what a_ats a_atVar a_atNumber a_atomSort a_atomKind a_atomValue v_wrong v_wrongAt v_variable v_number v_numberKind v_takes a_out v_outed a_varSort a_varKind a_varValue a_creature v_creatures a_arrayClass a_arrayFrom a_arrayLong v_arrays v_cells a_cellSort a_cellKind a_cellValue a_asideSort a_asideKind a_asideValue a_outcome v_marks v_came v_guessed v_right v_taken a_markSort a_markKind a_markClass a_markValue v_sort v_kindAt v_value a_index v_reached v_looked) H → va_D A (mw cs q v_thrown a_tape v_taped v_size v_to v_kind v_from v_letters v_letterMany v_digits_217 v_isBeyond_217 v_suffix_43 v_steps v_fault v_hasProgram a_text a_act a_guess a_take a_begin a_finish a_to1 a_one a_two a_what a_ats a_atVar a_atNumber a_atomSort a_atomKind a_atomValue v_wrong v_wrongAt v_variable v_number v_numberKind v_takes a_out v_outed a_varSort a_varKind a_varValue a_creature v_creatures a_arrayClass a_arrayFrom a_arrayLong v_arrays v_cells a_cellSort a_cellKind a_cellValue a_asideSort a_asideKind a_asideValue a_outcome v_marks v_came v_guessed v_right v_taken a_markSort a_markKind a_markClass a_markValue v_sort v_kindAt v_value a_index v_reached v_looked) → va_S A s.heap H locs → lv_has ls 5 [(0, .ref (q 0)), (1, .int l1_43), (2, .int r150), (3, .int l3_136)] → W p l e (headSpec (wG yX10_readNumber cX10_readNumber 5 none) rmX10_readNumber).room s m ([.ref (q 0)] : List Value).toArray below meth c H locs 0 0 Q (F0 m 217 ls []) := by
                intro v_digits_217 v_isBeyond_217 H locs ls f217_0 hP hD hS hl
                obtain ⟨x217, e_x217⟩ : ∃ z : Int32, z = l3_136 + (1 : Int32) := ⟨_, rfl⟩
                obtain ⟨k_x217, g_x217⟩ : ∃ k : Int, x217.toInt = l3_136.toInt + (1) + k * 4294967296 := by rw [e_x217]; exact iAdd l3_136 (1)
                have b_x217 := iB x217
                try (have q_x217 : x217.toInt = l3_136.toInt + (1) := (by omega); clear g_x217 k_x217)
                refine lv_iinc (v := x217) (lv' := [(3, .int x217), (0, .ref (q 0)), (1, .int l1_43), (2, .int r150)]) hx hb dX10_readNumber_217 hl (k := 3) rfl (by rw [e_x217]; rfl) (by decide) rfl (fun ls hl => ?_)
                refine lv_goto (tgt := 136) hx hb dX10_readNumber_220 (by decide) ?_
                exact ih136 r150 x217 v_digits_217 v_isBeyond_217 H locs ls (by first | assumption | omega | (intros; omega) | decide) (by first | assumption | omega | (intros; omega) | decide) (by first | assumption | omega | (intros; omega) | decide) (by first | assumption | omega | (intros; omega) | decide) (by omega) hP hD hS (lv_sub hl [1, 2, 3, 0] rfl)
              have J193 : ∀ (H : Heap) (locs : List Loc) (ls : Array Slot), va_P D vwCl (mw cs q v_thrown a_tape v_taped v_size v_to v_kind v_from v_letters v_letterMany v_digits_136 v_isBeyond_136 v_suffix_43 v_steps v_fault v_hasProgram a_text a_act a_guess a_take a_begin a_finish a_to1 a_one a_two a_what a_ats a_atVar a_atNumber a_atomSort a_atomKind a_atomValue v_wrong v_wrongAt v_variable v_number v_numberKind v_takes a_out v_outed a_varSort a_varKind a_varValue a_creature v_creatures a_arrayClass a_arrayFrom a_arrayLong v_arrays v_cells a_cellSort a_cellKind a_cellValue a_asideSort a_asideKind a_asideValue a_outcome v_marks v_came v_guessed v_right v_taken a_markSort a_markKind a_markClass a_markValue v_sort v_kindAt v_value a_index v_reached v_looked) H → va_D A (mw cs q v_thrown a_tape v_taped v_size v_to v_kind v_from v_letters v_letterMany v_digits_136 v_isBeyond_136 v_suffix_43 v_steps v_fault v_hasProgram a_text a_act a_guess a_take a_begin a_finish a_to1 a_one a_two a_what a_ats a_atVar a_atNumber a_atomSort a_atomKind a_atomValue v_wrong v_wrongAt v_variable v_number v_numberKind v_takes a_out v_outed a_varSort a_varKind a_varValue a_creature v_creatures a_arrayClass a_arrayFrom a_arrayLong v_arrays v_cells a_cellSort a_cellKind a_cellValue a_asideSort a_asideKind a_asideValue a_outcome v_marks v_came v_guessed v_right v_taken a_markSort a_markKind a_markClass a_markValue v_sort v_kindAt v_value a_index v_reached v_looked) → va_S A s.heap H locs → lv_has ls 5 [(0, .ref (q 0)), (1, .int l1_43), (2, .int r150), (3, .int l3_136)] → W p l e (headSpec (wG yX10_readNumber cX10_readNumber 5 none) rmX10_readNumber).room s m ([.ref (q 0)] : List Value).toArray below meth c H locs 0 0 Q (F0 m 193 ls []) := by
                intro H locs ls hP hD hS hl
                refine lv_aload_n hx hb dX10_readNumber_193 rfl (lv_at hl 0 rfl) ?_
                refine lv_iconst (v := 1) hx hb dX10_readNumber_194 (by decide) ?_
                refine va_put (D := D) (ci := 9) (v := .int 1) (ty := .boolean) (C := RX10) (T := TX10) (N := 71) hx hb hts hin tyX10 tyX10_ok nmX10 hown hK hP hD hS 0 rfl rfl 10 (by decide) k_24_1 (fun _ h9 => h9) rfl (by decide +kernel) (by decide) (by decide) (Nat.le_of_ble_eq_true rfl) dX10_readNumber_195 (fun H locs hP hD hS => ?_)
                have hP : va_P D vwCl (mw cs q v_thrown a_tape v_taped v_size v_to v_kind v_from v_letters v_letterMany v_digits_136 (1 : Int32) v_suffix_43 v_steps v_fault v_hasProgram a_text a_act a_guess a_take a_begin a_finish a_to1 a_one a_two a_what a_ats a_atVar a_atNumber a_atomSort a_atomKind a_atomValue v_wrong v_wrongAt v_variable v_number v_numberKind v_takes a_out v_outed a_varSort a_varKind a_varValue a_creature v_creatures a_arrayClass a_arrayFrom a_arrayLong v_arrays v_cells a_cellSort a_cellKind a_cellValue a_asideSort a_asideKind a_asideValue a_outcome v_marks v_came v_guessed v_right v_taken a_markSort a_markKind a_markClass a_markValue v_sort v_kindAt v_value a_index v_reached v_looked) H := hP
                have hD : va_D A (mw cs q v_thrown a_tape v_taped v_size v_to v_kind v_from v_letters v_letterMany v_digits_136 (1 : Int32) v_suffix_43 v_steps v_fault v_hasProgram a_text a_act a_guess a_take a_begin a_finish a_to1 a_one a_two a_what a_ats a_atVar a_atNumber a_atomSort a_atomKind a_atomValue v_wrong v_wrongAt v_variable v_number v_numberKind v_takes a_out v_outed a_varSort a_varKind a_varValue a_creature v_creatures a_arrayClass a_arrayFrom a_arrayLong v_arrays v_cells a_cellSort a_cellKind a_cellValue a_asideSort a_asideKind a_asideValue a_outcome v_marks v_came v_guessed v_right v_taken a_markSort a_markKind a_markClass a_markValue v_sort v_kindAt v_value a_index v_reached v_looked) := hD
                refine lv_goto (tgt := 217) hx hb dX10_readNumber_198 (by decide) ?_
                exact J217 v_digits_136 (1 : Int32) H locs ls (by first | assumption | omega | (intros; omega) | decide) hP hD hS (lv_sub hl [0, 1, 2, 3] rfl)
              refine m_if_gt (X := x171.toInt) (tgt := 193) hx hb dX10_readNumber_172 (by decide) rfl (fun c172 => ?_) (fun c172 => ?_)
              · skip
                exact J193 H locs ls hP hD hS (lv_sub hl [2, 3, 1, 4] rfl)
              · skip
                refine lv_aload_n hx hb dX10_readNumber_175 rfl (lv_at hl 2 rfl) ?_
                refine va_get (D := D) (ci := 9) (v := .long v_digits_136) (C := RX10) (T := TX10) (N := 71) hx hb hts hin hown hK hP 0 rfl rfl 9 (by decide) k_24_0 (fun _ h9 => h9) rfl dX10_readNumber_176 ?_
                refine lv_ldc2 (v := 922337203685477580) hx hb hown k_24_2 dX10_readNumber_179 ?_
                refine m_lcmp (X := v_digits_136.toInt) (Y := 922337203685477580) hx hb dX10_readNumber_182 rfl (by decide) (fun x182 g_x182 => ?_)
                have J201 : ∀ (H : Heap) (locs : List Loc) (ls : Array Slot), va_P D vwCl (mw cs q v_thrown a_tape v_taped v_size v_to v_kind v_from v_letters v_letterMany v_digits_136 v_isBeyond_136 v_suffix_43 v_steps v_fault v_hasProgram a_text a_act a_guess a_take a_begin a_finish a_to1 a_one a_two a_what a_ats a_atVar a_atNumber a_atomSort a_atomKind a_atomValue v_wrong v_wrongAt v_variable v_number v_numberKind v_takes a_out v_outed a_varSort a_varKind a_varValue a_creature v_creatures a_arrayClass a_arrayFrom a_arrayLong v_arrays v_cells a_cellSort a_cellKind a_cellValue a_asideSort a_asideKind a_asideValue a_outcome v_marks v_came v_guessed v_right v_taken a_markSort a_markKind a_markClass a_markValue v_sort v_kindAt v_value a_index v_reached v_looked) H → va_D A (mw cs q v_thrown a_tape v_taped v_size v_to v_kind v_from v_letters v_letterMany v_digits_136 v_isBeyond_136 v_suffix_43 v_steps v_fault v_hasProgram a_text a_act a_guess a_take a_begin a_finish a_to1 a_one a_two a_what a_ats a_atVar a_atNumber a_atomSort a_atomKind a_atomValue v_wrong v_wrongAt v_variable v_number v_numberKind v_takes a_out v_outed a_varSort a_varKind a_varValue a_creature v_creatures a_arrayClass a_arrayFrom a_arrayLong v_arrays v_cells a_cellSort a_cellKind a_cellValue a_asideSort a_asideKind a_asideValue a_outcome v_marks v_came v_guessed v_right v_taken a_markSort a_markKind a_markClass a_markValue v_sort v_kindAt v_value a_index v_reached v_looked) → va_S A s.heap H locs → lv_has ls 5 [(0, .ref (q 0)), (1, .int l1_43), (2, .int r150), (3, .int l3_136), (4, .int x161)] → W p l e (headSpec (wG yX10_readNumber cX10_readNumber 5 none) rmX10_readNumber).room s m ([.ref (q 0)] : List Value).toArray below meth c H locs 0 0 Q (F0 m 201 ls []) := by
                  intro H locs ls hP hD hS hl
                  refine lv_aload_n hx hb dX10_readNumber_201 rfl (lv_at hl 0 rfl) ?_
                  refine lv_aload_n hx hb dX10_readNumber_202 rfl (lv_at hl 0 rfl) ?_
                  refine va_get (D := D) (ci := 9) (v := .long v_digits_136) (C := RX10) (T := TX10) (N := 71) hx hb hts hin hown hK hP 0 rfl rfl 9 (by decide) k_24_0 (fun _ h9 => h9) rfl dX10_readNumber_203 ?_
                  refine lv_ldc2 (v := 10) hx hb hown k_24_3 dX10_readNumber_206 ?_
                  refine m_lmul (X := v_digits_136.toInt) (Y := 10) hx hb dX10_readNumber_209 rfl (by decide) (fun x209 e_x209 g9 => ?_)
                  obtain ⟨k_x209, g_x209⟩ := g9
                  have b_x209 := jB x209
                  try (have q_x209 : x209.toInt = v_digits_136.toInt * 10 := (by omega); clear g_x209 k_x209)
                  refine lv_iload hx hb dX10_readNumber_210 (lv_at hl 4 rfl) ?_
                  refine m_i2l (X := x161.toInt) hx hb dX10_readNumber_212 rfl (fun x212 e_x212 g_x212 => ?_)
                  refine m_ladd (X := x209.toInt) (Y := x212.toInt) hx hb dX10_readNumber_213 rfl rfl (fun x213 e_x213 g9 => ?_)
                  obtain ⟨k_x213, g_x213⟩ := g9
                  have b_x213 := jB x213
                  try (have q_x213 : x213.toInt = x209.toInt + x212.toInt := (by omega); clear g_x213 k_x213)
                  refine va_put (D := D) (ci := 9) (v := .long x213) (ty := .long) (C := RX10) (T := TX10) (N := 71) hx hb hts hin tyX10 tyX10_ok nmX10 hown hK hP hD hS 0 rfl rfl 9 (by decide) k_24_0 (fun _ h9 => h9) rfl (by decide +kernel) rfl rfl (Nat.le_of_ble_eq_true rfl) dX10_readNumber_214 (fun H locs hP hD hS => ?_)
                  have hP : va_P D vwCl (mw cs q v_thrown a_tape v_taped v_size v_to v_kind v_from v_letters v_letterMany x213 v_isBeyond_136 v_suffix_43 v_steps v_fault v_hasProgram a_text a_act a_guess a_take a_begin a_finish a_to1 a_one a_two a_what a_ats a_atVar a_atNumber a_atomSort a_atomKind a_atomValue v_wrong v_wrongAt v_variable v_number v_numberKind v_takes a_out v_outed a_varSort a_varKind a_varValue a_creature v_creatures a_arrayClass a_arrayFrom a_arrayLong v_arrays v_cells a_cellSort a_cellKind a_cellValue a_asideSort a_asideKind a_asideValue a_outcome v_marks v_came v_guessed v_right v_taken a_markSort a_markKind a_markClass a_markValue v_sort v_kindAt v_value a_index v_reached v_looked) H := hP
                  have hD : va_D A (mw cs q v_thrown a_tape v_taped v_size v_to v_kind v_from v_letters v_letterMany x213 v_isBeyond_136 v_suffix_43 v_steps v_fault v_hasProgram a_text a_act a_guess a_take a_begin a_finish a_to1 a_one a_two a_what a_ats a_atVar a_atNumber a_atomSort a_atomKind a_atomValue v_wrong v_wrongAt v_variable v_number v_numberKind v_takes a_out v_outed a_varSort a_varKind a_varValue a_creature v_creatures a_arrayClass a_arrayFrom a_arrayLong v_arrays v_cells a_cellSort a_cellKind a_cellValue a_asideSort a_asideKind a_asideValue a_outcome v_marks v_came v_guessed v_right v_taken a_markSort a_markKind a_markClass a_markValue v_sort v_kindAt v_value a_index v_reached v_looked) := hD
                  exact J217 x213 v_isBeyond_136 H locs ls (by first | assumption | omega | (intros; omega) | decide) hP hD hS (lv_sub hl [0, 1, 2, 3] rfl)
                refine m_if_ne (X := x182.toInt) (tgt := 201) hx hb dX10_readNumber_183 (by decide) rfl (fun c183 => ?_) (fun c183 => ?_)
                · skip
                  exact J201 H locs ls hP hD hS (lv_sub hl [2, 3, 1, 4, 0] rfl)
                · skip
                  refine lv_iload hx hb dX10_readNumber_186 (lv_at hl 0 rfl) ?_
                  refine lv_bipush (v := 8) hx hb dX10_readNumber_188 (by decide) ?_
                  refine m_icmp_le (X := x161.toInt) (Y := 8) (tgt := 201) hx hb dX10_readNumber_190 (by decide) rfl (by decide) (fun c190 => ?_) (fun c190 => ?_)
                  · skip
                    exact J201 H locs ls hP hD hS (lv_sub hl [2, 3, 1, 4, 0] rfl)
                  · skip
                    exact J193 H locs ls hP hD hS (lv_sub hl [2, 3, 1, 4] rfl)
      exact J136 ((l1_43.toInt - v_from.toInt).toNat + 1) s0_120 v_from (0 : Int64) (0 : Int32) H locs ls (by first | assumption | omega | (intros; omega) | decide) (by first | assumption | omega | (intros; omega) | decide) (by first | assumption | omega | (intros; omega) | decide) (by first | assumption | omega | (intros; omega) | decide) (by omega) hP hD hS (lv_sub hl [2, 3, 1, 0] rfl)
    have J119 : ∀ (H : Heap) (locs : List Loc) (ls : Array Slot), va_P D vwCl (mw cs q v_thrown a_tape v_taped v_size v_to v_kind v_from v_letters v_letterMany v_digits v_isBeyond v_suffix_43 v_steps v_fault v_hasProgram a_text a_act a_guess a_take a_begin a_finish a_to1 a_one a_two a_what a_ats a_atVar a_atNumber a_atomSort a_atomKind a_atomValue v_wrong v_wrongAt v_variable v_number v_numberKind v_takes a_out v_outed a_varSort a_varKind a_varValue a_creature v_creatures a_arrayClass a_arrayFrom a_arrayLong v_arrays v_cells a_cellSort a_cellKind a_cellValue a_asideSort a_asideKind a_asideValue a_outcome v_marks v_came v_guessed v_right v_taken a_markSort a_markKind a_markClass a_markValue v_sort v_kindAt v_value a_index v_reached v_looked) H → va_D A (mw cs q v_thrown a_tape v_taped v_size v_to v_kind v_from v_letters v_letterMany v_digits v_isBeyond v_suffix_43 v_steps v_fault v_hasProgram a_text a_act a_guess a_take a_begin a_finish a_to1 a_one a_two a_what a_ats a_atVar a_atNumber a_atomSort a_atomKind a_atomValue v_wrong v_wrongAt v_variable v_number v_numberKind v_takes a_out v_outed a_varSort a_varKind a_varValue a_creature v_creatures a_arrayClass a_arrayFrom a_arrayLong v_arrays v_cells a_cellSort a_cellKind a_cellValue a_asideSort a_asideKind a_asideValue a_outcome v_marks v_came v_guessed v_right v_taken a_markSort a_markKind a_markClass a_markValue v_sort v_kindAt v_value a_index v_reached v_looked) → va_S A s.heap H locs → lv_has ls 5 [(0, .ref (q 0)), (1, .int l1_43)] → W p l e (headSpec (wG yX10_readNumber cX10_readNumber 5 none) rmX10_readNumber).room s m ([.ref (q 0)] : List Value).toArray below meth c H locs 0 0 Q (F0 m 119 ls []) := by
      intro H locs ls hP hD hS hl
      refine lv_iconst (v := 0) hx hb dX10_readNumber_119 (by decide) ?_
      exact J120 (0 : Int32) H locs ls (by first | decide | omega) hP hD hS (lv_sub hl [0, 1] rfl)
    refine m_icmp_gt (X := x48.toInt) (Y := 19) (tgt := 119) hx hb dX10_readNumber_51 (by decide) rfl (by decide) (fun c51 => ?_) (fun c51 => ?_)
    · skip
      exact J119 H locs ls hP hD hS (lv_sub hl [0, 1] rfl)
    · skip
      refine lv_aload_n hx hb dX10_readNumber_54 rfl (lv_at hl 0 rfl) ?_
      refine va_get (D := D) (ci := 9) (v := .int v_suffix_43) (C := RX10) (T := TX10) (N := 71) hx hb hts hin hown hK hP 0 rfl rfl 11 (by decide) k_23_23 (fun _ h9 => h9) rfl dX10_readNumber_55 ?_
      have J115 : ∀ (H : Heap) (locs : List Loc) (ls : Array Slot), va_P D vwCl (mw cs q v_thrown a_tape v_taped v_size v_to v_kind v_from v_letters v_letterMany v_digits v_isBeyond v_suffix_43 v_steps v_fault v_hasProgram a_text a_act a_guess a_take a_begin a_finish a_to1 a_one a_two a_what a_ats a_atVar a_atNumber a_atomSort a_atomKind a_atomValue v_wrong v_wrongAt v_variable v_number v_numberKind v_takes a_out v_outed a_varSort a_varKind a_varValue a_creature v_creatures a_arrayClass a_arrayFrom a_arrayLong v_arrays v_cells a_cellSort a_cellKind a_cellValue a_asideSort a_asideKind a_asideValue a_outcome v_marks v_came v_guessed v_right v_taken a_markSort a_markKind a_markClass a_markValue v_sort v_kindAt v_value a_index v_reached v_looked) H → va_D A (mw cs q v_thrown a_tape v_taped v_size v_to v_kind v_from v_letters v_letterMany v_digits v_isBeyond v_suffix_43 v_steps v_fault v_hasProgram a_text a_act a_guess a_take a_begin a_finish a_to1 a_one a_two a_what a_ats a_atVar a_atNumber a_atomSort a_atomKind a_atomValue v_wrong v_wrongAt v_variable v_number v_numberKind v_takes a_out v_outed a_varSort a_varKind a_varValue a_creature v_creatures a_arrayClass a_arrayFrom a_arrayLong v_arrays v_cells a_cellSort a_cellKind a_cellValue a_asideSort a_asideKind a_asideValue a_outcome v_marks v_came v_guessed v_right v_taken a_markSort a_markKind a_markClass a_markValue v_sort v_kindAt v_value a_index v_reached v_looked) → va_S A s.heap H locs → lv_has ls 5 [(0, .ref (q 0)), (1, .int l1_43)] → W p l e (headSpec (wG yX10_readNumber cX10_readNumber 5 none) rmX10_readNumber).room s m ([.ref (q 0)] : List Value).toArray below meth c H locs 0 0 Q (F0 m 115 ls []) := by
        intro H locs ls hP hD hS hl
        refine lv_iconst (v := 1) hx hb dX10_readNumber_115 (by decide) ?_
        refine lv_goto (tgt := 120) hx hb dX10_readNumber_116 (by decide) ?_
        exact J120 (1 : Int32) H locs ls (by first | decide | omega) hP hD hS (lv_sub hl [0, 1] rfl)
      refine m_if_eq (X := v_suffix_43.toInt) (tgt := 115) hx hb dX10_readNumber_58 (by decide) rfl (fun c58 => ?_) (fun c58 => ?_)
      · skip
        exact J115 H locs ls hP hD hS (lv_sub hl [0, 1] rfl)
      · skip
        refine lv_aload_n hx hb dX10_readNumber_61 rfl (lv_at hl 0 rfl) ?_
        refine va_get (D := D) (ci := 9) (v := .int v_suffix_43) (C := RX10) (T := TX10) (N := 71) hx hb hts hin hown hK hP 0 rfl rfl 11 (by decide) k_23_23 (fun _ h9 => h9) rfl dX10_readNumber_62 ?_
        refine lv_bipush (v := 98) hx hb dX10_readNumber_65 (by decide) ?_
        refine m_icmp_eq (X := v_suffix_43.toInt) (Y := 98) (tgt := 115) hx hb dX10_readNumber_67 (by decide) rfl (by decide) (fun c67 => ?_) (fun c67 => ?_)
        · skip
          exact J115 H locs ls hP hD hS (lv_sub hl [0, 1] rfl)
        · skip
          refine lv_aload_n hx hb dX10_readNumber_70 rfl (lv_at hl 0 rfl) ?_
          refine va_get (D := D) (ci := 9) (v := .int v_suffix_43) (C := RX10) (T := TX10) (N := 71) hx hb hts hin hown hK hP 0 rfl rfl 11 (by decide) k_23_23 (fun _ h9 => h9) rfl dX10_readNumber_71 ?_
          refine lv_bipush (v := 115) hx hb dX10_readNumber_74 (by decide) ?_
          refine m_icmp_eq (X := v_suffix_43.toInt) (Y := 115) (tgt := 115) hx hb dX10_readNumber_76 (by decide) rfl (by decide) (fun c76 => ?_) (fun c76 => ?_)
          · skip
            exact J115 H locs ls hP hD hS (lv_sub hl [0, 1] rfl)
          · skip
            refine lv_aload_n hx hb dX10_readNumber_79 rfl (lv_at hl 0 rfl) ?_
            refine va_get (D := D) (ci := 9) (v := .int v_suffix_43) (C := RX10) (T := TX10) (N := 71) hx hb hts hin hown hK hP 0 rfl rfl 11 (by decide) k_23_23 (fun _ h9 => h9) rfl dX10_readNumber_80 ?_
            refine lv_bipush (v := 99) hx hb dX10_readNumber_83 (by decide) ?_
            refine m_icmp_eq (X := v_suffix_43.toInt) (Y := 99) (tgt := 115) hx hb dX10_readNumber_85 (by decide) rfl (by decide) (fun c85 => ?_) (fun c85 => ?_)
            · skip
              exact J115 H locs ls hP hD hS (lv_sub hl [0, 1] rfl)
            · skip
              refine lv_aload_n hx hb dX10_readNumber_88 rfl (lv_at hl 0 rfl) ?_
              refine va_get (D := D) (ci := 9) (v := .int v_suffix_43) (C := RX10) (T := TX10) (N := 71) hx hb hts hin hown hK hP 0 rfl rfl 11 (by decide) k_23_23 (fun _ h9 => h9) rfl dX10_readNumber_89 ?_
              refine lv_bipush (v := 108) hx hb dX10_readNumber_92 (by decide) ?_
              refine m_icmp_eq (X := v_suffix_43.toInt) (Y := 108) (tgt := 115) hx hb dX10_readNumber_94 (by decide) rfl (by decide) (fun c94 => ?_) (fun c94 => ?_)
              · skip
                exact J115 H locs ls hP hD hS (lv_sub hl [0, 1] rfl)
              · skip
                refine lv_aload_n hx hb dX10_readNumber_97 rfl (lv_at hl 0 rfl) ?_
                refine va_get (D := D) (ci := 9) (v := .int v_suffix_43) (C := RX10) (T := TX10) (N := 71) hx hb hts hin hown hK hP 0 rfl rfl 11 (by decide) k_23_23 (fun _ h9 => h9) rfl dX10_readNumber_98 ?_
                refine lv_bipush (v := 102) hx hb dX10_readNumber_101 (by decide) ?_
                refine m_icmp_eq (X := v_suffix_43.toInt) (Y := 102) (tgt := 115) hx hb dX10_readNumber_103 (by decide) rfl (by decide) (fun c103 => ?_) (fun c103 => ?_)
                · skip
                  exact J115 H locs ls hP hD hS (lv_sub hl [0, 1] rfl)
                · skip
                  refine lv_aload_n hx hb dX10_readNumber_106 rfl (lv_at hl 0 rfl) ?_
                  refine va_get (D := D) (ci := 9) (v := .int v_suffix_43) (C := RX10) (T := TX10) (N := 71) hx hb hts hin hown hK hP 0 rfl rfl 11 (by decide) k_23_23 (fun _ h9 => h9) rfl dX10_readNumber_107 ?_
                  refine lv_bipush (v := 100) hx hb dX10_readNumber_110 (by decide) ?_
                  refine m_icmp_ne (X := v_suffix_43.toInt) (Y := 100) (tgt := 119) hx hb dX10_readNumber_112 (by decide) rfl (by decide) (fun c112 => ?_) (fun c112 => ?_)
                  · skip
                    exact J119 H locs ls hP hD hS (lv_sub hl [0, 1] rfl)
                  · skip
                    exact J115 H locs ls hP hD hS (lv_sub hl [0, 1] rfl)
  refine m_if_eq (X := r20.toInt) (tgt := 43) hx hb dX10_readNumber_23 (by decide) rfl (fun c23 => ?_) (fun c23 => ?_)
  · skip
    exact J43 v_to (0 : Int32) H locs ls (by first | assumption | omega | (intros; omega) | decide) (by first | assumption | omega | (intros; omega) | decide) hP hD hS (lv_sub hl [1, 0] rfl)
  · skip
    refine lv_aload_n hx hb dX10_readNumber_26 rfl (lv_at hl 1 rfl) ?_
    refine lv_aload_n hx hb dX10_readNumber_27 rfl (lv_at hl 1 rfl) ?_
    refine lv_aload_n hx hb dX10_readNumber_28 rfl (lv_at hl 1 rfl) ?_
    refine va_get (D := D) (ci := 9) (v := .int v_to) (C := RX10) (T := TX10) (N := 71) hx hb hts hin hown hK hP 0 rfl rfl 4 (by decide) k_22_12 (fun _ h9 => h9) rfl dX10_readNumber_29 ?_
    refine lv_iconst (v := 1) hx hb dX10_readNumber_32 (by decide) ?_
    refine m_isub (X := v_to.toInt) (Y := 1) hx hb dX10_readNumber_33 rfl (by decide) (fun x33 e_x33 g9 => ?_)
    obtain ⟨k_x33, g_x33⟩ := g9
    have b_x33 := iB x33
    try (have q_x33 : x33.toInt = v_to.toInt - 1 := (by omega); clear g_x33 k_x33)
    refine call_i (As := [.int x33]) (rest := [.ref (q 0)]) ⟨hx, hb, hml, hown, hts⟩ (tX10_at (l := l) x33 (by first | assumption | omega | (intros; omega) | decide) (by first | assumption | omega | (intros; omega) | decide) (by first | assumption | omega | (intros; omega) | decide)) (cwV 1 hts (gV (wr23 _ (List.mem_of_getElem? (i := 2) rfl)) (wr23 _ (List.mem_of_getElem? (i := 3) rfl)) (wr23 _ (List.mem_of_getElem? (i := 4) rfl)) (wr1 _ (List.mem_of_getElem? (i := 5) rfl)) (wr23 _ (List.mem_of_getElem? (i := 5) rfl))) rfl rfl rfl (by decide +kernel) ⟨Nat.le_of_ble_eq_true rfl, Nat.le_of_ble_eq_true rfl⟩) (va_recv hK hP (ci := 9) (q0 := 0) rfl rfl) hK hP hD hE hS hA rfl hl.1 rfl (Nat.le_of_ble_eq_true rfl) dX10_readNumber_34 ⟨Nat.le_of_ble_eq_true rfl, Nat.le_of_ble_eq_true rfl⟩ (fun r34 w9 H locs hw34 hP hD hS => ?_)
    obtain ⟨rfl, hw34_0⟩ := hw34
    have b_r34 := iB r34
    refine va_put (D := D) (ci := 9) (v := .int r34) (ty := .int) (C := RX10) (T := TX10) (N := 71) hx hb hts hin tyX10 tyX10_ok nmX10 hown hK hP hD hS 0 rfl rfl 11 (by decide) k_23_23 (fun _ h9 => h9) rfl (by decide +kernel) rfl rfl (Nat.le_of_ble_eq_true rfl) dX10_readNumber_37 (fun H locs hP hD hS => ?_)
    have hP : va_P D vwCl (mw cs q v_thrown a_tape v_taped v_size v_to v_kind v_from v_letters v_letterMany v_digits v_isBeyond r34 v_steps v_fault v_hasProgram a_text a_act a_guess a_take a_begin a_finish a_to1 a_one a_two a_what a_ats a_atVar a_atNumber a_atomSort a_atomKind a_atomValue v_wrong v_wrongAt v_variable v_number v_numberKind v_takes a_out v_outed a_varSort a_varKind a_varValue a_creature v_creatures a_arrayClass a_arrayFrom a_arrayLong v_arrays v_cells a_cellSort a_cellKind a_cellValue a_asideSort a_asideKind a_asideValue a_outcome v_marks v_came v_guessed v_right v_taken a_markSort a_markKind a_markClass a_markValue v_sort v_kindAt v_value a_index v_reached v_looked) H := hP
    have hD : va_D A (mw cs q v_thrown a_tape v_taped v_size v_to v_kind v_from v_letters v_letterMany v_digits v_isBeyond r34 v_steps v_fault v_hasProgram a_text a_act a_guess a_take a_begin a_finish a_to1 a_one a_two a_what a_ats a_atVar a_atNumber a_atomSort a_atomKind a_atomValue v_wrong v_wrongAt v_variable v_number v_numberKind v_takes a_out v_outed a_varSort a_varKind a_varValue a_creature v_creatures a_arrayClass a_arrayFrom a_arrayLong v_arrays v_cells a_cellSort a_cellKind a_cellValue a_asideSort a_asideKind a_asideValue a_outcome v_marks v_came v_guessed v_right v_taken a_markSort a_markKind a_markClass a_markValue v_sort v_kindAt v_value a_index v_reached v_looked) := hD
    obtain ⟨x40, e_x40⟩ : ∃ z : Int32, z = v_to + (-1 : Int32) := ⟨_, rfl⟩
    obtain ⟨k_x40, g_x40⟩ : ∃ k : Int, x40.toInt = v_to.toInt + (-1) + k * 4294967296 := by rw [e_x40]; exact iAdd v_to (-1)
    have b_x40 := iB x40
    try (have q_x40 : x40.toInt = v_to.toInt + (-1) := (by omega); clear g_x40 k_x40)
    refine lv_iinc (v := x40) (lv' := [(1, .int x40), (0, .ref (q 0))]) hx hb dX10_readNumber_40 hl (k := 0) rfl (by rw [e_x40]; rfl) (by decide) rfl (fun ls hl => ?_)
    exact J43 x40 r34 H locs ls (by first | assumption | omega | (intros; omega) | decide) (by first | assumption | omega | (intros; omega) | decide) hP hD hS (lv_sub hl [1, 0] rfl)

def rmX10_go : Room := { frames := 60, cells := 0, slots := 0, locals := 1200 }
set_option maxHeartbeats 4000000 in
set_option maxRecDepth 100000 in
theorem tX10_go {l : Launch} {D : va_G} {K : Nat → Nat → Nat} {cs : Nat → ClassId} {q : Nat → Nat} {v_thrown v_taped v_size v_to v_kind v_from v_letterMany v_isBeyond v_suffix v_steps v_fault v_hasProgram v_wrong v_wrongAt v_variable v_numberKind v_takes v_outed v_creatures v_arrays v_cells v_marks v_came v_guessed v_right v_taken v_sort v_kindAt v_reached v_looked : Int32} {a_tape a_text a_act a_guess a_take a_begin a_finish a_to1 a_one a_two a_what a_ats a_atVar a_atNumber a_atomSort a_atomKind a_out a_varSort a_varKind a_creature a_arrayClass a_arrayFrom a_arrayLong a_cellSort a_cellKind a_asideSort a_asideKind a_outcome a_markSort a_markKind a_markClass a_index : Nat → Int32} {v_letters v_digits v_number v_value : Int64} {a_atomValue a_varValue a_cellValue a_asideValue a_markValue : Nat → Int64} (p_0 : 0 ≤ v_size.toInt) (p_1 : v_size.toInt ≤ 3100) (p_2 : 0 ≤ v_to.toInt) (p_3 : v_to.toInt ≤ v_size.toInt) (p_4 : v_isBeyond.toInt = 0 ∨ v_isBeyond.toInt = 1) : CtV l yX10_go (wG yX10_go cX10_go 2 none) rmX10_go D (mwT cs) K [.ref (q 0)] (mw cs q v_thrown a_tape v_taped v_size v_to v_kind v_from v_letters v_letterMany v_digits v_isBeyond v_suffix v_steps v_fault v_hasProgram a_text a_act a_guess a_take a_begin a_finish a_to1 a_one a_two a_what a_ats a_atVar a_atNumber a_atomSort a_atomKind a_atomValue v_wrong v_wrongAt v_variable v_number v_numberKind v_takes a_out v_outed a_varSort a_varKind a_varValue a_creature v_creatures a_arrayClass a_arrayFrom a_arrayLong v_arrays v_cells a_cellSort a_cellKind a_cellValue a_asideSort a_asideKind a_asideValue a_outcome v_marks v_came v_guessed v_right v_taken a_markSort a_markKind a_markClass a_markValue v_sort v_kindAt v_value a_index v_reached v_looked) (fun w1 => ∃ (v_to' : Int32) (v_kind' : Int32) (v_from' : Int32) (v_letters' : Int64) (v_letterMany' : Int32) (v_digits' : Int64) (v_isBeyond' : Int32) (v_suffix' : Int32), w1 = (mw cs q v_thrown a_tape v_taped v_size v_to' v_kind' v_from' v_letters' v_letterMany' v_digits' v_isBeyond' v_suffix' v_steps v_fault v_hasProgram a_text a_act a_guess a_take a_begin a_finish a_to1 a_one a_two a_what a_ats a_atVar a_atNumber a_atomSort a_atomKind a_atomValue v_wrong v_wrongAt v_variable v_number v_numberKind v_takes a_out v_outed a_varSort a_varKind a_varValue a_creature v_creatures a_arrayClass a_arrayFrom a_arrayLong v_arrays v_cells a_cellSort a_cellKind a_cellValue a_asideSort a_asideKind a_asideValue a_outcome v_marks v_came v_guessed v_right v_taken a_markSort a_markKind a_markClass a_markValue v_sort v_kindAt v_value a_index v_reached v_looked) ∧ (0 ≤ v_from'.toInt) ∧ (v_from'.toInt ≤ v_to'.toInt) ∧ (v_to.toInt ≤ v_to'.toInt) ∧ (v_to'.toInt ≤ v_size.toInt) ∧ (ph a_tape v_to' ≤ ph a_tape v_to + 1) ∧ (v_kind'.toInt = 2 → v_letterMany'.toInt = 1 → 1 ≤ v_letters'.toInt ∧ v_letters'.toInt ≤ 26) ∧ (v_kind'.toInt = 4 → 1 ≤ v_to'.toInt ∧ v_letters'.toInt = (a_tape (v_to'.toNatClampNeg - 1)).toInt) ∧ (v_isBeyond'.toInt = 0 ∨ v_isBeyond'.toInt = 1) ∧ (v_kind'.toInt = 1 ∨ ph a_tape v_to' ≤ ph a_tape v_from' + 1)) 0 0 := by
  intro sz
  refine Met.ofW (cc := cX10_go) (maxL := 2) (ret := none) (by decide) rfl ?_
  intro p e s m args below meth c s₁ B hml hv
  obtain ⟨rfl, hsz, hP, hK, hD0, hE⟩ := hv
  have hx := B.exec
  have hb := B.bytes
  have hr := B.returns
  have hts := atoms_spec (ws := (wG yX10_go cX10_go 2 none)) B.pre
  have hown : s.vm.findClass RX10 = some m.cls := findClass_of_methodNamed B.named
  have hlocks := B.notSynchronized
  subst hsz
  have hD := hD0.self (sz := s.heap.size)
  obtain ⟨A, hAe⟩ : ∃ A : Nat → Prop, A = va_A (mw cs q v_thrown a_tape v_taped v_size v_to v_kind v_from v_letters v_letterMany v_digits v_isBeyond v_suffix v_steps v_fault v_hasProgram a_text a_act a_guess a_take a_begin a_finish a_to1 a_one a_two a_what a_ats a_atVar a_atNumber a_atomSort a_atomKind a_atomValue v_wrong v_wrongAt v_variable v_number v_numberKind v_takes a_out v_outed a_varSort a_varKind a_varValue a_creature v_creatures a_arrayClass a_arrayFrom a_arrayLong v_arrays v_cells a_cellSort a_cellKind a_cellValue a_asideSort a_asideKind a_asideValue a_outcome v_marks v_came v_guessed v_right v_taken a_markSort a_markKind a_markClass a_markValue v_sort v_kindAt v_value a_index v_reached v_looked) s.heap.size := ⟨_, rfl⟩
  rw [← hAe] at hD hE
  have hA : ∀ q : Nat, s.heap.size ≤ q → A q := fun q h => by rw [hAe]; exact Or.inr h
  have hS : va_S A s.heap s.heap [] := va_S.rf
  have hl := lv_entry ([.ref (q 0)]) (n := 2) (Nat.le_of_ble_eq_true rfl)
  rw [lg_entry_eq]
  generalize (lg_sl ([.ref (q 0)]) ++ List.replicate (2 - (lg_sl ([.ref (q 0)])).length) Slot.unset).toArray = ls at hl ⊢
  have hl : lv_has ls 2 [(0, .ref (q 0))] := hl
  refine wq (fun Q hQ => ?_)
  have hin : ∀ w ∈ wsX100, w ∈ (wG yX10_go cX10_go 2 none) := fun w h => List.mem_cons_of_mem _ (inlX10 w h)
  have kc0 : (0 : Int32).toInt = 0 := by decide
  have kc1 : (1 : Int32).toInt = 1 := by decide
  have kc2 : (4 : Int32).toInt = 4 := by decide
  have kc3 : (10 : Int32).toInt = 10 := by decide
  have kc4 : (32 : Int32).toInt = 32 := by decide
  have kc5 : (45 : Int32).toInt = 45 := by decide
  have kc6 : (59 : Int32).toInt = 59 := by decide
  have kc7 : (61 : Int32).toInt = 61 := by decide
  have kc8 : (91 : Int32).toInt = 91 := by decide
  have kc9 : (93 : Int32).toInt = 93 := by decide
  have kc10 : (3000 : Int32).toInt = 3000 := by decide
  have k_22_12 := hts (.fieldLink RX10 263 "ArrayTrainerModel" "to" "I") (List.mem_cons_of_mem _ (wr22 _ (List.mem_of_getElem? (i := 12) rfl)))
  have k_22_11 := hts (.fieldLink RX10 261 "ArrayTrainerModel" "size" "I") (List.mem_cons_of_mem _ (wr22 _ (List.mem_of_getElem? (i := 11) rfl)))
  have k_23_0 := hts (.fieldLink RX10 270 "ArrayTrainerModel" "from" "I") (List.mem_cons_of_mem _ (wr23 _ (List.mem_of_getElem? (i := 0) rfl)))
  have k_22_15 := hts (.fieldLink RX10 273 "ArrayTrainerModel" "kind" "I") (List.mem_cons_of_mem _ (wr22 _ (List.mem_of_getElem? (i := 15) rfl)))
  have k_23_1 := hts (.fieldLink RX10 289 "ArrayTrainerModel" "letters" "J") (List.mem_cons_of_mem _ (wr23 _ (List.mem_of_getElem? (i := 1) rfl)))
  obtain ⟨H, hH⟩ : ∃ H : Heap, H = s.heap := ⟨_, rfl⟩
  obtain ⟨locs, hlc⟩ : ∃ L : List Loc, L = [] := ⟨_, rfl⟩
  have hP : va_P D vwCl (mw cs q v_thrown a_tape v_taped v_size v_to v_kind v_from v_letters v_letterMany v_digits v_isBeyond v_suffix v_steps v_fault v_hasProgram a_text a_act a_guess a_take a_begin a_finish a_to1 a_one a_two a_what a_ats a_atVar a_atNumber a_atomSort a_atomKind a_atomValue v_wrong v_wrongAt v_variable v_number v_numberKind v_takes a_out v_outed a_varSort a_varKind a_varValue a_creature v_creatures a_arrayClass a_arrayFrom a_arrayLong v_arrays v_cells a_cellSort a_cellKind a_cellValue a_asideSort a_asideKind a_asideValue a_outcome v_marks v_came v_guessed v_right v_taken a_markSort a_markKind a_markClass a_markValue v_sort v_kindAt v_value a_index v_reached v_looked) H := by rw [hH]; exact hP
  have hS : va_S A s.heap H locs := by rw [hH, hlc]; exact hS
  refine wHL hH hlc ?_
  have J0 : ∀ (n0 : Nat) (v_to_0 : Int32) (H : Heap) (locs : List Loc) (ls : Array Slot), (v_to.toInt ≤ v_to_0.toInt) → (v_to_0.toInt ≤ v_size.toInt) → (ph a_tape v_to_0 = ph a_tape v_to) → (v_size.toInt - v_to_0.toInt < (n0 : Int)) → va_P D vwCl (mw cs q v_thrown a_tape v_taped v_size v_to_0 v_kind v_from v_letters v_letterMany v_digits v_isBeyond v_suffix v_steps v_fault v_hasProgram a_text a_act a_guess a_take a_begin a_finish a_to1 a_one a_two a_what a_ats a_atVar a_atNumber a_atomSort a_atomKind a_atomValue v_wrong v_wrongAt v_variable v_number v_numberKind v_takes a_out v_outed a_varSort a_varKind a_varValue a_creature v_creatures a_arrayClass a_arrayFrom a_arrayLong v_arrays v_cells a_cellSort a_cellKind a_cellValue a_asideSort a_asideKind a_asideValue a_outcome v_marks v_came v_guessed v_right v_taken a_markSort a_markKind a_markClass a_markValue v_sort v_kindAt v_value a_index v_reached v_looked) H → va_D A (mw cs q v_thrown a_tape v_taped v_size v_to_0 v_kind v_from v_letters v_letterMany v_digits v_isBeyond v_suffix v_steps v_fault v_hasProgram a_text a_act a_guess a_take a_begin a_finish a_to1 a_one a_two a_what a_ats a_atVar a_atNumber a_atomSort a_atomKind a_atomValue v_wrong v_wrongAt v_variable v_number v_numberKind v_takes a_out v_outed a_varSort a_varKind a_varValue a_creature v_creatures a_arrayClass a_arrayFrom a_arrayLong v_arrays v_cells a_cellSort a_cellKind a_cellValue a_asideSort a_asideKind a_asideValue a_outcome v_marks v_came v_guessed v_right v_taken a_markSort a_markKind a_markClass a_markValue v_sort v_kindAt v_value a_index v_reached v_looked) → va_S A s.heap H locs → lv_has ls 2 [(0, .ref (q 0))] → W p l e (headSpec (wG yX10_go cX10_go 2 none) rmX10_go).room s m ([.ref (q 0)] : List Value).toArray below meth c H locs 0 0 Q (F0 m 0 ls []) := by
    intro n0
    induction n0 with
    | zero =>
      intro v_to_0 H locs ls f0_0 f0_1 f0_2 hm0
      exfalso
      omega
    | succ n0 ih0 =>
      intro v_to_0 H locs ls f0_0 f0_1 f0_2 hm0 hP hD hS hl
      refine lv_aload_n hx hb dX10_go_0 rfl (lv_at hl 0 rfl) ?_
      refine va_get (D := D) (ci := 9) (v := .int v_to_0) (C := RX10) (T := TX10) (N := 71) hx hb hts hin hown hK hP 0 rfl rfl 4 (by decide) k_22_12 (fun _ h9 => h9) rfl dX10_go_1 ?_
      refine lv_aload_n hx hb dX10_go_4 rfl (lv_at hl 0 rfl) ?_
      refine va_get (D := D) (ci := 9) (v := .int v_size) (C := RX10) (T := TX10) (N := 71) hx hb hts hin hown hK hP 0 rfl rfl 3 (by decide) k_22_11 (fun _ h9 => h9) rfl dX10_go_5 ?_
      have J50 : ∀ (H : Heap) (locs : List Loc) (ls : Array Slot), va_P D vwCl (mw cs q v_thrown a_tape v_taped v_size v_to_0 v_kind v_from v_letters v_letterMany v_digits v_isBeyond v_suffix v_steps v_fault v_hasProgram a_text a_act a_guess a_take a_begin a_finish a_to1 a_one a_two a_what a_ats a_atVar a_atNumber a_atomSort a_atomKind a_atomValue v_wrong v_wrongAt v_variable v_number v_numberKind v_takes a_out v_outed a_varSort a_varKind a_varValue a_creature v_creatures a_arrayClass a_arrayFrom a_arrayLong v_arrays v_cells a_cellSort a_cellKind a_cellValue a_asideSort a_asideKind a_asideValue a_outcome v_marks v_came v_guessed v_right v_taken a_markSort a_markKind a_markClass a_markValue v_sort v_kindAt v_value a_index v_reached v_looked) H → va_D A (mw cs q v_thrown a_tape v_taped v_size v_to_0 v_kind v_from v_letters v_letterMany v_digits v_isBeyond v_suffix v_steps v_fault v_hasProgram a_text a_act a_guess a_take a_begin a_finish a_to1 a_one a_two a_what a_ats a_atVar a_atNumber a_atomSort a_atomKind a_atomValue v_wrong v_wrongAt v_variable v_number v_numberKind v_takes a_out v_outed a_varSort a_varKind a_varValue a_creature v_creatures a_arrayClass a_arrayFrom a_arrayLong v_arrays v_cells a_cellSort a_cellKind a_cellValue a_asideSort a_asideKind a_asideValue a_outcome v_marks v_came v_guessed v_right v_taken a_markSort a_markKind a_markClass a_markValue v_sort v_kindAt v_value a_index v_reached v_looked) → va_S A s.heap H locs → lv_has ls 2 [(0, .ref (q 0))] → W p l e (headSpec (wG yX10_go cX10_go 2 none) rmX10_go).room s m ([.ref (q 0)] : List Value).toArray below meth c H locs 0 0 Q (F0 m 50 ls []) := by
        intro H locs ls hP hD hS hl
        refine lv_aload_n hx hb dX10_go_50 rfl (lv_at hl 0 rfl) ?_
        refine lv_aload_n hx hb dX10_go_51 rfl (lv_at hl 0 rfl) ?_
        refine va_get (D := D) (ci := 9) (v := .int v_to_0) (C := RX10) (T := TX10) (N := 71) hx hb hts hin hown hK hP 0 rfl rfl 4 (by decide) k_22_12 (fun _ h9 => h9) rfl dX10_go_52 ?_
        refine va_put (D := D) (ci := 9) (v := .int v_to_0) (ty := .int) (C := RX10) (T := TX10) (N := 71) hx hb hts hin tyX10 tyX10_ok nmX10 hown hK hP hD hS 0 rfl rfl 6 (by decide) k_23_0 (fun _ h9 => h9) rfl (by decide +kernel) rfl rfl (Nat.le_of_ble_eq_true rfl) dX10_go_55 (fun H locs hP hD hS => ?_)
        have hP : va_P D vwCl (mw cs q v_thrown a_tape v_taped v_size v_to_0 v_kind v_to_0 v_letters v_letterMany v_digits v_isBeyond v_suffix v_steps v_fault v_hasProgram a_text a_act a_guess a_take a_begin a_finish a_to1 a_one a_two a_what a_ats a_atVar a_atNumber a_atomSort a_atomKind a_atomValue v_wrong v_wrongAt v_variable v_number v_numberKind v_takes a_out v_outed a_varSort a_varKind a_varValue a_creature v_creatures a_arrayClass a_arrayFrom a_arrayLong v_arrays v_cells a_cellSort a_cellKind a_cellValue a_asideSort a_asideKind a_asideValue a_outcome v_marks v_came v_guessed v_right v_taken a_markSort a_markKind a_markClass a_markValue v_sort v_kindAt v_value a_index v_reached v_looked) H := hP
        have hD : va_D A (mw cs q v_thrown a_tape v_taped v_size v_to_0 v_kind v_to_0 v_letters v_letterMany v_digits v_isBeyond v_suffix v_steps v_fault v_hasProgram a_text a_act a_guess a_take a_begin a_finish a_to1 a_one a_two a_what a_ats a_atVar a_atNumber a_atomSort a_atomKind a_atomValue v_wrong v_wrongAt v_variable v_number v_numberKind v_takes a_out v_outed a_varSort a_varKind a_varValue a_creature v_creatures a_arrayClass a_arrayFrom a_arrayLong v_arrays v_cells a_cellSort a_cellKind a_cellValue a_asideSort a_asideKind a_asideValue a_outcome v_marks v_came v_guessed v_right v_taken a_markSort a_markKind a_markClass a_markValue v_sort v_kindAt v_value a_index v_reached v_looked) := hD
        refine lv_aload_n hx hb dX10_go_58 rfl (lv_at hl 0 rfl) ?_
        refine va_get (D := D) (ci := 9) (v := .int v_size) (C := RX10) (T := TX10) (N := 71) hx hb hts hin hown hK hP 0 rfl rfl 3 (by decide) k_22_11 (fun _ h9 => h9) rfl dX10_go_59 ?_
        refine lv_sipush (v := 3000) hx hb dX10_go_62 (by decide) ?_
        have J91 : ∀ (H : Heap) (locs : List Loc) (ls : Array Slot), va_P D vwCl (mw cs q v_thrown a_tape v_taped v_size v_to_0 v_kind v_to_0 v_letters v_letterMany v_digits v_isBeyond v_suffix v_steps v_fault v_hasProgram a_text a_act a_guess a_take a_begin a_finish a_to1 a_one a_two a_what a_ats a_atVar a_atNumber a_atomSort a_atomKind a_atomValue v_wrong v_wrongAt v_variable v_number v_numberKind v_takes a_out v_outed a_varSort a_varKind a_varValue a_creature v_creatures a_arrayClass a_arrayFrom a_arrayLong v_arrays v_cells a_cellSort a_cellKind a_cellValue a_asideSort a_asideKind a_asideValue a_outcome v_marks v_came v_guessed v_right v_taken a_markSort a_markKind a_markClass a_markValue v_sort v_kindAt v_value a_index v_reached v_looked) H → va_D A (mw cs q v_thrown a_tape v_taped v_size v_to_0 v_kind v_to_0 v_letters v_letterMany v_digits v_isBeyond v_suffix v_steps v_fault v_hasProgram a_text a_act a_guess a_take a_begin a_finish a_to1 a_one a_two a_what a_ats a_atVar a_atNumber a_atomSort a_atomKind a_atomValue v_wrong v_wrongAt v_variable v_number v_numberKind v_takes a_out v_outed a_varSort a_varKind a_varValue a_creature v_creatures a_arrayClass a_arrayFrom a_arrayLong v_arrays v_cells a_cellSort a_cellKind a_cellValue a_asideSort a_asideKind a_asideValue a_outcome v_marks v_came v_guessed v_right v_taken a_markSort a_markKind a_markClass a_markValue v_sort v_kindAt v_value a_index v_reached v_looked) → va_S A s.heap H locs → lv_has ls 2 [(0, .ref (q 0))] → W p l e (headSpec (wG yX10_go cX10_go 2 none) rmX10_go).room s m ([.ref (q 0)] : List Value).toArray below meth c H locs 0 0 Q (F0 m 91 ls []) := by
          intro H locs ls hP hD hS hl
          refine lv_aload_n hx hb dX10_go_91 rfl (lv_at hl 0 rfl) ?_
          refine va_get (D := D) (ci := 9) (v := .int v_to_0) (C := RX10) (T := TX10) (N := 71) hx hb hts hin hown hK hP 0 rfl rfl 4 (by decide) k_22_12 (fun _ h9 => h9) rfl dX10_go_92 ?_
          refine lv_aload_n hx hb dX10_go_95 rfl (lv_at hl 0 rfl) ?_
          refine va_get (D := D) (ci := 9) (v := .int v_size) (C := RX10) (T := TX10) (N := 71) hx hb hts hin hown hK hP 0 rfl rfl 3 (by decide) k_22_11 (fun _ h9 => h9) rfl dX10_go_96 ?_
          refine m_icmp_lt (X := v_to_0.toInt) (Y := v_size.toInt) (tgt := 108) hx hb dX10_go_99 (by decide) rfl rfl (fun c99 => ?_) (fun c99 => ?_)
          · skip
            refine lv_aload_n hx hb dX10_go_108 rfl (lv_at hl 0 rfl) ?_
            refine lv_aload_n hx hb dX10_go_109 rfl (lv_at hl 0 rfl) ?_
            refine va_get (D := D) (ci := 9) (v := .int v_to_0) (C := RX10) (T := TX10) (N := 71) hx hb hts hin hown hK hP 0 rfl rfl 4 (by decide) k_22_12 (fun _ h9 => h9) rfl dX10_go_110 ?_
            refine call_i (As := [.int v_to_0]) (rest := []) ⟨hx, hb, hml, hown, hts⟩ (tX10_at (l := l) v_to_0 (by first | assumption | omega | (intros; omega) | decide) (by first | assumption | omega | (intros; omega) | decide) (by first | assumption | omega | (intros; omega) | decide)) (cwV 1 hts (gV (wr23 _ (List.mem_of_getElem? (i := 2) rfl)) (wr23 _ (List.mem_of_getElem? (i := 3) rfl)) (wr23 _ (List.mem_of_getElem? (i := 4) rfl)) (wr1 _ (List.mem_of_getElem? (i := 5) rfl)) (wr23 _ (List.mem_of_getElem? (i := 5) rfl))) rfl rfl rfl (by decide +kernel) ⟨Nat.le_of_ble_eq_true rfl, Nat.le_of_ble_eq_true rfl⟩) (va_recv hK hP (ci := 9) (q0 := 0) rfl rfl) hK hP hD hE hS hA rfl hl.1 rfl (Nat.le_of_ble_eq_true rfl) dX10_go_113 ⟨Nat.le_of_ble_eq_true rfl, Nat.le_of_ble_eq_true rfl⟩ (fun r113 w9 H locs h113 hP hD hS => ?_)
            obtain ⟨rfl, h113_0⟩ := h113
            have b_r113 := iB r113
            refine lv_istore_n (lv' := [(1, .int r113), (0, .ref (q 0))]) hx hb dX10_go_116 rfl hl (by decide) rfl (fun ls hl => ?_)
            refine lv_iload_n hx hb dX10_go_117 rfl (lv_at hl 0 rfl) ?_
            refine call_iSP (As := [.int r113]) (rest := []) ⟨hx, hb, hml, hown, hts⟩ (tX10_isLetter (l := l) r113) (va_cwS 1 hts (gS (wr23 _ (List.mem_of_getElem? (i := 6) rfl)) (wr23 _ (List.mem_of_getElem? (i := 7) rfl)) (wr1 _ (List.mem_of_getElem? (i := 5) rfl)) (wr23 _ (List.mem_of_getElem? (i := 8) rfl))) rfl rfl rfl (by decide +kernel) ⟨Nat.le_of_ble_eq_true rfl, Nat.le_of_ble_eq_true rfl⟩) (hK.sub [] rfl) hP hD hE hS hA rfl hl.1 rfl (Nat.le_of_ble_eq_true rfl) dX10_go_118 ⟨Nat.le_of_ble_eq_true rfl, Nat.le_of_ble_eq_true rfl⟩ (fun r118 w9 H locs hw118 hP hD hS => ?_)
            obtain ⟨rfl, hw118_0⟩ := hw118
            have b_r118 := iB r118
            have J131 : ∀ (n131 : Nat) (v_to_131 : Int32) (H : Heap) (locs : List Loc) (ls : Array Slot), (v_to_0.toInt ≤ v_to_131.toInt) → (v_to_131.toInt ≤ v_size.toInt) → (ph a_tape v_to_131 ≤ ph a_tape v_to + 1) → (v_to_131.toInt = v_to_0.toInt → ph a_tape v_to_131 = ph a_tape v_to) → (v_to_0.toInt < v_to_131.toInt → (97 ≤ (a_tape (v_to_131.toNatClampNeg - 1)).toInt ∧ (a_tape (v_to_131.toNatClampNeg - 1)).toInt ≤ 122) ∨ (48 ≤ (a_tape (v_to_131.toNatClampNeg - 1)).toInt ∧ (a_tape (v_to_131.toNatClampNeg - 1)).toInt ≤ 57)) → ((97 ≤ (r113).toInt ∧ (r113).toInt ≤ 122) ∨ (48 ≤ (r113).toInt ∧ (r113).toInt ≤ 57)) → (v_size.toInt - v_to_131.toInt < (n131 : Int)) → va_P D vwCl (mw cs q v_thrown a_tape v_taped v_size v_to_131 v_kind v_to_0 v_letters v_letterMany v_digits v_isBeyond v_suffix v_steps v_fault v_hasProgram a_text a_act a_guess a_take a_begin a_finish a_to1 a_one a_two a_what a_ats a_atVar a_atNumber a_atomSort a_atomKind a_atomValue v_wrong v_wrongAt v_variable v_number v_numberKind v_takes a_out v_outed a_varSort a_varKind a_varValue a_creature v_creatures a_arrayClass a_arrayFrom a_arrayLong v_arrays v_cells a_cellSort a_cellKind a_cellValue a_asideSort a_asideKind a_asideValue a_outcome v_marks v_came v_guessed v_right v_taken a_markSort a_markKind a_markClass a_markValue v_sort v_kindAt v_value a_index v_reached v_looked) H → va_D A (mw cs q v_thrown a_tape v_taped v_size v_to_131 v_kind v_to_0 v_letters v_letterMany v_digits v_isBeyond v_suffix v_steps v_fault v_hasProgram a_text a_act a_guess a_take a_begin a_finish a_to1 a_one a_two a_what a_ats a_atVar a_atNumber a_atomSort a_atomKind a_atomValue v_wrong v_wrongAt v_variable v_number v_numberKind v_takes a_out v_outed a_varSort a_varKind a_varValue a_creature v_creatures a_arrayClass a_arrayFrom a_arrayLong v_arrays v_cells a_cellSort a_cellKind a_cellValue a_asideSort a_asideKind a_asideValue a_outcome v_marks v_came v_guessed v_right v_taken a_markSort a_markKind a_markClass a_markValue v_sort v_kindAt v_value a_index v_reached v_looked) → va_S A s.heap H locs → lv_has ls 2 [(0, .ref (q 0)), (1, .int r113)] → W p l e (headSpec (wG yX10_go cX10_go 2 none) rmX10_go).room s m ([.ref (q 0)] : List Value).toArray below meth c H locs 0 0 Q (F0 m 131 ls []) := by
              intro n131
              induction n131 with
              | zero =>
                intro v_to_131 H locs ls f131_0 f131_1 f131_2 f131_3 f131_4 f131_5 hm131
                exfalso
                omega
              | succ n131 ih131 =>
                intro v_to_131 H locs ls f131_0 f131_1 f131_2 f131_3 f131_4 f131_5 hm131 hP hD hS hl
                refine lv_aload_n hx hb dX10_go_131 rfl (lv_at hl 0 rfl) ?_
                refine lv_aload_n hx hb dX10_go_132 rfl (lv_at hl 0 rfl) ?_
                refine va_get (D := D) (ci := 9) (v := .int v_to_131) (C := RX10) (T := TX10) (N := 71) hx hb hts hin hown hK hP 0 rfl rfl 4 (by decide) k_22_12 (fun _ h9 => h9) rfl dX10_go_133 ?_
                refine call_i (As := [.int v_to_131]) (rest := []) ⟨hx, hb, hml, hown, hts⟩ (tX10_at (l := l) v_to_131 (by first | assumption | omega | (intros; omega) | decide) (by first | assumption | omega | (intros; omega) | decide) (by first | assumption | omega | (intros; omega) | decide)) (cwV 1 hts (gV (wr23 _ (List.mem_of_getElem? (i := 2) rfl)) (wr23 _ (List.mem_of_getElem? (i := 3) rfl)) (wr23 _ (List.mem_of_getElem? (i := 4) rfl)) (wr1 _ (List.mem_of_getElem? (i := 5) rfl)) (wr23 _ (List.mem_of_getElem? (i := 5) rfl))) rfl rfl rfl (by decide +kernel) ⟨Nat.le_of_ble_eq_true rfl, Nat.le_of_ble_eq_true rfl⟩) (va_recv hK hP (ci := 9) (q0 := 0) rfl rfl) hK hP hD hE hS hA rfl hl.1 rfl (Nat.le_of_ble_eq_true rfl) dX10_go_136 ⟨Nat.le_of_ble_eq_true rfl, Nat.le_of_ble_eq_true rfl⟩ (fun r136 w9 H locs h136 hP hD hS => ?_)
                obtain ⟨rfl, h136_0⟩ := h136
                have b_r136 := iB r136
                refine call_iSP (As := [.int r136]) (rest := []) ⟨hx, hb, hml, hown, hts⟩ (tX10_isLetter (l := l) r136) (va_cwS 1 hts (gS (wr23 _ (List.mem_of_getElem? (i := 6) rfl)) (wr23 _ (List.mem_of_getElem? (i := 7) rfl)) (wr1 _ (List.mem_of_getElem? (i := 5) rfl)) (wr23 _ (List.mem_of_getElem? (i := 8) rfl))) rfl rfl rfl (by decide +kernel) ⟨Nat.le_of_ble_eq_true rfl, Nat.le_of_ble_eq_true rfl⟩) (hK.sub [] rfl) hP hD hE hS hA rfl hl.1 rfl (Nat.le_of_ble_eq_true rfl) dX10_go_139 ⟨Nat.le_of_ble_eq_true rfl, Nat.le_of_ble_eq_true rfl⟩ (fun r139 w9 H locs hw139 hP hD hS => ?_)
                obtain ⟨rfl, hw139_0⟩ := hw139
                have b_r139 := iB r139
                have J159 : ∀ (H : Heap) (locs : List Loc) (ls : Array Slot), ((97 ≤ (a_tape v_to_131.toNatClampNeg).toInt ∧ (a_tape v_to_131.toNatClampNeg).toInt ≤ 122) ∨ (48 ≤ (a_tape v_to_131.toNatClampNeg).toInt ∧ (a_tape v_to_131.toNatClampNeg).toInt ≤ 57)) → (v_to_131.toInt < v_size.toInt) → va_P D vwCl (mw cs q v_thrown a_tape v_taped v_size v_to_131 v_kind v_to_0 v_letters v_letterMany v_digits v_isBeyond v_suffix v_steps v_fault v_hasProgram a_text a_act a_guess a_take a_begin a_finish a_to1 a_one a_two a_what a_ats a_atVar a_atNumber a_atomSort a_atomKind a_atomValue v_wrong v_wrongAt v_variable v_number v_numberKind v_takes a_out v_outed a_varSort a_varKind a_varValue a_creature v_creatures a_arrayClass a_arrayFrom a_arrayLong v_arrays v_cells a_cellSort a_cellKind a_cellValue a_asideSort a_asideKind a_asideValue a_outcome v_marks v_came v_guessed v_right v_taken a_markSort a_markKind a_markClass a_markValue v_sort v_kindAt v_value a_index v_reached v_looked) H → va_D A (mw cs q v_thrown a_tape v_taped v_size v_to_131 v_kind v_to_0 v_letters v_letterMany v_digits v_isBeyond v_suffix v_steps v_fault v_hasProgram a_text a_act a_guess a_take a_begin a_finish a_to1 a_one a_two a_what a_ats a_atVar a_atNumber a_atomSort a_atomKind a_atomValue v_wrong v_wrongAt v_variable v_number v_numberKind v_takes a_out v_outed a_varSort a_varKind a_varValue a_creature v_creatures a_arrayClass a_arrayFrom a_arrayLong v_arrays v_cells a_cellSort a_cellKind a_cellValue a_asideSort a_asideKind a_asideValue a_outcome v_marks v_came v_guessed v_right v_taken a_markSort a_markKind a_markClass a_markValue v_sort v_kindAt v_value a_index v_reached v_looked) → va_S A s.heap H locs → lv_has ls 2 [(0, .ref (q 0)), (1, .int r113)] → W p l e (headSpec (wG yX10_go cX10_go 2 none) rmX10_go).room s m ([.ref (q 0)] : List Value).toArray below meth c H locs 0 0 Q (F0 m 159 ls []) := by
                  intro H locs ls f159_0 f159_1 hP hD hS hl
                  have hc159 : v_to_0.toInt < v_to_131.toInt → ∀ z : Int32, z.toInt = v_to_131.toInt + 1 → ph a_tape z = ph a_tape v_to_131 := fun h0 z h => ph_al (by omega) h f159_0 (f131_4 h0)
                  have hd159 := fun (z : Int32) (h : z.toInt = v_to_131.toInt + 1) => (tn_succ (x := v_to_131) (z := z) (by omega) h)
                  have hC159 : ∀ z : Int32, z.toInt = v_to_131.toInt + 1 → ph a_tape z ≤ ph a_tape v_to + 1 := fun z h => by
                    rcases Int.lt_or_le v_to_0.toInt v_to_131.toInt with h0 | h0
                    · have h1 := hc159 h0 z h
                      omega
                    · have h1 := ph_1 (f := a_tape) (x := v_to_131) (z := z) (by omega) h
                      have h2 := f131_3 (by omega)
                      omega
                  refine lv_aload_n hx hb dX10_go_159 rfl (lv_at hl 0 rfl) ?_
                  refine lv_dup hx hb dX10_go_160 rfl ?_
                  refine va_get (D := D) (ci := 9) (v := .int v_to_131) (C := RX10) (T := TX10) (N := 71) hx hb hts hin hown hK hP 0 rfl rfl 4 (by decide) k_22_12 (fun _ h9 => h9) rfl dX10_go_161 ?_
                  refine lv_iconst (v := 1) hx hb dX10_go_164 (by decide) ?_
                  refine m_iadd (X := v_to_131.toInt) (Y := 1) hx hb dX10_go_165 rfl (by decide) (fun x165 e_x165 g9 => ?_)
                  obtain ⟨k_x165, g_x165⟩ := g9
                  have b_x165 := iB x165
                  try (have q_x165 : x165.toInt = v_to_131.toInt + 1 := (by omega); clear g_x165 k_x165)
                  refine va_put (D := D) (ci := 9) (v := .int x165) (ty := .int) (C := RX10) (T := TX10) (N := 71) hx hb hts hin tyX10 tyX10_ok nmX10 hown hK hP hD hS 0 rfl rfl 4 (by decide) k_22_12 (fun _ h9 => h9) rfl (by decide +kernel) rfl rfl (Nat.le_of_ble_eq_true rfl) dX10_go_166 (fun H locs hP hD hS => ?_)
                  have hP : va_P D vwCl (mw cs q v_thrown a_tape v_taped v_size x165 v_kind v_to_0 v_letters v_letterMany v_digits v_isBeyond v_suffix v_steps v_fault v_hasProgram a_text a_act a_guess a_take a_begin a_finish a_to1 a_one a_two a_what a_ats a_atVar a_atNumber a_atomSort a_atomKind a_atomValue v_wrong v_wrongAt v_variable v_number v_numberKind v_takes a_out v_outed a_varSort a_varKind a_varValue a_creature v_creatures a_arrayClass a_arrayFrom a_arrayLong v_arrays v_cells a_cellSort a_cellKind a_cellValue a_asideSort a_asideKind a_asideValue a_outcome v_marks v_came v_guessed v_right v_taken a_markSort a_markKind a_markClass a_markValue v_sort v_kindAt v_value a_index v_reached v_looked) H := hP
                  have hD : va_D A (mw cs q v_thrown a_tape v_taped v_size x165 v_kind v_to_0 v_letters v_letterMany v_digits v_isBeyond v_suffix v_steps v_fault v_hasProgram a_text a_act a_guess a_take a_begin a_finish a_to1 a_one a_two a_what a_ats a_atVar a_atNumber a_atomSort a_atomKind a_atomValue v_wrong v_wrongAt v_variable v_number v_numberKind v_takes a_out v_outed a_varSort a_varKind a_varValue a_creature v_creatures a_arrayClass a_arrayFrom a_arrayLong v_arrays v_cells a_cellSort a_cellKind a_cellValue a_asideSort a_asideKind a_asideValue a_outcome v_marks v_came v_guessed v_right v_taken a_markSort a_markKind a_markClass a_markValue v_sort v_kindAt v_value a_index v_reached v_looked) := hD
                  refine lv_goto (tgt := 131) hx hb dX10_go_169 (by decide) ?_
                  exact ih131 x165 H locs ls (by first | assumption | omega | (intros; omega) | decide) (by first | assumption | omega | (intros; omega) | decide) (by first | omega | exact hC159 _ (by omega)) (by first | assumption | omega | (intros; omega) | decide) (by first | (intro hq; exfalso; omega) | (intro _; rw [hd159 _ (by omega), Nat.add_sub_cancel]; exact f159_0)) (by first | assumption | omega | (intros; omega) | decide) (by omega) hP hD hS (lv_sub hl [0, 1] rfl)
                refine m_if_ne (X := r139.toInt) (tgt := 159) hx hb dX10_go_142 (by decide) rfl (fun c142 => ?_) (fun c142 => ?_)
                · skip
                  exact J159 H locs ls (by first | assumption | omega | (intros; omega) | decide) (by first | assumption | omega | (intros; omega) | decide) hP hD hS (lv_sub hl [0, 1] rfl)
                · skip
                  refine lv_aload_n hx hb dX10_go_145 rfl (lv_at hl 0 rfl) ?_
                  refine lv_aload_n hx hb dX10_go_146 rfl (lv_at hl 0 rfl) ?_
                  refine va_get (D := D) (ci := 9) (v := .int v_to_131) (C := RX10) (T := TX10) (N := 71) hx hb hts hin hown hK hP 0 rfl rfl 4 (by decide) k_22_12 (fun _ h9 => h9) rfl dX10_go_147 ?_
                  refine call_i (As := [.int v_to_131]) (rest := []) ⟨hx, hb, hml, hown, hts⟩ (tX10_at (l := l) v_to_131 (by first | assumption | omega | (intros; omega) | decide) (by first | assumption | omega | (intros; omega) | decide) (by first | assumption | omega | (intros; omega) | decide)) (cwV 1 hts (gV (wr23 _ (List.mem_of_getElem? (i := 2) rfl)) (wr23 _ (List.mem_of_getElem? (i := 3) rfl)) (wr23 _ (List.mem_of_getElem? (i := 4) rfl)) (wr1 _ (List.mem_of_getElem? (i := 5) rfl)) (wr23 _ (List.mem_of_getElem? (i := 5) rfl))) rfl rfl rfl (by decide +kernel) ⟨Nat.le_of_ble_eq_true rfl, Nat.le_of_ble_eq_true rfl⟩) (va_recv hK hP (ci := 9) (q0 := 0) rfl rfl) hK hP hD hE hS hA rfl hl.1 rfl (Nat.le_of_ble_eq_true rfl) dX10_go_150 ⟨Nat.le_of_ble_eq_true rfl, Nat.le_of_ble_eq_true rfl⟩ (fun r150 w9 H locs h150 hP hD hS => ?_)
                  obtain ⟨rfl, h150_0⟩ := h150
                  have b_r150 := iB r150
                  refine call_iSP (As := [.int r150]) (rest := []) ⟨hx, hb, hml, hown, hts⟩ (tX10_isDigit (l := l) r150) (va_cwS 1 hts (gS (wr23 _ (List.mem_of_getElem? (i := 9) rfl)) (wr23 _ (List.mem_of_getElem? (i := 10) rfl)) (wr1 _ (List.mem_of_getElem? (i := 5) rfl)) (wr23 _ (List.mem_of_getElem? (i := 11) rfl))) rfl rfl rfl (by decide +kernel) ⟨Nat.le_of_ble_eq_true rfl, Nat.le_of_ble_eq_true rfl⟩) (hK.sub [] rfl) hP hD hE hS hA rfl hl.1 rfl (Nat.le_of_ble_eq_true rfl) dX10_go_153 ⟨Nat.le_of_ble_eq_true rfl, Nat.le_of_ble_eq_true rfl⟩ (fun r153 w9 H locs hw153 hP hD hS => ?_)
                  obtain ⟨rfl, hw153_0⟩ := hw153
                  have b_r153 := iB r153
                  refine m_if_eq (X := r153.toInt) (tgt := 172) hx hb dX10_go_156 (by decide) rfl (fun c156 => ?_) (fun c156 => ?_)
                  · skip
                    have hft : v_to_0.toInt < v_to_131.toInt := by
                      rcases Int.lt_or_le v_to_0.toInt v_to_131.toInt with h9 | h9
                      · exact h9
                      · have e9 := tn_eq (x := v_to_0) (z := v_to_131) (by omega)
                        rw [e9] at h136_0 h150_0
                        exfalso
                        omega
                    refine lv_iload_n hx hb dX10_go_172 rfl (lv_at hl 1 rfl) ?_
                    refine call_iSP (As := [.int r113]) (rest := []) ⟨hx, hb, hml, hown, hts⟩ (tX10_isLetter (l := l) r113) (va_cwS 1 hts (gS (wr23 _ (List.mem_of_getElem? (i := 6) rfl)) (wr23 _ (List.mem_of_getElem? (i := 7) rfl)) (wr1 _ (List.mem_of_getElem? (i := 5) rfl)) (wr23 _ (List.mem_of_getElem? (i := 8) rfl))) rfl rfl rfl (by decide +kernel) ⟨Nat.le_of_ble_eq_true rfl, Nat.le_of_ble_eq_true rfl⟩) (hK.sub [] rfl) hP hD hE hS hA rfl hl.1 rfl (Nat.le_of_ble_eq_true rfl) dX10_go_173 ⟨Nat.le_of_ble_eq_true rfl, Nat.le_of_ble_eq_true rfl⟩ (fun r173 w9 H locs hw173 hP hD hS => ?_)
                    obtain ⟨rfl, hw173_0⟩ := hw173
                    have b_r173 := iB r173
                    refine m_if_eq (X := r173.toInt) (tgt := 186) hx hb dX10_go_176 (by decide) rfl (fun c176 => ?_) (fun c176 => ?_)
                    · skip
                      refine lv_aload_n hx hb dX10_go_186 rfl (lv_at hl 0 rfl) ?_
                      refine call_v (As := []) (rest := []) ⟨hx, hb, hml, hown, hts⟩ (tX10_readNumber (l := l)  (by first | assumption | omega | (intros; omega) | decide) (by first | assumption | omega | (intros; omega) | decide) (by first | assumption | omega | (intros; omega) | decide) (by first | assumption | omega | (intros; omega) | decide) (by first | assumption | omega | (intros; omega) | decide)) (cwV 0 hts (gV (wr23 _ (List.mem_of_getElem? (i := 19) rfl)) (wr23 _ (List.mem_of_getElem? (i := 20) rfl)) (wr23 _ (List.mem_of_getElem? (i := 21) rfl)) (wr1 _ (List.mem_of_getElem? (i := 5) rfl)) (wr23 _ (List.mem_of_getElem? (i := 22) rfl))) rfl rfl rfl (by decide +kernel) ⟨Nat.le_of_ble_eq_true rfl, Nat.le_of_ble_eq_true rfl⟩) (va_recv hK hP (ci := 9) (q0 := 0) rfl rfl) hK hP hD hE hS hA rfl hl.1 rfl (Nat.le_of_ble_eq_true rfl) dX10_go_187 ⟨Nat.le_of_ble_eq_true rfl, Nat.le_of_ble_eq_true rfl⟩ (fun w9 H locs hw187 hP hD hS => ?_)
                      obtain ⟨v_kind_187, v_digits_187, v_isBeyond_187, v_suffix_187, rfl, hw187_0, hw187_1⟩ := hw187
                      have b_v_kind_187 := iB v_kind_187
                      have b_v_digits_187 := jB v_digits_187
                      have b_v_isBeyond_187 := iB v_isBeyond_187
                      have b_v_suffix_187 := iB v_suffix_187
                      subst hAe
                      rw [hQ]
                      exact W.vret hx hb hr (fun t ht hW => ⟨⟨_, rfl, ⟨v_to_131, v_kind_187, v_to_0, v_letters, v_letterMany, v_digits_187, v_isBeyond_187, v_suffix_187, rfl, by first | assumption | omega | (intros; omega) | decide, by first | assumption | omega | (intros; omega) | decide, by first | assumption | omega | (intros; omega) | decide, by first | assumption | omega | (intros; omega) | decide, by first | assumption | omega | (intros; omega) | decide, by first | assumption | omega | (intros; omega) | decide, by first | assumption | omega | (intros; omega) | decide, by first | assumption | omega | (intros; omega) | decide, by first | assumption | omega | (intros; omega) | decide⟩, by rw [ht]; exact hP, va_K.moved hW.alike hK, hD⟩, hS.F ht⟩) hS.2.2 dX10_go_190
                    · skip
                      refine lv_aload_n hx hb dX10_go_179 rfl (lv_at hl 0 rfl) ?_
                      refine call_v (As := []) (rest := []) ⟨hx, hb, hml, hown, hts⟩ (tX10_readWord (l := l)  (by first | assumption | omega | (intros; omega) | decide) (by first | assumption | omega | (intros; omega) | decide) (by first | assumption | omega | (intros; omega) | decide) (by first | assumption | omega | (intros; omega) | decide) (by first | assumption | omega | (intros; omega) | decide)) (cwV 0 hts (gV (wr23 _ (List.mem_of_getElem? (i := 12) rfl)) (wr23 _ (List.mem_of_getElem? (i := 13) rfl)) (wr23 _ (List.mem_of_getElem? (i := 14) rfl)) (wr1 _ (List.mem_of_getElem? (i := 5) rfl)) (wr23 _ (List.mem_of_getElem? (i := 15) rfl))) rfl rfl rfl (by decide +kernel) ⟨Nat.le_of_ble_eq_true rfl, Nat.le_of_ble_eq_true rfl⟩) (va_recv hK hP (ci := 9) (q0 := 0) rfl rfl) hK hP hD hE hS hA rfl hl.1 rfl (Nat.le_of_ble_eq_true rfl) dX10_go_180 ⟨Nat.le_of_ble_eq_true rfl, Nat.le_of_ble_eq_true rfl⟩ (fun w9 H locs hw180 hP hD hS => ?_)
                      obtain ⟨v_kind_180, v_letters_180, v_letterMany_180, rfl, hw180_0, hw180_1⟩ := hw180
                      have b_v_kind_180 := iB v_kind_180
                      have b_v_letters_180 := jB v_letters_180
                      have b_v_letterMany_180 := iB v_letterMany_180
                      refine lv_goto (tgt := 190) hx hb dX10_go_183 (by decide) ?_
                      subst hAe
                      rw [hQ]
                      exact W.vret hx hb hr (fun t ht hW => ⟨⟨_, rfl, ⟨v_to_131, v_kind_180, v_to_0, v_letters_180, v_letterMany_180, v_digits, v_isBeyond, v_suffix, rfl, by first | assumption | omega | (intros; omega) | decide, by first | assumption | omega | (intros; omega) | decide, by first | assumption | omega | (intros; omega) | decide, by first | assumption | omega | (intros; omega) | decide, by first | assumption | omega | (intros; omega) | decide, by first | assumption | omega | (intros; omega) | decide, by first | assumption | omega | (intros; omega) | decide, by first | assumption | omega | (intros; omega) | decide, by first | assumption | omega | (intros; omega) | decide⟩, by rw [ht]; exact hP, va_K.moved hW.alike hK, hD⟩, hS.F ht⟩) hS.2.2 dX10_go_190
                  · skip
                    exact J159 H locs ls (by first | assumption | omega | (intros; omega) | decide) (by first | assumption | omega | (intros; omega) | decide) hP hD hS (lv_sub hl [0, 1] rfl)
            refine m_if_ne (X := r118.toInt) (tgt := 131) hx hb dX10_go_121 (by decide) rfl (fun c121 => ?_) (fun c121 => ?_)
            · skip
              exact J131 ((v_size.toInt - v_to_0.toInt).toNat + 1) v_to_0 H locs ls (by first | assumption | omega | (intros; omega) | decide) (by first | assumption | omega | (intros; omega) | decide) (by first | omega | exact hC159 _ (by omega)) (by first | assumption | omega | (intros; omega) | decide) (by first | (intro hq; exfalso; omega) | (intro _; rw [hd159 _ (by omega), Nat.add_sub_cancel]; exact f159_0)) (by first | assumption | omega | (intros; omega) | decide) (by omega) hP hD hS (lv_sub hl [1, 0] rfl)
            · skip
              refine lv_iload_n hx hb dX10_go_124 rfl (lv_at hl 0 rfl) ?_
              refine call_iSP (As := [.int r113]) (rest := []) ⟨hx, hb, hml, hown, hts⟩ (tX10_isDigit (l := l) r113) (va_cwS 1 hts (gS (wr23 _ (List.mem_of_getElem? (i := 9) rfl)) (wr23 _ (List.mem_of_getElem? (i := 10) rfl)) (wr1 _ (List.mem_of_getElem? (i := 5) rfl)) (wr23 _ (List.mem_of_getElem? (i := 11) rfl))) rfl rfl rfl (by decide +kernel) ⟨Nat.le_of_ble_eq_true rfl, Nat.le_of_ble_eq_true rfl⟩) (hK.sub [] rfl) hP hD hE hS hA rfl hl.1 rfl (Nat.le_of_ble_eq_true rfl) dX10_go_125 ⟨Nat.le_of_ble_eq_true rfl, Nat.le_of_ble_eq_true rfl⟩ (fun r125 w9 H locs hw125 hP hD hS => ?_)
              obtain ⟨rfl, hw125_0⟩ := hw125
              have b_r125 := iB r125
              refine m_if_eq (X := r125.toInt) (tgt := 191) hx hb dX10_go_128 (by decide) rfl (fun c128 => ?_) (fun c128 => ?_)
              · skip
                refine lv_aload_n hx hb dX10_go_191 rfl (lv_at hl 1 rfl) ?_
                refine lv_iload_n hx hb dX10_go_192 rfl (lv_at hl 0 rfl) ?_
                refine lv_bipush (v := 91) hx hb dX10_go_193 (by decide) ?_
                have J227 : ∀ (s1_227 : Int32) (H : Heap) (locs : List Loc) (ls : Array Slot), (s1_227.toInt = 1 ∨ s1_227.toInt = 4) → va_P D vwCl (mw cs q v_thrown a_tape v_taped v_size v_to_0 v_kind v_to_0 v_letters v_letterMany v_digits v_isBeyond v_suffix v_steps v_fault v_hasProgram a_text a_act a_guess a_take a_begin a_finish a_to1 a_one a_two a_what a_ats a_atVar a_atNumber a_atomSort a_atomKind a_atomValue v_wrong v_wrongAt v_variable v_number v_numberKind v_takes a_out v_outed a_varSort a_varKind a_varValue a_creature v_creatures a_arrayClass a_arrayFrom a_arrayLong v_arrays v_cells a_cellSort a_cellKind a_cellValue a_asideSort a_asideKind a_asideValue a_outcome v_marks v_came v_guessed v_right v_taken a_markSort a_markKind a_markClass a_markValue v_sort v_kindAt v_value a_index v_reached v_looked) H → va_D A (mw cs q v_thrown a_tape v_taped v_size v_to_0 v_kind v_to_0 v_letters v_letterMany v_digits v_isBeyond v_suffix v_steps v_fault v_hasProgram a_text a_act a_guess a_take a_begin a_finish a_to1 a_one a_two a_what a_ats a_atVar a_atNumber a_atomSort a_atomKind a_atomValue v_wrong v_wrongAt v_variable v_number v_numberKind v_takes a_out v_outed a_varSort a_varKind a_varValue a_creature v_creatures a_arrayClass a_arrayFrom a_arrayLong v_arrays v_cells a_cellSort a_cellKind a_cellValue a_asideSort a_asideKind a_asideValue a_outcome v_marks v_came v_guessed v_right v_taken a_markSort a_markKind a_markClass a_markValue v_sort v_kindAt v_value a_index v_reached v_looked) → va_S A s.heap H locs → lv_has ls 2 [(0, .ref (q 0)), (1, .int r113)] → W p l e (headSpec (wG yX10_go cX10_go 2 none) rmX10_go).room s m ([.ref (q 0)] : List Value).toArray below meth c H locs 0 0 Q (F0 m 227 ls [.int s1_227, .ref (q 0)]) := by
                  intro s1_227 H locs ls f227_0 hP hD hS hl
                  refine va_put (D := D) (ci := 9) (v := .int s1_227) (ty := .int) (C := RX10) (T := TX10) (N := 71) hx hb hts hin tyX10 tyX10_ok nmX10 hown hK hP hD hS 0 rfl rfl 5 (by decide) k_22_15 (fun _ h9 => h9) rfl (by decide +kernel) rfl rfl (Nat.le_of_ble_eq_true rfl) dX10_go_227 (fun H locs hP hD hS => ?_)
                  have hP : va_P D vwCl (mw cs q v_thrown a_tape v_taped v_size v_to_0 s1_227 v_to_0 v_letters v_letterMany v_digits v_isBeyond v_suffix v_steps v_fault v_hasProgram a_text a_act a_guess a_take a_begin a_finish a_to1 a_one a_two a_what a_ats a_atVar a_atNumber a_atomSort a_atomKind a_atomValue v_wrong v_wrongAt v_variable v_number v_numberKind v_takes a_out v_outed a_varSort a_varKind a_varValue a_creature v_creatures a_arrayClass a_arrayFrom a_arrayLong v_arrays v_cells a_cellSort a_cellKind a_cellValue a_asideSort a_asideKind a_asideValue a_outcome v_marks v_came v_guessed v_right v_taken a_markSort a_markKind a_markClass a_markValue v_sort v_kindAt v_value a_index v_reached v_looked) H := hP
                  have hD : va_D A (mw cs q v_thrown a_tape v_taped v_size v_to_0 s1_227 v_to_0 v_letters v_letterMany v_digits v_isBeyond v_suffix v_steps v_fault v_hasProgram a_text a_act a_guess a_take a_begin a_finish a_to1 a_one a_two a_what a_ats a_atVar a_atNumber a_atomSort a_atomKind a_atomValue v_wrong v_wrongAt v_variable v_number v_numberKind v_takes a_out v_outed a_varSort a_varKind a_varValue a_creature v_creatures a_arrayClass a_arrayFrom a_arrayLong v_arrays v_cells a_cellSort a_cellKind a_cellValue a_asideSort a_asideKind a_asideValue a_outcome v_marks v_came v_guessed v_right v_taken a_markSort a_markKind a_markClass a_markValue v_sort v_kindAt v_value a_index v_reached v_looked) := hD
                  refine lv_aload_n hx hb dX10_go_230 rfl (lv_at hl 0 rfl) ?_
                  refine lv_iload_n hx hb dX10_go_231 rfl (lv_at hl 1 rfl) ?_
                  refine m_i2l (X := r113.toInt) hx hb dX10_go_232 rfl (fun x232 e_x232 g_x232 => ?_)
                  refine va_put (D := D) (ci := 9) (v := .long x232) (ty := .long) (C := RX10) (T := TX10) (N := 71) hx hb hts hin tyX10 tyX10_ok nmX10 hown hK hP hD hS 0 rfl rfl 7 (by decide) k_23_1 (fun _ h9 => h9) rfl (by decide +kernel) rfl rfl (Nat.le_of_ble_eq_true rfl) dX10_go_233 (fun H locs hP hD hS => ?_)
                  have hP : va_P D vwCl (mw cs q v_thrown a_tape v_taped v_size v_to_0 s1_227 v_to_0 x232 v_letterMany v_digits v_isBeyond v_suffix v_steps v_fault v_hasProgram a_text a_act a_guess a_take a_begin a_finish a_to1 a_one a_two a_what a_ats a_atVar a_atNumber a_atomSort a_atomKind a_atomValue v_wrong v_wrongAt v_variable v_number v_numberKind v_takes a_out v_outed a_varSort a_varKind a_varValue a_creature v_creatures a_arrayClass a_arrayFrom a_arrayLong v_arrays v_cells a_cellSort a_cellKind a_cellValue a_asideSort a_asideKind a_asideValue a_outcome v_marks v_came v_guessed v_right v_taken a_markSort a_markKind a_markClass a_markValue v_sort v_kindAt v_value a_index v_reached v_looked) H := hP
                  have hD : va_D A (mw cs q v_thrown a_tape v_taped v_size v_to_0 s1_227 v_to_0 x232 v_letterMany v_digits v_isBeyond v_suffix v_steps v_fault v_hasProgram a_text a_act a_guess a_take a_begin a_finish a_to1 a_one a_two a_what a_ats a_atVar a_atNumber a_atomSort a_atomKind a_atomValue v_wrong v_wrongAt v_variable v_number v_numberKind v_takes a_out v_outed a_varSort a_varKind a_varValue a_creature v_creatures a_arrayClass a_arrayFrom a_arrayLong v_arrays v_cells a_cellSort a_cellKind a_cellValue a_asideSort a_asideKind a_asideValue a_outcome v_marks v_came v_guessed v_right v_taken a_markSort a_markKind a_markClass a_markValue v_sort v_kindAt v_value a_index v_reached v_looked) := hD
                  refine lv_aload_n hx hb dX10_go_236 rfl (lv_at hl 0 rfl) ?_
                  refine lv_dup hx hb dX10_go_237 rfl ?_
                  refine va_get (D := D) (ci := 9) (v := .int v_to_0) (C := RX10) (T := TX10) (N := 71) hx hb hts hin hown hK hP 0 rfl rfl 4 (by decide) k_22_12 (fun _ h9 => h9) rfl dX10_go_238 ?_
                  refine lv_iconst (v := 1) hx hb dX10_go_241 (by decide) ?_
                  refine m_iadd (X := v_to_0.toInt) (Y := 1) hx hb dX10_go_242 rfl (by decide) (fun x242 e_x242 g9 => ?_)
                  obtain ⟨k_x242, g_x242⟩ := g9
                  have b_x242 := iB x242
                  try (have q_x242 : x242.toInt = v_to_0.toInt + 1 := (by omega); clear g_x242 k_x242)
                  refine va_put (D := D) (ci := 9) (v := .int x242) (ty := .int) (C := RX10) (T := TX10) (N := 71) hx hb hts hin tyX10 tyX10_ok nmX10 hown hK hP hD hS 0 rfl rfl 4 (by decide) k_22_12 (fun _ h9 => h9) rfl (by decide +kernel) rfl rfl (Nat.le_of_ble_eq_true rfl) dX10_go_243 (fun H locs hP hD hS => ?_)
                  have hP : va_P D vwCl (mw cs q v_thrown a_tape v_taped v_size x242 s1_227 v_to_0 x232 v_letterMany v_digits v_isBeyond v_suffix v_steps v_fault v_hasProgram a_text a_act a_guess a_take a_begin a_finish a_to1 a_one a_two a_what a_ats a_atVar a_atNumber a_atomSort a_atomKind a_atomValue v_wrong v_wrongAt v_variable v_number v_numberKind v_takes a_out v_outed a_varSort a_varKind a_varValue a_creature v_creatures a_arrayClass a_arrayFrom a_arrayLong v_arrays v_cells a_cellSort a_cellKind a_cellValue a_asideSort a_asideKind a_asideValue a_outcome v_marks v_came v_guessed v_right v_taken a_markSort a_markKind a_markClass a_markValue v_sort v_kindAt v_value a_index v_reached v_looked) H := hP
                  have hD : va_D A (mw cs q v_thrown a_tape v_taped v_size x242 s1_227 v_to_0 x232 v_letterMany v_digits v_isBeyond v_suffix v_steps v_fault v_hasProgram a_text a_act a_guess a_take a_begin a_finish a_to1 a_one a_two a_what a_ats a_atVar a_atNumber a_atomSort a_atomKind a_atomValue v_wrong v_wrongAt v_variable v_number v_numberKind v_takes a_out v_outed a_varSort a_varKind a_varValue a_creature v_creatures a_arrayClass a_arrayFrom a_arrayLong v_arrays v_cells a_cellSort a_cellKind a_cellValue a_asideSort a_asideKind a_asideValue a_outcome v_marks v_came v_guessed v_right v_taken a_markSort a_markKind a_markClass a_markValue v_sort v_kindAt v_value a_index v_reached v_looked) := hD
                  subst hAe
                  rw [hQ]
                  exact W.vret hx hb hr (fun t ht hW => ⟨⟨_, rfl, ⟨x242, s1_227, v_to_0, x232, v_letterMany, v_digits, v_isBeyond, v_suffix, rfl, by first | assumption | omega | (intros; omega) | decide, by first | assumption | omega | (intros; omega) | decide, by first | assumption | omega | (intros; omega) | decide, by first | assumption | omega | (intros; omega) | decide, by (have h9 := ph_1 (f := a_tape) (x := v_to_0) (z := x242) (by omega) (by omega); omega), by first | assumption | omega | (intros; omega) | decide, by (intro _; refine ⟨by omega, ?_⟩; rw [tn_succ (x := v_to_0) (z := x242) (by omega) (by omega), Nat.add_sub_cancel]; omega), by first | assumption | omega | (intros; omega) | decide, by (have h9 := ph_1 (f := a_tape) (x := v_to_0) (z := x242) (by omega) (by omega); omega)⟩, by rw [ht]; exact hP, va_K.moved hW.alike hK, hD⟩, hS.F ht⟩) hS.2.2 dX10_go_246
                have J222 : ∀ (H : Heap) (locs : List Loc) (ls : Array Slot), va_P D vwCl (mw cs q v_thrown a_tape v_taped v_size v_to_0 v_kind v_to_0 v_letters v_letterMany v_digits v_isBeyond v_suffix v_steps v_fault v_hasProgram a_text a_act a_guess a_take a_begin a_finish a_to1 a_one a_two a_what a_ats a_atVar a_atNumber a_atomSort a_atomKind a_atomValue v_wrong v_wrongAt v_variable v_number v_numberKind v_takes a_out v_outed a_varSort a_varKind a_varValue a_creature v_creatures a_arrayClass a_arrayFrom a_arrayLong v_arrays v_cells a_cellSort a_cellKind a_cellValue a_asideSort a_asideKind a_asideValue a_outcome v_marks v_came v_guessed v_right v_taken a_markSort a_markKind a_markClass a_markValue v_sort v_kindAt v_value a_index v_reached v_looked) H → va_D A (mw cs q v_thrown a_tape v_taped v_size v_to_0 v_kind v_to_0 v_letters v_letterMany v_digits v_isBeyond v_suffix v_steps v_fault v_hasProgram a_text a_act a_guess a_take a_begin a_finish a_to1 a_one a_two a_what a_ats a_atVar a_atNumber a_atomSort a_atomKind a_atomValue v_wrong v_wrongAt v_variable v_number v_numberKind v_takes a_out v_outed a_varSort a_varKind a_varValue a_creature v_creatures a_arrayClass a_arrayFrom a_arrayLong v_arrays v_cells a_cellSort a_cellKind a_cellValue a_asideSort a_asideKind a_asideValue a_outcome v_marks v_came v_guessed v_right v_taken a_markSort a_markKind a_markClass a_markValue v_sort v_kindAt v_value a_index v_reached v_looked) → va_S A s.heap H locs → lv_has ls 2 [(0, .ref (q 0)), (1, .int r113)] → W p l e (headSpec (wG yX10_go cX10_go 2 none) rmX10_go).room s m ([.ref (q 0)] : List Value).toArray below meth c H locs 0 0 Q (F0 m 222 ls [.ref (q 0)]) := by
                  intro H locs ls hP hD hS hl
                  refine lv_iconst (v := 4) hx hb dX10_go_222 (by decide) ?_
                  refine lv_goto (tgt := 227) hx hb dX10_go_223 (by decide) ?_
                  exact J227 (4 : Int32) H locs ls (by first | decide | omega) hP hD hS (lv_sub hl [0, 1] rfl)
                refine m_icmp_eq (X := r113.toInt) (Y := 91) (tgt := 222) hx hb dX10_go_195 (by decide) rfl (by decide) (fun c195 => ?_) (fun c195 => ?_)
                · skip
                  exact J222 H locs ls hP hD hS (lv_sub hl [1, 0] rfl)
                · skip
                  refine lv_iload_n hx hb dX10_go_198 rfl (lv_at hl 0 rfl) ?_
                  refine lv_bipush (v := 93) hx hb dX10_go_199 (by decide) ?_
                  refine m_icmp_eq (X := r113.toInt) (Y := 93) (tgt := 222) hx hb dX10_go_201 (by decide) rfl (by decide) (fun c201 => ?_) (fun c201 => ?_)
                  · skip
                    exact J222 H locs ls hP hD hS (lv_sub hl [1, 0] rfl)
                  · skip
                    refine lv_iload_n hx hb dX10_go_204 rfl (lv_at hl 0 rfl) ?_
                    refine lv_bipush (v := 61) hx hb dX10_go_205 (by decide) ?_
                    refine m_icmp_eq (X := r113.toInt) (Y := 61) (tgt := 222) hx hb dX10_go_207 (by decide) rfl (by decide) (fun c207 => ?_) (fun c207 => ?_)
                    · skip
                      exact J222 H locs ls hP hD hS (lv_sub hl [1, 0] rfl)
                    · skip
                      refine lv_iload_n hx hb dX10_go_210 rfl (lv_at hl 0 rfl) ?_
                      refine lv_bipush (v := 59) hx hb dX10_go_211 (by decide) ?_
                      refine m_icmp_eq (X := r113.toInt) (Y := 59) (tgt := 222) hx hb dX10_go_213 (by decide) rfl (by decide) (fun c213 => ?_) (fun c213 => ?_)
                      · skip
                        exact J222 H locs ls hP hD hS (lv_sub hl [1, 0] rfl)
                      · skip
                        refine lv_iload_n hx hb dX10_go_216 rfl (lv_at hl 0 rfl) ?_
                        refine lv_bipush (v := 45) hx hb dX10_go_217 (by decide) ?_
                        refine m_icmp_ne (X := r113.toInt) (Y := 45) (tgt := 226) hx hb dX10_go_219 (by decide) rfl (by decide) (fun c219 => ?_) (fun c219 => ?_)
                        · skip
                          refine lv_iconst (v := 1) hx hb dX10_go_226 (by decide) ?_
                          exact J227 (1 : Int32) H locs ls (by first | decide | omega) hP hD hS (lv_sub hl [1, 0] rfl)
                        · skip
                          exact J222 H locs ls hP hD hS (lv_sub hl [1, 0] rfl)
              · skip
                exact J131 ((v_size.toInt - v_to_0.toInt).toNat + 1) v_to_0 H locs ls (by first | assumption | omega | (intros; omega) | decide) (by first | assumption | omega | (intros; omega) | decide) (by first | omega | exact hC159 _ (by omega)) (by first | assumption | omega | (intros; omega) | decide) (by first | (intro hq; exfalso; omega) | (intro _; rw [hd159 _ (by omega), Nat.add_sub_cancel]; exact f159_0)) (by first | assumption | omega | (intros; omega) | decide) (by omega) hP hD hS (lv_sub hl [1, 0] rfl)
          · skip
            refine lv_aload_n hx hb dX10_go_102 rfl (lv_at hl 0 rfl) ?_
            refine lv_iconst (v := 0) hx hb dX10_go_103 (by decide) ?_
            refine va_put (D := D) (ci := 9) (v := .int 0) (ty := .int) (C := RX10) (T := TX10) (N := 71) hx hb hts hin tyX10 tyX10_ok nmX10 hown hK hP hD hS 0 rfl rfl 5 (by decide) k_22_15 (fun _ h9 => h9) rfl (by decide +kernel) rfl rfl (Nat.le_of_ble_eq_true rfl) dX10_go_104 (fun H locs hP hD hS => ?_)
            have hP : va_P D vwCl (mw cs q v_thrown a_tape v_taped v_size v_to_0 (0 : Int32) v_to_0 v_letters v_letterMany v_digits v_isBeyond v_suffix v_steps v_fault v_hasProgram a_text a_act a_guess a_take a_begin a_finish a_to1 a_one a_two a_what a_ats a_atVar a_atNumber a_atomSort a_atomKind a_atomValue v_wrong v_wrongAt v_variable v_number v_numberKind v_takes a_out v_outed a_varSort a_varKind a_varValue a_creature v_creatures a_arrayClass a_arrayFrom a_arrayLong v_arrays v_cells a_cellSort a_cellKind a_cellValue a_asideSort a_asideKind a_asideValue a_outcome v_marks v_came v_guessed v_right v_taken a_markSort a_markKind a_markClass a_markValue v_sort v_kindAt v_value a_index v_reached v_looked) H := hP
            have hD : va_D A (mw cs q v_thrown a_tape v_taped v_size v_to_0 (0 : Int32) v_to_0 v_letters v_letterMany v_digits v_isBeyond v_suffix v_steps v_fault v_hasProgram a_text a_act a_guess a_take a_begin a_finish a_to1 a_one a_two a_what a_ats a_atVar a_atNumber a_atomSort a_atomKind a_atomValue v_wrong v_wrongAt v_variable v_number v_numberKind v_takes a_out v_outed a_varSort a_varKind a_varValue a_creature v_creatures a_arrayClass a_arrayFrom a_arrayLong v_arrays v_cells a_cellSort a_cellKind a_cellValue a_asideSort a_asideKind a_asideValue a_outcome v_marks v_came v_guessed v_right v_taken a_markSort a_markKind a_markClass a_markValue v_sort v_kindAt v_value a_index v_reached v_looked) := hD
            subst hAe
            rw [hQ]
            exact W.vret hx hb hr (fun t ht hW => ⟨⟨_, rfl, ⟨v_to_0, (0 : Int32), v_to_0, v_letters, v_letterMany, v_digits, v_isBeyond, v_suffix, rfl, by first | assumption | omega | (intros; omega) | decide, by first | assumption | omega | (intros; omega) | decide, by first | assumption | omega | (intros; omega) | decide, by first | assumption | omega | (intros; omega) | decide, by first | assumption | omega | (intros; omega) | decide, by first | assumption | omega | (intros; omega) | decide, by first | assumption | omega | (intros; omega) | decide, by first | assumption | omega | (intros; omega) | decide, by first | assumption | omega | (intros; omega) | decide⟩, by rw [ht]; exact hP, va_K.moved hW.alike hK, hD⟩, hS.F ht⟩) hS.2.2 dX10_go_107
        refine m_icmp_le (X := v_size.toInt) (Y := 3000) (tgt := 91) hx hb dX10_go_65 (by decide) rfl (by decide) (fun c65 => ?_) (fun c65 => ?_)
        · skip
          exact J91 H locs ls hP hD hS (lv_sub hl [0] rfl)
        · skip
          refine lv_aload_n hx hb dX10_go_68 rfl (lv_at hl 0 rfl) ?_
          refine va_get (D := D) (ci := 9) (v := .int v_to_0) (C := RX10) (T := TX10) (N := 71) hx hb hts hin hown hK hP 0 rfl rfl 4 (by decide) k_22_12 (fun _ h9 => h9) rfl dX10_go_69 ?_
          refine lv_sipush (v := 3000) hx hb dX10_go_72 (by decide) ?_
          refine m_icmp_lt (X := v_to_0.toInt) (Y := 3000) (tgt := 91) hx hb dX10_go_75 (by decide) rfl (by decide) (fun c75 => ?_) (fun c75 => ?_)
          · skip
            exact J91 H locs ls hP hD hS (lv_sub hl [0] rfl)
          · skip
            refine lv_aload_n hx hb dX10_go_78 rfl (lv_at hl 0 rfl) ?_
            refine lv_sipush (v := 3000) hx hb dX10_go_79 (by decide) ?_
            refine va_put (D := D) (ci := 9) (v := .int 3000) (ty := .int) (C := RX10) (T := TX10) (N := 71) hx hb hts hin tyX10 tyX10_ok nmX10 hown hK hP hD hS 0 rfl rfl 6 (by decide) k_23_0 (fun _ h9 => h9) rfl (by decide +kernel) rfl rfl (Nat.le_of_ble_eq_true rfl) dX10_go_82 (fun H locs hP hD hS => ?_)
            have hP : va_P D vwCl (mw cs q v_thrown a_tape v_taped v_size v_to_0 v_kind (3000 : Int32) v_letters v_letterMany v_digits v_isBeyond v_suffix v_steps v_fault v_hasProgram a_text a_act a_guess a_take a_begin a_finish a_to1 a_one a_two a_what a_ats a_atVar a_atNumber a_atomSort a_atomKind a_atomValue v_wrong v_wrongAt v_variable v_number v_numberKind v_takes a_out v_outed a_varSort a_varKind a_varValue a_creature v_creatures a_arrayClass a_arrayFrom a_arrayLong v_arrays v_cells a_cellSort a_cellKind a_cellValue a_asideSort a_asideKind a_asideValue a_outcome v_marks v_came v_guessed v_right v_taken a_markSort a_markKind a_markClass a_markValue v_sort v_kindAt v_value a_index v_reached v_looked) H := hP
            have hD : va_D A (mw cs q v_thrown a_tape v_taped v_size v_to_0 v_kind (3000 : Int32) v_letters v_letterMany v_digits v_isBeyond v_suffix v_steps v_fault v_hasProgram a_text a_act a_guess a_take a_begin a_finish a_to1 a_one a_two a_what a_ats a_atVar a_atNumber a_atomSort a_atomKind a_atomValue v_wrong v_wrongAt v_variable v_number v_numberKind v_takes a_out v_outed a_varSort a_varKind a_varValue a_creature v_creatures a_arrayClass a_arrayFrom a_arrayLong v_arrays v_cells a_cellSort a_cellKind a_cellValue a_asideSort a_asideKind a_asideValue a_outcome v_marks v_came v_guessed v_right v_taken a_markSort a_markKind a_markClass a_markValue v_sort v_kindAt v_value a_index v_reached v_looked) := hD
            refine lv_aload_n hx hb dX10_go_85 rfl (lv_at hl 0 rfl) ?_
            refine lv_iconst (v := 1) hx hb dX10_go_86 (by decide) ?_
            refine va_put (D := D) (ci := 9) (v := .int 1) (ty := .int) (C := RX10) (T := TX10) (N := 71) hx hb hts hin tyX10 tyX10_ok nmX10 hown hK hP hD hS 0 rfl rfl 5 (by decide) k_22_15 (fun _ h9 => h9) rfl (by decide +kernel) rfl rfl (Nat.le_of_ble_eq_true rfl) dX10_go_87 (fun H locs hP hD hS => ?_)
            have hP : va_P D vwCl (mw cs q v_thrown a_tape v_taped v_size v_to_0 (1 : Int32) (3000 : Int32) v_letters v_letterMany v_digits v_isBeyond v_suffix v_steps v_fault v_hasProgram a_text a_act a_guess a_take a_begin a_finish a_to1 a_one a_two a_what a_ats a_atVar a_atNumber a_atomSort a_atomKind a_atomValue v_wrong v_wrongAt v_variable v_number v_numberKind v_takes a_out v_outed a_varSort a_varKind a_varValue a_creature v_creatures a_arrayClass a_arrayFrom a_arrayLong v_arrays v_cells a_cellSort a_cellKind a_cellValue a_asideSort a_asideKind a_asideValue a_outcome v_marks v_came v_guessed v_right v_taken a_markSort a_markKind a_markClass a_markValue v_sort v_kindAt v_value a_index v_reached v_looked) H := hP
            have hD : va_D A (mw cs q v_thrown a_tape v_taped v_size v_to_0 (1 : Int32) (3000 : Int32) v_letters v_letterMany v_digits v_isBeyond v_suffix v_steps v_fault v_hasProgram a_text a_act a_guess a_take a_begin a_finish a_to1 a_one a_two a_what a_ats a_atVar a_atNumber a_atomSort a_atomKind a_atomValue v_wrong v_wrongAt v_variable v_number v_numberKind v_takes a_out v_outed a_varSort a_varKind a_varValue a_creature v_creatures a_arrayClass a_arrayFrom a_arrayLong v_arrays v_cells a_cellSort a_cellKind a_cellValue a_asideSort a_asideKind a_asideValue a_outcome v_marks v_came v_guessed v_right v_taken a_markSort a_markKind a_markClass a_markValue v_sort v_kindAt v_value a_index v_reached v_looked) := hD
            subst hAe
            rw [hQ]
            exact W.vret hx hb hr (fun t ht hW => ⟨⟨_, rfl, ⟨v_to_0, (1 : Int32), (3000 : Int32), v_letters, v_letterMany, v_digits, v_isBeyond, v_suffix, rfl, by first | assumption | omega | (intros; omega) | decide, by first | assumption | omega | (intros; omega) | decide, by first | assumption | omega | (intros; omega) | decide, by first | assumption | omega | (intros; omega) | decide, by first | assumption | omega | (intros; omega) | decide, by first | assumption | omega | (intros; omega) | decide, by first | assumption | omega | (intros; omega) | decide, by first | assumption | omega | (intros; omega) | decide, by first | assumption | omega | (intros; omega) | decide⟩, by rw [ht]; exact hP, va_K.moved hW.alike hK, hD⟩, hS.F ht⟩) hS.2.2 dX10_go_90
      refine m_icmp_ge (X := v_to_0.toInt) (Y := v_size.toInt) (tgt := 50) hx hb dX10_go_8 (by decide) rfl rfl (fun c8 => ?_) (fun c8 => ?_)
      · skip
        exact J50 H locs ls hP hD hS (lv_sub hl [0] rfl)
      · skip
        refine lv_aload_n hx hb dX10_go_11 rfl (lv_at hl 0 rfl) ?_
        refine lv_aload_n hx hb dX10_go_12 rfl (lv_at hl 0 rfl) ?_
        refine va_get (D := D) (ci := 9) (v := .int v_to_0) (C := RX10) (T := TX10) (N := 71) hx hb hts hin hown hK hP 0 rfl rfl 4 (by decide) k_22_12 (fun _ h9 => h9) rfl dX10_go_13 ?_
        refine call_i (As := [.int v_to_0]) (rest := []) ⟨hx, hb, hml, hown, hts⟩ (tX10_at (l := l) v_to_0 (by first | assumption | omega | (intros; omega) | decide) (by first | assumption | omega | (intros; omega) | decide) (by first | assumption | omega | (intros; omega) | decide)) (cwV 1 hts (gV (wr23 _ (List.mem_of_getElem? (i := 2) rfl)) (wr23 _ (List.mem_of_getElem? (i := 3) rfl)) (wr23 _ (List.mem_of_getElem? (i := 4) rfl)) (wr1 _ (List.mem_of_getElem? (i := 5) rfl)) (wr23 _ (List.mem_of_getElem? (i := 5) rfl))) rfl rfl rfl (by decide +kernel) ⟨Nat.le_of_ble_eq_true rfl, Nat.le_of_ble_eq_true rfl⟩) (va_recv hK hP (ci := 9) (q0 := 0) rfl rfl) hK hP hD hE hS hA rfl hl.1 rfl (Nat.le_of_ble_eq_true rfl) dX10_go_16 ⟨Nat.le_of_ble_eq_true rfl, Nat.le_of_ble_eq_true rfl⟩ (fun r16 w9 H locs hw16 hP hD hS => ?_)
        obtain ⟨rfl, hw16_0⟩ := hw16
        have b_r16 := iB r16
        refine lv_bipush (v := 32) hx hb dX10_go_19 (by decide) ?_
        have J37 : ∀ (H : Heap) (locs : List Loc) (ls : Array Slot), ((a_tape v_to_0.toNatClampNeg).toInt = 32 ∨ (a_tape v_to_0.toNatClampNeg).toInt = 10) → va_P D vwCl (mw cs q v_thrown a_tape v_taped v_size v_to_0 v_kind v_from v_letters v_letterMany v_digits v_isBeyond v_suffix v_steps v_fault v_hasProgram a_text a_act a_guess a_take a_begin a_finish a_to1 a_one a_two a_what a_ats a_atVar a_atNumber a_atomSort a_atomKind a_atomValue v_wrong v_wrongAt v_variable v_number v_numberKind v_takes a_out v_outed a_varSort a_varKind a_varValue a_creature v_creatures a_arrayClass a_arrayFrom a_arrayLong v_arrays v_cells a_cellSort a_cellKind a_cellValue a_asideSort a_asideKind a_asideValue a_outcome v_marks v_came v_guessed v_right v_taken a_markSort a_markKind a_markClass a_markValue v_sort v_kindAt v_value a_index v_reached v_looked) H → va_D A (mw cs q v_thrown a_tape v_taped v_size v_to_0 v_kind v_from v_letters v_letterMany v_digits v_isBeyond v_suffix v_steps v_fault v_hasProgram a_text a_act a_guess a_take a_begin a_finish a_to1 a_one a_two a_what a_ats a_atVar a_atNumber a_atomSort a_atomKind a_atomValue v_wrong v_wrongAt v_variable v_number v_numberKind v_takes a_out v_outed a_varSort a_varKind a_varValue a_creature v_creatures a_arrayClass a_arrayFrom a_arrayLong v_arrays v_cells a_cellSort a_cellKind a_cellValue a_asideSort a_asideKind a_asideValue a_outcome v_marks v_came v_guessed v_right v_taken a_markSort a_markKind a_markClass a_markValue v_sort v_kindAt v_value a_index v_reached v_looked) → va_S A s.heap H locs → lv_has ls 2 [(0, .ref (q 0))] → W p l e (headSpec (wG yX10_go cX10_go 2 none) rmX10_go).room s m ([.ref (q 0)] : List Value).toArray below meth c H locs 0 0 Q (F0 m 37 ls []) := by
          intro H locs ls f37_0 hP hD hS hl
          have hb37 := fun (z : Int32) (h : z.toInt = v_to_0.toInt + 1) => ph_bl (f := a_tape) (x := v_to_0) (z := z) (by omega) h f37_0
          refine lv_aload_n hx hb dX10_go_37 rfl (lv_at hl 0 rfl) ?_
          refine lv_dup hx hb dX10_go_38 rfl ?_
          refine va_get (D := D) (ci := 9) (v := .int v_to_0) (C := RX10) (T := TX10) (N := 71) hx hb hts hin hown hK hP 0 rfl rfl 4 (by decide) k_22_12 (fun _ h9 => h9) rfl dX10_go_39 ?_
          refine lv_iconst (v := 1) hx hb dX10_go_42 (by decide) ?_
          refine m_iadd (X := v_to_0.toInt) (Y := 1) hx hb dX10_go_43 rfl (by decide) (fun x43 e_x43 g9 => ?_)
          obtain ⟨k_x43, g_x43⟩ := g9
          have b_x43 := iB x43
          try (have q_x43 : x43.toInt = v_to_0.toInt + 1 := (by omega); clear g_x43 k_x43)
          refine va_put (D := D) (ci := 9) (v := .int x43) (ty := .int) (C := RX10) (T := TX10) (N := 71) hx hb hts hin tyX10 tyX10_ok nmX10 hown hK hP hD hS 0 rfl rfl 4 (by decide) k_22_12 (fun _ h9 => h9) rfl (by decide +kernel) rfl rfl (Nat.le_of_ble_eq_true rfl) dX10_go_44 (fun H locs hP hD hS => ?_)
          have hP : va_P D vwCl (mw cs q v_thrown a_tape v_taped v_size x43 v_kind v_from v_letters v_letterMany v_digits v_isBeyond v_suffix v_steps v_fault v_hasProgram a_text a_act a_guess a_take a_begin a_finish a_to1 a_one a_two a_what a_ats a_atVar a_atNumber a_atomSort a_atomKind a_atomValue v_wrong v_wrongAt v_variable v_number v_numberKind v_takes a_out v_outed a_varSort a_varKind a_varValue a_creature v_creatures a_arrayClass a_arrayFrom a_arrayLong v_arrays v_cells a_cellSort a_cellKind a_cellValue a_asideSort a_asideKind a_asideValue a_outcome v_marks v_came v_guessed v_right v_taken a_markSort a_markKind a_markClass a_markValue v_sort v_kindAt v_value a_index v_reached v_looked) H := hP
          have hD : va_D A (mw cs q v_thrown a_tape v_taped v_size x43 v_kind v_from v_letters v_letterMany v_digits v_isBeyond v_suffix v_steps v_fault v_hasProgram a_text a_act a_guess a_take a_begin a_finish a_to1 a_one a_two a_what a_ats a_atVar a_atNumber a_atomSort a_atomKind a_atomValue v_wrong v_wrongAt v_variable v_number v_numberKind v_takes a_out v_outed a_varSort a_varKind a_varValue a_creature v_creatures a_arrayClass a_arrayFrom a_arrayLong v_arrays v_cells a_cellSort a_cellKind a_cellValue a_asideSort a_asideKind a_asideValue a_outcome v_marks v_came v_guessed v_right v_taken a_markSort a_markKind a_markClass a_markValue v_sort v_kindAt v_value a_index v_reached v_looked) := hD
          refine lv_goto (tgt := 0) hx hb dX10_go_47 (by decide) ?_
          exact ih0 x43 H locs ls (by first | assumption | omega | (intros; omega) | decide) (by first | assumption | omega | (intros; omega) | decide) (by first | rfl | (rw [hb37 _ (by omega)]; assumption)) (by omega) hP hD hS (lv_sub hl [0] rfl)
        refine m_icmp_eq (X := r16.toInt) (Y := 32) (tgt := 37) hx hb dX10_go_21 (by decide) rfl (by decide) (fun c21 => ?_) (fun c21 => ?_)
        · skip
          exact J37 H locs ls (by first | assumption | omega | (intros; omega) | decide) hP hD hS (lv_sub hl [0] rfl)
        · skip
          refine lv_aload_n hx hb dX10_go_24 rfl (lv_at hl 0 rfl) ?_
          refine lv_aload_n hx hb dX10_go_25 rfl (lv_at hl 0 rfl) ?_
          refine va_get (D := D) (ci := 9) (v := .int v_to_0) (C := RX10) (T := TX10) (N := 71) hx hb hts hin hown hK hP 0 rfl rfl 4 (by decide) k_22_12 (fun _ h9 => h9) rfl dX10_go_26 ?_
          refine call_i (As := [.int v_to_0]) (rest := []) ⟨hx, hb, hml, hown, hts⟩ (tX10_at (l := l) v_to_0 (by first | assumption | omega | (intros; omega) | decide) (by first | assumption | omega | (intros; omega) | decide) (by first | assumption | omega | (intros; omega) | decide)) (cwV 1 hts (gV (wr23 _ (List.mem_of_getElem? (i := 2) rfl)) (wr23 _ (List.mem_of_getElem? (i := 3) rfl)) (wr23 _ (List.mem_of_getElem? (i := 4) rfl)) (wr1 _ (List.mem_of_getElem? (i := 5) rfl)) (wr23 _ (List.mem_of_getElem? (i := 5) rfl))) rfl rfl rfl (by decide +kernel) ⟨Nat.le_of_ble_eq_true rfl, Nat.le_of_ble_eq_true rfl⟩) (va_recv hK hP (ci := 9) (q0 := 0) rfl rfl) hK hP hD hE hS hA rfl hl.1 rfl (Nat.le_of_ble_eq_true rfl) dX10_go_29 ⟨Nat.le_of_ble_eq_true rfl, Nat.le_of_ble_eq_true rfl⟩ (fun r29 w9 H locs hw29 hP hD hS => ?_)
          obtain ⟨rfl, hw29_0⟩ := hw29
          have b_r29 := iB r29
          refine lv_bipush (v := 10) hx hb dX10_go_32 (by decide) ?_
          refine m_icmp_ne (X := r29.toInt) (Y := 10) (tgt := 50) hx hb dX10_go_34 (by decide) rfl (by decide) (fun c34 => ?_) (fun c34 => ?_)
          · skip
            exact J50 H locs ls hP hD hS (lv_sub hl [0] rfl)
          · skip
            exact J37 H locs ls (by first | assumption | omega | (intros; omega) | decide) hP hD hS (lv_sub hl [0] rfl)
  exact J0 ((v_size.toInt - v_to.toInt).toNat + 1) v_to H locs ls (by first | assumption | omega | (intros; omega) | decide) (by first | assumption | omega | (intros; omega) | decide) (by first | rfl | (rw [hb37 _ (by omega)]; assumption)) (by omega) hP hD hS (lv_sub hl [0] rfl)
