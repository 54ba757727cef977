def rmX10_make : Room := { frames := 60, cells := 0, slots := 0, locals := 1200 }
set_option maxHeartbeats 4000000 in
set_option maxRecDepth 100000 in
theorem tX10_make {l : Launch} {D : va_G} {K : Nat → Nat → Nat} {cs : Nat → ClassId} {q : Nat → Nat} {v_thrown v_taped v_size v_to v_kind v_from v_letterMany v_isBeyond v_suffix v_steps v_fault v_hasProgram v_wrong v_wrongAt v_variable v_numberKind v_takes v_outed v_creatures v_arrays v_cells v_marks v_came v_guessed v_right v_taken v_sort v_kindAt v_reached v_looked : Int32} {a_tape a_text a_act a_guess a_take a_begin a_finish a_to1 a_one a_two a_what a_ats a_atVar a_atNumber a_atomSort a_atomKind a_out a_varSort a_varKind a_creature a_arrayClass a_arrayFrom a_arrayLong a_cellSort a_cellKind a_asideSort a_asideKind a_outcome a_markSort a_markKind a_markClass a_index : Nat → Int32} {v_letters v_digits v_number v_value : Int64} {a_atomValue a_varValue a_cellValue a_asideValue a_markValue : Nat → Int64} (s9 : Int32) (p_0 : RUN a_varSort a_varKind a_varValue v_arrays v_cells v_creatures a_arrayClass a_arrayFrom a_arrayLong a_cellSort a_cellKind a_cellValue) (p_1 : 0 ≤ s9.toInt) (p_2 : s9.toInt ≤ 201) (p_3 : 1 ≤ (a_ats s9.toNatClampNeg).toInt) (p_4 : (a_ats s9.toNatClampNeg).toInt ≤ 3) (p_5 : 20 * (a_ats s9.toNatClampNeg).toInt ≤ (a_what s9.toNatClampNeg).toInt) (p_6 : (a_what s9.toNatClampNeg).toInt ≤ 79) : CtI l yX10_make (wG yX10_make cX10_make 16 (some .int)) rmX10_make D (mwT cs) K [.ref (q 0), .int s9] (mw cs q v_thrown a_tape v_taped v_size v_to v_kind v_from v_letters v_letterMany v_digits v_isBeyond v_suffix v_steps v_fault v_hasProgram a_text a_act a_guess a_take a_begin a_finish a_to1 a_one a_two a_what a_ats a_atVar a_atNumber a_atomSort a_atomKind a_atomValue v_wrong v_wrongAt v_variable v_number v_numberKind v_takes a_out v_outed a_varSort a_varKind a_varValue a_creature v_creatures a_arrayClass a_arrayFrom a_arrayLong v_arrays v_cells a_cellSort a_cellKind a_cellValue a_asideSort a_asideKind a_asideValue a_outcome v_marks v_came v_guessed v_right v_taken a_markSort a_markKind a_markClass a_markValue v_sort v_kindAt v_value a_index v_reached v_looked) (fun r w1 => ∃ (a_arrayClass' : Nat → Int32) (a_arrayFrom' : Nat → Int32) (a_arrayLong' : Nat → Int32) (v_arrays' : Int32) (v_cells' : Int32) (a_cellSort' : Nat → Int32) (a_cellKind' : Nat → Int32) (a_cellValue' : Nat → Int64) (v_sort' : Int32) (v_kindAt' : Int32) (v_value' : Int64), w1 = (mw cs q v_thrown a_tape v_taped v_size v_to v_kind v_from v_letters v_letterMany v_digits v_isBeyond v_suffix v_steps v_fault v_hasProgram a_text a_act a_guess a_take a_begin a_finish a_to1 a_one a_two a_what a_ats a_atVar a_atNumber a_atomSort a_atomKind a_atomValue v_wrong v_wrongAt v_variable v_number v_numberKind v_takes a_out v_outed a_varSort a_varKind a_varValue a_creature v_creatures a_arrayClass' a_arrayFrom' a_arrayLong' v_arrays' v_cells' a_cellSort' a_cellKind' a_cellValue' a_asideSort a_asideKind a_asideValue a_outcome v_marks v_came v_guessed v_right v_taken a_markSort a_markKind a_markClass a_markValue v_sort' v_kindAt' v_value' a_index v_reached v_looked) ∧ (RUN a_varSort a_varKind a_varValue v_arrays' v_cells' v_creatures a_arrayClass' a_arrayFrom' a_arrayLong' a_cellSort' a_cellKind' a_cellValue') ∧ ((r.toInt = 0 ∧ VOK v_arrays'.toInt v_creatures.toInt v_sort' v_kindAt' v_value') ∨ 0 < r.toInt)) 0 0 := by
  intro sz
  refine Met.ofW (cc := cX10_make) (maxL := 16) (ret := (some .int)) (by decide) rfl ?_
  intro p e s m args below meth c s₁ B hml hv
  obtain ⟨rfl, hsz, hP, hK, hD0, hE⟩ := hv
  have hx := B.exec
  have hb := B.bytes
  have hr := B.returns
  have hts := atoms_spec (ws := (wG yX10_make cX10_make 16 (some .int))) B.pre
  have hown : s.vm.findClass RX10 = some m.cls := findClass_of_methodNamed B.named
  have hlocks := B.notSynchronized
  subst hsz
  have hD := hD0.self (sz := s.heap.size)
  obtain ⟨A, hAe⟩ : ∃ A : Nat → Prop, A = va_A (mw cs q v_thrown a_tape v_taped v_size v_to v_kind v_from v_letters v_letterMany v_digits v_isBeyond v_suffix v_steps v_fault v_hasProgram a_text a_act a_guess a_take a_begin a_finish a_to1 a_one a_two a_what a_ats a_atVar a_atNumber a_atomSort a_atomKind a_atomValue v_wrong v_wrongAt v_variable v_number v_numberKind v_takes a_out v_outed a_varSort a_varKind a_varValue a_creature v_creatures a_arrayClass a_arrayFrom a_arrayLong v_arrays v_cells a_cellSort a_cellKind a_cellValue a_asideSort a_asideKind a_asideValue a_outcome v_marks v_came v_guessed v_right v_taken a_markSort a_markKind a_markClass a_markValue v_sort v_kindAt v_value a_index v_reached v_looked) s.heap.size := ⟨_, rfl⟩
  rw [← hAe] at hD hE
  have hA : ∀ q : Nat, s.heap.size ≤ q → A q := fun q h => by rw [hAe]; exact Or.inr h
  have hS : va_S A s.heap s.heap [] := va_S.rf
  have hl := lv_entry ([.ref (q 0), .int s9]) (n := 16) (Nat.le_of_ble_eq_true rfl)
  rw [lg_entry_eq]
  generalize (lg_sl ([.ref (q 0), .int s9]) ++ List.replicate (16 - (lg_sl ([.ref (q 0), .int s9])).length) Slot.unset).toArray = ls at hl ⊢
  have hl : lv_has ls 16 [(0, .ref (q 0)), (1, .int s9)] := hl
  refine wq (fun Q hQ => ?_)
  have hin : ∀ w ∈ wsX100, w ∈ (wG yX10_make cX10_make 16 (some .int)) := fun w h => List.mem_cons_of_mem _ (inlX10 w h)
  have kc0 : (0 : Int32).toInt = 0 := by decide
  have kc1 : (1 : Int32).toInt = 1 := by decide
  have kc2 : (3 : Int32).toInt = 3 := by decide
  have kc3 : (7 : Int32).toInt = 7 := by decide
  have kc4 : (20 : Int32).toInt = 20 := by decide
  have kc5 : (0 : Int64).toInt = 0 := by decide
  have kc6 : (1 : Int64).toInt = 1 := by decide
  have kc7 : (500 : Int64).toInt = 500 := by decide
  have k_5_18 := hts (.fieldLink RX10 43 "ArrayTrainerModel" "ats" "[I") (List.mem_cons_of_mem _ (wr5 _ (List.mem_of_getElem? (i := 18) rfl)))
  have k_5_17 := hts (.fieldLink RX10 40 "ArrayTrainerModel" "what" "[I") (List.mem_cons_of_mem _ (wr5 _ (List.mem_of_getElem? (i := 17) rfl)))
  have k_6_19 := hts (.fieldLink RX10 119 "ArrayTrainerModel" "index" "[I") (List.mem_cons_of_mem _ (wr6 _ (List.mem_of_getElem? (i := 19) rfl)))
  have k_47_12 := hts (.fieldLink RX10 493 "ArrayTrainerModel" "sort" "I") (List.mem_cons_of_mem _ (wr47 _ (List.mem_of_getElem? (i := 12) rfl)))
  have k_47_13 := hts (.fieldLink RX10 496 "ArrayTrainerModel" "kindAt" "I") (List.mem_cons_of_mem _ (wr47 _ (List.mem_of_getElem? (i := 13) rfl)))
  have k_47_14 := hts (.fieldLink RX10 499 "ArrayTrainerModel" "value" "J") (List.mem_cons_of_mem _ (wr47 _ (List.mem_of_getElem? (i := 14) rfl)))
  have k_31_4 := hts (.fieldLink RX10 472 "ArrayTrainerModel" "arrays" "I") (List.mem_cons_of_mem _ (wr31 _ (List.mem_of_getElem? (i := 4) rfl)))
  have k_6_7 := hts (.fieldLink RX10 83 "ArrayTrainerModel" "arrayLong" "[I") (List.mem_cons_of_mem _ (wr6 _ (List.mem_of_getElem? (i := 7) rfl)))
  have k_50_15 := hts (.constantLong RX10 537 (500)) (List.mem_cons_of_mem _ (wr50 _ (List.mem_of_getElem? (i := 15) rfl)))
  obtain ⟨H, hH⟩ : ∃ H : Heap, H = s.heap := ⟨_, rfl⟩
  obtain ⟨locs, hlc⟩ : ∃ L : List Loc, L = [] := ⟨_, rfl⟩
  have hP : va_P D vwCl (mw cs q v_thrown a_tape v_taped v_size v_to v_kind v_from v_letters v_letterMany v_digits v_isBeyond v_suffix v_steps v_fault v_hasProgram a_text a_act a_guess a_take a_begin a_finish a_to1 a_one a_two a_what a_ats a_atVar a_atNumber a_atomSort a_atomKind a_atomValue v_wrong v_wrongAt v_variable v_number v_numberKind v_takes a_out v_outed a_varSort a_varKind a_varValue a_creature v_creatures a_arrayClass a_arrayFrom a_arrayLong v_arrays v_cells a_cellSort a_cellKind a_cellValue a_asideSort a_asideKind a_asideValue a_outcome v_marks v_came v_guessed v_right v_taken a_markSort a_markKind a_markClass a_markValue v_sort v_kindAt v_value a_index v_reached v_looked) H := by rw [hH]; exact hP
  have hS : va_S A s.heap H locs := by rw [hH, hlc]; exact hS
  refine wHL hH hlc ?_
  have b_s9 := iB s9
  have hr9 := p_0.1
  have ts9 := tn (i := s9) (by omega)
  have tat := tn (i := a_ats s9.toNatClampNeg) (by omega)
  refine lv_lconst (v := 0) hx hb dX10_make_0 (by decide) ?_
  refine lv_lstore_n (lv' := [(2, .long 0), (0, .ref (q 0)), (1, .int s9)]) hx hb dX10_make_1 rfl hl (by decide) rfl (fun ls hl => ?_)
  refine lv_lconst (v := 1) hx hb dX10_make_2 (by decide) ?_
  refine lv_lstore (lv' := [(4, .long 1), (2, .long 0), (0, .ref (q 0)), (1, .int s9)]) hx hb dX10_make_3 hl (by decide) rfl (fun ls hl => ?_)
  refine lv_lconst (v := 0) hx hb dX10_make_5 (by decide) ?_
  refine lv_lstore (lv' := [(6, .long 0), (4, .long 1), (2, .long 0), (0, .ref (q 0)), (1, .int s9)]) hx hb dX10_make_6 hl (by decide) rfl (fun ls hl => ?_)
  refine lv_iconst (v := 0) hx hb dX10_make_8 (by decide) ?_
  refine lv_istore (lv' := [(8, .int 0), (6, .long 0), (4, .long 1), (2, .long 0), (0, .ref (q 0)), (1, .int s9)]) hx hb dX10_make_9 hl (by decide) rfl (fun ls hl => ?_)
  have J11 : ∀ (n11 : Nat) (l8_11 : Int32) (H : Heap) (locs : List Loc) (ls : Array Slot), (0 ≤ l8_11.toInt) → (l8_11.toInt ≤ (a_ats s9.toNatClampNeg).toInt) → (∀ j : Nat, (j : Int) < l8_11.toInt → 0 ≤ (a_index j).toInt) → (3 - l8_11.toInt < (n11 : Int)) → va_P D vwCl (mw cs q v_thrown a_tape v_taped v_size v_to v_kind v_from v_letters v_letterMany v_digits v_isBeyond v_suffix v_steps v_fault v_hasProgram a_text a_act a_guess a_take a_begin a_finish a_to1 a_one a_two a_what a_ats a_atVar a_atNumber a_atomSort a_atomKind a_atomValue v_wrong v_wrongAt v_variable v_number v_numberKind v_takes a_out v_outed a_varSort a_varKind a_varValue a_creature v_creatures a_arrayClass a_arrayFrom a_arrayLong v_arrays v_cells a_cellSort a_cellKind a_cellValue a_asideSort a_asideKind a_asideValue a_outcome v_marks v_came v_guessed v_right v_taken a_markSort a_markKind a_markClass a_markValue v_sort v_kindAt v_value a_index v_reached v_looked) H → va_D A (mw cs q v_thrown a_tape v_taped v_size v_to v_kind v_from v_letters v_letterMany v_digits v_isBeyond v_suffix v_steps v_fault v_hasProgram a_text a_act a_guess a_take a_begin a_finish a_to1 a_one a_two a_what a_ats a_atVar a_atNumber a_atomSort a_atomKind a_atomValue v_wrong v_wrongAt v_variable v_number v_numberKind v_takes a_out v_outed a_varSort a_varKind a_varValue a_creature v_creatures a_arrayClass a_arrayFrom a_arrayLong v_arrays v_cells a_cellSort a_cellKind a_cellValue a_asideSort a_asideKind a_asideValue a_outcome v_marks v_came v_guessed v_right v_taken a_markSort a_markKind a_markClass a_markValue v_sort v_kindAt v_value a_index v_reached v_looked) → va_S A s.heap H locs → lv_has ls 16 [(0, .ref (q 0)), (1, .int s9), (2, .long 0), (4, .long 1), (6, .long 0), (8, .int l8_11)] → W p l e (headSpec (wG yX10_make cX10_make 16 (some .int)) rmX10_make).room s m ([.ref (q 0), .int s9] : List Value).toArray below meth c H locs 0 0 Q (F0 m 11 ls []) := by
    intro n11
    induction n11 with
    | zero =>
      intro l8_11 H locs ls f11_0 f11_1 f11_2 hm11
      exfalso
      omega
    | succ n11 ih11 =>
      intro l8_11 H locs ls f11_0 f11_1 f11_2 hm11 hP hD hS hl
      refine lv_iload hx hb dX10_make_11 (lv_at hl 5 rfl) ?_
      refine lv_aload_n hx hb dX10_make_13 rfl (lv_at hl 0 rfl) ?_
      refine va_get (D := D) (ci := 9) (v := .ref (q 12)) (C := RX10) (T := TX10) (N := 71) hx hb hts hin hown hK hP 0 rfl rfl 25 (by decide) k_5_18 (fun _ h9 => h9) rfl dX10_make_14 ?_
      refine lv_iload_n hx hb dX10_make_17 rfl (lv_at hl 1 rfl) ?_
      refine m_iald hx hb hK hP 12 0 rfl rfl (ix (by omega) (by omega)) dX10_make_18 (fun x18 e_x18 => ?_)
      have b_x18 := iB x18
      have hx18 := congrArg Int32.toInt e_x18
      refine m_icmp_ge (X := l8_11.toInt) (Y := x18.toInt) (tgt := 40) hx hb dX10_make_19 (by decide) rfl rfl (fun c19 => ?_) (fun c19 => ?_)
      · skip
        have hidx : ∀ j : Nat, j < (a_ats s9.toNatClampNeg).toNatClampNeg → 0 ≤ (a_index j).toInt := fun j hj => f11_2 j (by omega)
        refine lv_iconst (v := 0) hx hb dX10_make_40 (by decide) ?_
        refine lv_istore (lv' := [(8, .int 0), (0, .ref (q 0)), (1, .int s9), (2, .long 0), (4, .long 1), (6, .long 0)]) hx hb dX10_make_41 hl (by decide) rfl (fun ls hl => ?_)
        have J43 : ∀ (n43 : Nat) (l2_43 : Int64) (l4_43 : Int64) (l6_43 : Int64) (l8_43 : Int32) (H : Heap) (locs : List Loc) (ls : Array Slot), (0 ≤ l8_43.toInt) → (l8_43.toInt ≤ (a_ats s9.toNatClampNeg).toInt) → (l4_43.toInt = PR a_index l8_43.toNatClampNeg) → (l6_43.toInt = SA a_index l8_43.toNatClampNeg) → (l2_43.toInt = SC a_index l8_43.toNatClampNeg) → (0 ≤ l4_43.toInt) → (l4_43.toInt ≤ 500) → (0 ≤ l6_43.toInt) → (l6_43.toInt ≤ 500 * l8_43.toInt) → (0 ≤ l2_43.toInt) → (l2_43.toInt ≤ 500) → (3 - l8_43.toInt < (n43 : Int)) → va_P D vwCl (mw cs q v_thrown a_tape v_taped v_size v_to v_kind v_from v_letters v_letterMany v_digits v_isBeyond v_suffix v_steps v_fault v_hasProgram a_text a_act a_guess a_take a_begin a_finish a_to1 a_one a_two a_what a_ats a_atVar a_atNumber a_atomSort a_atomKind a_atomValue v_wrong v_wrongAt v_variable v_number v_numberKind v_takes a_out v_outed a_varSort a_varKind a_varValue a_creature v_creatures a_arrayClass a_arrayFrom a_arrayLong v_arrays v_cells a_cellSort a_cellKind a_cellValue a_asideSort a_asideKind a_asideValue a_outcome v_marks v_came v_guessed v_right v_taken a_markSort a_markKind a_markClass a_markValue v_sort v_kindAt v_value a_index v_reached v_looked) H → va_D A (mw cs q v_thrown a_tape v_taped v_size v_to v_kind v_from v_letters v_letterMany v_digits v_isBeyond v_suffix v_steps v_fault v_hasProgram a_text a_act a_guess a_take a_begin a_finish a_to1 a_one a_two a_what a_ats a_atVar a_atNumber a_atomSort a_atomKind a_atomValue v_wrong v_wrongAt v_variable v_number v_numberKind v_takes a_out v_outed a_varSort a_varKind a_varValue a_creature v_creatures a_arrayClass a_arrayFrom a_arrayLong v_arrays v_cells a_cellSort a_cellKind a_cellValue a_asideSort a_asideKind a_asideValue a_outcome v_marks v_came v_guessed v_right v_taken a_markSort a_markKind a_markClass a_markValue v_sort v_kindAt v_value a_index v_reached v_looked) → va_S A s.heap H locs → lv_has ls 16 [(0, .ref (q 0)), (1, .int s9), (2, .long l2_43), (4, .long l4_43), (6, .long l6_43), (8, .int l8_43)] → W p l e (headSpec (wG yX10_make cX10_make 16 (some .int)) rmX10_make).room s m ([.ref (q 0), .int s9] : List Value).toArray below meth c H locs 0 0 Q (F0 m 43 ls []) := by
          intro n43
          induction n43 with
          | zero =>
            intro l2_43 l4_43 l6_43 l8_43 H locs ls f43_0 f43_1 f43_2 f43_3 f43_4 f43_5 f43_6 f43_7 f43_8 f43_9 f43_10 hm43
            exfalso
            omega
          | succ n43 ih43 =>
            intro l2_43 l4_43 l6_43 l8_43 H locs ls f43_0 f43_1 f43_2 f43_3 f43_4 f43_5 f43_6 f43_7 f43_8 f43_9 f43_10 hm43 hP hD hS hl
            refine lv_iload hx hb dX10_make_43 (lv_at hl 5 rfl) ?_
            refine lv_aload_n hx hb dX10_make_45 rfl (lv_at hl 0 rfl) ?_
            refine va_get (D := D) (ci := 9) (v := .ref (q 12)) (C := RX10) (T := TX10) (N := 71) hx hb hts hin hown hK hP 0 rfl rfl 25 (by decide) k_5_18 (fun _ h9 => h9) rfl dX10_make_46 ?_
            refine lv_iload_n hx hb dX10_make_49 rfl (lv_at hl 1 rfl) ?_
            refine m_iald hx hb hK hP 12 0 rfl rfl (ix (by omega) (by omega)) dX10_make_50 (fun x50 e_x50 => ?_)
            have b_x50 := iB x50
            have hx50 := congrArg Int32.toInt e_x50
            have t8 := tn (i := l8_43) (by omega)
            refine m_icmp_ge (X := l8_43.toInt) (Y := x50.toInt) (tgt := 96) hx hb dX10_make_51 (by decide) rfl rfl (fun c51 => ?_) (fun c51 => ?_)
            · skip
              refine lv_aload_n hx hb dX10_make_96 rfl (lv_at hl 0 rfl) ?_
              refine lv_lload hx hb dX10_make_97 (lv_at hl 4 rfl) ?_
              refine lv_lload_n hx hb dX10_make_99 rfl (lv_at hl 2 rfl) ?_
              refine call_i (As := [.long l6_43, .long l2_43]) (rest := []) ⟨hx, hb, hml, hown, hts⟩ (tX10_hasRoom (l := l) l6_43 l2_43 (by first | assumption | omega | (intros; omega) | decide) (by first | assumption | omega | (intros; omega) | decide) (by first | assumption | omega | (intros; omega) | decide) (by first | assumption | omega | (intros; omega) | decide) (by first | assumption | omega | (intros; omega) | decide) (by first | assumption | omega | (intros; omega) | decide) (by first | assumption | omega | (intros; omega) | decide) (by first | assumption | omega | (intros; omega) | decide)) (cwV 2 hts (gV (wr50 _ (List.mem_of_getElem? (i := 16) rfl)) (wr50 _ (List.mem_of_getElem? (i := 17) rfl)) (wr50 _ (List.mem_of_getElem? (i := 18) rfl)) (wr1 _ (List.mem_of_getElem? (i := 5) rfl)) (wr50 _ (List.mem_of_getElem? (i := 19) rfl))) rfl rfl rfl (by decide +kernel) ⟨Nat.le_of_ble_eq_true rfl, Nat.le_of_ble_eq_true rfl⟩) (va_recv hK hP (ci := 9) (q0 := 0) rfl rfl) hK hP hD hE hS hA rfl hl.1 rfl (Nat.le_of_ble_eq_true rfl) dX10_make_100 ⟨Nat.le_of_ble_eq_true rfl, Nat.le_of_ble_eq_true rfl⟩ (fun r100 w9 H locs hw100 hP hD hS => ?_)
              obtain ⟨rfl, hw100_0⟩ := hw100
              have b_r100 := iB r100
              refine m_if_ne (X := r100.toInt) (tgt := 109) hx hb dX10_make_103 (by decide) rfl (fun c103 => ?_) (fun c103 => ?_)
              · skip
                have eN : l8_43.toNatClampNeg = (a_ats s9.toNatClampNeg).toNatClampNeg := by omega
                have hSA : v_arrays.toInt + SA a_index (a_ats s9.toNatClampNeg).toNatClampNeg ≤ 200 := by rw [← eN, ← f43_3]; omega
                have hSC : v_cells.toInt + SC a_index (a_ats s9.toNatClampNeg).toNatClampNeg ≤ 4000 := by rw [← eN, ← f43_4]; omega
                have hS5 : SC a_index (a_ats s9.toNatClampNeg).toNatClampNeg ≤ 500 := by rw [← eN, ← f43_4]; omega
                have i0 := hidx 0 (by omega)
                have m1 := SC.mono hidx (a_ats s9.toNatClampNeg).toNatClampNeg 1 (by omega) (Nat.le_refl _)
                have m2 := SA.mono hidx (a_ats s9.toNatClampNeg).toNatClampNeg 1 (by omega) (Nat.le_refl _)
                rw [SC_one] at m1
                rw [SA_one] at m2
                refine lv_aload_n hx hb dX10_make_109 rfl (lv_at hl 0 rfl) ?_
                refine lv_aload_n hx hb dX10_make_110 rfl (lv_at hl 0 rfl) ?_
                refine va_get (D := D) (ci := 9) (v := .ref (q 11)) (C := RX10) (T := TX10) (N := 71) hx hb hts hin hown hK hP 0 rfl rfl 24 (by decide) k_5_17 (fun _ h9 => h9) rfl dX10_make_111 ?_
                refine lv_iload_n hx hb dX10_make_114 rfl (lv_at hl 1 rfl) ?_
                refine m_iald hx hb hK hP 11 0 rfl rfl (ix (by omega) (by omega)) dX10_make_115 (fun x115 e_x115 => ?_)
                have b_x115 := iB x115
                refine lv_aload_n hx hb dX10_make_116 rfl (lv_at hl 0 rfl) ?_
                refine va_get (D := D) (ci := 9) (v := .ref (q 37)) (C := RX10) (T := TX10) (N := 71) hx hb hts hin hown hK hP 0 rfl rfl 68 (by decide) k_6_19 (fun _ h9 => h9) rfl dX10_make_117 ?_
                refine lv_iconst (v := 0) hx hb dX10_make_120 (by decide) ?_
                refine m_iald hx hb hK hP 37 0 rfl rfl (ix (by decide) (by decide)) dX10_make_121 (fun x121 e_x121 => ?_)
                have b_x121 := iB x121
                have hx115 := congrArg Int32.toInt e_x115
                have hx121 : x121.toInt = (a_index 0).toInt := congrArg Int32.toInt e_x121
                refine call_i (As := [.int x115, .int x121]) (rest := []) ⟨hx, hb, hml, hown, hts⟩ (tX10_newArray (l := l) x115 x121 (by first | assumption | omega | (intros; omega) | decide) (by first | assumption | omega | (intros; omega) | decide) (by first | assumption | omega | (intros; omega) | decide) (by first | assumption | omega | (intros; omega) | decide) (by first | assumption | omega | (intros; omega) | decide) (by first | assumption | omega | (intros; omega) | decide) (by first | assumption | omega | (intros; omega) | decide)) (cwV 2 hts (gV (wr50 _ (List.mem_of_getElem? (i := 22) rfl)) (wr50 _ (List.mem_of_getElem? (i := 23) rfl)) (wr51 _ (List.mem_of_getElem? (i := 0) rfl)) (wr1 _ (List.mem_of_getElem? (i := 5) rfl)) (wr51 _ (List.mem_of_getElem? (i := 1) rfl))) rfl rfl rfl (by decide +kernel) ⟨Nat.le_of_ble_eq_true rfl, Nat.le_of_ble_eq_true rfl⟩) (va_recv hK hP (ci := 9) (q0 := 0) rfl rfl) hK hP hD hE hS hA rfl hl.1 rfl (Nat.le_of_ble_eq_true rfl) dX10_make_122 ⟨Nat.le_of_ble_eq_true rfl, Nat.le_of_ble_eq_true rfl⟩ (fun r122 w9 H locs hw122 hP hD hS => ?_)
                obtain ⟨a_arrayClass_122, a_arrayFrom_122, a_arrayLong_122, v_arrays_122, v_cells_122, a_cellSort_122, a_cellKind_122, a_cellValue_122, v_sort_122, v_kindAt_122, v_value_122, rfl, hw122_0, hw122_1, hw122_2, hw122_3, hw122_4, hw122_5, hw122_6⟩ := hw122
                have b_v_arrays_122 := iB v_arrays_122
                have b_v_cells_122 := iB v_cells_122
                have b_v_sort_122 := iB v_sort_122
                have b_v_kindAt_122 := iB v_kindAt_122
                have b_v_value_122 := jB v_value_122
                have b_r122 := iB r122
                have hr122 := congrArg Int32.toInt hw122_1
                refine lv_istore (lv' := [(8, .int r122), (0, .ref (q 0)), (1, .int s9), (2, .long l2_43), (4, .long l4_43), (6, .long l6_43)]) hx hb dX10_make_125 hl (by decide) rfl (fun ls hl => ?_)
                refine lv_iload hx hb dX10_make_127 (lv_at hl 0 rfl) ?_
                refine lv_istore (lv' := [(9, .int r122), (8, .int r122), (0, .ref (q 0)), (1, .int s9), (2, .long l2_43), (4, .long l4_43), (6, .long l6_43)]) hx hb dX10_make_129 hl (by decide) rfl (fun ls hl => ?_)
                refine lv_iconst (v := 1) hx hb dX10_make_131 (by decide) ?_
                refine lv_istore (lv' := [(10, .int 1), (9, .int r122), (8, .int r122), (0, .ref (q 0)), (1, .int s9), (2, .long l2_43), (4, .long l4_43), (6, .long l6_43)]) hx hb dX10_make_132 hl (by decide) rfl (fun ls hl => ?_)
                refine lv_iconst (v := 1) hx hb dX10_make_134 (by decide) ?_
                refine lv_istore (lv' := [(11, .int 1), (10, .int 1), (9, .int r122), (8, .int r122), (0, .ref (q 0)), (1, .int s9), (2, .long l2_43), (4, .long l4_43), (6, .long l6_43)]) hx hb dX10_make_135 hl (by decide) rfl (fun ls hl => ?_)
                have J137 : ∀ (n137 : Nat) (l9_137 : Int32) (l10_137 : Int32) (l11_137 : Int32) (a_arrayClass_137 : Nat → Int32) (a_arrayFrom_137 : Nat → Int32) (a_arrayLong_137 : Nat → Int32) (v_arrays_137 : Int32) (a_cellKind_137 : Nat → Int32) (a_cellSort_137 : Nat → Int32) (a_cellValue_137 : Nat → Int64) (v_cells_137 : Int32) (v_kindAt_137 : Int32) (v_sort_137 : Int32) (v_value_137 : Int64) (H : Heap) (locs : List Loc) (ls : Array Slot), (1 ≤ l11_137.toInt) → (l11_137.toInt ≤ (a_ats s9.toNatClampNeg).toInt) → (0 ≤ l9_137.toInt) → (0 ≤ l10_137.toInt) → (l9_137.toInt + l10_137.toInt ≤ v_arrays_137.toInt) → (l10_137.toInt = PR a_index (l11_137.toNatClampNeg - 1)) → (v_arrays_137.toInt = v_arrays.toInt + SA a_index l11_137.toNatClampNeg) → (v_cells_137.toInt = v_cells.toInt + SC a_index l11_137.toNatClampNeg) → (LVL a_arrayClass_137 a_arrayLong_137 l9_137.toInt (l9_137.toInt + l10_137.toInt) ((a_what s9.toNatClampNeg).toInt - 20 * (l11_137.toInt - 1)) (a_index (l11_137.toNatClampNeg - 1))) → (RUN a_varSort a_varKind a_varValue v_arrays_137 v_cells_137 v_creatures a_arrayClass_137 a_arrayFrom_137 a_arrayLong_137 a_cellSort_137 a_cellKind_137 a_cellValue_137) → (3 - l11_137.toInt < (n137 : Int)) → va_P D vwCl (mw cs q v_thrown a_tape v_taped v_size v_to v_kind v_from v_letters v_letterMany v_digits v_isBeyond v_suffix v_steps v_fault v_hasProgram a_text a_act a_guess a_take a_begin a_finish a_to1 a_one a_two a_what a_ats a_atVar a_atNumber a_atomSort a_atomKind a_atomValue v_wrong v_wrongAt v_variable v_number v_numberKind v_takes a_out v_outed a_varSort a_varKind a_varValue a_creature v_creatures a_arrayClass_137 a_arrayFrom_137 a_arrayLong_137 v_arrays_137 v_cells_137 a_cellSort_137 a_cellKind_137 a_cellValue_137 a_asideSort a_asideKind a_asideValue a_outcome v_marks v_came v_guessed v_right v_taken a_markSort a_markKind a_markClass a_markValue v_sort_137 v_kindAt_137 v_value_137 a_index v_reached v_looked) H → va_D A (mw cs q v_thrown a_tape v_taped v_size v_to v_kind v_from v_letters v_letterMany v_digits v_isBeyond v_suffix v_steps v_fault v_hasProgram a_text a_act a_guess a_take a_begin a_finish a_to1 a_one a_two a_what a_ats a_atVar a_atNumber a_atomSort a_atomKind a_atomValue v_wrong v_wrongAt v_variable v_number v_numberKind v_takes a_out v_outed a_varSort a_varKind a_varValue a_creature v_creatures a_arrayClass_137 a_arrayFrom_137 a_arrayLong_137 v_arrays_137 v_cells_137 a_cellSort_137 a_cellKind_137 a_cellValue_137 a_asideSort a_asideKind a_asideValue a_outcome v_marks v_came v_guessed v_right v_taken a_markSort a_markKind a_markClass a_markValue v_sort_137 v_kindAt_137 v_value_137 a_index v_reached v_looked) → va_S A s.heap H locs → lv_has ls 16 [(0, .ref (q 0)), (1, .int s9), (8, .int r122), (9, .int l9_137), (10, .int l10_137), (11, .int l11_137)] → W p l e (headSpec (wG yX10_make cX10_make 16 (some .int)) rmX10_make).room s m ([.ref (q 0), .int s9] : List Value).toArray below meth c H locs 0 0 Q (F0 m 137 ls []) := by
                  intro n137
                  induction n137 with
                  | zero =>
                    intro l9_137 l10_137 l11_137 a_arrayClass_137 a_arrayFrom_137 a_arrayLong_137 v_arrays_137 a_cellKind_137 a_cellSort_137 a_cellValue_137 v_cells_137 v_kindAt_137 v_sort_137 v_value_137 H locs ls f137_0 f137_1 f137_2 f137_3 f137_4 f137_5 f137_6 f137_7 f137_8 f137_9 hm137
                    exfalso
                    omega
                  | succ n137 ih137 =>
                    intro l9_137 l10_137 l11_137 a_arrayClass_137 a_arrayFrom_137 a_arrayLong_137 v_arrays_137 a_cellKind_137 a_cellSort_137 a_cellValue_137 v_cells_137 v_kindAt_137 v_sort_137 v_value_137 H locs ls f137_0 f137_1 f137_2 f137_3 f137_4 f137_5 f137_6 f137_7 f137_8 f137_9 hm137 hP hD hS hl
                    refine lv_iload hx hb dX10_make_137 (lv_at hl 5 rfl) ?_
                    refine lv_aload_n hx hb dX10_make_139 rfl (lv_at hl 0 rfl) ?_
                    refine va_get (D := D) (ci := 9) (v := .ref (q 12)) (C := RX10) (T := TX10) (N := 71) hx hb hts hin hown hK hP 0 rfl rfl 25 (by decide) k_5_18 (fun _ h9 => h9) rfl dX10_make_140 ?_
                    refine lv_iload_n hx hb dX10_make_143 rfl (lv_at hl 1 rfl) ?_
                    refine m_iald hx hb hK hP 12 0 rfl rfl (ix (by omega) (by omega)) dX10_make_144 (fun x144 e_x144 => ?_)
                    have b_x144 := iB x144
                    have hx144 := congrArg Int32.toInt e_x144
                    have tk := tn (i := l11_137) (by omega)
                    have hr137 := f137_9.1
                    refine m_icmp_ge (X := l11_137.toInt) (Y := x144.toInt) (tgt := 264) hx hb dX10_make_145 (by decide) rfl rfl (fun c145 => ?_) (fun c145 => ?_)
                    · skip
                      have m3 := SA.mono hidx l11_137.toNatClampNeg 1 (by omega) (by omega)
                      rw [SA_one] at m3
                      refine lv_aload_n hx hb dX10_make_264 rfl (lv_at hl 0 rfl) ?_
                      refine lv_iconst (v := 3) hx hb dX10_make_265 (by decide) ?_
                      refine va_put (D := D) (ci := 9) (v := .int 3) (ty := .int) (C := RX10) (T := TX10) (N := 71) hx hb hts hin tyX10 tyX10_ok nmX10 hown hK hP hD hS 0 rfl rfl 65 (by decide) k_47_12 (fun _ h9 => h9) rfl (by decide +kernel) rfl rfl (Nat.le_of_ble_eq_true rfl) dX10_make_266 (fun H locs hP hD hS => ?_)
                      have hP : va_P D vwCl (mw cs q v_thrown a_tape v_taped v_size v_to v_kind v_from v_letters v_letterMany v_digits v_isBeyond v_suffix v_steps v_fault v_hasProgram a_text a_act a_guess a_take a_begin a_finish a_to1 a_one a_two a_what a_ats a_atVar a_atNumber a_atomSort a_atomKind a_atomValue v_wrong v_wrongAt v_variable v_number v_numberKind v_takes a_out v_outed a_varSort a_varKind a_varValue a_creature v_creatures a_arrayClass_137 a_arrayFrom_137 a_arrayLong_137 v_arrays_137 v_cells_137 a_cellSort_137 a_cellKind_137 a_cellValue_137 a_asideSort a_asideKind a_asideValue a_outcome v_marks v_came v_guessed v_right v_taken a_markSort a_markKind a_markClass a_markValue (3 : Int32) v_kindAt_137 v_value_137 a_index v_reached v_looked) H := hP
                      have hD : va_D A (mw cs q v_thrown a_tape v_taped v_size v_to v_kind v_from v_letters v_letterMany v_digits v_isBeyond v_suffix v_steps v_fault v_hasProgram a_text a_act a_guess a_take a_begin a_finish a_to1 a_one a_two a_what a_ats a_atVar a_atNumber a_atomSort a_atomKind a_atomValue v_wrong v_wrongAt v_variable v_number v_numberKind v_takes a_out v_outed a_varSort a_varKind a_varValue a_creature v_creatures a_arrayClass_137 a_arrayFrom_137 a_arrayLong_137 v_arrays_137 v_cells_137 a_cellSort_137 a_cellKind_137 a_cellValue_137 a_asideSort a_asideKind a_asideValue a_outcome v_marks v_came v_guessed v_right v_taken a_markSort a_markKind a_markClass a_markValue (3 : Int32) v_kindAt_137 v_value_137 a_index v_reached v_looked) := hD
                      refine lv_aload_n hx hb dX10_make_269 rfl (lv_at hl 0 rfl) ?_
                      refine lv_iconst (v := 0) hx hb dX10_make_270 (by decide) ?_
                      refine va_put (D := D) (ci := 9) (v := .int 0) (ty := .int) (C := RX10) (T := TX10) (N := 71) hx hb hts hin tyX10 tyX10_ok nmX10 hown hK hP hD hS 0 rfl rfl 66 (by decide) k_47_13 (fun _ h9 => h9) rfl (by decide +kernel) rfl rfl (Nat.le_of_ble_eq_true rfl) dX10_make_271 (fun H locs hP hD hS => ?_)
                      have hP : va_P D vwCl (mw cs q v_thrown a_tape v_taped v_size v_to v_kind v_from v_letters v_letterMany v_digits v_isBeyond v_suffix v_steps v_fault v_hasProgram a_text a_act a_guess a_take a_begin a_finish a_to1 a_one a_two a_what a_ats a_atVar a_atNumber a_atomSort a_atomKind a_atomValue v_wrong v_wrongAt v_variable v_number v_numberKind v_takes a_out v_outed a_varSort a_varKind a_varValue a_creature v_creatures a_arrayClass_137 a_arrayFrom_137 a_arrayLong_137 v_arrays_137 v_cells_137 a_cellSort_137 a_cellKind_137 a_cellValue_137 a_asideSort a_asideKind a_asideValue a_outcome v_marks v_came v_guessed v_right v_taken a_markSort a_markKind a_markClass a_markValue (3 : Int32) (0 : Int32) v_value_137 a_index v_reached v_looked) H := hP
                      have hD : va_D A (mw cs q v_thrown a_tape v_taped v_size v_to v_kind v_from v_letters v_letterMany v_digits v_isBeyond v_suffix v_steps v_fault v_hasProgram a_text a_act a_guess a_take a_begin a_finish a_to1 a_one a_two a_what a_ats a_atVar a_atNumber a_atomSort a_atomKind a_atomValue v_wrong v_wrongAt v_variable v_number v_numberKind v_takes a_out v_outed a_varSort a_varKind a_varValue a_creature v_creatures a_arrayClass_137 a_arrayFrom_137 a_arrayLong_137 v_arrays_137 v_cells_137 a_cellSort_137 a_cellKind_137 a_cellValue_137 a_asideSort a_asideKind a_asideValue a_outcome v_marks v_came v_guessed v_right v_taken a_markSort a_markKind a_markClass a_markValue (3 : Int32) (0 : Int32) v_value_137 a_index v_reached v_looked) := hD
                      refine lv_aload_n hx hb dX10_make_274 rfl (lv_at hl 0 rfl) ?_
                      refine lv_iload hx hb dX10_make_275 (lv_at hl 2 rfl) ?_
                      refine m_i2l (X := r122.toInt) hx hb dX10_make_277 rfl (fun x277 e_x277 g_x277 => ?_)
                      refine va_put (D := D) (ci := 9) (v := .long x277) (ty := .long) (C := RX10) (T := TX10) (N := 71) hx hb hts hin tyX10 tyX10_ok nmX10 hown hK hP hD hS 0 rfl rfl 67 (by decide) k_47_14 (fun _ h9 => h9) rfl (by decide +kernel) rfl rfl (Nat.le_of_ble_eq_true rfl) dX10_make_278 (fun H locs hP hD hS => ?_)
                      have hP : va_P D vwCl (mw cs q v_thrown a_tape v_taped v_size v_to v_kind v_from v_letters v_letterMany v_digits v_isBeyond v_suffix v_steps v_fault v_hasProgram a_text a_act a_guess a_take a_begin a_finish a_to1 a_one a_two a_what a_ats a_atVar a_atNumber a_atomSort a_atomKind a_atomValue v_wrong v_wrongAt v_variable v_number v_numberKind v_takes a_out v_outed a_varSort a_varKind a_varValue a_creature v_creatures a_arrayClass_137 a_arrayFrom_137 a_arrayLong_137 v_arrays_137 v_cells_137 a_cellSort_137 a_cellKind_137 a_cellValue_137 a_asideSort a_asideKind a_asideValue a_outcome v_marks v_came v_guessed v_right v_taken a_markSort a_markKind a_markClass a_markValue (3 : Int32) (0 : Int32) x277 a_index v_reached v_looked) H := hP
                      have hD : va_D A (mw cs q v_thrown a_tape v_taped v_size v_to v_kind v_from v_letters v_letterMany v_digits v_isBeyond v_suffix v_steps v_fault v_hasProgram a_text a_act a_guess a_take a_begin a_finish a_to1 a_one a_two a_what a_ats a_atVar a_atNumber a_atomSort a_atomKind a_atomValue v_wrong v_wrongAt v_variable v_number v_numberKind v_takes a_out v_outed a_varSort a_varKind a_varValue a_creature v_creatures a_arrayClass_137 a_arrayFrom_137 a_arrayLong_137 v_arrays_137 v_cells_137 a_cellSort_137 a_cellKind_137 a_cellValue_137 a_asideSort a_asideKind a_asideValue a_outcome v_marks v_came v_guessed v_right v_taken a_markSort a_markKind a_markClass a_markValue (3 : Int32) (0 : Int32) x277 a_index v_reached v_looked) := hD
                      refine lv_iconst (v := 0) hx hb dX10_make_281 (by decide) ?_
                      subst hAe
                      rw [hQ]
                      exact W.iret (v := 0) hx hb hr (fun t ht hW => ⟨⟨0, _, rfl, ⟨a_arrayClass_137, a_arrayFrom_137, a_arrayLong_137, v_arrays_137, v_cells_137, a_cellSort_137, a_cellKind_137, a_cellValue_137, (3 : Int32), (0 : Int32), x277, rfl, by first | assumption | omega | (intros; omega) | decide, by exact Or.inl ⟨by decide, ⟨⟨by decide, by decide⟩, fun _ => ⟨by omega, by omega⟩, fun q => absurd q (by decide), fun q => absurd q (by decide)⟩⟩⟩, by rw [ht]; exact hP, va_K.moved hW.alike hK, hD⟩, hS.F ht⟩) hS.2.2 dX10_make_282
                    · skip
                      have i1 := hidx (l11_137.toNatClampNeg - 1) (by omega)
                      have i2 := hidx l11_137.toNatClampNeg (by omega)
                      refine lv_aload_n hx hb dX10_make_148 rfl (lv_at hl 0 rfl) ?_
                      refine va_get (D := D) (ci := 9) (v := .int v_arrays_137) (C := RX10) (T := TX10) (N := 71) hx hb hts hin hown hK hP 0 rfl rfl 47 (by decide) k_31_4 (fun _ h9 => h9) rfl dX10_make_149 ?_
                      refine lv_istore (lv' := [(12, .int v_arrays_137), (0, .ref (q 0)), (1, .int s9), (8, .int r122), (9, .int l9_137), (10, .int l10_137), (11, .int l11_137)]) hx hb dX10_make_152 hl (by decide) rfl (fun ls hl => ?_)
                      refine lv_iload hx hb dX10_make_154 (lv_at hl 4 rfl) ?_
                      refine lv_istore (lv' := [(13, .int l9_137), (12, .int v_arrays_137), (0, .ref (q 0)), (1, .int s9), (8, .int r122), (9, .int l9_137), (10, .int l10_137), (11, .int l11_137)]) hx hb dX10_make_156 hl (by decide) rfl (fun ls hl => ?_)
                      have J158 : ∀ (n158 : Nat) (l13_158 : Int32) (a_arrayClass_158 : Nat → Int32) (a_arrayFrom_158 : Nat → Int32) (a_arrayLong_158 : Nat → Int32) (v_arrays_158 : Int32) (a_cellKind_158 : Nat → Int32) (a_cellSort_158 : Nat → Int32) (a_cellValue_158 : Nat → Int64) (v_cells_158 : Int32) (v_kindAt_158 : Int32) (v_sort_158 : Int32) (v_value_158 : Int64) (H : Heap) (locs : List Loc) (ls : Array Slot), (l9_137.toInt ≤ l13_158.toInt) → (l13_158.toInt ≤ l9_137.toInt + l10_137.toInt) → (v_arrays_158.toInt = v_arrays_137.toInt + (l13_158.toInt - l9_137.toInt) * (a_index (l11_137.toNatClampNeg - 1)).toInt) → (v_cells_158.toInt = v_cells_137.toInt + (l13_158.toInt - l9_137.toInt) * (a_index (l11_137.toNatClampNeg - 1)).toInt * (a_index l11_137.toNatClampNeg).toInt) → (LVL a_arrayClass_158 a_arrayLong_158 l9_137.toInt (l9_137.toInt + l10_137.toInt) ((a_what s9.toNatClampNeg).toInt - 20 * (l11_137.toInt - 1)) (a_index (l11_137.toNatClampNeg - 1))) → (LVL a_arrayClass_158 a_arrayLong_158 v_arrays_137.toInt v_arrays_158.toInt ((a_what s9.toNatClampNeg).toInt - 20 * l11_137.toInt) (a_index l11_137.toNatClampNeg)) → (RUN a_varSort a_varKind a_varValue v_arrays_158 v_cells_158 v_creatures a_arrayClass_158 a_arrayFrom_158 a_arrayLong_158 a_cellSort_158 a_cellKind_158 a_cellValue_158) → (l9_137.toInt + l10_137.toInt - l13_158.toInt < (n158 : Int)) → va_P D vwCl (mw cs q v_thrown a_tape v_taped v_size v_to v_kind v_from v_letters v_letterMany v_digits v_isBeyond v_suffix v_steps v_fault v_hasProgram a_text a_act a_guess a_take a_begin a_finish a_to1 a_one a_two a_what a_ats a_atVar a_atNumber a_atomSort a_atomKind a_atomValue v_wrong v_wrongAt v_variable v_number v_numberKind v_takes a_out v_outed a_varSort a_varKind a_varValue a_creature v_creatures a_arrayClass_158 a_arrayFrom_158 a_arrayLong_158 v_arrays_158 v_cells_158 a_cellSort_158 a_cellKind_158 a_cellValue_158 a_asideSort a_asideKind a_asideValue a_outcome v_marks v_came v_guessed v_right v_taken a_markSort a_markKind a_markClass a_markValue v_sort_158 v_kindAt_158 v_value_158 a_index v_reached v_looked) H → va_D A (mw cs q v_thrown a_tape v_taped v_size v_to v_kind v_from v_letters v_letterMany v_digits v_isBeyond v_suffix v_steps v_fault v_hasProgram a_text a_act a_guess a_take a_begin a_finish a_to1 a_one a_two a_what a_ats a_atVar a_atNumber a_atomSort a_atomKind a_atomValue v_wrong v_wrongAt v_variable v_number v_numberKind v_takes a_out v_outed a_varSort a_varKind a_varValue a_creature v_creatures a_arrayClass_158 a_arrayFrom_158 a_arrayLong_158 v_arrays_158 v_cells_158 a_cellSort_158 a_cellKind_158 a_cellValue_158 a_asideSort a_asideKind a_asideValue a_outcome v_marks v_came v_guessed v_right v_taken a_markSort a_markKind a_markClass a_markValue v_sort_158 v_kindAt_158 v_value_158 a_index v_reached v_looked) → va_S A s.heap H locs → lv_has ls 16 [(0, .ref (q 0)), (1, .int s9), (8, .int r122), (9, .int l9_137), (10, .int l10_137), (11, .int l11_137), (12, .int v_arrays_137), (13, .int l13_158)] → W p l e (headSpec (wG yX10_make cX10_make 16 (some .int)) rmX10_make).room s m ([.ref (q 0), .int s9] : List Value).toArray below meth c H locs 0 0 Q (F0 m 158 ls []) := by
                        intro n158
                        induction n158 with
                        | zero =>
                          intro l13_158 a_arrayClass_158 a_arrayFrom_158 a_arrayLong_158 v_arrays_158 a_cellKind_158 a_cellSort_158 a_cellValue_158 v_cells_158 v_kindAt_158 v_sort_158 v_value_158 H locs ls f158_0 f158_1 f158_2 f158_3 f158_4 f158_5 f158_6 hm158
                          exfalso
                          omega
                        | succ n158 ih158 =>
                          intro l13_158 a_arrayClass_158 a_arrayFrom_158 a_arrayLong_158 v_arrays_158 a_cellKind_158 a_cellSort_158 a_cellValue_158 v_cells_158 v_kindAt_158 v_sort_158 v_value_158 H locs ls f158_0 f158_1 f158_2 f158_3 f158_4 f158_5 f158_6 hm158 hP hD hS hl
                          refine lv_iload hx hb dX10_make_158 (lv_at hl 7 rfl) ?_
                          refine lv_iload hx hb dX10_make_160 (lv_at hl 3 rfl) ?_
                          refine lv_iload hx hb dX10_make_162 (lv_at hl 4 rfl) ?_
                          refine m_iadd (X := l9_137.toInt) (Y := l10_137.toInt) hx hb dX10_make_164 rfl rfl (fun x164 e_x164 g9 => ?_)
                          obtain ⟨k_x164, g_x164⟩ := g9
                          have b_x164 := iB x164
                          try (have q_x164 : x164.toInt = l9_137.toInt + l10_137.toInt := (by omega); clear g_x164 k_x164)
                          refine m_icmp_ge (X := l13_158.toInt) (Y := x164.toInt) (tgt := 245) hx hb dX10_make_165 (by decide) rfl rfl (fun c165 => ?_) (fun c165 => ?_)
                          · skip
                            have hd : l13_158.toInt - l9_137.toInt = l10_137.toInt := by omega
                            have ePR := PR_pred (f := a_index) (k := l11_137.toNatClampNeg) (by omega)
                            have eP2 : PR a_index (l11_137.toNatClampNeg + 1) = PR a_index l11_137.toNatClampNeg * (a_index l11_137.toNatClampNeg).toInt := rfl
                            rw [hd, f137_5, ← ePR] at f158_2
                            rw [hd, f137_5, ← ePR, ← eP2] at f158_3
                            have pn := PR.nn hidx l11_137.toNatClampNeg (by omega)
                            have hr158 := f158_6.1
                            refine lv_iload hx hb dX10_make_245 (lv_at hl 6 rfl) ?_
                            refine lv_istore (lv' := [(9, .int v_arrays_137), (0, .ref (q 0)), (1, .int s9), (8, .int r122), (10, .int l10_137), (11, .int l11_137), (12, .int v_arrays_137), (13, .int l13_158)]) hx hb dX10_make_247 hl (by decide) rfl (fun ls hl => ?_)
                            refine lv_aload_n hx hb dX10_make_249 rfl (lv_at hl 1 rfl) ?_
                            refine va_get (D := D) (ci := 9) (v := .int v_arrays_158) (C := RX10) (T := TX10) (N := 71) hx hb hts hin hown hK hP 0 rfl rfl 47 (by decide) k_31_4 (fun _ h9 => h9) rfl dX10_make_250 ?_
                            refine lv_iload hx hb dX10_make_253 (lv_at hl 6 rfl) ?_
                            refine m_isub (X := v_arrays_158.toInt) (Y := v_arrays_137.toInt) hx hb dX10_make_255 rfl rfl (fun x255 e_x255 g9 => ?_)
                            obtain ⟨k_x255, g_x255⟩ := g9
                            have b_x255 := iB x255
                            try (have q_x255 : x255.toInt = v_arrays_158.toInt - v_arrays_137.toInt := (by omega); clear g_x255 k_x255)
                            refine lv_istore (lv' := [(10, .int x255), (9, .int v_arrays_137), (0, .ref (q 0)), (1, .int s9), (8, .int r122), (11, .int l11_137), (12, .int v_arrays_137), (13, .int l13_158)]) hx hb dX10_make_256 hl (by decide) rfl (fun ls hl => ?_)
                            obtain ⟨x258, e_x258⟩ : ∃ z : Int32, z = l11_137 + (1 : Int32) := ⟨_, rfl⟩
                            obtain ⟨k_x258, g_x258⟩ : ∃ k : Int, x258.toInt = l11_137.toInt + (1) + k * 4294967296 := by rw [e_x258]; exact iAdd l11_137 (1)
                            have b_x258 := iB x258
                            try (have q_x258 : x258.toInt = l11_137.toInt + (1) := (by omega); clear g_x258 k_x258)
                            refine lv_iinc (v := x258) (lv' := [(11, .int x258), (10, .int x255), (9, .int v_arrays_137), (0, .ref (q 0)), (1, .int s9), (8, .int r122), (12, .int v_arrays_137), (13, .int l13_158)]) hx hb dX10_make_258 hl (k := 5) rfl (by rw [e_x258]; rfl) (by decide) rfl (fun ls hl => ?_)
                            refine lv_goto (tgt := 137) hx hb dX10_make_261 (by decide) ?_
                            exact ih137 v_arrays_137 x255 x258 a_arrayClass_158 a_arrayFrom_158 a_arrayLong_158 v_arrays_158 a_cellKind_158 a_cellSort_158 a_cellValue_158 v_cells_158 v_kindAt_158 v_sort_158 v_value_158 H locs ls (by first | assumption | omega | (intros; omega) | decide) (by first | assumption | omega | (intros; omega) | decide) (by first | assumption | omega | (intros; omega) | decide) (by first | assumption | omega | (intros; omega) | decide) (by first | assumption | omega | (intros; omega) | decide) (by first | rfl | (have t258 := tn (i := x258) (by omega); rw [show x258.toNatClampNeg - 1 = l11_137.toNatClampNeg by omega]; omega)) (by first | assumption | (have t258 := tn (i := x258) (by omega); rw [show x258.toNatClampNeg = l11_137.toNatClampNeg + 1 by omega]; show _ = _ + (SA _ _ + PR _ _); omega)) (by first | (rw [show (1 : Int32).toNatClampNeg = 1 from rfl, SC_one]; omega) | (have t258 := tn (i := x258) (by omega); rw [show x258.toNatClampNeg = l11_137.toNatClampNeg + 1 by omega]; show _ = _ + (SC _ _ + PR _ _); omega)) (by first | exact (LVL.nil (b := v_arrays.toInt) (by omega)).more (ar := v_arrays) (by omega) rfl (by omega) (by omega) e_x121 hw122_4 hw122_6 | (have t258 := tn (i := x258) (by omega); rw [show x258.toNatClampNeg - 1 = l11_137.toNatClampNeg by omega, show v_arrays_137.toInt + x255.toInt = v_arrays_158.toInt by omega, show x258.toInt - 1 = l11_137.toInt by omega]; exact f158_5)) (by first | assumption | omega | (intros; omega) | decide) (by omega) hP hD hS (lv_sub hl [3, 4, 5, 2, 1, 0] rfl)
                          · skip
                            have t13 := tn (i := l13_158) (by omega)
                            refine lv_iconst (v := 0) hx hb dX10_make_168 (by decide) ?_
                            refine lv_istore (lv' := [(14, .int 0), (0, .ref (q 0)), (1, .int s9), (8, .int r122), (9, .int l9_137), (10, .int l10_137), (11, .int l11_137), (12, .int v_arrays_137), (13, .int l13_158)]) hx hb dX10_make_169 hl (by decide) rfl (fun ls hl => ?_)
                            have J171 : ∀ (n171 : Nat) (l14_171 : Int32) (a_arrayClass_171 : Nat → Int32) (a_arrayFrom_171 : Nat → Int32) (a_arrayLong_171 : Nat → Int32) (v_arrays_171 : Int32) (a_cellKind_171 : Nat → Int32) (a_cellSort_171 : Nat → Int32) (a_cellValue_171 : Nat → Int64) (v_cells_171 : Int32) (v_kindAt_171 : Int32) (v_sort_171 : Int32) (v_value_171 : Int64) (H : Heap) (locs : List Loc) (ls : Array Slot), (0 ≤ l14_171.toInt) → (l14_171.toInt ≤ (a_index (l11_137.toNatClampNeg - 1)).toInt) → (v_arrays_171.toInt = v_arrays_137.toInt + (l13_158.toInt - l9_137.toInt) * (a_index (l11_137.toNatClampNeg - 1)).toInt + l14_171.toInt) → (v_cells_171.toInt = v_cells_137.toInt + ((l13_158.toInt - l9_137.toInt) * (a_index (l11_137.toNatClampNeg - 1)).toInt + l14_171.toInt) * (a_index l11_137.toNatClampNeg).toInt) → (LVL a_arrayClass_171 a_arrayLong_171 l9_137.toInt (l9_137.toInt + l10_137.toInt) ((a_what s9.toNatClampNeg).toInt - 20 * (l11_137.toInt - 1)) (a_index (l11_137.toNatClampNeg - 1))) → (LVL a_arrayClass_171 a_arrayLong_171 v_arrays_137.toInt v_arrays_171.toInt ((a_what s9.toNatClampNeg).toInt - 20 * l11_137.toInt) (a_index l11_137.toNatClampNeg)) → (RUN a_varSort a_varKind a_varValue v_arrays_171 v_cells_171 v_creatures a_arrayClass_171 a_arrayFrom_171 a_arrayLong_171 a_cellSort_171 a_cellKind_171 a_cellValue_171) → ((a_index (l11_137.toNatClampNeg - 1)).toInt - l14_171.toInt < (n171 : Int)) → va_P D vwCl (mw cs q v_thrown a_tape v_taped v_size v_to v_kind v_from v_letters v_letterMany v_digits v_isBeyond v_suffix v_steps v_fault v_hasProgram a_text a_act a_guess a_take a_begin a_finish a_to1 a_one a_two a_what a_ats a_atVar a_atNumber a_atomSort a_atomKind a_atomValue v_wrong v_wrongAt v_variable v_number v_numberKind v_takes a_out v_outed a_varSort a_varKind a_varValue a_creature v_creatures a_arrayClass_171 a_arrayFrom_171 a_arrayLong_171 v_arrays_171 v_cells_171 a_cellSort_171 a_cellKind_171 a_cellValue_171 a_asideSort a_asideKind a_asideValue a_outcome v_marks v_came v_guessed v_right v_taken a_markSort a_markKind a_markClass a_markValue v_sort_171 v_kindAt_171 v_value_171 a_index v_reached v_looked) H → va_D A (mw cs q v_thrown a_tape v_taped v_size v_to v_kind v_from v_letters v_letterMany v_digits v_isBeyond v_suffix v_steps v_fault v_hasProgram a_text a_act a_guess a_take a_begin a_finish a_to1 a_one a_two a_what a_ats a_atVar a_atNumber a_atomSort a_atomKind a_atomValue v_wrong v_wrongAt v_variable v_number v_numberKind v_takes a_out v_outed a_varSort a_varKind a_varValue a_creature v_creatures a_arrayClass_171 a_arrayFrom_171 a_arrayLong_171 v_arrays_171 v_cells_171 a_cellSort_171 a_cellKind_171 a_cellValue_171 a_asideSort a_asideKind a_asideValue a_outcome v_marks v_came v_guessed v_right v_taken a_markSort a_markKind a_markClass a_markValue v_sort_171 v_kindAt_171 v_value_171 a_index v_reached v_looked) → va_S A s.heap H locs → lv_has ls 16 [(0, .ref (q 0)), (1, .int s9), (8, .int r122), (9, .int l9_137), (10, .int l10_137), (11, .int l11_137), (12, .int v_arrays_137), (13, .int l13_158), (14, .int l14_171)] → W p l e (headSpec (wG yX10_make cX10_make 16 (some .int)) rmX10_make).room s m ([.ref (q 0), .int s9] : List Value).toArray below meth c H locs 0 0 Q (F0 m 171 ls []) := by
                              intro n171
                              induction n171 with
                              | zero =>
                                intro l14_171 a_arrayClass_171 a_arrayFrom_171 a_arrayLong_171 v_arrays_171 a_cellKind_171 a_cellSort_171 a_cellValue_171 v_cells_171 v_kindAt_171 v_sort_171 v_value_171 H locs ls f171_0 f171_1 f171_2 f171_3 f171_4 f171_5 f171_6 hm171
                                exfalso
                                omega
                              | succ n171 ih171 =>
                                intro l14_171 a_arrayClass_171 a_arrayFrom_171 a_arrayLong_171 v_arrays_171 a_cellKind_171 a_cellSort_171 a_cellValue_171 v_cells_171 v_kindAt_171 v_sort_171 v_value_171 H locs ls f171_0 f171_1 f171_2 f171_3 f171_4 f171_5 f171_6 hm171 hP hD hS hl
                                refine lv_iload hx hb dX10_make_171 (lv_at hl 8 rfl) ?_
                                refine lv_aload_n hx hb dX10_make_173 rfl (lv_at hl 0 rfl) ?_
                                refine va_get (D := D) (ci := 9) (v := .ref (q 25)) (C := RX10) (T := TX10) (N := 71) hx hb hts hin hown hK hP 0 rfl rfl 46 (by decide) k_6_7 (fun _ h9 => h9) rfl dX10_make_174 ?_
                                refine lv_iload hx hb dX10_make_177 (lv_at hl 7 rfl) ?_
                                refine m_iald hx hb hK hP 25 0 rfl rfl (ix (by omega) (by omega)) dX10_make_179 (fun x179 e_x179 => ?_)
                                have b_x179 := iB x179
                                have lv9 := f171_4 l13_158.toNatClampNeg (by omega) (by omega)
                                have hx179 : x179.toInt = (a_index (l11_137.toNatClampNeg - 1)).toInt := by rw [e_x179, lv9.2]
                                refine m_icmp_ge (X := l14_171.toInt) (Y := x179.toInt) (tgt := 239) hx hb dX10_make_180 (by decide) rfl rfl (fun c180 => ?_) (fun c180 => ?_)
                                · skip
                                  have hl14 : l14_171.toInt = (a_index (l11_137.toNatClampNeg - 1)).toInt := by omega
                                  obtain ⟨x239, e_x239⟩ : ∃ z : Int32, z = l13_158 + (1 : Int32) := ⟨_, rfl⟩
                                  obtain ⟨k_x239, g_x239⟩ : ∃ k : Int, x239.toInt = l13_158.toInt + (1) + k * 4294967296 := by rw [e_x239]; exact iAdd l13_158 (1)
                                  have b_x239 := iB x239
                                  try (have q_x239 : x239.toInt = l13_158.toInt + (1) := (by omega); clear g_x239 k_x239)
                                  refine lv_iinc (v := x239) (lv' := [(13, .int x239), (0, .ref (q 0)), (1, .int s9), (8, .int r122), (9, .int l9_137), (10, .int l10_137), (11, .int l11_137), (12, .int v_arrays_137), (14, .int l14_171)]) hx hb dX10_make_239 hl (k := 7) rfl (by rw [e_x239]; rfl) (by decide) rfl (fun ls hl => ?_)
                                  refine lv_goto (tgt := 158) hx hb dX10_make_242 (by decide) ?_
                                  exact ih158 x239 a_arrayClass_171 a_arrayFrom_171 a_arrayLong_171 v_arrays_171 a_cellKind_171 a_cellSort_171 a_cellValue_171 v_cells_171 v_kindAt_171 v_sort_171 v_value_171 H locs ls (by first | assumption | omega | (intros; omega) | decide) (by first | assumption | omega | (intros; omega) | decide) (by first | omega | (rw [show x239.toInt - l9_137.toInt = (l13_158.toInt - l9_137.toInt) + 1 by omega, Int.add_mul, Int.one_mul]; omega)) (by first | omega | (rw [show x239.toInt - l9_137.toInt = (l13_158.toInt - l9_137.toInt) + 1 by omega, Int.add_mul, Int.one_mul]; have q9 := f171_3; rw [hl14] at q9; exact q9)) (by first | assumption | omega | (intros; omega) | decide) (by first | assumption | exact LVL.nil (Int.le_refl _)) (by first | assumption | omega | (intros; omega) | decide) (by omega) hP hD hS (lv_sub hl [1, 2, 3, 4, 5, 6, 7, 0] rfl)
                                · skip
                                  obtain ⟨r0, r1, r2, r3, r4, r5, r6, r7, r8⟩ := mk_room (k := l11_137.toNatClampNeg) (n := (a_ats s9.toNatClampNeg).toNatClampNeg) (d := (l13_158.toInt - l9_137.toInt)) (m := l10_137.toInt) (l := l14_171.toInt) hidx (by omega) (by omega) (by omega) (by omega) f137_5 (by omega) (by omega) rfl
                                  have t14 := tn (i := l14_171) (by omega)
                                  refine lv_aload_n hx hb dX10_make_183 rfl (lv_at hl 0 rfl) ?_
                                  refine lv_aload_n hx hb dX10_make_184 rfl (lv_at hl 0 rfl) ?_
                                  refine va_get (D := D) (ci := 9) (v := .ref (q 11)) (C := RX10) (T := TX10) (N := 71) hx hb hts hin hown hK hP 0 rfl rfl 24 (by decide) k_5_17 (fun _ h9 => h9) rfl dX10_make_185 ?_
                                  refine lv_iload_n hx hb dX10_make_188 rfl (lv_at hl 1 rfl) ?_
                                  refine m_iald hx hb hK hP 11 0 rfl rfl (ix (by omega) (by omega)) dX10_make_189 (fun x189 e_x189 => ?_)
                                  have b_x189 := iB x189
                                  have hx189 := congrArg Int32.toInt e_x189
                                  refine lv_bipush (v := 20) hx hb dX10_make_190 (by decide) ?_
                                  refine lv_iload hx hb dX10_make_192 (lv_at hl 5 rfl) ?_
                                  refine m_imul (X := 20) (Y := l11_137.toInt) hx hb dX10_make_194 (by decide) rfl (fun x194 e_x194 g9 => ?_)
                                  obtain ⟨k_x194, g_x194⟩ := g9
                                  have b_x194 := iB x194
                                  try (have q_x194 : x194.toInt = 20 * l11_137.toInt := (by omega); clear g_x194 k_x194)
                                  refine m_isub (X := x189.toInt) (Y := x194.toInt) hx hb dX10_make_195 rfl rfl (fun x195 e_x195 g9 => ?_)
                                  obtain ⟨k_x195, g_x195⟩ := g9
                                  have b_x195 := iB x195
                                  try (have q_x195 : x195.toInt = x189.toInt - x194.toInt := (by omega); clear g_x195 k_x195)
                                  refine lv_aload_n hx hb dX10_make_196 rfl (lv_at hl 0 rfl) ?_
                                  refine va_get (D := D) (ci := 9) (v := .ref (q 37)) (C := RX10) (T := TX10) (N := 71) hx hb hts hin hown hK hP 0 rfl rfl 68 (by decide) k_6_19 (fun _ h9 => h9) rfl dX10_make_197 ?_
                                  refine lv_iload hx hb dX10_make_200 (lv_at hl 5 rfl) ?_
                                  refine m_iald hx hb hK hP 37 0 rfl rfl (ix (by omega) (by omega)) dX10_make_202 (fun x202 e_x202 => ?_)
                                  have b_x202 := iB x202
                                  have hx202 := congrArg Int32.toInt e_x202
                                  refine call_i (As := [.int x195, .int x202]) (rest := []) ⟨hx, hb, hml, hown, hts⟩ (tX10_newArray (l := l) x195 x202 (by first | assumption | omega | (intros; omega) | decide) (by first | assumption | omega | (intros; omega) | decide) (by first | assumption | omega | (intros; omega) | decide) (by first | assumption | omega | (intros; omega) | decide) (by first | assumption | omega | (intros; omega) | decide) (by first | assumption | omega | (intros; omega) | decide) (by first | assumption | omega | (intros; omega) | decide)) (cwV 2 hts (gV (wr50 _ (List.mem_of_getElem? (i := 22) rfl)) (wr50 _ (List.mem_of_getElem? (i := 23) rfl)) (wr51 _ (List.mem_of_getElem? (i := 0) rfl)) (wr1 _ (List.mem_of_getElem? (i := 5) rfl)) (wr51 _ (List.mem_of_getElem? (i := 1) rfl))) rfl rfl rfl (by decide +kernel) ⟨Nat.le_of_ble_eq_true rfl, Nat.le_of_ble_eq_true rfl⟩) (va_recv hK hP (ci := 9) (q0 := 0) rfl rfl) hK hP hD hE hS hA rfl hl.1 rfl (Nat.le_of_ble_eq_true rfl) dX10_make_203 ⟨Nat.le_of_ble_eq_true rfl, Nat.le_of_ble_eq_true rfl⟩ (fun r203 w9 H locs hw203 hP hD hS => ?_)
                                  obtain ⟨a_arrayClass_203, a_arrayFrom_203, a_arrayLong_203, v_arrays_203, v_cells_203, a_cellSort_203, a_cellKind_203, a_cellValue_203, v_sort_203, v_kindAt_203, v_value_203, rfl, hw203_0, hw203_1, hw203_2, hw203_3, hw203_4, hw203_5, hw203_6⟩ := hw203
                                  have b_v_arrays_203 := iB v_arrays_203
                                  have b_v_cells_203 := iB v_cells_203
                                  have b_v_sort_203 := iB v_sort_203
                                  have b_v_kindAt_203 := iB v_kindAt_203
                                  have b_v_value_203 := jB v_value_203
                                  have b_r203 := iB r203
                                  have hr203 := congrArg Int32.toInt hw203_1
                                  have hr203b := hw203_0.1
                                  obtain ⟨ao1, ao2, ao3, ao4⟩ := hw203_0.2.1 l13_158.toNatClampNeg (by omega)
                                  have lk := f171_4.keep (ar := v_arrays_171) (by omega) (by omega) hw203_4 hw203_6
                                  have lj := lk l13_158.toNatClampNeg (by omega) (by omega)
                                  have lj2 := congrArg Int32.toInt lj.2
                                  have lm := f171_5.more (ar := v_arrays_171) (b' := v_arrays_203.toInt) (by omega) rfl (by omega) (by omega) e_x202 hw203_4 hw203_6
                                  refine lv_istore (lv' := [(15, .int r203), (0, .ref (q 0)), (1, .int s9), (8, .int r122), (9, .int l9_137), (10, .int l10_137), (11, .int l11_137), (12, .int v_arrays_137), (13, .int l13_158), (14, .int l14_171)]) hx hb dX10_make_206 hl (by decide) rfl (fun ls hl => ?_)
                                  refine lv_aload_n hx hb dX10_make_208 rfl (lv_at hl 1 rfl) ?_
                                  refine lv_iconst (v := 3) hx hb dX10_make_209 (by decide) ?_
                                  refine va_put (D := D) (ci := 9) (v := .int 3) (ty := .int) (C := RX10) (T := TX10) (N := 71) hx hb hts hin tyX10 tyX10_ok nmX10 hown hK hP hD hS 0 rfl rfl 65 (by decide) k_47_12 (fun _ h9 => h9) rfl (by decide +kernel) rfl rfl (Nat.le_of_ble_eq_true rfl) dX10_make_210 (fun H locs hP hD hS => ?_)
                                  have hP : va_P D vwCl (mw cs q v_thrown a_tape v_taped v_size v_to v_kind v_from v_letters v_letterMany v_digits v_isBeyond v_suffix v_steps v_fault v_hasProgram a_text a_act a_guess a_take a_begin a_finish a_to1 a_one a_two a_what a_ats a_atVar a_atNumber a_atomSort a_atomKind a_atomValue v_wrong v_wrongAt v_variable v_number v_numberKind v_takes a_out v_outed a_varSort a_varKind a_varValue a_creature v_creatures a_arrayClass_203 a_arrayFrom_203 a_arrayLong_203 v_arrays_203 v_cells_203 a_cellSort_203 a_cellKind_203 a_cellValue_203 a_asideSort a_asideKind a_asideValue a_outcome v_marks v_came v_guessed v_right v_taken a_markSort a_markKind a_markClass a_markValue (3 : Int32) v_kindAt_203 v_value_203 a_index v_reached v_looked) H := hP
                                  have hD : va_D A (mw cs q v_thrown a_tape v_taped v_size v_to v_kind v_from v_letters v_letterMany v_digits v_isBeyond v_suffix v_steps v_fault v_hasProgram a_text a_act a_guess a_take a_begin a_finish a_to1 a_one a_two a_what a_ats a_atVar a_atNumber a_atomSort a_atomKind a_atomValue v_wrong v_wrongAt v_variable v_number v_numberKind v_takes a_out v_outed a_varSort a_varKind a_varValue a_creature v_creatures a_arrayClass_203 a_arrayFrom_203 a_arrayLong_203 v_arrays_203 v_cells_203 a_cellSort_203 a_cellKind_203 a_cellValue_203 a_asideSort a_asideKind a_asideValue a_outcome v_marks v_came v_guessed v_right v_taken a_markSort a_markKind a_markClass a_markValue (3 : Int32) v_kindAt_203 v_value_203 a_index v_reached v_looked) := hD
                                  refine lv_aload_n hx hb dX10_make_213 rfl (lv_at hl 1 rfl) ?_
                                  refine lv_iconst (v := 0) hx hb dX10_make_214 (by decide) ?_
                                  refine va_put (D := D) (ci := 9) (v := .int 0) (ty := .int) (C := RX10) (T := TX10) (N := 71) hx hb hts hin tyX10 tyX10_ok nmX10 hown hK hP hD hS 0 rfl rfl 66 (by decide) k_47_13 (fun _ h9 => h9) rfl (by decide +kernel) rfl rfl (Nat.le_of_ble_eq_true rfl) dX10_make_215 (fun H locs hP hD hS => ?_)
                                  have hP : va_P D vwCl (mw cs q v_thrown a_tape v_taped v_size v_to v_kind v_from v_letters v_letterMany v_digits v_isBeyond v_suffix v_steps v_fault v_hasProgram a_text a_act a_guess a_take a_begin a_finish a_to1 a_one a_two a_what a_ats a_atVar a_atNumber a_atomSort a_atomKind a_atomValue v_wrong v_wrongAt v_variable v_number v_numberKind v_takes a_out v_outed a_varSort a_varKind a_varValue a_creature v_creatures a_arrayClass_203 a_arrayFrom_203 a_arrayLong_203 v_arrays_203 v_cells_203 a_cellSort_203 a_cellKind_203 a_cellValue_203 a_asideSort a_asideKind a_asideValue a_outcome v_marks v_came v_guessed v_right v_taken a_markSort a_markKind a_markClass a_markValue (3 : Int32) (0 : Int32) v_value_203 a_index v_reached v_looked) H := hP
                                  have hD : va_D A (mw cs q v_thrown a_tape v_taped v_size v_to v_kind v_from v_letters v_letterMany v_digits v_isBeyond v_suffix v_steps v_fault v_hasProgram a_text a_act a_guess a_take a_begin a_finish a_to1 a_one a_two a_what a_ats a_atVar a_atNumber a_atomSort a_atomKind a_atomValue v_wrong v_wrongAt v_variable v_number v_numberKind v_takes a_out v_outed a_varSort a_varKind a_varValue a_creature v_creatures a_arrayClass_203 a_arrayFrom_203 a_arrayLong_203 v_arrays_203 v_cells_203 a_cellSort_203 a_cellKind_203 a_cellValue_203 a_asideSort a_asideKind a_asideValue a_outcome v_marks v_came v_guessed v_right v_taken a_markSort a_markKind a_markClass a_markValue (3 : Int32) (0 : Int32) v_value_203 a_index v_reached v_looked) := hD
                                  refine lv_aload_n hx hb dX10_make_218 rfl (lv_at hl 1 rfl) ?_
                                  refine lv_iload hx hb dX10_make_219 (lv_at hl 0 rfl) ?_
                                  refine m_i2l (X := r203.toInt) hx hb dX10_make_221 rfl (fun x221 e_x221 g_x221 => ?_)
                                  refine va_put (D := D) (ci := 9) (v := .long x221) (ty := .long) (C := RX10) (T := TX10) (N := 71) hx hb hts hin tyX10 tyX10_ok nmX10 hown hK hP hD hS 0 rfl rfl 67 (by decide) k_47_14 (fun _ h9 => h9) rfl (by decide +kernel) rfl rfl (Nat.le_of_ble_eq_true rfl) dX10_make_222 (fun H locs hP hD hS => ?_)
                                  have hP : va_P D vwCl (mw cs q v_thrown a_tape v_taped v_size v_to v_kind v_from v_letters v_letterMany v_digits v_isBeyond v_suffix v_steps v_fault v_hasProgram a_text a_act a_guess a_take a_begin a_finish a_to1 a_one a_two a_what a_ats a_atVar a_atNumber a_atomSort a_atomKind a_atomValue v_wrong v_wrongAt v_variable v_number v_numberKind v_takes a_out v_outed a_varSort a_varKind a_varValue a_creature v_creatures a_arrayClass_203 a_arrayFrom_203 a_arrayLong_203 v_arrays_203 v_cells_203 a_cellSort_203 a_cellKind_203 a_cellValue_203 a_asideSort a_asideKind a_asideValue a_outcome v_marks v_came v_guessed v_right v_taken a_markSort a_markKind a_markClass a_markValue (3 : Int32) (0 : Int32) x221 a_index v_reached v_looked) H := hP
                                  have hD : va_D A (mw cs q v_thrown a_tape v_taped v_size v_to v_kind v_from v_letters v_letterMany v_digits v_isBeyond v_suffix v_steps v_fault v_hasProgram a_text a_act a_guess a_take a_begin a_finish a_to1 a_one a_two a_what a_ats a_atVar a_atNumber a_atomSort a_atomKind a_atomValue v_wrong v_wrongAt v_variable v_number v_numberKind v_takes a_out v_outed a_varSort a_varKind a_varValue a_creature v_creatures a_arrayClass_203 a_arrayFrom_203 a_arrayLong_203 v_arrays_203 v_cells_203 a_cellSort_203 a_cellKind_203 a_cellValue_203 a_asideSort a_asideKind a_asideValue a_outcome v_marks v_came v_guessed v_right v_taken a_markSort a_markKind a_markClass a_markValue (3 : Int32) (0 : Int32) x221 a_index v_reached v_looked) := hD
                                  refine lv_aload_n hx hb dX10_make_225 rfl (lv_at hl 1 rfl) ?_
                                  refine lv_iload hx hb dX10_make_226 (lv_at hl 8 rfl) ?_
                                  refine lv_iload hx hb dX10_make_228 (lv_at hl 9 rfl) ?_
                                  refine call_v (As := [.int l13_158, .int l14_171]) (rest := []) ⟨hx, hb, hml, hown, hts⟩ (tX10_toCell (l := l) l13_158 l14_171 (by first | assumption | omega | (intros; omega) | decide) (by first | assumption | omega | (intros; omega) | decide) (by first | assumption | omega | (intros; omega) | decide) (by first | assumption | omega | (intros; omega) | decide) (by first | assumption | omega | (intros; omega) | decide)) (cwV 2 hts (gV (wr50 _ (List.mem_of_getElem? (i := 7) rfl)) (wr50 _ (List.mem_of_getElem? (i := 8) rfl)) (wr50 _ (List.mem_of_getElem? (i := 9) rfl)) (wr1 _ (List.mem_of_getElem? (i := 5) rfl)) (wr50 _ (List.mem_of_getElem? (i := 10) rfl))) rfl rfl rfl (by decide +kernel) ⟨Nat.le_of_ble_eq_true rfl, Nat.le_of_ble_eq_true rfl⟩) (va_recv hK hP (ci := 9) (q0 := 0) rfl rfl) hK hP hD hE hS hA rfl hl.1 rfl (Nat.le_of_ble_eq_true rfl) dX10_make_230 ⟨Nat.le_of_ble_eq_true rfl, Nat.le_of_ble_eq_true rfl⟩ (fun w9 H locs hw230 hP hD hS => ?_)
                                  obtain ⟨a_cellSort_230, a_cellKind_230, a_cellValue_230, rfl, hw230_0, hw230_1, hw230_2⟩ := hw230
                                  obtain ⟨x233, e_x233⟩ : ∃ z : Int32, z = l14_171 + (1 : Int32) := ⟨_, rfl⟩
                                  obtain ⟨k_x233, g_x233⟩ : ∃ k : Int, x233.toInt = l14_171.toInt + (1) + k * 4294967296 := by rw [e_x233]; exact iAdd l14_171 (1)
                                  have b_x233 := iB x233
                                  try (have q_x233 : x233.toInt = l14_171.toInt + (1) := (by omega); clear g_x233 k_x233)
                                  refine lv_iinc (v := x233) (lv' := [(14, .int x233), (15, .int r203), (0, .ref (q 0)), (1, .int s9), (8, .int r122), (9, .int l9_137), (10, .int l10_137), (11, .int l11_137), (12, .int v_arrays_137), (13, .int l13_158)]) hx hb dX10_make_233 hl (k := 9) rfl (by rw [e_x233]; rfl) (by decide) rfl (fun ls hl => ?_)
                                  refine lv_goto (tgt := 171) hx hb dX10_make_236 (by decide) ?_
                                  exact ih171 x233 a_arrayClass_203 a_arrayFrom_203 a_arrayLong_203 v_arrays_203 a_cellKind_230 a_cellSort_230 a_cellValue_230 v_cells_203 (0 : Int32) (3 : Int32) x221 H locs ls (by first | assumption | omega | (intros; omega) | decide) (by first | assumption | omega | (intros; omega) | decide) (by first | assumption | omega | (intros; omega) | decide) (by first | (rw [kc0, Int.add_zero]; exact f158_3) | (rw [show (l13_158.toInt - l9_137.toInt) * (a_index (l11_137.toNatClampNeg - 1)).toInt + x233.toInt = (l13_158.toInt - l9_137.toInt) * (a_index (l11_137.toNatClampNeg - 1)).toInt + l14_171.toInt + 1 by omega, r6]; omega)) (by first | exact lk | assumption) (by first | exact lm | assumption) (by first | exact hw203_0.setCell (a := l13_158.toNatClampNeg) (i := l14_171.toNatClampNeg) (by omega) (by omega) rfl ⟨⟨by decide, by decide⟩, fun _ => ⟨by omega, by omega⟩, fun q => absurd q (by decide), fun q => absurd q (by decide)⟩ (fun _ => by have z1 := (lm x221.toInt.toNat (by omega) (by omega)).1; have z2 := lj.1; omega) (fun q => by have z2 := lj.1; omega) hw230_0 hw230_1 hw230_2 | assumption) (by omega) hP hD hS (lv_sub hl [2, 3, 4, 5, 6, 7, 8, 9, 0] rfl)
                            exact J171 (((a_index (l11_137.toNatClampNeg - 1)).toInt - (0 : Int32).toInt).toNat + 1) (0 : Int32) a_arrayClass_158 a_arrayFrom_158 a_arrayLong_158 v_arrays_158 a_cellKind_158 a_cellSort_158 a_cellValue_158 v_cells_158 v_kindAt_158 v_sort_158 v_value_158 H locs ls (by first | assumption | omega | (intros; omega) | decide) (by first | assumption | omega | (intros; omega) | decide) (by first | assumption | omega | (intros; omega) | decide) (by first | (rw [kc0, Int.add_zero]; exact f158_3) | (rw [show (l13_158.toInt - l9_137.toInt) * (a_index (l11_137.toNatClampNeg - 1)).toInt + x233.toInt = (l13_158.toInt - l9_137.toInt) * (a_index (l11_137.toNatClampNeg - 1)).toInt + l14_171.toInt + 1 by omega, r6]; omega)) (by first | exact lk | assumption) (by first | exact lm | assumption) (by first | exact hw203_0.setCell (a := l13_158.toNatClampNeg) (i := l14_171.toNatClampNeg) (by omega) (by omega) rfl ⟨⟨by decide, by decide⟩, fun _ => ⟨by omega, by omega⟩, fun q => absurd q (by decide), fun q => absurd q (by decide)⟩ (fun _ => by have z1 := (lm x221.toInt.toNat (by omega) (by omega)).1; have z2 := lj.1; omega) (fun q => by have z2 := lj.1; omega) hw230_0 hw230_1 hw230_2 | assumption) (by omega) hP hD hS (lv_sub hl [1, 2, 3, 4, 5, 6, 7, 8, 0] rfl)
                      exact J158 ((l9_137.toInt + l10_137.toInt - l9_137.toInt).toNat + 1) l9_137 a_arrayClass_137 a_arrayFrom_137 a_arrayLong_137 v_arrays_137 a_cellKind_137 a_cellSort_137 a_cellValue_137 v_cells_137 v_kindAt_137 v_sort_137 v_value_137 H locs ls (by first | assumption | omega | (intros; omega) | decide) (by first | assumption | omega | (intros; omega) | decide) (by first | omega | (rw [show x239.toInt - l9_137.toInt = (l13_158.toInt - l9_137.toInt) + 1 by omega, Int.add_mul, Int.one_mul]; omega)) (by first | omega | (rw [show x239.toInt - l9_137.toInt = (l13_158.toInt - l9_137.toInt) + 1 by omega, Int.add_mul, Int.one_mul]; have q9 := f171_3; rw [hl14] at q9; exact q9)) (by first | assumption | omega | (intros; omega) | decide) (by first | assumption | exact LVL.nil (Int.le_refl _)) (by first | assumption | omega | (intros; omega) | decide) (by omega) hP hD hS (lv_sub hl [2, 3, 4, 5, 6, 7, 1, 0] rfl)
                exact J137 ((3 - (1 : Int32).toInt).toNat + 1) r122 (1 : Int32) (1 : Int32) a_arrayClass_122 a_arrayFrom_122 a_arrayLong_122 v_arrays_122 a_cellKind_122 a_cellSort_122 a_cellValue_122 v_cells_122 v_kindAt_122 v_sort_122 v_value_122 H locs ls (by first | assumption | omega | (intros; omega) | decide) (by first | assumption | omega | (intros; omega) | decide) (by first | assumption | omega | (intros; omega) | decide) (by first | assumption | omega | (intros; omega) | decide) (by first | assumption | omega | (intros; omega) | decide) (by first | rfl | (have t258 := tn (i := x258) (by omega); rw [show x258.toNatClampNeg - 1 = l11_137.toNatClampNeg by omega]; omega)) (by first | assumption | (have t258 := tn (i := x258) (by omega); rw [show x258.toNatClampNeg = l11_137.toNatClampNeg + 1 by omega]; show _ = _ + (SA _ _ + PR _ _); omega)) (by first | (rw [show (1 : Int32).toNatClampNeg = 1 from rfl, SC_one]; omega) | (have t258 := tn (i := x258) (by omega); rw [show x258.toNatClampNeg = l11_137.toNatClampNeg + 1 by omega]; show _ = _ + (SC _ _ + PR _ _); omega)) (by first | exact (LVL.nil (b := v_arrays.toInt) (by omega)).more (ar := v_arrays) (by omega) rfl (by omega) (by omega) e_x121 hw122_4 hw122_6 | (have t258 := tn (i := x258) (by omega); rw [show x258.toNatClampNeg - 1 = l11_137.toNatClampNeg by omega, show v_arrays_137.toInt + x255.toInt = v_arrays_158.toInt by omega, show x258.toInt - 1 = l11_137.toInt by omega]; exact f158_5)) (by first | assumption | omega | (intros; omega) | decide) (by omega) hP hD hS (lv_sub hl [4, 5, 3, 2, 1, 0] rfl)
              · skip
                refine lv_bipush (v := 7) hx hb dX10_make_106 (by decide) ?_
                subst hAe
                rw [hQ]
                exact W.iret (v := 7) hx hb hr (fun t ht hW => ⟨⟨7, _, rfl, ⟨a_arrayClass, a_arrayFrom, a_arrayLong, v_arrays, v_cells, a_cellSort, a_cellKind, a_cellValue, v_sort, v_kindAt, v_value, rfl, by first | assumption | omega | (intros; omega) | decide, by first | assumption | omega | (intros; omega) | decide⟩, by rw [ht]; exact hP, va_K.moved hW.alike hK, hD⟩, hS.F ht⟩) hS.2.2 dX10_make_108
            · skip
              refine lv_lload hx hb dX10_make_54 (lv_at hl 4 rfl) ?_
              refine lv_lload hx hb dX10_make_56 (lv_at hl 3 rfl) ?_
              refine m_ladd (X := l6_43.toInt) (Y := l4_43.toInt) hx hb dX10_make_58 rfl rfl (fun x58 e_x58 g9 => ?_)
              obtain ⟨k_x58, g_x58⟩ := g9
              have b_x58 := jB x58
              try (have q_x58 : x58.toInt = l6_43.toInt + l4_43.toInt := (by omega); clear g_x58 k_x58)
              refine lv_lstore (lv' := [(6, .long x58), (0, .ref (q 0)), (1, .int s9), (2, .long l2_43), (4, .long l4_43), (8, .int l8_43)]) hx hb dX10_make_59 hl (by decide) rfl (fun ls hl => ?_)
              refine lv_lload hx hb dX10_make_61 (lv_at hl 4 rfl) ?_
              refine lv_aload_n hx hb dX10_make_63 rfl (lv_at hl 1 rfl) ?_
              refine va_get (D := D) (ci := 9) (v := .ref (q 37)) (C := RX10) (T := TX10) (N := 71) hx hb hts hin hown hK hP 0 rfl rfl 68 (by decide) k_6_19 (fun _ h9 => h9) rfl dX10_make_64 ?_
              refine lv_iload hx hb dX10_make_67 (lv_at hl 5 rfl) ?_
              refine m_iald hx hb hK hP 37 0 rfl rfl (ix (by omega) (by omega)) dX10_make_69 (fun x69 e_x69 => ?_)
              have b_x69 := iB x69
              have hx69 := congrArg Int32.toInt e_x69
              have b69 := iB x69
              have hi8 := hidx l8_43.toNatClampNeg (by omega)
              refine m_i2l (X := x69.toInt) hx hb dX10_make_70 rfl (fun x70 e_x70 g_x70 => ?_)
              refine m_lmul hx hb dX10_make_71 rfl rfl (fun x71 e_x71 g9 => ?_)
              clear g9
              have b_x71 := jB x71
              obtain ⟨hx71, hx71b, hx71c⟩ := lmulT e_x71 (by omega) (by omega) (by omega) (by omega)
              refine lv_lstore (lv' := [(4, .long x71), (6, .long x58), (0, .ref (q 0)), (1, .int s9), (2, .long l2_43), (8, .int l8_43)]) hx hb dX10_make_72 hl (by decide) rfl (fun ls hl => ?_)
              refine lv_lload_n hx hb dX10_make_74 rfl (lv_at hl 4 rfl) ?_
              refine lv_lload hx hb dX10_make_75 (lv_at hl 0 rfl) ?_
              refine m_ladd (X := l2_43.toInt) (Y := x71.toInt) hx hb dX10_make_77 rfl rfl (fun x77 e_x77 g9 => ?_)
              obtain ⟨k_x77, g_x77⟩ := g9
              have b_x77 := jB x77
              try (have q_x77 : x77.toInt = l2_43.toInt + x71.toInt := (by omega); clear g_x77 k_x77)
              refine lv_lstore_n (lv' := [(2, .long x77), (4, .long x71), (6, .long x58), (0, .ref (q 0)), (1, .int s9), (8, .int l8_43)]) hx hb dX10_make_78 rfl hl (by decide) rfl (fun ls hl => ?_)
              refine lv_lload_n hx hb dX10_make_79 rfl (lv_at hl 0 rfl) ?_
              refine lv_ldc2 (v := 500) hx hb hown k_50_15 dX10_make_80 ?_
              refine m_lcmp (X := x77.toInt) (Y := 500) hx hb dX10_make_83 rfl (by decide) (fun x83 g_x83 => ?_)
              refine m_if_le (X := x83.toInt) (tgt := 90) hx hb dX10_make_84 (by decide) rfl (fun c84 => ?_) (fun c84 => ?_)
              · skip
                obtain ⟨x90, e_x90⟩ : ∃ z : Int32, z = l8_43 + (1 : Int32) := ⟨_, rfl⟩
                obtain ⟨k_x90, g_x90⟩ : ∃ k : Int, x90.toInt = l8_43.toInt + (1) + k * 4294967296 := by rw [e_x90]; exact iAdd l8_43 (1)
                have b_x90 := iB x90
                try (have q_x90 : x90.toInt = l8_43.toInt + (1) := (by omega); clear g_x90 k_x90)
                refine lv_iinc (v := x90) (lv' := [(8, .int x90), (2, .long x77), (4, .long x71), (6, .long x58), (0, .ref (q 0)), (1, .int s9)]) hx hb dX10_make_90 hl (k := 5) rfl (by rw [e_x90]; rfl) (by decide) rfl (fun ls hl => ?_)
                refine lv_goto (tgt := 43) hx hb dX10_make_93 (by decide) ?_
                exact ih43 x77 x71 x58 x90 H locs ls (by first | assumption | omega | (intros; omega) | decide) (by first | assumption | omega | (intros; omega) | decide) (by first | rfl | (have t90 := tn (i := x90) (by omega); rw [show x90.toNatClampNeg = l8_43.toNatClampNeg + 1 by omega, hx71, g_x70, hx69, f43_2]; rfl)) (by first | rfl | (have t90 := tn (i := x90) (by omega); rw [show x90.toNatClampNeg = l8_43.toNatClampNeg + 1 by omega, q_x58, f43_3, f43_2]; rfl)) (by first | rfl | (have t90 := tn (i := x90) (by omega); rw [show x90.toNatClampNeg = l8_43.toNatClampNeg + 1 by omega, q_x77, f43_4, hx71, g_x70, hx69, f43_2]; rfl)) (by first | assumption | omega | (intros; omega) | decide) (by first | assumption | omega | (intros; omega) | decide) (by first | assumption | omega | (intros; omega) | decide) (by first | assumption | omega | (intros; omega) | decide) (by first | assumption | omega | (intros; omega) | decide) (by first | assumption | omega | (intros; omega) | decide) (by omega) hP hD hS (lv_sub hl [4, 5, 1, 2, 3, 0] rfl)
              · skip
                refine lv_bipush (v := 7) hx hb dX10_make_87 (by decide) ?_
                subst hAe
                rw [hQ]
                exact W.iret (v := 7) hx hb hr (fun t ht hW => ⟨⟨7, _, rfl, ⟨a_arrayClass, a_arrayFrom, a_arrayLong, v_arrays, v_cells, a_cellSort, a_cellKind, a_cellValue, v_sort, v_kindAt, v_value, rfl, by first | assumption | omega | (intros; omega) | decide, by first | assumption | omega | (intros; omega) | decide⟩, by rw [ht]; exact hP, va_K.moved hW.alike hK, hD⟩, hS.F ht⟩) hS.2.2 dX10_make_89
        exact J43 ((3 - (0 : Int32).toInt).toNat + 1) (0 : Int64) (1 : Int64) (0 : Int64) (0 : Int32) H locs ls (by first | assumption | omega | (intros; omega) | decide) (by first | assumption | omega | (intros; omega) | decide) (by first | rfl | (have t90 := tn (i := x90) (by omega); rw [show x90.toNatClampNeg = l8_43.toNatClampNeg + 1 by omega, hx71, g_x70, hx69, f43_2]; rfl)) (by first | rfl | (have t90 := tn (i := x90) (by omega); rw [show x90.toNatClampNeg = l8_43.toNatClampNeg + 1 by omega, q_x58, f43_3, f43_2]; rfl)) (by first | rfl | (have t90 := tn (i := x90) (by omega); rw [show x90.toNatClampNeg = l8_43.toNatClampNeg + 1 by omega, q_x77, f43_4, hx71, g_x70, hx69, f43_2]; rfl)) (by first | assumption | omega | (intros; omega) | decide) (by first | assumption | omega | (intros; omega) | decide) (by first | assumption | omega | (intros; omega) | decide) (by first | assumption | omega | (intros; omega) | decide) (by first | assumption | omega | (intros; omega) | decide) (by first | assumption | omega | (intros; omega) | decide) (by omega) hP hD hS (lv_sub hl [1, 2, 3, 4, 5, 0] rfl)
      · skip
        refine lv_aload_n hx hb dX10_make_22 rfl (lv_at hl 0 rfl) ?_
        refine va_get (D := D) (ci := 9) (v := .ref (q 37)) (C := RX10) (T := TX10) (N := 71) hx hb hts hin hown hK hP 0 rfl rfl 68 (by decide) k_6_19 (fun _ h9 => h9) rfl dX10_make_23 ?_
        refine lv_iload hx hb dX10_make_26 (lv_at hl 5 rfl) ?_
        refine m_iald hx hb hK hP 37 0 rfl rfl (ix (by omega) (by omega)) dX10_make_28 (fun x28 e_x28 => ?_)
        have b_x28 := iB x28
        refine m_if_ge (X := x28.toInt) (tgt := 34) hx hb dX10_make_29 (by decide) rfl (fun c29 => ?_) (fun c29 => ?_)
        · skip
          have t8 := tn (i := l8_11) (by omega)
          have hx28 := congrArg Int32.toInt e_x28
          obtain ⟨x34, e_x34⟩ : ∃ z : Int32, z = l8_11 + (1 : Int32) := ⟨_, rfl⟩
          obtain ⟨k_x34, g_x34⟩ : ∃ k : Int, x34.toInt = l8_11.toInt + (1) + k * 4294967296 := by rw [e_x34]; exact iAdd l8_11 (1)
          have b_x34 := iB x34
          try (have q_x34 : x34.toInt = l8_11.toInt + (1) := (by omega); clear g_x34 k_x34)
          refine lv_iinc (v := x34) (lv' := [(8, .int x34), (0, .ref (q 0)), (1, .int s9), (2, .long 0), (4, .long 1), (6, .long 0)]) hx hb dX10_make_34 hl (k := 5) rfl (by rw [e_x34]; rfl) (by decide) rfl (fun ls hl => ?_)
          refine lv_goto (tgt := 11) hx hb dX10_make_37 (by decide) ?_
          exact ih11 x34 H locs ls (by first | assumption | omega | (intros; omega) | decide) (by first | assumption | omega | (intros; omega) | decide) (by first | (intros; omega) | (intro j hj; by_cases q9 : j = l8_11.toNatClampNeg; (rw [q9]; omega); exact f11_2 j (by omega))) (by omega) hP hD hS (lv_sub hl [1, 2, 3, 4, 5, 0] rfl)
        · skip
          refine lv_iconst (v := 3) hx hb dX10_make_32 (by decide) ?_
          subst hAe
          rw [hQ]
          exact W.iret (v := 3) hx hb hr (fun t ht hW => ⟨⟨3, _, rfl, ⟨a_arrayClass, a_arrayFrom, a_arrayLong, v_arrays, v_cells, a_cellSort, a_cellKind, a_cellValue, v_sort, v_kindAt, v_value, rfl, by first | assumption | omega | (intros; omega) | decide, by first | assumption | omega | (intros; omega) | decide⟩, by rw [ht]; exact hP, va_K.moved hW.alike hK, hD⟩, hS.F ht⟩) hS.2.2 dX10_make_33
  exact J11 ((3 - (0 : Int32).toInt).toNat + 1) (0 : Int32) H locs ls (by first | assumption | omega | (intros; omega) | decide) (by first | assumption | omega | (intros; omega) | decide) (by first | (intros; omega) | (intro j hj; by_cases q9 : j = l8_11.toNatClampNeg; (rw [q9]; omega); exact f11_2 j (by omega))) (by omega) hP hD hS (lv_sub hl [4, 5, 3, 2, 1, 0] rfl)
