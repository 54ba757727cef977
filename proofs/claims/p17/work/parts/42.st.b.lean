def rmX7_empty : Room := { frames := 20, cells := 0, slots := 0, locals := 400 }
set_option maxHeartbeats 4000000 in
set_option maxRecDepth 100000 in
theorem tX7_empty {l : Launch} {D : va_G} {K : Nat → Nat → Nat} {cs : Nat → ClassId} {q : Nat → Nat} {v_t_tapeSize v_t_textSize v_t_faultKind v_g_size v_h_size v_r_takes v_r_negative v_r_namePlace v_r_faultKind v_r_faultPlace v_a_size v_a_limit v_a_digits v_a_kind v_a_from v_a_to v_o_size v_b_size v_b_limit v_b_digits v_b_kind v_b_from v_b_to v_u_marksMade v_u_came v_u_guesses v_u_right v_u_taken v_s_things v_s_looked v_s_lookedTooOften v_s_arraysMade v_s_cellsMade : Int32} {a_t_tape a_t_text a_o_out a_u_outcomes a_u_indexes a_s_classes a_s_starts a_s_lengths a_vc : Nat → Int32} {a_g_beyond a_h_beyond a_r_scratch a_r_now a_u_atom a_u_other a_u_hand : Nat} {a_g_steps a_h_steps a_u_vars a_u_marks : Nat → Option Nat} {a_s_cells a_vd a_sj : Nat → Int64} {a_L : List Nat} {a_K a_iv a_inn : Nat → Nat} {a_si a_ac : Nat → Nat → Int32} (p_0 : STO v_s_things v_s_cellsMade a_s_starts a_s_lengths) : CtV l yX7_empty (wG yX7_empty cX7_empty 1 none) rmX7_empty D (twT cs) K [.ref (q 17)] (tw cs q v_t_tapeSize v_t_textSize v_t_faultKind a_t_tape a_t_text a_g_beyond v_g_size a_g_steps a_h_beyond v_h_size a_h_steps a_r_scratch a_r_now v_r_takes v_r_negative v_r_namePlace v_r_faultKind v_r_faultPlace v_a_size v_a_limit v_a_digits v_a_kind v_a_from v_a_to v_o_size a_o_out v_b_size v_b_limit v_b_digits v_b_kind v_b_from v_b_to a_u_atom a_u_other a_u_hand v_u_marksMade v_u_came v_u_guesses v_u_right v_u_taken a_u_vars a_u_marks a_u_outcomes a_u_indexes v_s_things v_s_looked v_s_lookedTooOften v_s_arraysMade v_s_cellsMade a_s_classes a_s_starts a_s_lengths a_s_cells a_L a_K a_vc a_vd a_si a_sj a_iv a_inn a_ac) (fun w1 => ∃ (v_s_things' : Int32) (v_s_arraysMade' : Int32) (v_s_cellsMade' : Int32), w1 = (tw cs q v_t_tapeSize v_t_textSize v_t_faultKind a_t_tape a_t_text a_g_beyond v_g_size a_g_steps a_h_beyond v_h_size a_h_steps a_r_scratch a_r_now v_r_takes v_r_negative v_r_namePlace v_r_faultKind v_r_faultPlace v_a_size v_a_limit v_a_digits v_a_kind v_a_from v_a_to v_o_size a_o_out v_b_size v_b_limit v_b_digits v_b_kind v_b_from v_b_to a_u_atom a_u_other a_u_hand v_u_marksMade v_u_came v_u_guesses v_u_right v_u_taken a_u_vars a_u_marks a_u_outcomes a_u_indexes v_s_things' v_s_looked v_s_lookedTooOften v_s_arraysMade' v_s_cellsMade' a_s_classes a_s_starts a_s_lengths a_s_cells a_L a_K a_vc a_vd a_si a_sj a_iv a_inn a_ac) ∧ (STO v_s_things' v_s_cellsMade' a_s_starts a_s_lengths)) 0 0 := by
  intro sz
  refine Met.ofW (cc := cX7_empty) (maxL := 1) (ret := none) (by decide) rfl ?_
  intro p e s m args below meth c s₁ B hml hv
  obtain ⟨rfl, hsz, hP, hK, hD0, hE⟩ := hv
  have hx := B.exec
  have hb := B.bytes
  have hr := B.returns
  have hts := atoms_spec (ws := (wG yX7_empty cX7_empty 1 none)) B.pre
  have hown : s.vm.findClass RX7 = some m.cls := findClass_of_methodNamed B.named
  have hlocks := B.notSynchronized
  subst hsz
  have hD := hD0.self (sz := s.heap.size)
  obtain ⟨A, hAe⟩ : ∃ A : Nat → Prop, A = va_A (tw cs q v_t_tapeSize v_t_textSize v_t_faultKind a_t_tape a_t_text a_g_beyond v_g_size a_g_steps a_h_beyond v_h_size a_h_steps a_r_scratch a_r_now v_r_takes v_r_negative v_r_namePlace v_r_faultKind v_r_faultPlace v_a_size v_a_limit v_a_digits v_a_kind v_a_from v_a_to v_o_size a_o_out v_b_size v_b_limit v_b_digits v_b_kind v_b_from v_b_to a_u_atom a_u_other a_u_hand v_u_marksMade v_u_came v_u_guesses v_u_right v_u_taken a_u_vars a_u_marks a_u_outcomes a_u_indexes v_s_things v_s_looked v_s_lookedTooOften v_s_arraysMade v_s_cellsMade a_s_classes a_s_starts a_s_lengths a_s_cells a_L a_K a_vc a_vd a_si a_sj a_iv a_inn a_ac) s.heap.size := ⟨_, rfl⟩
  rw [← hAe] at hD hE
  have hA : ∀ q : Nat, s.heap.size ≤ q → A q := fun q h => by rw [hAe]; exact Or.inr h
  have hS : va_S A s.heap s.heap [] := va_S.rf
  have hl := lv_entry ([.ref (q 17)]) (n := 1) (Nat.le_of_ble_eq_true rfl)
  rw [lg_entry_eq]
  generalize (lg_sl ([.ref (q 17)]) ++ List.replicate (1 - (lg_sl ([.ref (q 17)])).length) Slot.unset).toArray = ls at hl ⊢
  have hl : lv_has ls 1 [(0, .ref (q 17))] := hl
  refine wq (fun Q hQ => ?_)
  have hinX7 : ∀ w ∈ wsX70, w ∈ (wG yX7_empty cX7_empty 1 none) := fun w h => List.mem_cons_of_mem _ (inlX7 w h)
  have kc0 : (0 : Int32).toInt = 0 := by decide
  have kc1 : (1 : Int32).toInt = 1 := by decide
  have k_4_22 := hts (.fieldLink RX7 25 "ArrayTrainer$Store" "things" "I") (List.mem_cons_of_mem _ (wr4 _ (List.mem_of_getElem? (i := 22) rfl)))
  have k_21_20 := hts (.fieldLink RX7 29 "ArrayTrainer$Store" "arraysMade" "I") (List.mem_cons_of_mem _ (wr21 _ (List.mem_of_getElem? (i := 20) rfl)))
  have k_21_21 := hts (.fieldLink RX7 32 "ArrayTrainer$Store" "cellsMade" "I") (List.mem_cons_of_mem _ (wr21 _ (List.mem_of_getElem? (i := 21) rfl)))
  obtain ⟨H, hH⟩ : ∃ H : Heap, H = s.heap := ⟨_, rfl⟩
  obtain ⟨locs, hlc⟩ : ∃ L : List Loc, L = [] := ⟨_, rfl⟩
  have hP : va_P D vwCl (tw cs q v_t_tapeSize v_t_textSize v_t_faultKind a_t_tape a_t_text a_g_beyond v_g_size a_g_steps a_h_beyond v_h_size a_h_steps a_r_scratch a_r_now v_r_takes v_r_negative v_r_namePlace v_r_faultKind v_r_faultPlace v_a_size v_a_limit v_a_digits v_a_kind v_a_from v_a_to v_o_size a_o_out v_b_size v_b_limit v_b_digits v_b_kind v_b_from v_b_to a_u_atom a_u_other a_u_hand v_u_marksMade v_u_came v_u_guesses v_u_right v_u_taken a_u_vars a_u_marks a_u_outcomes a_u_indexes v_s_things v_s_looked v_s_lookedTooOften v_s_arraysMade v_s_cellsMade a_s_classes a_s_starts a_s_lengths a_s_cells a_L a_K a_vc a_vd a_si a_sj a_iv a_inn a_ac) H := by rw [hH]; exact hP
  have hS : va_S A s.heap H locs := by rw [hH, hlc]; exact hS
  refine wHL hH hlc ?_
  obtain ⟨⟨h1, h2⟩, ⟨h3, h4⟩, h5⟩ := id p_0
  refine lv_aload_n hx hb dX7_empty_0 rfl (lv_at hl 0 rfl) ?_
  refine lv_iconst (v := 1) hx hb dX7_empty_1 (by decide) ?_
  refine va_put (D := D) (ci := 6) (v := .int 1) (ty := .int) (C := RX7) (T := TX7) (N := 9) hx hb hts hinX7 tyX7 tyX7_ok nmX7 hown hK hP hD hS 17 rfl rfl 4 (by decide) k_4_22 (fun _ h9 => h9) rfl (by decide +kernel) rfl rfl (Nat.le_of_ble_eq_true rfl) dX7_empty_2 (fun H locs hP hD hS => ?_)
  have hP : va_P D vwCl (tw cs q v_t_tapeSize v_t_textSize v_t_faultKind a_t_tape a_t_text a_g_beyond v_g_size a_g_steps a_h_beyond v_h_size a_h_steps a_r_scratch a_r_now v_r_takes v_r_negative v_r_namePlace v_r_faultKind v_r_faultPlace v_a_size v_a_limit v_a_digits v_a_kind v_a_from v_a_to v_o_size a_o_out v_b_size v_b_limit v_b_digits v_b_kind v_b_from v_b_to a_u_atom a_u_other a_u_hand v_u_marksMade v_u_came v_u_guesses v_u_right v_u_taken a_u_vars a_u_marks a_u_outcomes a_u_indexes (1 : Int32) v_s_looked v_s_lookedTooOften v_s_arraysMade v_s_cellsMade a_s_classes a_s_starts a_s_lengths a_s_cells a_L a_K a_vc a_vd a_si a_sj a_iv a_inn a_ac) H := hP
  have hD : va_D A (tw cs q v_t_tapeSize v_t_textSize v_t_faultKind a_t_tape a_t_text a_g_beyond v_g_size a_g_steps a_h_beyond v_h_size a_h_steps a_r_scratch a_r_now v_r_takes v_r_negative v_r_namePlace v_r_faultKind v_r_faultPlace v_a_size v_a_limit v_a_digits v_a_kind v_a_from v_a_to v_o_size a_o_out v_b_size v_b_limit v_b_digits v_b_kind v_b_from v_b_to a_u_atom a_u_other a_u_hand v_u_marksMade v_u_came v_u_guesses v_u_right v_u_taken a_u_vars a_u_marks a_u_outcomes a_u_indexes (1 : Int32) v_s_looked v_s_lookedTooOften v_s_arraysMade v_s_cellsMade a_s_classes a_s_starts a_s_lengths a_s_cells a_L a_K a_vc a_vd a_si a_sj a_iv a_inn a_ac) := hD
  refine lv_aload_n hx hb dX7_empty_5 rfl (lv_at hl 0 rfl) ?_
  refine lv_iconst (v := 0) hx hb dX7_empty_6 (by decide) ?_
  refine va_put (D := D) (ci := 6) (v := .int 0) (ty := .int) (C := RX7) (T := TX7) (N := 9) hx hb hts hinX7 tyX7 tyX7_ok nmX7 hown hK hP hD hS 17 rfl rfl 7 (by decide) k_21_20 (fun _ h9 => h9) rfl (by decide +kernel) rfl rfl (Nat.le_of_ble_eq_true rfl) dX7_empty_7 (fun H locs hP hD hS => ?_)
  have hP : va_P D vwCl (tw cs q v_t_tapeSize v_t_textSize v_t_faultKind a_t_tape a_t_text a_g_beyond v_g_size a_g_steps a_h_beyond v_h_size a_h_steps a_r_scratch a_r_now v_r_takes v_r_negative v_r_namePlace v_r_faultKind v_r_faultPlace v_a_size v_a_limit v_a_digits v_a_kind v_a_from v_a_to v_o_size a_o_out v_b_size v_b_limit v_b_digits v_b_kind v_b_from v_b_to a_u_atom a_u_other a_u_hand v_u_marksMade v_u_came v_u_guesses v_u_right v_u_taken a_u_vars a_u_marks a_u_outcomes a_u_indexes (1 : Int32) v_s_looked v_s_lookedTooOften (0 : Int32) v_s_cellsMade a_s_classes a_s_starts a_s_lengths a_s_cells a_L a_K a_vc a_vd a_si a_sj a_iv a_inn a_ac) H := hP
  have hD : va_D A (tw cs q v_t_tapeSize v_t_textSize v_t_faultKind a_t_tape a_t_text a_g_beyond v_g_size a_g_steps a_h_beyond v_h_size a_h_steps a_r_scratch a_r_now v_r_takes v_r_negative v_r_namePlace v_r_faultKind v_r_faultPlace v_a_size v_a_limit v_a_digits v_a_kind v_a_from v_a_to v_o_size a_o_out v_b_size v_b_limit v_b_digits v_b_kind v_b_from v_b_to a_u_atom a_u_other a_u_hand v_u_marksMade v_u_came v_u_guesses v_u_right v_u_taken a_u_vars a_u_marks a_u_outcomes a_u_indexes (1 : Int32) v_s_looked v_s_lookedTooOften (0 : Int32) v_s_cellsMade a_s_classes a_s_starts a_s_lengths a_s_cells a_L a_K a_vc a_vd a_si a_sj a_iv a_inn a_ac) := hD
  refine lv_aload_n hx hb dX7_empty_10 rfl (lv_at hl 0 rfl) ?_
  refine lv_iconst (v := 0) hx hb dX7_empty_11 (by decide) ?_
  refine va_put (D := D) (ci := 6) (v := .int 0) (ty := .int) (C := RX7) (T := TX7) (N := 9) hx hb hts hinX7 tyX7 tyX7_ok nmX7 hown hK hP hD hS 17 rfl rfl 8 (by decide) k_21_21 (fun _ h9 => h9) rfl (by decide +kernel) rfl rfl (Nat.le_of_ble_eq_true rfl) dX7_empty_12 (fun H locs hP hD hS => ?_)
  have hP : va_P D vwCl (tw cs q v_t_tapeSize v_t_textSize v_t_faultKind a_t_tape a_t_text a_g_beyond v_g_size a_g_steps a_h_beyond v_h_size a_h_steps a_r_scratch a_r_now v_r_takes v_r_negative v_r_namePlace v_r_faultKind v_r_faultPlace v_a_size v_a_limit v_a_digits v_a_kind v_a_from v_a_to v_o_size a_o_out v_b_size v_b_limit v_b_digits v_b_kind v_b_from v_b_to a_u_atom a_u_other a_u_hand v_u_marksMade v_u_came v_u_guesses v_u_right v_u_taken a_u_vars a_u_marks a_u_outcomes a_u_indexes (1 : Int32) v_s_looked v_s_lookedTooOften (0 : Int32) (0 : Int32) a_s_classes a_s_starts a_s_lengths a_s_cells a_L a_K a_vc a_vd a_si a_sj a_iv a_inn a_ac) H := hP
  have hD : va_D A (tw cs q v_t_tapeSize v_t_textSize v_t_faultKind a_t_tape a_t_text a_g_beyond v_g_size a_g_steps a_h_beyond v_h_size a_h_steps a_r_scratch a_r_now v_r_takes v_r_negative v_r_namePlace v_r_faultKind v_r_faultPlace v_a_size v_a_limit v_a_digits v_a_kind v_a_from v_a_to v_o_size a_o_out v_b_size v_b_limit v_b_digits v_b_kind v_b_from v_b_to a_u_atom a_u_other a_u_hand v_u_marksMade v_u_came v_u_guesses v_u_right v_u_taken a_u_vars a_u_marks a_u_outcomes a_u_indexes (1 : Int32) v_s_looked v_s_lookedTooOften (0 : Int32) (0 : Int32) a_s_classes a_s_starts a_s_lengths a_s_cells a_L a_K a_vc a_vd a_si a_sj a_iv a_inn a_ac) := hD
  subst hAe
  rw [hQ]
  exact W.vret hx hb hr (fun t ht hW => ⟨⟨_, rfl, ⟨(1 : Int32), (0 : Int32), (0 : Int32), rfl, by exact STO.re p_0 (by decide) (by decide) (by decide) (by decide)⟩, by rw [ht]; exact hP, va_K.moved hW.alike hK, hD⟩, hS.F ht⟩) hS.2.2 dX7_empty_15

def rmX7_hasRoom : Room := { frames := 20, cells := 0, slots := 0, locals := 400 }
set_option maxHeartbeats 4000000 in
set_option maxRecDepth 100000 in
theorem tX7_hasRoom {l : Launch} {D : va_G} {K : Nat → Nat → Nat} {cs : Nat → ClassId} {q : Nat → Nat} {v_t_tapeSize v_t_textSize v_t_faultKind v_g_size v_h_size v_r_takes v_r_negative v_r_namePlace v_r_faultKind v_r_faultPlace v_a_size v_a_limit v_a_digits v_a_kind v_a_from v_a_to v_o_size v_b_size v_b_limit v_b_digits v_b_kind v_b_from v_b_to v_u_marksMade v_u_came v_u_guesses v_u_right v_u_taken v_s_things v_s_looked v_s_lookedTooOften v_s_arraysMade v_s_cellsMade : Int32} {a_t_tape a_t_text a_o_out a_u_outcomes a_u_indexes a_s_classes a_s_starts a_s_lengths a_vc : Nat → Int32} {a_g_beyond a_h_beyond a_r_scratch a_r_now a_u_atom a_u_other a_u_hand : Nat} {a_g_steps a_h_steps a_u_vars a_u_marks : Nat → Option Nat} {a_s_cells a_vd a_sj : Nat → Int64} {a_L : List Nat} {a_K a_iv a_inn : Nat → Nat} {a_si a_ac : Nat → Nat → Int32} (m9 : Int64) (n9 : Int64) : CtI l yX7_hasRoom (wG yX7_hasRoom cX7_hasRoom 5 (some .boolean)) rmX7_hasRoom D (twT cs) K [.ref (q 17), .long m9, .long n9] (tw cs q v_t_tapeSize v_t_textSize v_t_faultKind a_t_tape a_t_text a_g_beyond v_g_size a_g_steps a_h_beyond v_h_size a_h_steps a_r_scratch a_r_now v_r_takes v_r_negative v_r_namePlace v_r_faultKind v_r_faultPlace v_a_size v_a_limit v_a_digits v_a_kind v_a_from v_a_to v_o_size a_o_out v_b_size v_b_limit v_b_digits v_b_kind v_b_from v_b_to a_u_atom a_u_other a_u_hand v_u_marksMade v_u_came v_u_guesses v_u_right v_u_taken a_u_vars a_u_marks a_u_outcomes a_u_indexes v_s_things v_s_looked v_s_lookedTooOften v_s_arraysMade v_s_cellsMade a_s_classes a_s_starts a_s_lengths a_s_cells a_L a_K a_vc a_vd a_si a_sj a_iv a_inn a_ac) (fun r w1 => w1 = (tw cs q v_t_tapeSize v_t_textSize v_t_faultKind a_t_tape a_t_text a_g_beyond v_g_size a_g_steps a_h_beyond v_h_size a_h_steps a_r_scratch a_r_now v_r_takes v_r_negative v_r_namePlace v_r_faultKind v_r_faultPlace v_a_size v_a_limit v_a_digits v_a_kind v_a_from v_a_to v_o_size a_o_out v_b_size v_b_limit v_b_digits v_b_kind v_b_from v_b_to a_u_atom a_u_other a_u_hand v_u_marksMade v_u_came v_u_guesses v_u_right v_u_taken a_u_vars a_u_marks a_u_outcomes a_u_indexes v_s_things v_s_looked v_s_lookedTooOften v_s_arraysMade v_s_cellsMade a_s_classes a_s_starts a_s_lengths a_s_cells a_L a_K a_vc a_vd a_si a_sj a_iv a_inn a_ac) ∧ (r.toInt = 0 ∨ r.toInt = 1)) 0 0 := by
  intro sz
  refine Met.ofW (cc := cX7_hasRoom) (maxL := 5) (ret := (some .boolean)) (by decide) rfl ?_
  intro p e s m args below meth c s₁ B hml hv
  obtain ⟨rfl, hsz, hP, hK, hD0, hE⟩ := hv
  have hx := B.exec
  have hb := B.bytes
  have hr := B.returns
  have hts := atoms_spec (ws := (wG yX7_hasRoom cX7_hasRoom 5 (some .boolean))) B.pre
  have hown : s.vm.findClass RX7 = some m.cls := findClass_of_methodNamed B.named
  have hlocks := B.notSynchronized
  subst hsz
  have hD := hD0.self (sz := s.heap.size)
  obtain ⟨A, hAe⟩ : ∃ A : Nat → Prop, A = va_A (tw cs q v_t_tapeSize v_t_textSize v_t_faultKind a_t_tape a_t_text a_g_beyond v_g_size a_g_steps a_h_beyond v_h_size a_h_steps a_r_scratch a_r_now v_r_takes v_r_negative v_r_namePlace v_r_faultKind v_r_faultPlace v_a_size v_a_limit v_a_digits v_a_kind v_a_from v_a_to v_o_size a_o_out v_b_size v_b_limit v_b_digits v_b_kind v_b_from v_b_to a_u_atom a_u_other a_u_hand v_u_marksMade v_u_came v_u_guesses v_u_right v_u_taken a_u_vars a_u_marks a_u_outcomes a_u_indexes v_s_things v_s_looked v_s_lookedTooOften v_s_arraysMade v_s_cellsMade a_s_classes a_s_starts a_s_lengths a_s_cells a_L a_K a_vc a_vd a_si a_sj a_iv a_inn a_ac) s.heap.size := ⟨_, rfl⟩
  rw [← hAe] at hD hE
  have hA : ∀ q : Nat, s.heap.size ≤ q → A q := fun q h => by rw [hAe]; exact Or.inr h
  have hS : va_S A s.heap s.heap [] := va_S.rf
  have hl := lv_entry ([.ref (q 17), .long m9, .long n9]) (n := 5) (Nat.le_of_ble_eq_true rfl)
  rw [lg_entry_eq]
  generalize (lg_sl ([.ref (q 17), .long m9, .long n9]) ++ List.replicate (5 - (lg_sl ([.ref (q 17), .long m9, .long n9])).length) Slot.unset).toArray = ls at hl ⊢
  have hl : lv_has ls 5 [(0, .ref (q 17)), (1, .long m9), (3, .long n9)] := hl
  refine wq (fun Q hQ => ?_)
  have hinX7 : ∀ w ∈ wsX70, w ∈ (wG yX7_hasRoom cX7_hasRoom 5 (some .boolean)) := fun w h => List.mem_cons_of_mem _ (inlX7 w h)
  have kc0 : (0 : Int32).toInt = 0 := by decide
  have kc1 : (1 : Int32).toInt = 1 := by decide
  have kc2 : (200 : Int32).toInt = 200 := by decide
  have kc3 : (4000 : Int32).toInt = 4000 := by decide
  have kc4 : (500 : Int64).toInt = 500 := by decide
  have k_41_10 := hts (.constantLong RX7 35 (500)) (List.mem_cons_of_mem _ (wr41 _ (List.mem_of_getElem? (i := 10) rfl)))
  have k_21_20 := hts (.fieldLink RX7 29 "ArrayTrainer$Store" "arraysMade" "I") (List.mem_cons_of_mem _ (wr21 _ (List.mem_of_getElem? (i := 20) rfl)))
  have k_21_21 := hts (.fieldLink RX7 32 "ArrayTrainer$Store" "cellsMade" "I") (List.mem_cons_of_mem _ (wr21 _ (List.mem_of_getElem? (i := 21) rfl)))
  obtain ⟨H, hH⟩ : ∃ H : Heap, H = s.heap := ⟨_, rfl⟩
  obtain ⟨locs, hlc⟩ : ∃ L : List Loc, L = [] := ⟨_, rfl⟩
  have hP : va_P D vwCl (tw cs q v_t_tapeSize v_t_textSize v_t_faultKind a_t_tape a_t_text a_g_beyond v_g_size a_g_steps a_h_beyond v_h_size a_h_steps a_r_scratch a_r_now v_r_takes v_r_negative v_r_namePlace v_r_faultKind v_r_faultPlace v_a_size v_a_limit v_a_digits v_a_kind v_a_from v_a_to v_o_size a_o_out v_b_size v_b_limit v_b_digits v_b_kind v_b_from v_b_to a_u_atom a_u_other a_u_hand v_u_marksMade v_u_came v_u_guesses v_u_right v_u_taken a_u_vars a_u_marks a_u_outcomes a_u_indexes v_s_things v_s_looked v_s_lookedTooOften v_s_arraysMade v_s_cellsMade a_s_classes a_s_starts a_s_lengths a_s_cells a_L a_K a_vc a_vd a_si a_sj a_iv a_inn a_ac) H := by rw [hH]; exact hP
  have hS : va_S A s.heap H locs := by rw [hH, hlc]; exact hS
  refine wHL hH hlc ?_
  have b_m9 := jB m9
  have b_n9 := jB n9
  refine lv_lload_n hx hb dX7_hasRoom_0 rfl (lv_at hl 2 rfl) ?_
  refine lv_ldc2 (v := 500) hx hb hown k_41_10 dX7_hasRoom_1 ?_
  refine m_lcmp (X := n9.toInt) (Y := 500) hx hb dX7_hasRoom_4 rfl (by decide) (fun x4 g_x4 => ?_)
  refine m_if_gt (X := x4.toInt) (tgt := 40) hx hb dX7_hasRoom_5 (by decide) rfl (fun c5 => ?_) (fun c5 => ?_)
  · skip
    refine lv_iconst (v := 0) hx hb dX7_hasRoom_40 (by decide) ?_
    subst hAe
    rw [hQ]
    exact W.zret (v := 0) hx hb hr (by decide) (fun t ht hW => ⟨⟨0, _, rfl, ⟨rfl, by first | assumption | omega | (intros; omega) | decide⟩, by rw [ht]; exact hP, va_K.moved hW.alike hK, hD⟩, hS.F ht⟩) hS.2.2 dX7_hasRoom_41
  · skip
    refine lv_lload_n hx hb dX7_hasRoom_8 rfl (lv_at hl 1 rfl) ?_
    refine lv_sipush (v := 200) hx hb dX7_hasRoom_9 (by decide) ?_
    refine lv_aload_n hx hb dX7_hasRoom_12 rfl (lv_at hl 0 rfl) ?_
    refine va_get (D := D) (ci := 6) (v := .int v_s_arraysMade) (C := RX7) (T := TX7) (N := 9) hx hb hts hinX7 hown hK hP 17 rfl rfl 7 (by decide) k_21_20 (fun _ h9 => h9) rfl dX7_hasRoom_13 ?_
    refine m_isub (X := 200) (Y := v_s_arraysMade.toInt) hx hb dX7_hasRoom_16 (by decide) rfl (fun x16 e_x16 g9 => ?_)
    obtain ⟨k_x16, g_x16⟩ := g9
    have b_x16 := iB x16
    try (have q_x16 : x16.toInt = 200 - v_s_arraysMade.toInt := (by omega); clear g_x16 k_x16)
    refine m_i2l (X := x16.toInt) hx hb dX7_hasRoom_17 rfl (fun x17 e_x17 g_x17 => ?_)
    refine m_lcmp (X := m9.toInt) (Y := x17.toInt) hx hb dX7_hasRoom_18 rfl rfl (fun x18 g_x18 => ?_)
    refine m_if_gt (X := x18.toInt) (tgt := 40) hx hb dX7_hasRoom_19 (by decide) rfl (fun c19 => ?_) (fun c19 => ?_)
    · skip
      refine lv_iconst (v := 0) hx hb dX7_hasRoom_40 (by decide) ?_
      subst hAe
      rw [hQ]
      exact W.zret (v := 0) hx hb hr (by decide) (fun t ht hW => ⟨⟨0, _, rfl, ⟨rfl, by first | assumption | omega | (intros; omega) | decide⟩, by rw [ht]; exact hP, va_K.moved hW.alike hK, hD⟩, hS.F ht⟩) hS.2.2 dX7_hasRoom_41
    · skip
      refine lv_lload_n hx hb dX7_hasRoom_22 rfl (lv_at hl 2 rfl) ?_
      refine lv_sipush (v := 4000) hx hb dX7_hasRoom_23 (by decide) ?_
      refine lv_aload_n hx hb dX7_hasRoom_26 rfl (lv_at hl 0 rfl) ?_
      refine va_get (D := D) (ci := 6) (v := .int v_s_cellsMade) (C := RX7) (T := TX7) (N := 9) hx hb hts hinX7 hown hK hP 17 rfl rfl 8 (by decide) k_21_21 (fun _ h9 => h9) rfl dX7_hasRoom_27 ?_
      refine m_isub (X := 4000) (Y := v_s_cellsMade.toInt) hx hb dX7_hasRoom_30 (by decide) rfl (fun x30 e_x30 g9 => ?_)
      obtain ⟨k_x30, g_x30⟩ := g9
      have b_x30 := iB x30
      try (have q_x30 : x30.toInt = 4000 - v_s_cellsMade.toInt := (by omega); clear g_x30 k_x30)
      refine m_i2l (X := x30.toInt) hx hb dX7_hasRoom_31 rfl (fun x31 e_x31 g_x31 => ?_)
      refine m_lcmp (X := n9.toInt) (Y := x31.toInt) hx hb dX7_hasRoom_32 rfl rfl (fun x32 g_x32 => ?_)
      refine m_if_gt (X := x32.toInt) (tgt := 40) hx hb dX7_hasRoom_33 (by decide) rfl (fun c33 => ?_) (fun c33 => ?_)
      · skip
        refine lv_iconst (v := 0) hx hb dX7_hasRoom_40 (by decide) ?_
        subst hAe
        rw [hQ]
        exact W.zret (v := 0) hx hb hr (by decide) (fun t ht hW => ⟨⟨0, _, rfl, ⟨rfl, by first | assumption | omega | (intros; omega) | decide⟩, by rw [ht]; exact hP, va_K.moved hW.alike hK, hD⟩, hS.F ht⟩) hS.2.2 dX7_hasRoom_41
      · skip
        refine lv_iconst (v := 1) hx hb dX7_hasRoom_36 (by decide) ?_
        refine lv_goto (tgt := 41) hx hb dX7_hasRoom_37 (by decide) ?_
        subst hAe
        rw [hQ]
        exact W.zret (v := 1) hx hb hr (by decide) (fun t ht hW => ⟨⟨1, _, rfl, ⟨rfl, by first | assumption | omega | (intros; omega) | decide⟩, by rw [ht]; exact hP, va_K.moved hW.alike hK, hD⟩, hS.F ht⟩) hS.2.2 dX7_hasRoom_41

def rmX7_makeCreature : Room := { frames := 20, cells := 0, slots := 0, locals := 400 }
set_option maxHeartbeats 4000000 in
set_option maxRecDepth 100000 in
theorem tX7_makeCreature {l : Launch} {D : va_G} {K : Nat → Nat → Nat} {cs : Nat → ClassId} {q : Nat → Nat} {v_t_tapeSize v_t_textSize v_t_faultKind v_g_size v_h_size v_r_takes v_r_negative v_r_namePlace v_r_faultKind v_r_faultPlace v_a_size v_a_limit v_a_digits v_a_kind v_a_from v_a_to v_o_size v_b_size v_b_limit v_b_digits v_b_kind v_b_from v_b_to v_u_marksMade v_u_came v_u_guesses v_u_right v_u_taken v_s_things v_s_looked v_s_lookedTooOften v_s_arraysMade v_s_cellsMade : Int32} {a_t_tape a_t_text a_o_out a_u_outcomes a_u_indexes a_s_classes a_s_starts a_s_lengths a_vc : Nat → Int32} {a_g_beyond a_h_beyond a_r_scratch a_r_now a_u_atom a_u_other a_u_hand : Nat} {a_g_steps a_h_steps a_u_vars a_u_marks : Nat → Option Nat} {a_s_cells a_vd a_sj : Nat → Int64} {a_L : List Nat} {a_K a_iv a_inn : Nat → Nat} {a_si a_ac : Nat → Nat → Int32} (k9 : Int32) (p_0 : STO v_s_things v_s_cellsMade a_s_starts a_s_lengths) : CtI l yX7_makeCreature (wG yX7_makeCreature cX7_makeCreature 2 (some .int)) rmX7_makeCreature D (twT cs) K [.ref (q 17), .int k9] (tw cs q v_t_tapeSize v_t_textSize v_t_faultKind a_t_tape a_t_text a_g_beyond v_g_size a_g_steps a_h_beyond v_h_size a_h_steps a_r_scratch a_r_now v_r_takes v_r_negative v_r_namePlace v_r_faultKind v_r_faultPlace v_a_size v_a_limit v_a_digits v_a_kind v_a_from v_a_to v_o_size a_o_out v_b_size v_b_limit v_b_digits v_b_kind v_b_from v_b_to a_u_atom a_u_other a_u_hand v_u_marksMade v_u_came v_u_guesses v_u_right v_u_taken a_u_vars a_u_marks a_u_outcomes a_u_indexes v_s_things v_s_looked v_s_lookedTooOften v_s_arraysMade v_s_cellsMade a_s_classes a_s_starts a_s_lengths a_s_cells a_L a_K a_vc a_vd a_si a_sj a_iv a_inn a_ac) (fun r w1 => ∃ (v_s_things' : Int32) (a_s_classes' : Nat → Int32) (a_s_starts' : Nat → Int32) (a_s_lengths' : Nat → Int32), w1 = (tw cs q v_t_tapeSize v_t_textSize v_t_faultKind a_t_tape a_t_text a_g_beyond v_g_size a_g_steps a_h_beyond v_h_size a_h_steps a_r_scratch a_r_now v_r_takes v_r_negative v_r_namePlace v_r_faultKind v_r_faultPlace v_a_size v_a_limit v_a_digits v_a_kind v_a_from v_a_to v_o_size a_o_out v_b_size v_b_limit v_b_digits v_b_kind v_b_from v_b_to a_u_atom a_u_other a_u_hand v_u_marksMade v_u_came v_u_guesses v_u_right v_u_taken a_u_vars a_u_marks a_u_outcomes a_u_indexes v_s_things' v_s_looked v_s_lookedTooOften v_s_arraysMade v_s_cellsMade a_s_classes' a_s_starts' a_s_lengths' a_s_cells a_L a_K a_vc a_vd a_si a_sj a_iv a_inn a_ac) ∧ (STO v_s_things' v_s_cellsMade a_s_starts' a_s_lengths')) 0 0 := by
  intro sz
  refine Met.ofW (cc := cX7_makeCreature) (maxL := 2) (ret := (some .int)) (by decide) rfl ?_
  intro p e s m args below meth c s₁ B hml hv
  obtain ⟨rfl, hsz, hP, hK, hD0, hE⟩ := hv
  have hx := B.exec
  have hb := B.bytes
  have hr := B.returns
  have hts := atoms_spec (ws := (wG yX7_makeCreature cX7_makeCreature 2 (some .int))) B.pre
  have hown : s.vm.findClass RX7 = some m.cls := findClass_of_methodNamed B.named
  have hlocks := B.notSynchronized
  subst hsz
  have hD := hD0.self (sz := s.heap.size)
  obtain ⟨A, hAe⟩ : ∃ A : Nat → Prop, A = va_A (tw cs q v_t_tapeSize v_t_textSize v_t_faultKind a_t_tape a_t_text a_g_beyond v_g_size a_g_steps a_h_beyond v_h_size a_h_steps a_r_scratch a_r_now v_r_takes v_r_negative v_r_namePlace v_r_faultKind v_r_faultPlace v_a_size v_a_limit v_a_digits v_a_kind v_a_from v_a_to v_o_size a_o_out v_b_size v_b_limit v_b_digits v_b_kind v_b_from v_b_to a_u_atom a_u_other a_u_hand v_u_marksMade v_u_came v_u_guesses v_u_right v_u_taken a_u_vars a_u_marks a_u_outcomes a_u_indexes v_s_things v_s_looked v_s_lookedTooOften v_s_arraysMade v_s_cellsMade a_s_classes a_s_starts a_s_lengths a_s_cells a_L a_K a_vc a_vd a_si a_sj a_iv a_inn a_ac) s.heap.size := ⟨_, rfl⟩
  rw [← hAe] at hD hE
  have hA : ∀ q : Nat, s.heap.size ≤ q → A q := fun q h => by rw [hAe]; exact Or.inr h
  have hS : va_S A s.heap s.heap [] := va_S.rf
  have hl := lv_entry ([.ref (q 17), .int k9]) (n := 2) (Nat.le_of_ble_eq_true rfl)
  rw [lg_entry_eq]
  generalize (lg_sl ([.ref (q 17), .int k9]) ++ List.replicate (2 - (lg_sl ([.ref (q 17), .int k9])).length) Slot.unset).toArray = ls at hl ⊢
  have hl : lv_has ls 2 [(0, .ref (q 17)), (1, .int k9)] := hl
  refine wq (fun Q hQ => ?_)
  have hinX7 : ∀ w ∈ wsX70, w ∈ (wG yX7_makeCreature cX7_makeCreature 2 (some .int)) := fun w h => List.mem_cons_of_mem _ (inlX7 w h)
  have kc0 : (0 : Int32).toInt = 0 := by decide
  have kc1 : (1 : Int32).toInt = 1 := by decide
  have kc2 : (301 : Int32).toInt = 301 := by decide
  have k_4_22 := hts (.fieldLink RX7 25 "ArrayTrainer$Store" "things" "I") (List.mem_cons_of_mem _ (wr4 _ (List.mem_of_getElem? (i := 22) rfl)))
  have k_4_18 := hts (.fieldLink RX7 11 "ArrayTrainer$Store" "classes" "[I") (List.mem_cons_of_mem _ (wr4 _ (List.mem_of_getElem? (i := 18) rfl)))
  have k_4_19 := hts (.fieldLink RX7 15 "ArrayTrainer$Store" "starts" "[I") (List.mem_cons_of_mem _ (wr4 _ (List.mem_of_getElem? (i := 19) rfl)))
  have k_4_20 := hts (.fieldLink RX7 18 "ArrayTrainer$Store" "lengths" "[I") (List.mem_cons_of_mem _ (wr4 _ (List.mem_of_getElem? (i := 20) rfl)))
  obtain ⟨H, hH⟩ : ∃ H : Heap, H = s.heap := ⟨_, rfl⟩
  obtain ⟨locs, hlc⟩ : ∃ L : List Loc, L = [] := ⟨_, rfl⟩
  have hP : va_P D vwCl (tw cs q v_t_tapeSize v_t_textSize v_t_faultKind a_t_tape a_t_text a_g_beyond v_g_size a_g_steps a_h_beyond v_h_size a_h_steps a_r_scratch a_r_now v_r_takes v_r_negative v_r_namePlace v_r_faultKind v_r_faultPlace v_a_size v_a_limit v_a_digits v_a_kind v_a_from v_a_to v_o_size a_o_out v_b_size v_b_limit v_b_digits v_b_kind v_b_from v_b_to a_u_atom a_u_other a_u_hand v_u_marksMade v_u_came v_u_guesses v_u_right v_u_taken a_u_vars a_u_marks a_u_outcomes a_u_indexes v_s_things v_s_looked v_s_lookedTooOften v_s_arraysMade v_s_cellsMade a_s_classes a_s_starts a_s_lengths a_s_cells a_L a_K a_vc a_vd a_si a_sj a_iv a_inn a_ac) H := by rw [hH]; exact hP
  have hS : va_S A s.heap H locs := by rw [hH, hlc]; exact hS
  refine wHL hH hlc ?_
  have b_k9 := iB k9
  obtain ⟨⟨h1, h2⟩, ⟨h3, h4⟩, h5⟩ := id p_0
  refine lv_aload_n hx hb dX7_makeCreature_0 rfl (lv_at hl 0 rfl) ?_
  refine va_get (D := D) (ci := 6) (v := .int v_s_things) (C := RX7) (T := TX7) (N := 9) hx hb hts hinX7 hown hK hP 17 rfl rfl 4 (by decide) k_4_22 (fun _ h9 => h9) rfl dX7_makeCreature_1 ?_
  refine lv_sipush (v := 301) hx hb dX7_makeCreature_4 (by decide) ?_
  refine m_icmp_lt (X := v_s_things.toInt) (Y := 301) (tgt := 12) hx hb dX7_makeCreature_7 (by decide) rfl (by decide) (fun c7 => ?_) (fun c7 => ?_)
  · skip
    refine lv_aload_n hx hb dX7_makeCreature_12 rfl (lv_at hl 0 rfl) ?_
    refine va_get (D := D) (ci := 6) (v := .ref (q 18)) (C := RX7) (T := TX7) (N := 9) hx hb hts hinX7 hown hK hP 17 rfl rfl 0 (by decide) k_4_18 (fun _ h9 => h9) rfl dX7_makeCreature_13 ?_
    refine lv_aload_n hx hb dX7_makeCreature_16 rfl (lv_at hl 0 rfl) ?_
    refine va_get (D := D) (ci := 6) (v := .int v_s_things) (C := RX7) (T := TX7) (N := 9) hx hb hts hinX7 hown hK hP 17 rfl rfl 4 (by decide) k_4_22 (fun _ h9 => h9) rfl dX7_makeCreature_17 ?_
    refine lv_iload_n hx hb dX7_makeCreature_20 rfl (lv_at hl 1 rfl) ?_
    refine va_iast hx hb hK hP hD hS 18 0 rfl rfl (ix (by omega) (by omega)) dX7_makeCreature_21 (fun H locs hP hD hS => ?_)
    obtain ⟨a_s_classes_21, e_a_s_classes_21⟩ : ∃ g, g = upd a_s_classes v_s_things.toNatClampNeg k9 := ⟨_, rfl⟩
    have hP : va_P D vwCl (tw cs q v_t_tapeSize v_t_textSize v_t_faultKind a_t_tape a_t_text a_g_beyond v_g_size a_g_steps a_h_beyond v_h_size a_h_steps a_r_scratch a_r_now v_r_takes v_r_negative v_r_namePlace v_r_faultKind v_r_faultPlace v_a_size v_a_limit v_a_digits v_a_kind v_a_from v_a_to v_o_size a_o_out v_b_size v_b_limit v_b_digits v_b_kind v_b_from v_b_to a_u_atom a_u_other a_u_hand v_u_marksMade v_u_came v_u_guesses v_u_right v_u_taken a_u_vars a_u_marks a_u_outcomes a_u_indexes v_s_things v_s_looked v_s_lookedTooOften v_s_arraysMade v_s_cellsMade a_s_classes_21 a_s_starts a_s_lengths a_s_cells a_L a_K a_vc a_vd a_si a_sj a_iv a_inn a_ac) H := by rw [e_a_s_classes_21]; exact hP
    have hD : va_D A (tw cs q v_t_tapeSize v_t_textSize v_t_faultKind a_t_tape a_t_text a_g_beyond v_g_size a_g_steps a_h_beyond v_h_size a_h_steps a_r_scratch a_r_now v_r_takes v_r_negative v_r_namePlace v_r_faultKind v_r_faultPlace v_a_size v_a_limit v_a_digits v_a_kind v_a_from v_a_to v_o_size a_o_out v_b_size v_b_limit v_b_digits v_b_kind v_b_from v_b_to a_u_atom a_u_other a_u_hand v_u_marksMade v_u_came v_u_guesses v_u_right v_u_taken a_u_vars a_u_marks a_u_outcomes a_u_indexes v_s_things v_s_looked v_s_lookedTooOften v_s_arraysMade v_s_cellsMade a_s_classes_21 a_s_starts a_s_lengths a_s_cells a_L a_K a_vc a_vd a_si a_sj a_iv a_inn a_ac) := by rw [e_a_s_classes_21]; exact hD
    refine lv_aload_n hx hb dX7_makeCreature_22 rfl (lv_at hl 0 rfl) ?_
    refine va_get (D := D) (ci := 6) (v := .ref (q 19)) (C := RX7) (T := TX7) (N := 9) hx hb hts hinX7 hown hK hP 17 rfl rfl 1 (by decide) k_4_19 (fun _ h9 => h9) rfl dX7_makeCreature_23 ?_
    refine lv_aload_n hx hb dX7_makeCreature_26 rfl (lv_at hl 0 rfl) ?_
    refine va_get (D := D) (ci := 6) (v := .int v_s_things) (C := RX7) (T := TX7) (N := 9) hx hb hts hinX7 hown hK hP 17 rfl rfl 4 (by decide) k_4_22 (fun _ h9 => h9) rfl dX7_makeCreature_27 ?_
    refine lv_iconst (v := 0) hx hb dX7_makeCreature_30 (by decide) ?_
    refine va_iast hx hb hK hP hD hS 19 0 rfl rfl (ix (by omega) (by omega)) dX7_makeCreature_31 (fun H locs hP hD hS => ?_)
    obtain ⟨a_s_starts_31, e_a_s_starts_31⟩ : ∃ g, g = upd a_s_starts v_s_things.toNatClampNeg (0 : Int32) := ⟨_, rfl⟩
    have hP : va_P D vwCl (tw cs q v_t_tapeSize v_t_textSize v_t_faultKind a_t_tape a_t_text a_g_beyond v_g_size a_g_steps a_h_beyond v_h_size a_h_steps a_r_scratch a_r_now v_r_takes v_r_negative v_r_namePlace v_r_faultKind v_r_faultPlace v_a_size v_a_limit v_a_digits v_a_kind v_a_from v_a_to v_o_size a_o_out v_b_size v_b_limit v_b_digits v_b_kind v_b_from v_b_to a_u_atom a_u_other a_u_hand v_u_marksMade v_u_came v_u_guesses v_u_right v_u_taken a_u_vars a_u_marks a_u_outcomes a_u_indexes v_s_things v_s_looked v_s_lookedTooOften v_s_arraysMade v_s_cellsMade a_s_classes_21 a_s_starts_31 a_s_lengths a_s_cells a_L a_K a_vc a_vd a_si a_sj a_iv a_inn a_ac) H := by rw [e_a_s_starts_31]; exact hP
    have hD : va_D A (tw cs q v_t_tapeSize v_t_textSize v_t_faultKind a_t_tape a_t_text a_g_beyond v_g_size a_g_steps a_h_beyond v_h_size a_h_steps a_r_scratch a_r_now v_r_takes v_r_negative v_r_namePlace v_r_faultKind v_r_faultPlace v_a_size v_a_limit v_a_digits v_a_kind v_a_from v_a_to v_o_size a_o_out v_b_size v_b_limit v_b_digits v_b_kind v_b_from v_b_to a_u_atom a_u_other a_u_hand v_u_marksMade v_u_came v_u_guesses v_u_right v_u_taken a_u_vars a_u_marks a_u_outcomes a_u_indexes v_s_things v_s_looked v_s_lookedTooOften v_s_arraysMade v_s_cellsMade a_s_classes_21 a_s_starts_31 a_s_lengths a_s_cells a_L a_K a_vc a_vd a_si a_sj a_iv a_inn a_ac) := by rw [e_a_s_starts_31]; exact hD
    refine lv_aload_n hx hb dX7_makeCreature_32 rfl (lv_at hl 0 rfl) ?_
    refine va_get (D := D) (ci := 6) (v := .ref (q 20)) (C := RX7) (T := TX7) (N := 9) hx hb hts hinX7 hown hK hP 17 rfl rfl 2 (by decide) k_4_20 (fun _ h9 => h9) rfl dX7_makeCreature_33 ?_
    refine lv_aload_n hx hb dX7_makeCreature_36 rfl (lv_at hl 0 rfl) ?_
    refine va_get (D := D) (ci := 6) (v := .int v_s_things) (C := RX7) (T := TX7) (N := 9) hx hb hts hinX7 hown hK hP 17 rfl rfl 4 (by decide) k_4_22 (fun _ h9 => h9) rfl dX7_makeCreature_37 ?_
    refine lv_iconst (v := 0) hx hb dX7_makeCreature_40 (by decide) ?_
    refine va_iast hx hb hK hP hD hS 20 0 rfl rfl (ix (by omega) (by omega)) dX7_makeCreature_41 (fun H locs hP hD hS => ?_)
    obtain ⟨a_s_lengths_41, e_a_s_lengths_41⟩ : ∃ g, g = upd a_s_lengths v_s_things.toNatClampNeg (0 : Int32) := ⟨_, rfl⟩
    have hP : va_P D vwCl (tw cs q v_t_tapeSize v_t_textSize v_t_faultKind a_t_tape a_t_text a_g_beyond v_g_size a_g_steps a_h_beyond v_h_size a_h_steps a_r_scratch a_r_now v_r_takes v_r_negative v_r_namePlace v_r_faultKind v_r_faultPlace v_a_size v_a_limit v_a_digits v_a_kind v_a_from v_a_to v_o_size a_o_out v_b_size v_b_limit v_b_digits v_b_kind v_b_from v_b_to a_u_atom a_u_other a_u_hand v_u_marksMade v_u_came v_u_guesses v_u_right v_u_taken a_u_vars a_u_marks a_u_outcomes a_u_indexes v_s_things v_s_looked v_s_lookedTooOften v_s_arraysMade v_s_cellsMade a_s_classes_21 a_s_starts_31 a_s_lengths_41 a_s_cells a_L a_K a_vc a_vd a_si a_sj a_iv a_inn a_ac) H := by rw [e_a_s_lengths_41]; exact hP
    have hD : va_D A (tw cs q v_t_tapeSize v_t_textSize v_t_faultKind a_t_tape a_t_text a_g_beyond v_g_size a_g_steps a_h_beyond v_h_size a_h_steps a_r_scratch a_r_now v_r_takes v_r_negative v_r_namePlace v_r_faultKind v_r_faultPlace v_a_size v_a_limit v_a_digits v_a_kind v_a_from v_a_to v_o_size a_o_out v_b_size v_b_limit v_b_digits v_b_kind v_b_from v_b_to a_u_atom a_u_other a_u_hand v_u_marksMade v_u_came v_u_guesses v_u_right v_u_taken a_u_vars a_u_marks a_u_outcomes a_u_indexes v_s_things v_s_looked v_s_lookedTooOften v_s_arraysMade v_s_cellsMade a_s_classes_21 a_s_starts_31 a_s_lengths_41 a_s_cells a_L a_K a_vc a_vd a_si a_sj a_iv a_inn a_ac) := by rw [e_a_s_lengths_41]; exact hD
    refine lv_aload_n hx hb dX7_makeCreature_42 rfl (lv_at hl 0 rfl) ?_
    refine lv_dup hx hb dX7_makeCreature_43 rfl ?_
    refine va_get (D := D) (ci := 6) (v := .int v_s_things) (C := RX7) (T := TX7) (N := 9) hx hb hts hinX7 hown hK hP 17 rfl rfl 4 (by decide) k_4_22 (fun _ h9 => h9) rfl dX7_makeCreature_44 ?_
    refine lv_iconst (v := 1) hx hb dX7_makeCreature_47 (by decide) ?_
    refine m_iadd (X := v_s_things.toInt) (Y := 1) hx hb dX7_makeCreature_48 rfl (by decide) (fun x48 e_x48 g9 => ?_)
    obtain ⟨k_x48, g_x48⟩ := g9
    have b_x48 := iB x48
    try (have q_x48 : x48.toInt = v_s_things.toInt + 1 := (by omega); clear g_x48 k_x48)
    refine va_put (D := D) (ci := 6) (v := .int x48) (ty := .int) (C := RX7) (T := TX7) (N := 9) hx hb hts hinX7 tyX7 tyX7_ok nmX7 hown hK hP hD hS 17 rfl rfl 4 (by decide) k_4_22 (fun _ h9 => h9) rfl (by decide +kernel) rfl rfl (Nat.le_of_ble_eq_true rfl) dX7_makeCreature_49 (fun H locs hP hD hS => ?_)
    have hP : va_P D vwCl (tw cs q v_t_tapeSize v_t_textSize v_t_faultKind a_t_tape a_t_text a_g_beyond v_g_size a_g_steps a_h_beyond v_h_size a_h_steps a_r_scratch a_r_now v_r_takes v_r_negative v_r_namePlace v_r_faultKind v_r_faultPlace v_a_size v_a_limit v_a_digits v_a_kind v_a_from v_a_to v_o_size a_o_out v_b_size v_b_limit v_b_digits v_b_kind v_b_from v_b_to a_u_atom a_u_other a_u_hand v_u_marksMade v_u_came v_u_guesses v_u_right v_u_taken a_u_vars a_u_marks a_u_outcomes a_u_indexes x48 v_s_looked v_s_lookedTooOften v_s_arraysMade v_s_cellsMade a_s_classes_21 a_s_starts_31 a_s_lengths_41 a_s_cells a_L a_K a_vc a_vd a_si a_sj a_iv a_inn a_ac) H := hP
    have hD : va_D A (tw cs q v_t_tapeSize v_t_textSize v_t_faultKind a_t_tape a_t_text a_g_beyond v_g_size a_g_steps a_h_beyond v_h_size a_h_steps a_r_scratch a_r_now v_r_takes v_r_negative v_r_namePlace v_r_faultKind v_r_faultPlace v_a_size v_a_limit v_a_digits v_a_kind v_a_from v_a_to v_o_size a_o_out v_b_size v_b_limit v_b_digits v_b_kind v_b_from v_b_to a_u_atom a_u_other a_u_hand v_u_marksMade v_u_came v_u_guesses v_u_right v_u_taken a_u_vars a_u_marks a_u_outcomes a_u_indexes x48 v_s_looked v_s_lookedTooOften v_s_arraysMade v_s_cellsMade a_s_classes_21 a_s_starts_31 a_s_lengths_41 a_s_cells a_L a_K a_vc a_vd a_si a_sj a_iv a_inn a_ac) := hD
    refine lv_aload_n hx hb dX7_makeCreature_52 rfl (lv_at hl 0 rfl) ?_
    refine va_get (D := D) (ci := 6) (v := .int x48) (C := RX7) (T := TX7) (N := 9) hx hb hts hinX7 hown hK hP 17 rfl rfl 4 (by decide) k_4_22 (fun _ h9 => h9) rfl dX7_makeCreature_53 ?_
    refine lv_iconst (v := 1) hx hb dX7_makeCreature_56 (by decide) ?_
    refine m_isub (X := x48.toInt) (Y := 1) hx hb dX7_makeCreature_57 rfl (by decide) (fun x57 e_x57 g9 => ?_)
    obtain ⟨k_x57, g_x57⟩ := g9
    have b_x57 := iB x57
    try (have q_x57 : x57.toInt = x48.toInt - 1 := (by omega); clear g_x57 k_x57)
    subst hAe
    rw [hQ]
    exact W.iret (v := x57) hx hb hr (fun t ht hW => ⟨⟨x57, _, rfl, ⟨x48, a_s_classes_21, a_s_starts_31, a_s_lengths_41, rfl, by first | assumption | exact STO.set p_0 (by omega) (by omega) (by omega) (by omega) (by decide) (by decide) (by decide) e_a_s_starts_31 e_a_s_lengths_41⟩, by rw [ht]; exact hP, va_K.moved hW.alike hK, hD⟩, hS.F ht⟩) hS.2.2 dX7_makeCreature_58
  · skip
    refine lv_iconst (v := 0) hx hb dX7_makeCreature_10 (by decide) ?_
    subst hAe
    rw [hQ]
    exact W.iret (v := 0) hx hb hr (fun t ht hW => ⟨⟨0, _, rfl, ⟨v_s_things, a_s_classes, a_s_starts, a_s_lengths, rfl, by first | assumption | exact STO.set p_0 (by omega) (by omega) (by omega) (by omega) (by decide) (by decide) (by decide) e_a_s_starts_31 e_a_s_lengths_41⟩, by rw [ht]; exact hP, va_K.moved hW.alike hK, hD⟩, hS.F ht⟩) hS.2.2 dX7_makeCreature_11

def rmX7_makeArray : Room := { frames := 20, cells := 0, slots := 0, locals := 400 }
set_option maxHeartbeats 4000000 in
set_option maxRecDepth 100000 in
theorem tX7_makeArray {l : Launch} {D : va_G} {K : Nat → Nat → Nat} {cs : Nat → ClassId} {q : Nat → Nat} {v_t_tapeSize v_t_textSize v_t_faultKind v_g_size v_h_size v_r_takes v_r_negative v_r_namePlace v_r_faultKind v_r_faultPlace v_a_size v_a_limit v_a_digits v_a_kind v_a_from v_a_to v_o_size v_b_size v_b_limit v_b_digits v_b_kind v_b_from v_b_to v_u_marksMade v_u_came v_u_guesses v_u_right v_u_taken v_s_things v_s_looked v_s_lookedTooOften v_s_arraysMade v_s_cellsMade : Int32} {a_t_tape a_t_text a_o_out a_u_outcomes a_u_indexes a_s_classes a_s_starts a_s_lengths a_vc : Nat → Int32} {a_g_beyond a_h_beyond a_r_scratch a_r_now a_u_atom a_u_other a_u_hand : Nat} {a_g_steps a_h_steps a_u_vars a_u_marks : Nat → Option Nat} {a_s_cells a_vd a_sj : Nat → Int64} {a_L : List Nat} {a_K a_iv a_inn : Nat → Nat} {a_si a_ac : Nat → Nat → Int32} (g9 : Int32) (n9 : Int32) (p_0 : STO v_s_things v_s_cellsMade a_s_starts a_s_lengths) : CtI l yX7_makeArray (wG yX7_makeArray cX7_makeArray 4 (some .int)) rmX7_makeArray D (twT cs) K [.ref (q 17), .int g9, .int n9] (tw cs q v_t_tapeSize v_t_textSize v_t_faultKind a_t_tape a_t_text a_g_beyond v_g_size a_g_steps a_h_beyond v_h_size a_h_steps a_r_scratch a_r_now v_r_takes v_r_negative v_r_namePlace v_r_faultKind v_r_faultPlace v_a_size v_a_limit v_a_digits v_a_kind v_a_from v_a_to v_o_size a_o_out v_b_size v_b_limit v_b_digits v_b_kind v_b_from v_b_to a_u_atom a_u_other a_u_hand v_u_marksMade v_u_came v_u_guesses v_u_right v_u_taken a_u_vars a_u_marks a_u_outcomes a_u_indexes v_s_things v_s_looked v_s_lookedTooOften v_s_arraysMade v_s_cellsMade a_s_classes a_s_starts a_s_lengths a_s_cells a_L a_K a_vc a_vd a_si a_sj a_iv a_inn a_ac) (fun r w1 => ∃ (v_s_things' : Int32) (v_s_arraysMade' : Int32) (v_s_cellsMade' : Int32) (a_s_classes' : Nat → Int32) (a_s_starts' : Nat → Int32) (a_s_lengths' : Nat → Int32) (a_s_cells' : Nat → Int64), w1 = (tw cs q v_t_tapeSize v_t_textSize v_t_faultKind a_t_tape a_t_text a_g_beyond v_g_size a_g_steps a_h_beyond v_h_size a_h_steps a_r_scratch a_r_now v_r_takes v_r_negative v_r_namePlace v_r_faultKind v_r_faultPlace v_a_size v_a_limit v_a_digits v_a_kind v_a_from v_a_to v_o_size a_o_out v_b_size v_b_limit v_b_digits v_b_kind v_b_from v_b_to a_u_atom a_u_other a_u_hand v_u_marksMade v_u_came v_u_guesses v_u_right v_u_taken a_u_vars a_u_marks a_u_outcomes a_u_indexes v_s_things' v_s_looked v_s_lookedTooOften v_s_arraysMade' v_s_cellsMade' a_s_classes' a_s_starts' a_s_lengths' a_s_cells' a_L a_K a_vc a_vd a_si a_sj a_iv a_inn a_ac) ∧ (STO v_s_things' v_s_cellsMade' a_s_starts' a_s_lengths') ∧ (r.toInt = 0 ∨ (r.toInt = v_s_things.toInt ∧ a_s_starts' = upd a_s_starts v_s_things.toNatClampNeg v_s_cellsMade ∧ a_s_lengths' = upd a_s_lengths v_s_things.toNatClampNeg n9 ∧ v_s_cellsMade.toInt + n9.toInt ≤ 4000)) ∧ (0 ≤ r.toInt) ∧ (r.toInt ≤ 300)) 0 0 := by
  intro sz
  refine Met.ofW (cc := cX7_makeArray) (maxL := 4) (ret := (some .int)) (by decide) rfl ?_
  intro p e s m args below meth c s₁ B hml hv
  obtain ⟨rfl, hsz, hP, hK, hD0, hE⟩ := hv
  have hx := B.exec
  have hb := B.bytes
  have hr := B.returns
  have hts := atoms_spec (ws := (wG yX7_makeArray cX7_makeArray 4 (some .int))) B.pre
  have hown : s.vm.findClass RX7 = some m.cls := findClass_of_methodNamed B.named
  have hlocks := B.notSynchronized
  subst hsz
  have hD := hD0.self (sz := s.heap.size)
  obtain ⟨A, hAe⟩ : ∃ A : Nat → Prop, A = va_A (tw cs q v_t_tapeSize v_t_textSize v_t_faultKind a_t_tape a_t_text a_g_beyond v_g_size a_g_steps a_h_beyond v_h_size a_h_steps a_r_scratch a_r_now v_r_takes v_r_negative v_r_namePlace v_r_faultKind v_r_faultPlace v_a_size v_a_limit v_a_digits v_a_kind v_a_from v_a_to v_o_size a_o_out v_b_size v_b_limit v_b_digits v_b_kind v_b_from v_b_to a_u_atom a_u_other a_u_hand v_u_marksMade v_u_came v_u_guesses v_u_right v_u_taken a_u_vars a_u_marks a_u_outcomes a_u_indexes v_s_things v_s_looked v_s_lookedTooOften v_s_arraysMade v_s_cellsMade a_s_classes a_s_starts a_s_lengths a_s_cells a_L a_K a_vc a_vd a_si a_sj a_iv a_inn a_ac) s.heap.size := ⟨_, rfl⟩
  rw [← hAe] at hD hE
  have hA : ∀ q : Nat, s.heap.size ≤ q → A q := fun q h => by rw [hAe]; exact Or.inr h
  have hS : va_S A s.heap s.heap [] := va_S.rf
  have hl := lv_entry ([.ref (q 17), .int g9, .int n9]) (n := 4) (Nat.le_of_ble_eq_true rfl)
  rw [lg_entry_eq]
  generalize (lg_sl ([.ref (q 17), .int g9, .int n9]) ++ List.replicate (4 - (lg_sl ([.ref (q 17), .int g9, .int n9])).length) Slot.unset).toArray = ls at hl ⊢
  have hl : lv_has ls 4 [(0, .ref (q 17)), (1, .int g9), (2, .int n9)] := hl
  refine wq (fun Q hQ => ?_)
  have hinX7 : ∀ w ∈ wsX70, w ∈ (wG yX7_makeArray cX7_makeArray 4 (some .int)) := fun w h => List.mem_cons_of_mem _ (inlX7 w h)
  have kc0 : (0 : Int32).toInt = 0 := by decide
  have kc1 : (1 : Int32).toInt = 1 := by decide
  have kc2 : (301 : Int32).toInt = 301 := by decide
  have kc3 : (4000 : Int32).toInt = 4000 := by decide
  have kc4 : (0 : Int64).toInt = 0 := by decide
  have k_21_21 := hts (.fieldLink RX7 32 "ArrayTrainer$Store" "cellsMade" "I") (List.mem_cons_of_mem _ (wr21 _ (List.mem_of_getElem? (i := 21) rfl)))
  have k_4_22 := hts (.fieldLink RX7 25 "ArrayTrainer$Store" "things" "I") (List.mem_cons_of_mem _ (wr4 _ (List.mem_of_getElem? (i := 22) rfl)))
  have k_4_18 := hts (.fieldLink RX7 11 "ArrayTrainer$Store" "classes" "[I") (List.mem_cons_of_mem _ (wr4 _ (List.mem_of_getElem? (i := 18) rfl)))
  have k_4_19 := hts (.fieldLink RX7 15 "ArrayTrainer$Store" "starts" "[I") (List.mem_cons_of_mem _ (wr4 _ (List.mem_of_getElem? (i := 19) rfl)))
  have k_4_20 := hts (.fieldLink RX7 18 "ArrayTrainer$Store" "lengths" "[I") (List.mem_cons_of_mem _ (wr4 _ (List.mem_of_getElem? (i := 20) rfl)))
  have k_21_20 := hts (.fieldLink RX7 29 "ArrayTrainer$Store" "arraysMade" "I") (List.mem_cons_of_mem _ (wr21 _ (List.mem_of_getElem? (i := 20) rfl)))
  have k_4_21 := hts (.fieldLink RX7 21 "ArrayTrainer$Store" "cells" "[J") (List.mem_cons_of_mem _ (wr4 _ (List.mem_of_getElem? (i := 21) rfl)))
  obtain ⟨H, hH⟩ : ∃ H : Heap, H = s.heap := ⟨_, rfl⟩
  obtain ⟨locs, hlc⟩ : ∃ L : List Loc, L = [] := ⟨_, rfl⟩
  have hP : va_P D vwCl (tw cs q v_t_tapeSize v_t_textSize v_t_faultKind a_t_tape a_t_text a_g_beyond v_g_size a_g_steps a_h_beyond v_h_size a_h_steps a_r_scratch a_r_now v_r_takes v_r_negative v_r_namePlace v_r_faultKind v_r_faultPlace v_a_size v_a_limit v_a_digits v_a_kind v_a_from v_a_to v_o_size a_o_out v_b_size v_b_limit v_b_digits v_b_kind v_b_from v_b_to a_u_atom a_u_other a_u_hand v_u_marksMade v_u_came v_u_guesses v_u_right v_u_taken a_u_vars a_u_marks a_u_outcomes a_u_indexes v_s_things v_s_looked v_s_lookedTooOften v_s_arraysMade v_s_cellsMade a_s_classes a_s_starts a_s_lengths a_s_cells a_L a_K a_vc a_vd a_si a_sj a_iv a_inn a_ac) H := by rw [hH]; exact hP
  have hS : va_S A s.heap H locs := by rw [hH, hlc]; exact hS
  refine wHL hH hlc ?_
  have b_g9 := iB g9
  have b_n9 := iB n9
  obtain ⟨⟨h1, h2⟩, ⟨h3, h4⟩, h5⟩ := id p_0
  refine lv_iload_n hx hb dX7_makeArray_0 rfl (lv_at hl 2 rfl) ?_
  refine m_if_lt (X := n9.toInt) (tgt := 26) hx hb dX7_makeArray_1 (by decide) rfl (fun c1 => ?_) (fun c1 => ?_)
  · skip
    refine lv_iconst (v := 0) hx hb dX7_makeArray_26 (by decide) ?_
    subst hAe
    rw [hQ]
    exact W.iret (v := 0) hx hb hr (fun t ht hW => ⟨⟨0, _, rfl, ⟨v_s_things, v_s_arraysMade, v_s_cellsMade, a_s_classes, a_s_starts, a_s_lengths, a_s_cells, rfl, by first | assumption | exact STO.set p_0 (by omega) (by omega) (by omega) (by omega) (by omega) (by omega) (by omega) e_a_s_starts_50 e_a_s_lengths_60, by first | exact Or.inl (by decide) | exact Or.inr ⟨by omega, e_a_s_starts_50, e_a_s_lengths_60, by omega⟩, by first | assumption | omega | (intros; omega) | decide, by first | assumption | omega | (intros; omega) | decide⟩, by rw [ht]; exact hP, va_K.moved hW.alike hK, hD⟩, hS.F ht⟩) hS.2.2 dX7_makeArray_27
  · skip
    refine lv_iload_n hx hb dX7_makeArray_4 rfl (lv_at hl 2 rfl) ?_
    refine lv_sipush (v := 4000) hx hb dX7_makeArray_5 (by decide) ?_
    refine lv_aload_n hx hb dX7_makeArray_8 rfl (lv_at hl 0 rfl) ?_
    refine va_get (D := D) (ci := 6) (v := .int v_s_cellsMade) (C := RX7) (T := TX7) (N := 9) hx hb hts hinX7 hown hK hP 17 rfl rfl 8 (by decide) k_21_21 (fun _ h9 => h9) rfl dX7_makeArray_9 ?_
    refine m_isub (X := 4000) (Y := v_s_cellsMade.toInt) hx hb dX7_makeArray_12 (by decide) rfl (fun x12 e_x12 g9 => ?_)
    obtain ⟨k_x12, g_x12⟩ := g9
    have b_x12 := iB x12
    try (have q_x12 : x12.toInt = 4000 - v_s_cellsMade.toInt := (by omega); clear g_x12 k_x12)
    refine m_icmp_gt (X := n9.toInt) (Y := x12.toInt) (tgt := 26) hx hb dX7_makeArray_13 (by decide) rfl rfl (fun c13 => ?_) (fun c13 => ?_)
    · skip
      refine lv_iconst (v := 0) hx hb dX7_makeArray_26 (by decide) ?_
      subst hAe
      rw [hQ]
      exact W.iret (v := 0) hx hb hr (fun t ht hW => ⟨⟨0, _, rfl, ⟨v_s_things, v_s_arraysMade, v_s_cellsMade, a_s_classes, a_s_starts, a_s_lengths, a_s_cells, rfl, by first | assumption | exact STO.set p_0 (by omega) (by omega) (by omega) (by omega) (by omega) (by omega) (by omega) e_a_s_starts_50 e_a_s_lengths_60, by first | exact Or.inl (by decide) | exact Or.inr ⟨by omega, e_a_s_starts_50, e_a_s_lengths_60, by omega⟩, by first | assumption | omega | (intros; omega) | decide, by first | assumption | omega | (intros; omega) | decide⟩, by rw [ht]; exact hP, va_K.moved hW.alike hK, hD⟩, hS.F ht⟩) hS.2.2 dX7_makeArray_27
    · skip
      refine lv_aload_n hx hb dX7_makeArray_16 rfl (lv_at hl 0 rfl) ?_
      refine va_get (D := D) (ci := 6) (v := .int v_s_things) (C := RX7) (T := TX7) (N := 9) hx hb hts hinX7 hown hK hP 17 rfl rfl 4 (by decide) k_4_22 (fun _ h9 => h9) rfl dX7_makeArray_17 ?_
      refine lv_sipush (v := 301) hx hb dX7_makeArray_20 (by decide) ?_
      refine m_icmp_lt (X := v_s_things.toInt) (Y := 301) (tgt := 28) hx hb dX7_makeArray_23 (by decide) rfl (by decide) (fun c23 => ?_) (fun c23 => ?_)
      · skip
        have hb1 : n9.toInt ≤ 4000 - v_s_cellsMade.toInt := by omega
        have hb2 : 0 ≤ n9.toInt := by omega
        have hb3 : v_s_things.toInt < 301 := by omega
        refine lv_aload_n hx hb dX7_makeArray_28 rfl (lv_at hl 0 rfl) ?_
        refine va_get (D := D) (ci := 6) (v := .ref (q 18)) (C := RX7) (T := TX7) (N := 9) hx hb hts hinX7 hown hK hP 17 rfl rfl 0 (by decide) k_4_18 (fun _ h9 => h9) rfl dX7_makeArray_29 ?_
        refine lv_aload_n hx hb dX7_makeArray_32 rfl (lv_at hl 0 rfl) ?_
        refine va_get (D := D) (ci := 6) (v := .int v_s_things) (C := RX7) (T := TX7) (N := 9) hx hb hts hinX7 hown hK hP 17 rfl rfl 4 (by decide) k_4_22 (fun _ h9 => h9) rfl dX7_makeArray_33 ?_
        refine lv_iload_n hx hb dX7_makeArray_36 rfl (lv_at hl 1 rfl) ?_
        refine va_iast hx hb hK hP hD hS 18 0 rfl rfl (ix (by omega) (by omega)) dX7_makeArray_37 (fun H locs hP hD hS => ?_)
        obtain ⟨a_s_classes_37, e_a_s_classes_37⟩ : ∃ g, g = upd a_s_classes v_s_things.toNatClampNeg g9 := ⟨_, rfl⟩
        have hP : va_P D vwCl (tw cs q v_t_tapeSize v_t_textSize v_t_faultKind a_t_tape a_t_text a_g_beyond v_g_size a_g_steps a_h_beyond v_h_size a_h_steps a_r_scratch a_r_now v_r_takes v_r_negative v_r_namePlace v_r_faultKind v_r_faultPlace v_a_size v_a_limit v_a_digits v_a_kind v_a_from v_a_to v_o_size a_o_out v_b_size v_b_limit v_b_digits v_b_kind v_b_from v_b_to a_u_atom a_u_other a_u_hand v_u_marksMade v_u_came v_u_guesses v_u_right v_u_taken a_u_vars a_u_marks a_u_outcomes a_u_indexes v_s_things v_s_looked v_s_lookedTooOften v_s_arraysMade v_s_cellsMade a_s_classes_37 a_s_starts a_s_lengths a_s_cells a_L a_K a_vc a_vd a_si a_sj a_iv a_inn a_ac) H := by rw [e_a_s_classes_37]; exact hP
        have hD : va_D A (tw cs q v_t_tapeSize v_t_textSize v_t_faultKind a_t_tape a_t_text a_g_beyond v_g_size a_g_steps a_h_beyond v_h_size a_h_steps a_r_scratch a_r_now v_r_takes v_r_negative v_r_namePlace v_r_faultKind v_r_faultPlace v_a_size v_a_limit v_a_digits v_a_kind v_a_from v_a_to v_o_size a_o_out v_b_size v_b_limit v_b_digits v_b_kind v_b_from v_b_to a_u_atom a_u_other a_u_hand v_u_marksMade v_u_came v_u_guesses v_u_right v_u_taken a_u_vars a_u_marks a_u_outcomes a_u_indexes v_s_things v_s_looked v_s_lookedTooOften v_s_arraysMade v_s_cellsMade a_s_classes_37 a_s_starts a_s_lengths a_s_cells a_L a_K a_vc a_vd a_si a_sj a_iv a_inn a_ac) := by rw [e_a_s_classes_37]; exact hD
        refine lv_aload_n hx hb dX7_makeArray_38 rfl (lv_at hl 0 rfl) ?_
        refine va_get (D := D) (ci := 6) (v := .ref (q 19)) (C := RX7) (T := TX7) (N := 9) hx hb hts hinX7 hown hK hP 17 rfl rfl 1 (by decide) k_4_19 (fun _ h9 => h9) rfl dX7_makeArray_39 ?_
        refine lv_aload_n hx hb dX7_makeArray_42 rfl (lv_at hl 0 rfl) ?_
        refine va_get (D := D) (ci := 6) (v := .int v_s_things) (C := RX7) (T := TX7) (N := 9) hx hb hts hinX7 hown hK hP 17 rfl rfl 4 (by decide) k_4_22 (fun _ h9 => h9) rfl dX7_makeArray_43 ?_
        refine lv_aload_n hx hb dX7_makeArray_46 rfl (lv_at hl 0 rfl) ?_
        refine va_get (D := D) (ci := 6) (v := .int v_s_cellsMade) (C := RX7) (T := TX7) (N := 9) hx hb hts hinX7 hown hK hP 17 rfl rfl 8 (by decide) k_21_21 (fun _ h9 => h9) rfl dX7_makeArray_47 ?_
        refine va_iast hx hb hK hP hD hS 19 0 rfl rfl (ix (by omega) (by omega)) dX7_makeArray_50 (fun H locs hP hD hS => ?_)
        obtain ⟨a_s_starts_50, e_a_s_starts_50⟩ : ∃ g, g = upd a_s_starts v_s_things.toNatClampNeg v_s_cellsMade := ⟨_, rfl⟩
        have hP : va_P D vwCl (tw cs q v_t_tapeSize v_t_textSize v_t_faultKind a_t_tape a_t_text a_g_beyond v_g_size a_g_steps a_h_beyond v_h_size a_h_steps a_r_scratch a_r_now v_r_takes v_r_negative v_r_namePlace v_r_faultKind v_r_faultPlace v_a_size v_a_limit v_a_digits v_a_kind v_a_from v_a_to v_o_size a_o_out v_b_size v_b_limit v_b_digits v_b_kind v_b_from v_b_to a_u_atom a_u_other a_u_hand v_u_marksMade v_u_came v_u_guesses v_u_right v_u_taken a_u_vars a_u_marks a_u_outcomes a_u_indexes v_s_things v_s_looked v_s_lookedTooOften v_s_arraysMade v_s_cellsMade a_s_classes_37 a_s_starts_50 a_s_lengths a_s_cells a_L a_K a_vc a_vd a_si a_sj a_iv a_inn a_ac) H := by rw [e_a_s_starts_50]; exact hP
        have hD : va_D A (tw cs q v_t_tapeSize v_t_textSize v_t_faultKind a_t_tape a_t_text a_g_beyond v_g_size a_g_steps a_h_beyond v_h_size a_h_steps a_r_scratch a_r_now v_r_takes v_r_negative v_r_namePlace v_r_faultKind v_r_faultPlace v_a_size v_a_limit v_a_digits v_a_kind v_a_from v_a_to v_o_size a_o_out v_b_size v_b_limit v_b_digits v_b_kind v_b_from v_b_to a_u_atom a_u_other a_u_hand v_u_marksMade v_u_came v_u_guesses v_u_right v_u_taken a_u_vars a_u_marks a_u_outcomes a_u_indexes v_s_things v_s_looked v_s_lookedTooOften v_s_arraysMade v_s_cellsMade a_s_classes_37 a_s_starts_50 a_s_lengths a_s_cells a_L a_K a_vc a_vd a_si a_sj a_iv a_inn a_ac) := by rw [e_a_s_starts_50]; exact hD
        refine lv_aload_n hx hb dX7_makeArray_51 rfl (lv_at hl 0 rfl) ?_
        refine va_get (D := D) (ci := 6) (v := .ref (q 20)) (C := RX7) (T := TX7) (N := 9) hx hb hts hinX7 hown hK hP 17 rfl rfl 2 (by decide) k_4_20 (fun _ h9 => h9) rfl dX7_makeArray_52 ?_
        refine lv_aload_n hx hb dX7_makeArray_55 rfl (lv_at hl 0 rfl) ?_
        refine va_get (D := D) (ci := 6) (v := .int v_s_things) (C := RX7) (T := TX7) (N := 9) hx hb hts hinX7 hown hK hP 17 rfl rfl 4 (by decide) k_4_22 (fun _ h9 => h9) rfl dX7_makeArray_56 ?_
        refine lv_iload_n hx hb dX7_makeArray_59 rfl (lv_at hl 2 rfl) ?_
        refine va_iast hx hb hK hP hD hS 20 0 rfl rfl (ix (by omega) (by omega)) dX7_makeArray_60 (fun H locs hP hD hS => ?_)
        obtain ⟨a_s_lengths_60, e_a_s_lengths_60⟩ : ∃ g, g = upd a_s_lengths v_s_things.toNatClampNeg n9 := ⟨_, rfl⟩
        have hP : va_P D vwCl (tw cs q v_t_tapeSize v_t_textSize v_t_faultKind a_t_tape a_t_text a_g_beyond v_g_size a_g_steps a_h_beyond v_h_size a_h_steps a_r_scratch a_r_now v_r_takes v_r_negative v_r_namePlace v_r_faultKind v_r_faultPlace v_a_size v_a_limit v_a_digits v_a_kind v_a_from v_a_to v_o_size a_o_out v_b_size v_b_limit v_b_digits v_b_kind v_b_from v_b_to a_u_atom a_u_other a_u_hand v_u_marksMade v_u_came v_u_guesses v_u_right v_u_taken a_u_vars a_u_marks a_u_outcomes a_u_indexes v_s_things v_s_looked v_s_lookedTooOften v_s_arraysMade v_s_cellsMade a_s_classes_37 a_s_starts_50 a_s_lengths_60 a_s_cells a_L a_K a_vc a_vd a_si a_sj a_iv a_inn a_ac) H := by rw [e_a_s_lengths_60]; exact hP
        have hD : va_D A (tw cs q v_t_tapeSize v_t_textSize v_t_faultKind a_t_tape a_t_text a_g_beyond v_g_size a_g_steps a_h_beyond v_h_size a_h_steps a_r_scratch a_r_now v_r_takes v_r_negative v_r_namePlace v_r_faultKind v_r_faultPlace v_a_size v_a_limit v_a_digits v_a_kind v_a_from v_a_to v_o_size a_o_out v_b_size v_b_limit v_b_digits v_b_kind v_b_from v_b_to a_u_atom a_u_other a_u_hand v_u_marksMade v_u_came v_u_guesses v_u_right v_u_taken a_u_vars a_u_marks a_u_outcomes a_u_indexes v_s_things v_s_looked v_s_lookedTooOften v_s_arraysMade v_s_cellsMade a_s_classes_37 a_s_starts_50 a_s_lengths_60 a_s_cells a_L a_K a_vc a_vd a_si a_sj a_iv a_inn a_ac) := by rw [e_a_s_lengths_60]; exact hD
        refine lv_iconst (v := 0) hx hb dX7_makeArray_61 (by decide) ?_
        refine lv_istore_n (lv' := [(3, .int 0), (0, .ref (q 17)), (1, .int g9), (2, .int n9)]) hx hb dX7_makeArray_62 rfl hl (by decide) rfl (fun ls hl => ?_)
        have J63 : ∀ (n63 : Nat) (l3_63 : Int32) (a_s_cells_63 : Nat → Int64) (H : Heap) (locs : List Loc) (ls : Array Slot), (0 ≤ l3_63.toInt) → (l3_63.toInt ≤ n9.toInt) → (n9.toInt - l3_63.toInt < (n63 : Int)) → va_P D vwCl (tw cs q v_t_tapeSize v_t_textSize v_t_faultKind a_t_tape a_t_text a_g_beyond v_g_size a_g_steps a_h_beyond v_h_size a_h_steps a_r_scratch a_r_now v_r_takes v_r_negative v_r_namePlace v_r_faultKind v_r_faultPlace v_a_size v_a_limit v_a_digits v_a_kind v_a_from v_a_to v_o_size a_o_out v_b_size v_b_limit v_b_digits v_b_kind v_b_from v_b_to a_u_atom a_u_other a_u_hand v_u_marksMade v_u_came v_u_guesses v_u_right v_u_taken a_u_vars a_u_marks a_u_outcomes a_u_indexes v_s_things v_s_looked v_s_lookedTooOften v_s_arraysMade v_s_cellsMade a_s_classes_37 a_s_starts_50 a_s_lengths_60 a_s_cells_63 a_L a_K a_vc a_vd a_si a_sj a_iv a_inn a_ac) H → va_D A (tw cs q v_t_tapeSize v_t_textSize v_t_faultKind a_t_tape a_t_text a_g_beyond v_g_size a_g_steps a_h_beyond v_h_size a_h_steps a_r_scratch a_r_now v_r_takes v_r_negative v_r_namePlace v_r_faultKind v_r_faultPlace v_a_size v_a_limit v_a_digits v_a_kind v_a_from v_a_to v_o_size a_o_out v_b_size v_b_limit v_b_digits v_b_kind v_b_from v_b_to a_u_atom a_u_other a_u_hand v_u_marksMade v_u_came v_u_guesses v_u_right v_u_taken a_u_vars a_u_marks a_u_outcomes a_u_indexes v_s_things v_s_looked v_s_lookedTooOften v_s_arraysMade v_s_cellsMade a_s_classes_37 a_s_starts_50 a_s_lengths_60 a_s_cells_63 a_L a_K a_vc a_vd a_si a_sj a_iv a_inn a_ac) → va_S A s.heap H locs → lv_has ls 4 [(0, .ref (q 17)), (2, .int n9), (3, .int l3_63)] → W p l e (headSpec (wG yX7_makeArray cX7_makeArray 4 (some .int)) rmX7_makeArray).room s m ([.ref (q 17), .int g9, .int n9] : List Value).toArray below meth c H locs 0 0 Q (F0 m 63 ls []) := by
          intro n63
          induction n63 with
          | zero =>
            intro l3_63 a_s_cells_63 H locs ls f63_0 f63_1 hm63
            exfalso
            omega
          | succ n63 ih63 =>
            intro l3_63 a_s_cells_63 H locs ls f63_0 f63_1 hm63 hP hD hS hl
            refine lv_iload_n hx hb dX7_makeArray_63 rfl (lv_at hl 2 rfl) ?_
            refine lv_iload_n hx hb dX7_makeArray_64 rfl (lv_at hl 1 rfl) ?_
            refine m_icmp_ge (X := l3_63.toInt) (Y := n9.toInt) (tgt := 86) hx hb dX7_makeArray_65 (by decide) rfl rfl (fun c65 => ?_) (fun c65 => ?_)
            · skip
              refine lv_aload_n hx hb dX7_makeArray_86 rfl (lv_at hl 0 rfl) ?_
              refine lv_dup hx hb dX7_makeArray_87 rfl ?_
              refine va_get (D := D) (ci := 6) (v := .int v_s_cellsMade) (C := RX7) (T := TX7) (N := 9) hx hb hts hinX7 hown hK hP 17 rfl rfl 8 (by decide) k_21_21 (fun _ h9 => h9) rfl dX7_makeArray_88 ?_
              refine lv_iload_n hx hb dX7_makeArray_91 rfl (lv_at hl 1 rfl) ?_
              refine m_iadd (X := v_s_cellsMade.toInt) (Y := n9.toInt) hx hb dX7_makeArray_92 rfl rfl (fun x92 e_x92 g9 => ?_)
              obtain ⟨k_x92, g_x92⟩ := g9
              have b_x92 := iB x92
              try (have q_x92 : x92.toInt = v_s_cellsMade.toInt + n9.toInt := (by omega); clear g_x92 k_x92)
              refine va_put (D := D) (ci := 6) (v := .int x92) (ty := .int) (C := RX7) (T := TX7) (N := 9) hx hb hts hinX7 tyX7 tyX7_ok nmX7 hown hK hP hD hS 17 rfl rfl 8 (by decide) k_21_21 (fun _ h9 => h9) rfl (by decide +kernel) rfl rfl (Nat.le_of_ble_eq_true rfl) dX7_makeArray_93 (fun H locs hP hD hS => ?_)
              have hP : va_P D vwCl (tw cs q v_t_tapeSize v_t_textSize v_t_faultKind a_t_tape a_t_text a_g_beyond v_g_size a_g_steps a_h_beyond v_h_size a_h_steps a_r_scratch a_r_now v_r_takes v_r_negative v_r_namePlace v_r_faultKind v_r_faultPlace v_a_size v_a_limit v_a_digits v_a_kind v_a_from v_a_to v_o_size a_o_out v_b_size v_b_limit v_b_digits v_b_kind v_b_from v_b_to a_u_atom a_u_other a_u_hand v_u_marksMade v_u_came v_u_guesses v_u_right v_u_taken a_u_vars a_u_marks a_u_outcomes a_u_indexes v_s_things v_s_looked v_s_lookedTooOften v_s_arraysMade x92 a_s_classes_37 a_s_starts_50 a_s_lengths_60 a_s_cells_63 a_L a_K a_vc a_vd a_si a_sj a_iv a_inn a_ac) H := hP
              have hD : va_D A (tw cs q v_t_tapeSize v_t_textSize v_t_faultKind a_t_tape a_t_text a_g_beyond v_g_size a_g_steps a_h_beyond v_h_size a_h_steps a_r_scratch a_r_now v_r_takes v_r_negative v_r_namePlace v_r_faultKind v_r_faultPlace v_a_size v_a_limit v_a_digits v_a_kind v_a_from v_a_to v_o_size a_o_out v_b_size v_b_limit v_b_digits v_b_kind v_b_from v_b_to a_u_atom a_u_other a_u_hand v_u_marksMade v_u_came v_u_guesses v_u_right v_u_taken a_u_vars a_u_marks a_u_outcomes a_u_indexes v_s_things v_s_looked v_s_lookedTooOften v_s_arraysMade x92 a_s_classes_37 a_s_starts_50 a_s_lengths_60 a_s_cells_63 a_L a_K a_vc a_vd a_si a_sj a_iv a_inn a_ac) := hD
              refine lv_aload_n hx hb dX7_makeArray_96 rfl (lv_at hl 0 rfl) ?_
              refine lv_dup hx hb dX7_makeArray_97 rfl ?_
              refine va_get (D := D) (ci := 6) (v := .int v_s_arraysMade) (C := RX7) (T := TX7) (N := 9) hx hb hts hinX7 hown hK hP 17 rfl rfl 7 (by decide) k_21_20 (fun _ h9 => h9) rfl dX7_makeArray_98 ?_
              refine lv_iconst (v := 1) hx hb dX7_makeArray_101 (by decide) ?_
              refine m_iadd (X := v_s_arraysMade.toInt) (Y := 1) hx hb dX7_makeArray_102 rfl (by decide) (fun x102 e_x102 g9 => ?_)
              obtain ⟨k_x102, g_x102⟩ := g9
              have b_x102 := iB x102
              try (have q_x102 : x102.toInt = v_s_arraysMade.toInt + 1 := (by omega); clear g_x102 k_x102)
              refine va_put (D := D) (ci := 6) (v := .int x102) (ty := .int) (C := RX7) (T := TX7) (N := 9) hx hb hts hinX7 tyX7 tyX7_ok nmX7 hown hK hP hD hS 17 rfl rfl 7 (by decide) k_21_20 (fun _ h9 => h9) rfl (by decide +kernel) rfl rfl (Nat.le_of_ble_eq_true rfl) dX7_makeArray_103 (fun H locs hP hD hS => ?_)
              have hP : va_P D vwCl (tw cs q v_t_tapeSize v_t_textSize v_t_faultKind a_t_tape a_t_text a_g_beyond v_g_size a_g_steps a_h_beyond v_h_size a_h_steps a_r_scratch a_r_now v_r_takes v_r_negative v_r_namePlace v_r_faultKind v_r_faultPlace v_a_size v_a_limit v_a_digits v_a_kind v_a_from v_a_to v_o_size a_o_out v_b_size v_b_limit v_b_digits v_b_kind v_b_from v_b_to a_u_atom a_u_other a_u_hand v_u_marksMade v_u_came v_u_guesses v_u_right v_u_taken a_u_vars a_u_marks a_u_outcomes a_u_indexes v_s_things v_s_looked v_s_lookedTooOften x102 x92 a_s_classes_37 a_s_starts_50 a_s_lengths_60 a_s_cells_63 a_L a_K a_vc a_vd a_si a_sj a_iv a_inn a_ac) H := hP
              have hD : va_D A (tw cs q v_t_tapeSize v_t_textSize v_t_faultKind a_t_tape a_t_text a_g_beyond v_g_size a_g_steps a_h_beyond v_h_size a_h_steps a_r_scratch a_r_now v_r_takes v_r_negative v_r_namePlace v_r_faultKind v_r_faultPlace v_a_size v_a_limit v_a_digits v_a_kind v_a_from v_a_to v_o_size a_o_out v_b_size v_b_limit v_b_digits v_b_kind v_b_from v_b_to a_u_atom a_u_other a_u_hand v_u_marksMade v_u_came v_u_guesses v_u_right v_u_taken a_u_vars a_u_marks a_u_outcomes a_u_indexes v_s_things v_s_looked v_s_lookedTooOften x102 x92 a_s_classes_37 a_s_starts_50 a_s_lengths_60 a_s_cells_63 a_L a_K a_vc a_vd a_si a_sj a_iv a_inn a_ac) := hD
              refine lv_aload_n hx hb dX7_makeArray_106 rfl (lv_at hl 0 rfl) ?_
              refine lv_dup hx hb dX7_makeArray_107 rfl ?_
              refine va_get (D := D) (ci := 6) (v := .int v_s_things) (C := RX7) (T := TX7) (N := 9) hx hb hts hinX7 hown hK hP 17 rfl rfl 4 (by decide) k_4_22 (fun _ h9 => h9) rfl dX7_makeArray_108 ?_
              refine lv_iconst (v := 1) hx hb dX7_makeArray_111 (by decide) ?_
              refine m_iadd (X := v_s_things.toInt) (Y := 1) hx hb dX7_makeArray_112 rfl (by decide) (fun x112 e_x112 g9 => ?_)
              obtain ⟨k_x112, g_x112⟩ := g9
              have b_x112 := iB x112
              try (have q_x112 : x112.toInt = v_s_things.toInt + 1 := (by omega); clear g_x112 k_x112)
              refine va_put (D := D) (ci := 6) (v := .int x112) (ty := .int) (C := RX7) (T := TX7) (N := 9) hx hb hts hinX7 tyX7 tyX7_ok nmX7 hown hK hP hD hS 17 rfl rfl 4 (by decide) k_4_22 (fun _ h9 => h9) rfl (by decide +kernel) rfl rfl (Nat.le_of_ble_eq_true rfl) dX7_makeArray_113 (fun H locs hP hD hS => ?_)
              have hP : va_P D vwCl (tw cs q v_t_tapeSize v_t_textSize v_t_faultKind a_t_tape a_t_text a_g_beyond v_g_size a_g_steps a_h_beyond v_h_size a_h_steps a_r_scratch a_r_now v_r_takes v_r_negative v_r_namePlace v_r_faultKind v_r_faultPlace v_a_size v_a_limit v_a_digits v_a_kind v_a_from v_a_to v_o_size a_o_out v_b_size v_b_limit v_b_digits v_b_kind v_b_from v_b_to a_u_atom a_u_other a_u_hand v_u_marksMade v_u_came v_u_guesses v_u_right v_u_taken a_u_vars a_u_marks a_u_outcomes a_u_indexes x112 v_s_looked v_s_lookedTooOften x102 x92 a_s_classes_37 a_s_starts_50 a_s_lengths_60 a_s_cells_63 a_L a_K a_vc a_vd a_si a_sj a_iv a_inn a_ac) H := hP
              have hD : va_D A (tw cs q v_t_tapeSize v_t_textSize v_t_faultKind a_t_tape a_t_text a_g_beyond v_g_size a_g_steps a_h_beyond v_h_size a_h_steps a_r_scratch a_r_now v_r_takes v_r_negative v_r_namePlace v_r_faultKind v_r_faultPlace v_a_size v_a_limit v_a_digits v_a_kind v_a_from v_a_to v_o_size a_o_out v_b_size v_b_limit v_b_digits v_b_kind v_b_from v_b_to a_u_atom a_u_other a_u_hand v_u_marksMade v_u_came v_u_guesses v_u_right v_u_taken a_u_vars a_u_marks a_u_outcomes a_u_indexes x112 v_s_looked v_s_lookedTooOften x102 x92 a_s_classes_37 a_s_starts_50 a_s_lengths_60 a_s_cells_63 a_L a_K a_vc a_vd a_si a_sj a_iv a_inn a_ac) := hD
              refine lv_aload_n hx hb dX7_makeArray_116 rfl (lv_at hl 0 rfl) ?_
              refine va_get (D := D) (ci := 6) (v := .int x112) (C := RX7) (T := TX7) (N := 9) hx hb hts hinX7 hown hK hP 17 rfl rfl 4 (by decide) k_4_22 (fun _ h9 => h9) rfl dX7_makeArray_117 ?_
              refine lv_iconst (v := 1) hx hb dX7_makeArray_120 (by decide) ?_
              refine m_isub (X := x112.toInt) (Y := 1) hx hb dX7_makeArray_121 rfl (by decide) (fun x121 e_x121 g9 => ?_)
              obtain ⟨k_x121, g_x121⟩ := g9
              have b_x121 := iB x121
              try (have q_x121 : x121.toInt = x112.toInt - 1 := (by omega); clear g_x121 k_x121)
              subst hAe
              rw [hQ]
              exact W.iret (v := x121) hx hb hr (fun t ht hW => ⟨⟨x121, _, rfl, ⟨x112, x102, x92, a_s_classes_37, a_s_starts_50, a_s_lengths_60, a_s_cells_63, rfl, by first | assumption | exact STO.set p_0 (by omega) (by omega) (by omega) (by omega) (by omega) (by omega) (by omega) e_a_s_starts_50 e_a_s_lengths_60, by first | exact Or.inl (by decide) | exact Or.inr ⟨by omega, e_a_s_starts_50, e_a_s_lengths_60, by omega⟩, by first | assumption | omega | (intros; omega) | decide, by first | assumption | omega | (intros; omega) | decide⟩, by rw [ht]; exact hP, va_K.moved hW.alike hK, hD⟩, hS.F ht⟩) hS.2.2 dX7_makeArray_122
            · skip
              refine lv_aload_n hx hb dX7_makeArray_68 rfl (lv_at hl 0 rfl) ?_
              refine va_get (D := D) (ci := 6) (v := .ref (q 21)) (C := RX7) (T := TX7) (N := 9) hx hb hts hinX7 hown hK hP 17 rfl rfl 3 (by decide) k_4_21 (fun _ h9 => h9) rfl dX7_makeArray_69 ?_
              refine lv_aload_n hx hb dX7_makeArray_72 rfl (lv_at hl 0 rfl) ?_
              refine va_get (D := D) (ci := 6) (v := .int v_s_cellsMade) (C := RX7) (T := TX7) (N := 9) hx hb hts hinX7 hown hK hP 17 rfl rfl 8 (by decide) k_21_21 (fun _ h9 => h9) rfl dX7_makeArray_73 ?_
              refine lv_iload_n hx hb dX7_makeArray_76 rfl (lv_at hl 2 rfl) ?_
              refine m_iadd (X := v_s_cellsMade.toInt) (Y := l3_63.toInt) hx hb dX7_makeArray_77 rfl rfl (fun x77 e_x77 g9 => ?_)
              obtain ⟨k_x77, g_x77⟩ := g9
              have b_x77 := iB x77
              try (have q_x77 : x77.toInt = v_s_cellsMade.toInt + l3_63.toInt := (by omega); clear g_x77 k_x77)
              refine lv_lconst (v := 0) hx hb dX7_makeArray_78 (by decide) ?_
              refine va_last hx hb hK hP hD hS 21 1 rfl rfl (ix (by omega) (by omega)) dX7_makeArray_79 (fun H locs hP hD hS => ?_)
              obtain ⟨a_s_cells_79, e_a_s_cells_79⟩ : ∃ g, g = vp_updL a_s_cells_63 x77.toNatClampNeg (0 : Int64) := ⟨_, rfl⟩
              have hP : va_P D vwCl (tw cs q v_t_tapeSize v_t_textSize v_t_faultKind a_t_tape a_t_text a_g_beyond v_g_size a_g_steps a_h_beyond v_h_size a_h_steps a_r_scratch a_r_now v_r_takes v_r_negative v_r_namePlace v_r_faultKind v_r_faultPlace v_a_size v_a_limit v_a_digits v_a_kind v_a_from v_a_to v_o_size a_o_out v_b_size v_b_limit v_b_digits v_b_kind v_b_from v_b_to a_u_atom a_u_other a_u_hand v_u_marksMade v_u_came v_u_guesses v_u_right v_u_taken a_u_vars a_u_marks a_u_outcomes a_u_indexes v_s_things v_s_looked v_s_lookedTooOften v_s_arraysMade v_s_cellsMade a_s_classes_37 a_s_starts_50 a_s_lengths_60 a_s_cells_79 a_L a_K a_vc a_vd a_si a_sj a_iv a_inn a_ac) H := by rw [e_a_s_cells_79]; exact hP
              have hD : va_D A (tw cs q v_t_tapeSize v_t_textSize v_t_faultKind a_t_tape a_t_text a_g_beyond v_g_size a_g_steps a_h_beyond v_h_size a_h_steps a_r_scratch a_r_now v_r_takes v_r_negative v_r_namePlace v_r_faultKind v_r_faultPlace v_a_size v_a_limit v_a_digits v_a_kind v_a_from v_a_to v_o_size a_o_out v_b_size v_b_limit v_b_digits v_b_kind v_b_from v_b_to a_u_atom a_u_other a_u_hand v_u_marksMade v_u_came v_u_guesses v_u_right v_u_taken a_u_vars a_u_marks a_u_outcomes a_u_indexes v_s_things v_s_looked v_s_lookedTooOften v_s_arraysMade v_s_cellsMade a_s_classes_37 a_s_starts_50 a_s_lengths_60 a_s_cells_79 a_L a_K a_vc a_vd a_si a_sj a_iv a_inn a_ac) := by rw [e_a_s_cells_79]; exact hD
              obtain ⟨x80, e_x80⟩ : ∃ z : Int32, z = l3_63 + (1 : Int32) := ⟨_, rfl⟩
              obtain ⟨k_x80, g_x80⟩ : ∃ k : Int, x80.toInt = l3_63.toInt + (1) + k * 4294967296 := by rw [e_x80]; exact iAdd l3_63 (1)
              have b_x80 := iB x80
              try (have q_x80 : x80.toInt = l3_63.toInt + (1) := (by omega); clear g_x80 k_x80)
              refine lv_iinc (v := x80) (lv' := [(3, .int x80), (0, .ref (q 17)), (2, .int n9)]) hx hb dX7_makeArray_80 hl (k := 2) rfl (by rw [e_x80]; rfl) (by decide) rfl (fun ls hl => ?_)
              refine lv_goto (tgt := 63) hx hb dX7_makeArray_83 (by decide) ?_
              exact ih63 x80 a_s_cells_79 H locs ls (by first | assumption | omega | (intros; omega) | decide) (by first | assumption | omega | (intros; omega) | decide) (by omega) hP hD hS (lv_sub hl [1, 2, 0] rfl)
        exact J63 ((n9.toInt - (0 : Int32).toInt).toNat + 1) (0 : Int32) a_s_cells H locs ls (by first | assumption | omega | (intros; omega) | decide) (by first | assumption | omega | (intros; omega) | decide) (by omega) hP hD hS (lv_sub hl [1, 3, 0] rfl)
      · skip
        refine lv_iconst (v := 0) hx hb dX7_makeArray_26 (by decide) ?_
        subst hAe
        rw [hQ]
        exact W.iret (v := 0) hx hb hr (fun t ht hW => ⟨⟨0, _, rfl, ⟨v_s_things, v_s_arraysMade, v_s_cellsMade, a_s_classes, a_s_starts, a_s_lengths, a_s_cells, rfl, by first | assumption | exact STO.set p_0 (by omega) (by omega) (by omega) (by omega) (by omega) (by omega) (by omega) e_a_s_starts_50 e_a_s_lengths_60, by first | exact Or.inl (by decide) | exact Or.inr ⟨by omega, e_a_s_starts_50, e_a_s_lengths_60, by omega⟩, by first | assumption | omega | (intros; omega) | decide, by first | assumption | omega | (intros; omega) | decide⟩, by rw [ht]; exact hP, va_K.moved hW.alike hK, hD⟩, hS.F ht⟩) hS.2.2 dX7_makeArray_27

def rmX7_isThing : Room := { frames := 20, cells := 0, slots := 0, locals := 400 }
set_option maxHeartbeats 4000000 in
set_option maxRecDepth 100000 in
theorem tX7_isThing {l : Launch} {D : va_G} {K : Nat → Nat → Nat} {cs : Nat → ClassId} {q : Nat → Nat} {v_t_tapeSize v_t_textSize v_t_faultKind v_g_size v_h_size v_r_takes v_r_negative v_r_namePlace v_r_faultKind v_r_faultPlace v_a_size v_a_limit v_a_digits v_a_kind v_a_from v_a_to v_o_size v_b_size v_b_limit v_b_digits v_b_kind v_b_from v_b_to v_u_marksMade v_u_came v_u_guesses v_u_right v_u_taken v_s_things v_s_looked v_s_lookedTooOften v_s_arraysMade v_s_cellsMade : Int32} {a_t_tape a_t_text a_o_out a_u_outcomes a_u_indexes a_s_classes a_s_starts a_s_lengths a_vc : Nat → Int32} {a_g_beyond a_h_beyond a_r_scratch a_r_now a_u_atom a_u_other a_u_hand : Nat} {a_g_steps a_h_steps a_u_vars a_u_marks : Nat → Option Nat} {a_s_cells a_vd a_sj : Nat → Int64} {a_L : List Nat} {a_K a_iv a_inn : Nat → Nat} {a_si a_ac : Nat → Nat → Int32} (a9 : Int32) : CtI l yX7_isThing (wG yX7_isThing cX7_isThing 2 (some .boolean)) rmX7_isThing D (twT cs) K [.ref (q 17), .int a9] (tw cs q v_t_tapeSize v_t_textSize v_t_faultKind a_t_tape a_t_text a_g_beyond v_g_size a_g_steps a_h_beyond v_h_size a_h_steps a_r_scratch a_r_now v_r_takes v_r_negative v_r_namePlace v_r_faultKind v_r_faultPlace v_a_size v_a_limit v_a_digits v_a_kind v_a_from v_a_to v_o_size a_o_out v_b_size v_b_limit v_b_digits v_b_kind v_b_from v_b_to a_u_atom a_u_other a_u_hand v_u_marksMade v_u_came v_u_guesses v_u_right v_u_taken a_u_vars a_u_marks a_u_outcomes a_u_indexes v_s_things v_s_looked v_s_lookedTooOften v_s_arraysMade v_s_cellsMade a_s_classes a_s_starts a_s_lengths a_s_cells a_L a_K a_vc a_vd a_si a_sj a_iv a_inn a_ac) (fun r w1 => w1 = (tw cs q v_t_tapeSize v_t_textSize v_t_faultKind a_t_tape a_t_text a_g_beyond v_g_size a_g_steps a_h_beyond v_h_size a_h_steps a_r_scratch a_r_now v_r_takes v_r_negative v_r_namePlace v_r_faultKind v_r_faultPlace v_a_size v_a_limit v_a_digits v_a_kind v_a_from v_a_to v_o_size a_o_out v_b_size v_b_limit v_b_digits v_b_kind v_b_from v_b_to a_u_atom a_u_other a_u_hand v_u_marksMade v_u_came v_u_guesses v_u_right v_u_taken a_u_vars a_u_marks a_u_outcomes a_u_indexes v_s_things v_s_looked v_s_lookedTooOften v_s_arraysMade v_s_cellsMade a_s_classes a_s_starts a_s_lengths a_s_cells a_L a_K a_vc a_vd a_si a_sj a_iv a_inn a_ac) ∧ ((r.toInt = 1 ∧ 0 < a9.toInt ∧ a9.toInt < v_s_things.toInt) ∨ r.toInt = 0)) 0 0 := by
  intro sz
  refine Met.ofW (cc := cX7_isThing) (maxL := 2) (ret := (some .boolean)) (by decide) rfl ?_
  intro p e s m args below meth c s₁ B hml hv
  obtain ⟨rfl, hsz, hP, hK, hD0, hE⟩ := hv
  have hx := B.exec
  have hb := B.bytes
  have hr := B.returns
  have hts := atoms_spec (ws := (wG yX7_isThing cX7_isThing 2 (some .boolean))) B.pre
  have hown : s.vm.findClass RX7 = some m.cls := findClass_of_methodNamed B.named
  have hlocks := B.notSynchronized
  subst hsz
  have hD := hD0.self (sz := s.heap.size)
  obtain ⟨A, hAe⟩ : ∃ A : Nat → Prop, A = va_A (tw cs q v_t_tapeSize v_t_textSize v_t_faultKind a_t_tape a_t_text a_g_beyond v_g_size a_g_steps a_h_beyond v_h_size a_h_steps a_r_scratch a_r_now v_r_takes v_r_negative v_r_namePlace v_r_faultKind v_r_faultPlace v_a_size v_a_limit v_a_digits v_a_kind v_a_from v_a_to v_o_size a_o_out v_b_size v_b_limit v_b_digits v_b_kind v_b_from v_b_to a_u_atom a_u_other a_u_hand v_u_marksMade v_u_came v_u_guesses v_u_right v_u_taken a_u_vars a_u_marks a_u_outcomes a_u_indexes v_s_things v_s_looked v_s_lookedTooOften v_s_arraysMade v_s_cellsMade a_s_classes a_s_starts a_s_lengths a_s_cells a_L a_K a_vc a_vd a_si a_sj a_iv a_inn a_ac) s.heap.size := ⟨_, rfl⟩
  rw [← hAe] at hD hE
  have hA : ∀ q : Nat, s.heap.size ≤ q → A q := fun q h => by rw [hAe]; exact Or.inr h
  have hS : va_S A s.heap s.heap [] := va_S.rf
  have hl := lv_entry ([.ref (q 17), .int a9]) (n := 2) (Nat.le_of_ble_eq_true rfl)
  rw [lg_entry_eq]
  generalize (lg_sl ([.ref (q 17), .int a9]) ++ List.replicate (2 - (lg_sl ([.ref (q 17), .int a9])).length) Slot.unset).toArray = ls at hl ⊢
  have hl : lv_has ls 2 [(0, .ref (q 17)), (1, .int a9)] := hl
  refine wq (fun Q hQ => ?_)
  have hinX7 : ∀ w ∈ wsX70, w ∈ (wG yX7_isThing cX7_isThing 2 (some .boolean)) := fun w h => List.mem_cons_of_mem _ (inlX7 w h)
  have kc0 : (0 : Int32).toInt = 0 := by decide
  have kc1 : (1 : Int32).toInt = 1 := by decide
  have k_4_22 := hts (.fieldLink RX7 25 "ArrayTrainer$Store" "things" "I") (List.mem_cons_of_mem _ (wr4 _ (List.mem_of_getElem? (i := 22) rfl)))
  obtain ⟨H, hH⟩ : ∃ H : Heap, H = s.heap := ⟨_, rfl⟩
  obtain ⟨locs, hlc⟩ : ∃ L : List Loc, L = [] := ⟨_, rfl⟩
  have hP : va_P D vwCl (tw cs q v_t_tapeSize v_t_textSize v_t_faultKind a_t_tape a_t_text a_g_beyond v_g_size a_g_steps a_h_beyond v_h_size a_h_steps a_r_scratch a_r_now v_r_takes v_r_negative v_r_namePlace v_r_faultKind v_r_faultPlace v_a_size v_a_limit v_a_digits v_a_kind v_a_from v_a_to v_o_size a_o_out v_b_size v_b_limit v_b_digits v_b_kind v_b_from v_b_to a_u_atom a_u_other a_u_hand v_u_marksMade v_u_came v_u_guesses v_u_right v_u_taken a_u_vars a_u_marks a_u_outcomes a_u_indexes v_s_things v_s_looked v_s_lookedTooOften v_s_arraysMade v_s_cellsMade a_s_classes a_s_starts a_s_lengths a_s_cells a_L a_K a_vc a_vd a_si a_sj a_iv a_inn a_ac) H := by rw [hH]; exact hP
  have hS : va_S A s.heap H locs := by rw [hH, hlc]; exact hS
  refine wHL hH hlc ?_
  have b_a9 := iB a9
  refine lv_iload_n hx hb dX7_isThing_0 rfl (lv_at hl 1 rfl) ?_
  refine m_if_le (X := a9.toInt) (tgt := 16) hx hb dX7_isThing_1 (by decide) rfl (fun c1 => ?_) (fun c1 => ?_)
  · skip
    refine lv_iconst (v := 0) hx hb dX7_isThing_16 (by decide) ?_
    subst hAe
    rw [hQ]
    exact W.zret (v := 0) hx hb hr (by decide) (fun t ht hW => ⟨⟨0, _, rfl, ⟨rfl, by first | assumption | omega | (intros; omega) | decide⟩, by rw [ht]; exact hP, va_K.moved hW.alike hK, hD⟩, hS.F ht⟩) hS.2.2 dX7_isThing_17
  · skip
    refine lv_iload_n hx hb dX7_isThing_4 rfl (lv_at hl 1 rfl) ?_
    refine lv_aload_n hx hb dX7_isThing_5 rfl (lv_at hl 0 rfl) ?_
    refine va_get (D := D) (ci := 6) (v := .int v_s_things) (C := RX7) (T := TX7) (N := 9) hx hb hts hinX7 hown hK hP 17 rfl rfl 4 (by decide) k_4_22 (fun _ h9 => h9) rfl dX7_isThing_6 ?_
    refine m_icmp_ge (X := a9.toInt) (Y := v_s_things.toInt) (tgt := 16) hx hb dX7_isThing_9 (by decide) rfl rfl (fun c9 => ?_) (fun c9 => ?_)
    · skip
      refine lv_iconst (v := 0) hx hb dX7_isThing_16 (by decide) ?_
      subst hAe
      rw [hQ]
      exact W.zret (v := 0) hx hb hr (by decide) (fun t ht hW => ⟨⟨0, _, rfl, ⟨rfl, by first | assumption | omega | (intros; omega) | decide⟩, by rw [ht]; exact hP, va_K.moved hW.alike hK, hD⟩, hS.F ht⟩) hS.2.2 dX7_isThing_17
    · skip
      refine lv_iconst (v := 1) hx hb dX7_isThing_12 (by decide) ?_
      refine lv_goto (tgt := 17) hx hb dX7_isThing_13 (by decide) ?_
      subst hAe
      rw [hQ]
      exact W.zret (v := 1) hx hb hr (by decide) (fun t ht hW => ⟨⟨1, _, rfl, ⟨rfl, by first | assumption | omega | (intros; omega) | decide⟩, by rw [ht]; exact hP, va_K.moved hW.alike hK, hD⟩, hS.F ht⟩) hS.2.2 dX7_isThing_17

def rmX7_lengthOf : Room := { frames := 20, cells := 0, slots := 0, locals := 400 }
set_option maxHeartbeats 4000000 in
set_option maxRecDepth 100000 in
theorem tX7_lengthOf {l : Launch} {D : va_G} {K : Nat → Nat → Nat} {cs : Nat → ClassId} {q : Nat → Nat} {v_t_tapeSize v_t_textSize v_t_faultKind v_g_size v_h_size v_r_takes v_r_negative v_r_namePlace v_r_faultKind v_r_faultPlace v_a_size v_a_limit v_a_digits v_a_kind v_a_from v_a_to v_o_size v_b_size v_b_limit v_b_digits v_b_kind v_b_from v_b_to v_u_marksMade v_u_came v_u_guesses v_u_right v_u_taken v_s_things v_s_looked v_s_lookedTooOften v_s_arraysMade v_s_cellsMade : Int32} {a_t_tape a_t_text a_o_out a_u_outcomes a_u_indexes a_s_classes a_s_starts a_s_lengths a_vc : Nat → Int32} {a_g_beyond a_h_beyond a_r_scratch a_r_now a_u_atom a_u_other a_u_hand : Nat} {a_g_steps a_h_steps a_u_vars a_u_marks : Nat → Option Nat} {a_s_cells a_vd a_sj : Nat → Int64} {a_L : List Nat} {a_K a_iv a_inn : Nat → Nat} {a_si a_ac : Nat → Nat → Int32} (a9 : Int32) (p_0 : STO v_s_things v_s_cellsMade a_s_starts a_s_lengths) : CtI l yX7_lengthOf (wG yX7_lengthOf cX7_lengthOf 2 (some .int)) rmX7_lengthOf D (twT cs) K [.ref (q 17), .int a9] (tw cs q v_t_tapeSize v_t_textSize v_t_faultKind a_t_tape a_t_text a_g_beyond v_g_size a_g_steps a_h_beyond v_h_size a_h_steps a_r_scratch a_r_now v_r_takes v_r_negative v_r_namePlace v_r_faultKind v_r_faultPlace v_a_size v_a_limit v_a_digits v_a_kind v_a_from v_a_to v_o_size a_o_out v_b_size v_b_limit v_b_digits v_b_kind v_b_from v_b_to a_u_atom a_u_other a_u_hand v_u_marksMade v_u_came v_u_guesses v_u_right v_u_taken a_u_vars a_u_marks a_u_outcomes a_u_indexes v_s_things v_s_looked v_s_lookedTooOften v_s_arraysMade v_s_cellsMade a_s_classes a_s_starts a_s_lengths a_s_cells a_L a_K a_vc a_vd a_si a_sj a_iv a_inn a_ac) (fun r w1 => w1 = (tw cs q v_t_tapeSize v_t_textSize v_t_faultKind a_t_tape a_t_text a_g_beyond v_g_size a_g_steps a_h_beyond v_h_size a_h_steps a_r_scratch a_r_now v_r_takes v_r_negative v_r_namePlace v_r_faultKind v_r_faultPlace v_a_size v_a_limit v_a_digits v_a_kind v_a_from v_a_to v_o_size a_o_out v_b_size v_b_limit v_b_digits v_b_kind v_b_from v_b_to a_u_atom a_u_other a_u_hand v_u_marksMade v_u_came v_u_guesses v_u_right v_u_taken a_u_vars a_u_marks a_u_outcomes a_u_indexes v_s_things v_s_looked v_s_lookedTooOften v_s_arraysMade v_s_cellsMade a_s_classes a_s_starts a_s_lengths a_s_cells a_L a_K a_vc a_vd a_si a_sj a_iv a_inn a_ac) ∧ (0 ≤ r.toInt) ∧ (r.toInt ≤ 4000) ∧ ((0 < a9.toInt ∧ a9.toInt < v_s_things.toInt) → r.toInt = (a_s_lengths a9.toNatClampNeg).toInt)) 0 0 := by
  intro sz
  refine Met.ofW (cc := cX7_lengthOf) (maxL := 2) (ret := (some .int)) (by decide) rfl ?_
  intro p e s m args below meth c s₁ B hml hv
  obtain ⟨rfl, hsz, hP, hK, hD0, hE⟩ := hv
  have hx := B.exec
  have hb := B.bytes
  have hr := B.returns
  have hts := atoms_spec (ws := (wG yX7_lengthOf cX7_lengthOf 2 (some .int))) B.pre
  have hown : s.vm.findClass RX7 = some m.cls := findClass_of_methodNamed B.named
  have hlocks := B.notSynchronized
  subst hsz
  have hD := hD0.self (sz := s.heap.size)
  obtain ⟨A, hAe⟩ : ∃ A : Nat → Prop, A = va_A (tw cs q v_t_tapeSize v_t_textSize v_t_faultKind a_t_tape a_t_text a_g_beyond v_g_size a_g_steps a_h_beyond v_h_size a_h_steps a_r_scratch a_r_now v_r_takes v_r_negative v_r_namePlace v_r_faultKind v_r_faultPlace v_a_size v_a_limit v_a_digits v_a_kind v_a_from v_a_to v_o_size a_o_out v_b_size v_b_limit v_b_digits v_b_kind v_b_from v_b_to a_u_atom a_u_other a_u_hand v_u_marksMade v_u_came v_u_guesses v_u_right v_u_taken a_u_vars a_u_marks a_u_outcomes a_u_indexes v_s_things v_s_looked v_s_lookedTooOften v_s_arraysMade v_s_cellsMade a_s_classes a_s_starts a_s_lengths a_s_cells a_L a_K a_vc a_vd a_si a_sj a_iv a_inn a_ac) s.heap.size := ⟨_, rfl⟩
  rw [← hAe] at hD hE
  have hA : ∀ q : Nat, s.heap.size ≤ q → A q := fun q h => by rw [hAe]; exact Or.inr h
  have hS : va_S A s.heap s.heap [] := va_S.rf
  have hl := lv_entry ([.ref (q 17), .int a9]) (n := 2) (Nat.le_of_ble_eq_true rfl)
  rw [lg_entry_eq]
  generalize (lg_sl ([.ref (q 17), .int a9]) ++ List.replicate (2 - (lg_sl ([.ref (q 17), .int a9])).length) Slot.unset).toArray = ls at hl ⊢
  have hl : lv_has ls 2 [(0, .ref (q 17)), (1, .int a9)] := hl
  refine wq (fun Q hQ => ?_)
  have hinX7 : ∀ w ∈ wsX70, w ∈ (wG yX7_lengthOf cX7_lengthOf 2 (some .int)) := fun w h => List.mem_cons_of_mem _ (inlX7 w h)
  have kc0 : (0 : Int32).toInt = 0 := by decide
  have k_4_22 := hts (.fieldLink RX7 25 "ArrayTrainer$Store" "things" "I") (List.mem_cons_of_mem _ (wr4 _ (List.mem_of_getElem? (i := 22) rfl)))
  have k_4_20 := hts (.fieldLink RX7 18 "ArrayTrainer$Store" "lengths" "[I") (List.mem_cons_of_mem _ (wr4 _ (List.mem_of_getElem? (i := 20) rfl)))
  obtain ⟨H, hH⟩ : ∃ H : Heap, H = s.heap := ⟨_, rfl⟩
  obtain ⟨locs, hlc⟩ : ∃ L : List Loc, L = [] := ⟨_, rfl⟩
  have hP : va_P D vwCl (tw cs q v_t_tapeSize v_t_textSize v_t_faultKind a_t_tape a_t_text a_g_beyond v_g_size a_g_steps a_h_beyond v_h_size a_h_steps a_r_scratch a_r_now v_r_takes v_r_negative v_r_namePlace v_r_faultKind v_r_faultPlace v_a_size v_a_limit v_a_digits v_a_kind v_a_from v_a_to v_o_size a_o_out v_b_size v_b_limit v_b_digits v_b_kind v_b_from v_b_to a_u_atom a_u_other a_u_hand v_u_marksMade v_u_came v_u_guesses v_u_right v_u_taken a_u_vars a_u_marks a_u_outcomes a_u_indexes v_s_things v_s_looked v_s_lookedTooOften v_s_arraysMade v_s_cellsMade a_s_classes a_s_starts a_s_lengths a_s_cells a_L a_K a_vc a_vd a_si a_sj a_iv a_inn a_ac) H := by rw [hH]; exact hP
  have hS : va_S A s.heap H locs := by rw [hH, hlc]; exact hS
  refine wHL hH hlc ?_
  have b_a9 := iB a9
  obtain ⟨⟨h1, h2⟩, ⟨h3, h4⟩, h5⟩ := id p_0
  refine lv_iload_n hx hb dX7_lengthOf_0 rfl (lv_at hl 1 rfl) ?_
  refine m_if_le (X := a9.toInt) (tgt := 21) hx hb dX7_lengthOf_1 (by decide) rfl (fun c1 => ?_) (fun c1 => ?_)
  · skip
    refine lv_iconst (v := 0) hx hb dX7_lengthOf_21 (by decide) ?_
    subst hAe
    rw [hQ]
    exact W.iret (v := 0) hx hb hr (fun t ht hW => ⟨⟨0, _, rfl, ⟨rfl, by first | assumption | omega | (intros; omega) | decide, by first | assumption | omega | (intros; omega) | decide, by first | assumption | omega | (intros; omega) | decide⟩, by rw [ht]; exact hP, va_K.moved hW.alike hK, hD⟩, hS.F ht⟩) hS.2.2 dX7_lengthOf_22
  · skip
    refine lv_iload_n hx hb dX7_lengthOf_4 rfl (lv_at hl 1 rfl) ?_
    refine lv_aload_n hx hb dX7_lengthOf_5 rfl (lv_at hl 0 rfl) ?_
    refine va_get (D := D) (ci := 6) (v := .int v_s_things) (C := RX7) (T := TX7) (N := 9) hx hb hts hinX7 hown hK hP 17 rfl rfl 4 (by decide) k_4_22 (fun _ h9 => h9) rfl dX7_lengthOf_6 ?_
    refine m_icmp_ge (X := a9.toInt) (Y := v_s_things.toInt) (tgt := 21) hx hb dX7_lengthOf_9 (by decide) rfl rfl (fun c9 => ?_) (fun c9 => ?_)
    · skip
      refine lv_iconst (v := 0) hx hb dX7_lengthOf_21 (by decide) ?_
      subst hAe
      rw [hQ]
      exact W.iret (v := 0) hx hb hr (fun t ht hW => ⟨⟨0, _, rfl, ⟨rfl, by first | assumption | omega | (intros; omega) | decide, by first | assumption | omega | (intros; omega) | decide, by first | assumption | omega | (intros; omega) | decide⟩, by rw [ht]; exact hP, va_K.moved hW.alike hK, hD⟩, hS.F ht⟩) hS.2.2 dX7_lengthOf_22
    · skip
      refine lv_aload_n hx hb dX7_lengthOf_12 rfl (lv_at hl 0 rfl) ?_
      refine va_get (D := D) (ci := 6) (v := .ref (q 20)) (C := RX7) (T := TX7) (N := 9) hx hb hts hinX7 hown hK hP 17 rfl rfl 2 (by decide) k_4_20 (fun _ h9 => h9) rfl dX7_lengthOf_13 ?_
      refine lv_iload_n hx hb dX7_lengthOf_16 rfl (lv_at hl 1 rfl) ?_
      obtain ⟨z1, z2, z3⟩ := p_0.at (a := a9) (by omega) (by omega)
      refine m_iald hx hb hK hP 20 0 rfl rfl (ix (by omega) (by omega)) dX7_lengthOf_17 (fun x17 e_x17 => ?_)
      have b_x17 := iB x17
      have hx17 := congrArg Int32.toInt e_x17
      refine lv_goto (tgt := 22) hx hb dX7_lengthOf_18 (by decide) ?_
      subst hAe
      rw [hQ]
      exact W.iret (v := x17) hx hb hr (fun t ht hW => ⟨⟨x17, _, rfl, ⟨rfl, by first | assumption | omega | (intros; omega) | decide, by first | assumption | omega | (intros; omega) | decide, by first | assumption | omega | (intros; omega) | decide⟩, by rw [ht]; exact hP, va_K.moved hW.alike hK, hD⟩, hS.F ht⟩) hS.2.2 dX7_lengthOf_22

def rmX7_hasCell : Room := { frames := 20, cells := 0, slots := 0, locals := 400 }
set_option maxHeartbeats 4000000 in
set_option maxRecDepth 100000 in
theorem tX7_hasCell {l : Launch} {D : va_G} {K : Nat → Nat → Nat} {cs : Nat → ClassId} {q : Nat → Nat} {v_t_tapeSize v_t_textSize v_t_faultKind v_g_size v_h_size v_r_takes v_r_negative v_r_namePlace v_r_faultKind v_r_faultPlace v_a_size v_a_limit v_a_digits v_a_kind v_a_from v_a_to v_o_size v_b_size v_b_limit v_b_digits v_b_kind v_b_from v_b_to v_u_marksMade v_u_came v_u_guesses v_u_right v_u_taken v_s_things v_s_looked v_s_lookedTooOften v_s_arraysMade v_s_cellsMade : Int32} {a_t_tape a_t_text a_o_out a_u_outcomes a_u_indexes a_s_classes a_s_starts a_s_lengths a_vc : Nat → Int32} {a_g_beyond a_h_beyond a_r_scratch a_r_now a_u_atom a_u_other a_u_hand : Nat} {a_g_steps a_h_steps a_u_vars a_u_marks : Nat → Option Nat} {a_s_cells a_vd a_sj : Nat → Int64} {a_L : List Nat} {a_K a_iv a_inn : Nat → Nat} {a_si a_ac : Nat → Nat → Int32} (a9 : Int32) (i9 : Int32) (p_0 : STO v_s_things v_s_cellsMade a_s_starts a_s_lengths) : CtI l yX7_hasCell (wG yX7_hasCell cX7_hasCell 3 (some .boolean)) rmX7_hasCell D (twT cs) K [.ref (q 17), .int a9, .int i9] (tw cs q v_t_tapeSize v_t_textSize v_t_faultKind a_t_tape a_t_text a_g_beyond v_g_size a_g_steps a_h_beyond v_h_size a_h_steps a_r_scratch a_r_now v_r_takes v_r_negative v_r_namePlace v_r_faultKind v_r_faultPlace v_a_size v_a_limit v_a_digits v_a_kind v_a_from v_a_to v_o_size a_o_out v_b_size v_b_limit v_b_digits v_b_kind v_b_from v_b_to a_u_atom a_u_other a_u_hand v_u_marksMade v_u_came v_u_guesses v_u_right v_u_taken a_u_vars a_u_marks a_u_outcomes a_u_indexes v_s_things v_s_looked v_s_lookedTooOften v_s_arraysMade v_s_cellsMade a_s_classes a_s_starts a_s_lengths a_s_cells a_L a_K a_vc a_vd a_si a_sj a_iv a_inn a_ac) (fun r w1 => w1 = (tw cs q v_t_tapeSize v_t_textSize v_t_faultKind a_t_tape a_t_text a_g_beyond v_g_size a_g_steps a_h_beyond v_h_size a_h_steps a_r_scratch a_r_now v_r_takes v_r_negative v_r_namePlace v_r_faultKind v_r_faultPlace v_a_size v_a_limit v_a_digits v_a_kind v_a_from v_a_to v_o_size a_o_out v_b_size v_b_limit v_b_digits v_b_kind v_b_from v_b_to a_u_atom a_u_other a_u_hand v_u_marksMade v_u_came v_u_guesses v_u_right v_u_taken a_u_vars a_u_marks a_u_outcomes a_u_indexes v_s_things v_s_looked v_s_lookedTooOften v_s_arraysMade v_s_cellsMade a_s_classes a_s_starts a_s_lengths a_s_cells a_L a_K a_vc a_vd a_si a_sj a_iv a_inn a_ac) ∧ ((r.toInt = 1 ∧ 0 < a9.toInt ∧ a9.toInt < v_s_things.toInt ∧ 0 ≤ i9.toInt ∧ i9.toInt < (a_s_lengths a9.toNatClampNeg).toInt) ∨ r.toInt = 0)) 0 0 := by
  intro sz
  refine Met.ofW (cc := cX7_hasCell) (maxL := 3) (ret := (some .boolean)) (by decide) rfl ?_
  intro p e s m args below meth c s₁ B hml hv
  obtain ⟨rfl, hsz, hP, hK, hD0, hE⟩ := hv
  have hx := B.exec
  have hb := B.bytes
  have hr := B.returns
  have hts := atoms_spec (ws := (wG yX7_hasCell cX7_hasCell 3 (some .boolean))) B.pre
  have hown : s.vm.findClass RX7 = some m.cls := findClass_of_methodNamed B.named
  have hlocks := B.notSynchronized
  subst hsz
  have hD := hD0.self (sz := s.heap.size)
  obtain ⟨A, hAe⟩ : ∃ A : Nat → Prop, A = va_A (tw cs q v_t_tapeSize v_t_textSize v_t_faultKind a_t_tape a_t_text a_g_beyond v_g_size a_g_steps a_h_beyond v_h_size a_h_steps a_r_scratch a_r_now v_r_takes v_r_negative v_r_namePlace v_r_faultKind v_r_faultPlace v_a_size v_a_limit v_a_digits v_a_kind v_a_from v_a_to v_o_size a_o_out v_b_size v_b_limit v_b_digits v_b_kind v_b_from v_b_to a_u_atom a_u_other a_u_hand v_u_marksMade v_u_came v_u_guesses v_u_right v_u_taken a_u_vars a_u_marks a_u_outcomes a_u_indexes v_s_things v_s_looked v_s_lookedTooOften v_s_arraysMade v_s_cellsMade a_s_classes a_s_starts a_s_lengths a_s_cells a_L a_K a_vc a_vd a_si a_sj a_iv a_inn a_ac) s.heap.size := ⟨_, rfl⟩
  rw [← hAe] at hD hE
  have hA : ∀ q : Nat, s.heap.size ≤ q → A q := fun q h => by rw [hAe]; exact Or.inr h
  have hS : va_S A s.heap s.heap [] := va_S.rf
  have hl := lv_entry ([.ref (q 17), .int a9, .int i9]) (n := 3) (Nat.le_of_ble_eq_true rfl)
  rw [lg_entry_eq]
  generalize (lg_sl ([.ref (q 17), .int a9, .int i9]) ++ List.replicate (3 - (lg_sl ([.ref (q 17), .int a9, .int i9])).length) Slot.unset).toArray = ls at hl ⊢
  have hl : lv_has ls 3 [(0, .ref (q 17)), (1, .int a9), (2, .int i9)] := hl
  refine wq (fun Q hQ => ?_)
  have hinX7 : ∀ w ∈ wsX70, w ∈ (wG yX7_hasCell cX7_hasCell 3 (some .boolean)) := fun w h => List.mem_cons_of_mem _ (inlX7 w h)
  have kc0 : (0 : Int32).toInt = 0 := by decide
  have kc1 : (1 : Int32).toInt = 1 := by decide
  have k_4_22 := hts (.fieldLink RX7 25 "ArrayTrainer$Store" "things" "I") (List.mem_cons_of_mem _ (wr4 _ (List.mem_of_getElem? (i := 22) rfl)))
  have k_4_20 := hts (.fieldLink RX7 18 "ArrayTrainer$Store" "lengths" "[I") (List.mem_cons_of_mem _ (wr4 _ (List.mem_of_getElem? (i := 20) rfl)))
  obtain ⟨H, hH⟩ : ∃ H : Heap, H = s.heap := ⟨_, rfl⟩
  obtain ⟨locs, hlc⟩ : ∃ L : List Loc, L = [] := ⟨_, rfl⟩
  have hP : va_P D vwCl (tw cs q v_t_tapeSize v_t_textSize v_t_faultKind a_t_tape a_t_text a_g_beyond v_g_size a_g_steps a_h_beyond v_h_size a_h_steps a_r_scratch a_r_now v_r_takes v_r_negative v_r_namePlace v_r_faultKind v_r_faultPlace v_a_size v_a_limit v_a_digits v_a_kind v_a_from v_a_to v_o_size a_o_out v_b_size v_b_limit v_b_digits v_b_kind v_b_from v_b_to a_u_atom a_u_other a_u_hand v_u_marksMade v_u_came v_u_guesses v_u_right v_u_taken a_u_vars a_u_marks a_u_outcomes a_u_indexes v_s_things v_s_looked v_s_lookedTooOften v_s_arraysMade v_s_cellsMade a_s_classes a_s_starts a_s_lengths a_s_cells a_L a_K a_vc a_vd a_si a_sj a_iv a_inn a_ac) H := by rw [hH]; exact hP
  have hS : va_S A s.heap H locs := by rw [hH, hlc]; exact hS
  refine wHL hH hlc ?_
  have b_a9 := iB a9
  have b_i9 := iB i9
  obtain ⟨⟨h1, h2⟩, ⟨h3, h4⟩, h5⟩ := id p_0
  refine lv_iload_n hx hb dX7_hasCell_0 rfl (lv_at hl 1 rfl) ?_
  refine m_if_le (X := a9.toInt) (tgt := 30) hx hb dX7_hasCell_1 (by decide) rfl (fun c1 => ?_) (fun c1 => ?_)
  · skip
    refine lv_iconst (v := 0) hx hb dX7_hasCell_30 (by decide) ?_
    subst hAe
    rw [hQ]
    exact W.zret (v := 0) hx hb hr (by decide) (fun t ht hW => ⟨⟨0, _, rfl, ⟨rfl, by first | assumption | omega | (intros; omega) | decide⟩, by rw [ht]; exact hP, va_K.moved hW.alike hK, hD⟩, hS.F ht⟩) hS.2.2 dX7_hasCell_31
  · skip
    refine lv_iload_n hx hb dX7_hasCell_4 rfl (lv_at hl 1 rfl) ?_
    refine lv_aload_n hx hb dX7_hasCell_5 rfl (lv_at hl 0 rfl) ?_
    refine va_get (D := D) (ci := 6) (v := .int v_s_things) (C := RX7) (T := TX7) (N := 9) hx hb hts hinX7 hown hK hP 17 rfl rfl 4 (by decide) k_4_22 (fun _ h9 => h9) rfl dX7_hasCell_6 ?_
    refine m_icmp_ge (X := a9.toInt) (Y := v_s_things.toInt) (tgt := 30) hx hb dX7_hasCell_9 (by decide) rfl rfl (fun c9 => ?_) (fun c9 => ?_)
    · skip
      refine lv_iconst (v := 0) hx hb dX7_hasCell_30 (by decide) ?_
      subst hAe
      rw [hQ]
      exact W.zret (v := 0) hx hb hr (by decide) (fun t ht hW => ⟨⟨0, _, rfl, ⟨rfl, by first | assumption | omega | (intros; omega) | decide⟩, by rw [ht]; exact hP, va_K.moved hW.alike hK, hD⟩, hS.F ht⟩) hS.2.2 dX7_hasCell_31
    · skip
      refine lv_iload_n hx hb dX7_hasCell_12 rfl (lv_at hl 2 rfl) ?_
      refine m_if_lt (X := i9.toInt) (tgt := 30) hx hb dX7_hasCell_13 (by decide) rfl (fun c13 => ?_) (fun c13 => ?_)
      · skip
        refine lv_iconst (v := 0) hx hb dX7_hasCell_30 (by decide) ?_
        subst hAe
        rw [hQ]
        exact W.zret (v := 0) hx hb hr (by decide) (fun t ht hW => ⟨⟨0, _, rfl, ⟨rfl, by first | assumption | omega | (intros; omega) | decide⟩, by rw [ht]; exact hP, va_K.moved hW.alike hK, hD⟩, hS.F ht⟩) hS.2.2 dX7_hasCell_31
      · skip
        refine lv_iload_n hx hb dX7_hasCell_16 rfl (lv_at hl 2 rfl) ?_
        refine lv_aload_n hx hb dX7_hasCell_17 rfl (lv_at hl 0 rfl) ?_
        refine va_get (D := D) (ci := 6) (v := .ref (q 20)) (C := RX7) (T := TX7) (N := 9) hx hb hts hinX7 hown hK hP 17 rfl rfl 2 (by decide) k_4_20 (fun _ h9 => h9) rfl dX7_hasCell_18 ?_
        refine lv_iload_n hx hb dX7_hasCell_21 rfl (lv_at hl 1 rfl) ?_
        refine m_iald hx hb hK hP 20 0 rfl rfl (ix (by omega) (by omega)) dX7_hasCell_22 (fun x22 e_x22 => ?_)
        have b_x22 := iB x22
        have hx22 := congrArg Int32.toInt e_x22
        refine m_icmp_ge (X := i9.toInt) (Y := x22.toInt) (tgt := 30) hx hb dX7_hasCell_23 (by decide) rfl rfl (fun c23 => ?_) (fun c23 => ?_)
        · skip
          refine lv_iconst (v := 0) hx hb dX7_hasCell_30 (by decide) ?_
          subst hAe
          rw [hQ]
          exact W.zret (v := 0) hx hb hr (by decide) (fun t ht hW => ⟨⟨0, _, rfl, ⟨rfl, by first | assumption | omega | (intros; omega) | decide⟩, by rw [ht]; exact hP, va_K.moved hW.alike hK, hD⟩, hS.F ht⟩) hS.2.2 dX7_hasCell_31
        · skip
          refine lv_iconst (v := 1) hx hb dX7_hasCell_26 (by decide) ?_
          refine lv_goto (tgt := 31) hx hb dX7_hasCell_27 (by decide) ?_
          subst hAe
          rw [hQ]
          exact W.zret (v := 1) hx hb hr (by decide) (fun t ht hW => ⟨⟨1, _, rfl, ⟨rfl, by first | assumption | omega | (intros; omega) | decide⟩, by rw [ht]; exact hP, va_K.moved hW.alike hK, hD⟩, hS.F ht⟩) hS.2.2 dX7_hasCell_31

def rmX7_hasCells : Room := { frames := 40, cells := 0, slots := 0, locals := 800 }
set_option maxHeartbeats 4000000 in
set_option maxRecDepth 100000 in
theorem tX7_hasCells {l : Launch} {D : va_G} {K : Nat → Nat → Nat} {cs : Nat → ClassId} {q : Nat → Nat} {v_t_tapeSize v_t_textSize v_t_faultKind v_g_size v_h_size v_r_takes v_r_negative v_r_namePlace v_r_faultKind v_r_faultPlace v_a_size v_a_limit v_a_digits v_a_kind v_a_from v_a_to v_o_size v_b_size v_b_limit v_b_digits v_b_kind v_b_from v_b_to v_u_marksMade v_u_came v_u_guesses v_u_right v_u_taken v_s_things v_s_looked v_s_lookedTooOften v_s_arraysMade v_s_cellsMade : Int32} {a_t_tape a_t_text a_o_out a_u_outcomes a_u_indexes a_s_classes a_s_starts a_s_lengths a_vc : Nat → Int32} {a_g_beyond a_h_beyond a_r_scratch a_r_now a_u_atom a_u_other a_u_hand : Nat} {a_g_steps a_h_steps a_u_vars a_u_marks : Nat → Option Nat} {a_s_cells a_vd a_sj : Nat → Int64} {a_L : List Nat} {a_K a_iv a_inn : Nat → Nat} {a_si a_ac : Nat → Nat → Int32} (a9 : Int32) (i9 : Int32) (n9 : Int32) (p_0 : STO v_s_things v_s_cellsMade a_s_starts a_s_lengths) : CtI l yX7_hasCells (wG yX7_hasCells cX7_hasCells 4 (some .boolean)) rmX7_hasCells D (twT cs) K [.ref (q 17), .int a9, .int i9, .int n9] (tw cs q v_t_tapeSize v_t_textSize v_t_faultKind a_t_tape a_t_text a_g_beyond v_g_size a_g_steps a_h_beyond v_h_size a_h_steps a_r_scratch a_r_now v_r_takes v_r_negative v_r_namePlace v_r_faultKind v_r_faultPlace v_a_size v_a_limit v_a_digits v_a_kind v_a_from v_a_to v_o_size a_o_out v_b_size v_b_limit v_b_digits v_b_kind v_b_from v_b_to a_u_atom a_u_other a_u_hand v_u_marksMade v_u_came v_u_guesses v_u_right v_u_taken a_u_vars a_u_marks a_u_outcomes a_u_indexes v_s_things v_s_looked v_s_lookedTooOften v_s_arraysMade v_s_cellsMade a_s_classes a_s_starts a_s_lengths a_s_cells a_L a_K a_vc a_vd a_si a_sj a_iv a_inn a_ac) (fun r w1 => w1 = (tw cs q v_t_tapeSize v_t_textSize v_t_faultKind a_t_tape a_t_text a_g_beyond v_g_size a_g_steps a_h_beyond v_h_size a_h_steps a_r_scratch a_r_now v_r_takes v_r_negative v_r_namePlace v_r_faultKind v_r_faultPlace v_a_size v_a_limit v_a_digits v_a_kind v_a_from v_a_to v_o_size a_o_out v_b_size v_b_limit v_b_digits v_b_kind v_b_from v_b_to a_u_atom a_u_other a_u_hand v_u_marksMade v_u_came v_u_guesses v_u_right v_u_taken a_u_vars a_u_marks a_u_outcomes a_u_indexes v_s_things v_s_looked v_s_lookedTooOften v_s_arraysMade v_s_cellsMade a_s_classes a_s_starts a_s_lengths a_s_cells a_L a_K a_vc a_vd a_si a_sj a_iv a_inn a_ac) ∧ ((r.toInt = 1 ∧ 0 ≤ i9.toInt ∧ 0 ≤ n9.toInt ∧ ((0 < a9.toInt ∧ a9.toInt < v_s_things.toInt) → i9.toInt + n9.toInt ≤ (a_s_lengths a9.toNatClampNeg).toInt)) ∨ r.toInt = 0)) 0 0 := by
  intro sz
  refine Met.ofW (cc := cX7_hasCells) (maxL := 4) (ret := (some .boolean)) (by decide) rfl ?_
  intro p e s m args below meth c s₁ B hml hv
  obtain ⟨rfl, hsz, hP, hK, hD0, hE⟩ := hv
  have hx := B.exec
  have hb := B.bytes
  have hr := B.returns
  have hts := atoms_spec (ws := (wG yX7_hasCells cX7_hasCells 4 (some .boolean))) B.pre
  have hown : s.vm.findClass RX7 = some m.cls := findClass_of_methodNamed B.named
  have hlocks := B.notSynchronized
  subst hsz
  have hD := hD0.self (sz := s.heap.size)
  obtain ⟨A, hAe⟩ : ∃ A : Nat → Prop, A = va_A (tw cs q v_t_tapeSize v_t_textSize v_t_faultKind a_t_tape a_t_text a_g_beyond v_g_size a_g_steps a_h_beyond v_h_size a_h_steps a_r_scratch a_r_now v_r_takes v_r_negative v_r_namePlace v_r_faultKind v_r_faultPlace v_a_size v_a_limit v_a_digits v_a_kind v_a_from v_a_to v_o_size a_o_out v_b_size v_b_limit v_b_digits v_b_kind v_b_from v_b_to a_u_atom a_u_other a_u_hand v_u_marksMade v_u_came v_u_guesses v_u_right v_u_taken a_u_vars a_u_marks a_u_outcomes a_u_indexes v_s_things v_s_looked v_s_lookedTooOften v_s_arraysMade v_s_cellsMade a_s_classes a_s_starts a_s_lengths a_s_cells a_L a_K a_vc a_vd a_si a_sj a_iv a_inn a_ac) s.heap.size := ⟨_, rfl⟩
  rw [← hAe] at hD hE
  have hA : ∀ q : Nat, s.heap.size ≤ q → A q := fun q h => by rw [hAe]; exact Or.inr h
  have hS : va_S A s.heap s.heap [] := va_S.rf
  have hl := lv_entry ([.ref (q 17), .int a9, .int i9, .int n9]) (n := 4) (Nat.le_of_ble_eq_true rfl)
  rw [lg_entry_eq]
  generalize (lg_sl ([.ref (q 17), .int a9, .int i9, .int n9]) ++ List.replicate (4 - (lg_sl ([.ref (q 17), .int a9, .int i9, .int n9])).length) Slot.unset).toArray = ls at hl ⊢
  have hl : lv_has ls 4 [(0, .ref (q 17)), (1, .int a9), (2, .int i9), (3, .int n9)] := hl
  refine wq (fun Q hQ => ?_)
  have kc0 : (0 : Int32).toInt = 0 := by decide
  have kc1 : (1 : Int32).toInt = 1 := by decide
  obtain ⟨H, hH⟩ : ∃ H : Heap, H = s.heap := ⟨_, rfl⟩
  obtain ⟨locs, hlc⟩ : ∃ L : List Loc, L = [] := ⟨_, rfl⟩
  have hP : va_P D vwCl (tw cs q v_t_tapeSize v_t_textSize v_t_faultKind a_t_tape a_t_text a_g_beyond v_g_size a_g_steps a_h_beyond v_h_size a_h_steps a_r_scratch a_r_now v_r_takes v_r_negative v_r_namePlace v_r_faultKind v_r_faultPlace v_a_size v_a_limit v_a_digits v_a_kind v_a_from v_a_to v_o_size a_o_out v_b_size v_b_limit v_b_digits v_b_kind v_b_from v_b_to a_u_atom a_u_other a_u_hand v_u_marksMade v_u_came v_u_guesses v_u_right v_u_taken a_u_vars a_u_marks a_u_outcomes a_u_indexes v_s_things v_s_looked v_s_lookedTooOften v_s_arraysMade v_s_cellsMade a_s_classes a_s_starts a_s_lengths a_s_cells a_L a_K a_vc a_vd a_si a_sj a_iv a_inn a_ac) H := by rw [hH]; exact hP
  have hS : va_S A s.heap H locs := by rw [hH, hlc]; exact hS
  refine wHL hH hlc ?_
  have b_a9 := iB a9
  have b_i9 := iB i9
  have b_n9 := iB n9
  refine lv_iload_n hx hb dX7_hasCells_0 rfl (lv_at hl 2 rfl) ?_
  refine m_if_lt (X := i9.toInt) (tgt := 23) hx hb dX7_hasCells_1 (by decide) rfl (fun c1 => ?_) (fun c1 => ?_)
  · skip
    refine lv_iconst (v := 0) hx hb dX7_hasCells_23 (by decide) ?_
    subst hAe
    rw [hQ]
    exact W.zret (v := 0) hx hb hr (by decide) (fun t ht hW => ⟨⟨0, _, rfl, ⟨rfl, by first | assumption | omega | (intros; omega) | decide⟩, by rw [ht]; exact hP, va_K.moved hW.alike hK, hD⟩, hS.F ht⟩) hS.2.2 dX7_hasCells_24
  · skip
    refine lv_iload_n hx hb dX7_hasCells_4 rfl (lv_at hl 3 rfl) ?_
    refine m_if_lt (X := n9.toInt) (tgt := 23) hx hb dX7_hasCells_5 (by decide) rfl (fun c5 => ?_) (fun c5 => ?_)
    · skip
      refine lv_iconst (v := 0) hx hb dX7_hasCells_23 (by decide) ?_
      subst hAe
      rw [hQ]
      exact W.zret (v := 0) hx hb hr (by decide) (fun t ht hW => ⟨⟨0, _, rfl, ⟨rfl, by first | assumption | omega | (intros; omega) | decide⟩, by rw [ht]; exact hP, va_K.moved hW.alike hK, hD⟩, hS.F ht⟩) hS.2.2 dX7_hasCells_24
    · skip
      refine lv_iload_n hx hb dX7_hasCells_8 rfl (lv_at hl 2 rfl) ?_
      refine lv_aload_n hx hb dX7_hasCells_9 rfl (lv_at hl 0 rfl) ?_
      refine lv_iload_n hx hb dX7_hasCells_10 rfl (lv_at hl 1 rfl) ?_
      refine call_i (As := [.int a9]) (rest := [.int i9]) ⟨hx, hb, hml, hown, hts⟩ (tX7_lengthOf (l := l) a9 (by first | assumption | omega | (intros; omega) | decide)) (cwV 1 hts (gV (wr43 _ (List.mem_of_getElem? (i := 20) rfl)) (wr41 _ (List.mem_of_getElem? (i := 20) rfl)) (wr41 _ (List.mem_of_getElem? (i := 21) rfl)) (wr4 _ (List.mem_of_getElem? (i := 3) rfl)) (wr41 _ (List.mem_of_getElem? (i := 22) rfl))) rfl rfl rfl (by decide +kernel) ⟨Nat.le_of_ble_eq_true rfl, Nat.le_of_ble_eq_true rfl⟩) (va_recv hK hP (ci := 6) (q0 := 17) rfl rfl) hK hP hD hE hS hA rfl hl.1 rfl (Nat.le_of_ble_eq_true rfl) dX7_hasCells_11 ⟨Nat.le_of_ble_eq_true rfl, Nat.le_of_ble_eq_true rfl⟩ (fun r11 w9 H locs hw11 hP hD hS => ?_)
      obtain ⟨rfl, hw11_0, hw11_1, hw11_2⟩ := hw11
      have b_r11 := iB r11
      refine lv_iload_n hx hb dX7_hasCells_14 rfl (lv_at hl 3 rfl) ?_
      refine m_isub (X := r11.toInt) (Y := n9.toInt) hx hb dX7_hasCells_15 rfl rfl (fun x15 e_x15 g9 => ?_)
      obtain ⟨k_x15, g_x15⟩ := g9
      have b_x15 := iB x15
      try (have q_x15 : x15.toInt = r11.toInt - n9.toInt := (by omega); clear g_x15 k_x15)
      refine m_icmp_gt (X := i9.toInt) (Y := x15.toInt) (tgt := 23) hx hb dX7_hasCells_16 (by decide) rfl rfl (fun c16 => ?_) (fun c16 => ?_)
      · skip
        refine lv_iconst (v := 0) hx hb dX7_hasCells_23 (by decide) ?_
        subst hAe
        rw [hQ]
        exact W.zret (v := 0) hx hb hr (by decide) (fun t ht hW => ⟨⟨0, _, rfl, ⟨rfl, by first | assumption | omega | (intros; omega) | decide⟩, by rw [ht]; exact hP, va_K.moved hW.alike hK, hD⟩, hS.F ht⟩) hS.2.2 dX7_hasCells_24
      · skip
        refine lv_iconst (v := 1) hx hb dX7_hasCells_19 (by decide) ?_
        refine lv_goto (tgt := 24) hx hb dX7_hasCells_20 (by decide) ?_
        subst hAe
        rw [hQ]
        exact W.zret (v := 1) hx hb hr (by decide) (fun t ht hW => ⟨⟨1, _, rfl, ⟨rfl, by first | assumption | omega | (intros; omega) | decide⟩, by rw [ht]; exact hP, va_K.moved hW.alike hK, hD⟩, hS.F ht⟩) hS.2.2 dX7_hasCells_24

def rmX7_cellDatum : Room := { frames := 20, cells := 0, slots := 0, locals := 400 }
set_option maxHeartbeats 4000000 in
set_option maxRecDepth 100000 in
theorem tX7_cellDatum {l : Launch} {D : va_G} {K : Nat → Nat → Nat} {cs : Nat → ClassId} {q : Nat → Nat} {v_t_tapeSize v_t_textSize v_t_faultKind v_g_size v_h_size v_r_takes v_r_negative v_r_namePlace v_r_faultKind v_r_faultPlace v_a_size v_a_limit v_a_digits v_a_kind v_a_from v_a_to v_o_size v_b_size v_b_limit v_b_digits v_b_kind v_b_from v_b_to v_u_marksMade v_u_came v_u_guesses v_u_right v_u_taken v_s_things v_s_looked v_s_lookedTooOften v_s_arraysMade v_s_cellsMade : Int32} {a_t_tape a_t_text a_o_out a_u_outcomes a_u_indexes a_s_classes a_s_starts a_s_lengths a_vc : Nat → Int32} {a_g_beyond a_h_beyond a_r_scratch a_r_now a_u_atom a_u_other a_u_hand : Nat} {a_g_steps a_h_steps a_u_vars a_u_marks : Nat → Option Nat} {a_s_cells a_vd a_sj : Nat → Int64} {a_L : List Nat} {a_K a_iv a_inn : Nat → Nat} {a_si a_ac : Nat → Nat → Int32} (a9 : Int32) (i9 : Int32) (p_0 : STO v_s_things v_s_cellsMade a_s_starts a_s_lengths) : CtJ l yX7_cellDatum (wG yX7_cellDatum cX7_cellDatum 3 (some .long)) rmX7_cellDatum D (twT cs) K [.ref (q 17), .int a9, .int i9] (tw cs q v_t_tapeSize v_t_textSize v_t_faultKind a_t_tape a_t_text a_g_beyond v_g_size a_g_steps a_h_beyond v_h_size a_h_steps a_r_scratch a_r_now v_r_takes v_r_negative v_r_namePlace v_r_faultKind v_r_faultPlace v_a_size v_a_limit v_a_digits v_a_kind v_a_from v_a_to v_o_size a_o_out v_b_size v_b_limit v_b_digits v_b_kind v_b_from v_b_to a_u_atom a_u_other a_u_hand v_u_marksMade v_u_came v_u_guesses v_u_right v_u_taken a_u_vars a_u_marks a_u_outcomes a_u_indexes v_s_things v_s_looked v_s_lookedTooOften v_s_arraysMade v_s_cellsMade a_s_classes a_s_starts a_s_lengths a_s_cells a_L a_K a_vc a_vd a_si a_sj a_iv a_inn a_ac) (fun r w1 => w1 = (tw cs q v_t_tapeSize v_t_textSize v_t_faultKind a_t_tape a_t_text a_g_beyond v_g_size a_g_steps a_h_beyond v_h_size a_h_steps a_r_scratch a_r_now v_r_takes v_r_negative v_r_namePlace v_r_faultKind v_r_faultPlace v_a_size v_a_limit v_a_digits v_a_kind v_a_from v_a_to v_o_size a_o_out v_b_size v_b_limit v_b_digits v_b_kind v_b_from v_b_to a_u_atom a_u_other a_u_hand v_u_marksMade v_u_came v_u_guesses v_u_right v_u_taken a_u_vars a_u_marks a_u_outcomes a_u_indexes v_s_things v_s_looked v_s_lookedTooOften v_s_arraysMade v_s_cellsMade a_s_classes a_s_starts a_s_lengths a_s_cells a_L a_K a_vc a_vd a_si a_sj a_iv a_inn a_ac)) 0 0 := by
  intro sz
  refine Met.ofW (cc := cX7_cellDatum) (maxL := 3) (ret := (some .long)) (by decide) rfl ?_
  intro p e s m args below meth c s₁ B hml hv
  obtain ⟨rfl, hsz, hP, hK, hD0, hE⟩ := hv
  have hx := B.exec
  have hb := B.bytes
  have hr := B.returns
  have hts := atoms_spec (ws := (wG yX7_cellDatum cX7_cellDatum 3 (some .long))) B.pre
  have hown : s.vm.findClass RX7 = some m.cls := findClass_of_methodNamed B.named
  have hlocks := B.notSynchronized
  subst hsz
  have hD := hD0.self (sz := s.heap.size)
  obtain ⟨A, hAe⟩ : ∃ A : Nat → Prop, A = va_A (tw cs q v_t_tapeSize v_t_textSize v_t_faultKind a_t_tape a_t_text a_g_beyond v_g_size a_g_steps a_h_beyond v_h_size a_h_steps a_r_scratch a_r_now v_r_takes v_r_negative v_r_namePlace v_r_faultKind v_r_faultPlace v_a_size v_a_limit v_a_digits v_a_kind v_a_from v_a_to v_o_size a_o_out v_b_size v_b_limit v_b_digits v_b_kind v_b_from v_b_to a_u_atom a_u_other a_u_hand v_u_marksMade v_u_came v_u_guesses v_u_right v_u_taken a_u_vars a_u_marks a_u_outcomes a_u_indexes v_s_things v_s_looked v_s_lookedTooOften v_s_arraysMade v_s_cellsMade a_s_classes a_s_starts a_s_lengths a_s_cells a_L a_K a_vc a_vd a_si a_sj a_iv a_inn a_ac) s.heap.size := ⟨_, rfl⟩
  rw [← hAe] at hD hE
  have hA : ∀ q : Nat, s.heap.size ≤ q → A q := fun q h => by rw [hAe]; exact Or.inr h
  have hS : va_S A s.heap s.heap [] := va_S.rf
  have hl := lv_entry ([.ref (q 17), .int a9, .int i9]) (n := 3) (Nat.le_of_ble_eq_true rfl)
  rw [lg_entry_eq]
  generalize (lg_sl ([.ref (q 17), .int a9, .int i9]) ++ List.replicate (3 - (lg_sl ([.ref (q 17), .int a9, .int i9])).length) Slot.unset).toArray = ls at hl ⊢
  have hl : lv_has ls 3 [(0, .ref (q 17)), (1, .int a9), (2, .int i9)] := hl
  refine wq (fun Q hQ => ?_)
  have hinX7 : ∀ w ∈ wsX70, w ∈ (wG yX7_cellDatum cX7_cellDatum 3 (some .long)) := fun w h => List.mem_cons_of_mem _ (inlX7 w h)
  have kc0 : (0 : Int64).toInt = 0 := by decide
  have k_4_22 := hts (.fieldLink RX7 25 "ArrayTrainer$Store" "things" "I") (List.mem_cons_of_mem _ (wr4 _ (List.mem_of_getElem? (i := 22) rfl)))
  have k_4_20 := hts (.fieldLink RX7 18 "ArrayTrainer$Store" "lengths" "[I") (List.mem_cons_of_mem _ (wr4 _ (List.mem_of_getElem? (i := 20) rfl)))
  have k_4_21 := hts (.fieldLink RX7 21 "ArrayTrainer$Store" "cells" "[J") (List.mem_cons_of_mem _ (wr4 _ (List.mem_of_getElem? (i := 21) rfl)))
  have k_4_19 := hts (.fieldLink RX7 15 "ArrayTrainer$Store" "starts" "[I") (List.mem_cons_of_mem _ (wr4 _ (List.mem_of_getElem? (i := 19) rfl)))
  obtain ⟨H, hH⟩ : ∃ H : Heap, H = s.heap := ⟨_, rfl⟩
  obtain ⟨locs, hlc⟩ : ∃ L : List Loc, L = [] := ⟨_, rfl⟩
  have hP : va_P D vwCl (tw cs q v_t_tapeSize v_t_textSize v_t_faultKind a_t_tape a_t_text a_g_beyond v_g_size a_g_steps a_h_beyond v_h_size a_h_steps a_r_scratch a_r_now v_r_takes v_r_negative v_r_namePlace v_r_faultKind v_r_faultPlace v_a_size v_a_limit v_a_digits v_a_kind v_a_from v_a_to v_o_size a_o_out v_b_size v_b_limit v_b_digits v_b_kind v_b_from v_b_to a_u_atom a_u_other a_u_hand v_u_marksMade v_u_came v_u_guesses v_u_right v_u_taken a_u_vars a_u_marks a_u_outcomes a_u_indexes v_s_things v_s_looked v_s_lookedTooOften v_s_arraysMade v_s_cellsMade a_s_classes a_s_starts a_s_lengths a_s_cells a_L a_K a_vc a_vd a_si a_sj a_iv a_inn a_ac) H := by rw [hH]; exact hP
  have hS : va_S A s.heap H locs := by rw [hH, hlc]; exact hS
  refine wHL hH hlc ?_
  have b_a9 := iB a9
  have b_i9 := iB i9
  obtain ⟨⟨h1, h2⟩, ⟨h3, h4⟩, h5⟩ := id p_0
  refine lv_iload_n hx hb dX7_cellDatum_0 rfl (lv_at hl 1 rfl) ?_
  refine m_if_le (X := a9.toInt) (tgt := 26) hx hb dX7_cellDatum_1 (by decide) rfl (fun c1 => ?_) (fun c1 => ?_)
  · skip
    refine lv_lconst (v := 0) hx hb dX7_cellDatum_26 (by decide) ?_
    subst hAe
    rw [hQ]
    exact W.lret (v := 0) hx hb hr (fun t ht hW => ⟨⟨0, _, rfl, rfl, by rw [ht]; exact hP, va_K.moved hW.alike hK, hD⟩, hS.F ht⟩) hS.2.2 dX7_cellDatum_27
  · skip
    refine lv_iload_n hx hb dX7_cellDatum_4 rfl (lv_at hl 1 rfl) ?_
    refine lv_aload_n hx hb dX7_cellDatum_5 rfl (lv_at hl 0 rfl) ?_
    refine va_get (D := D) (ci := 6) (v := .int v_s_things) (C := RX7) (T := TX7) (N := 9) hx hb hts hinX7 hown hK hP 17 rfl rfl 4 (by decide) k_4_22 (fun _ h9 => h9) rfl dX7_cellDatum_6 ?_
    refine m_icmp_ge (X := a9.toInt) (Y := v_s_things.toInt) (tgt := 26) hx hb dX7_cellDatum_9 (by decide) rfl rfl (fun c9 => ?_) (fun c9 => ?_)
    · skip
      refine lv_lconst (v := 0) hx hb dX7_cellDatum_26 (by decide) ?_
      subst hAe
      rw [hQ]
      exact W.lret (v := 0) hx hb hr (fun t ht hW => ⟨⟨0, _, rfl, rfl, by rw [ht]; exact hP, va_K.moved hW.alike hK, hD⟩, hS.F ht⟩) hS.2.2 dX7_cellDatum_27
    · skip
      refine lv_iload_n hx hb dX7_cellDatum_12 rfl (lv_at hl 2 rfl) ?_
      refine m_if_lt (X := i9.toInt) (tgt := 26) hx hb dX7_cellDatum_13 (by decide) rfl (fun c13 => ?_) (fun c13 => ?_)
      · skip
        refine lv_lconst (v := 0) hx hb dX7_cellDatum_26 (by decide) ?_
        subst hAe
        rw [hQ]
        exact W.lret (v := 0) hx hb hr (fun t ht hW => ⟨⟨0, _, rfl, rfl, by rw [ht]; exact hP, va_K.moved hW.alike hK, hD⟩, hS.F ht⟩) hS.2.2 dX7_cellDatum_27
      · skip
        refine lv_iload_n hx hb dX7_cellDatum_16 rfl (lv_at hl 2 rfl) ?_
        refine lv_aload_n hx hb dX7_cellDatum_17 rfl (lv_at hl 0 rfl) ?_
        refine va_get (D := D) (ci := 6) (v := .ref (q 20)) (C := RX7) (T := TX7) (N := 9) hx hb hts hinX7 hown hK hP 17 rfl rfl 2 (by decide) k_4_20 (fun _ h9 => h9) rfl dX7_cellDatum_18 ?_
        refine lv_iload_n hx hb dX7_cellDatum_21 rfl (lv_at hl 1 rfl) ?_
        obtain ⟨z1, z2, z3⟩ := p_0.at (a := a9) (by omega) (by omega)
        refine m_iald hx hb hK hP 20 0 rfl rfl (ix (by omega) (by omega)) dX7_cellDatum_22 (fun x22 e_x22 => ?_)
        have b_x22 := iB x22
        have hx22 := congrArg Int32.toInt e_x22
        refine m_icmp_lt (X := i9.toInt) (Y := x22.toInt) (tgt := 28) hx hb dX7_cellDatum_23 (by decide) rfl rfl (fun c23 => ?_) (fun c23 => ?_)
        · skip
          refine lv_aload_n hx hb dX7_cellDatum_28 rfl (lv_at hl 0 rfl) ?_
          refine va_get (D := D) (ci := 6) (v := .ref (q 21)) (C := RX7) (T := TX7) (N := 9) hx hb hts hinX7 hown hK hP 17 rfl rfl 3 (by decide) k_4_21 (fun _ h9 => h9) rfl dX7_cellDatum_29 ?_
          refine lv_aload_n hx hb dX7_cellDatum_32 rfl (lv_at hl 0 rfl) ?_
          refine va_get (D := D) (ci := 6) (v := .ref (q 19)) (C := RX7) (T := TX7) (N := 9) hx hb hts hinX7 hown hK hP 17 rfl rfl 1 (by decide) k_4_19 (fun _ h9 => h9) rfl dX7_cellDatum_33 ?_
          refine lv_iload_n hx hb dX7_cellDatum_36 rfl (lv_at hl 1 rfl) ?_
          refine m_iald hx hb hK hP 19 0 rfl rfl (ix (by omega) (by omega)) dX7_cellDatum_37 (fun x37 e_x37 => ?_)
          have b_x37 := iB x37
          obtain ⟨z1, z2, z3⟩ := p_0.at (a := a9) (by omega) (by omega)
          have hx37 := congrArg Int32.toInt e_x37
          refine lv_iload_n hx hb dX7_cellDatum_38 rfl (lv_at hl 2 rfl) ?_
          refine m_iadd (X := x37.toInt) (Y := i9.toInt) hx hb dX7_cellDatum_39 rfl rfl (fun x39 e_x39 g9 => ?_)
          obtain ⟨k_x39, g_x39⟩ := g9
          have b_x39 := iB x39
          try (have q_x39 : x39.toInt = x37.toInt + i9.toInt := (by omega); clear g_x39 k_x39)
          refine m_lald hx hb hK hP 21 1 rfl rfl (ix (by omega) (by omega)) dX7_cellDatum_40 (fun x40 e_x40 => ?_)
          have b_x40 := jB x40
          subst hAe
          rw [hQ]
          exact W.lret (v := x40) hx hb hr (fun t ht hW => ⟨⟨x40, _, rfl, rfl, by rw [ht]; exact hP, va_K.moved hW.alike hK, hD⟩, hS.F ht⟩) hS.2.2 dX7_cellDatum_41
        · skip
          refine lv_lconst (v := 0) hx hb dX7_cellDatum_26 (by decide) ?_
          subst hAe
          rw [hQ]
          exact W.lret (v := 0) hx hb hr (fun t ht hW => ⟨⟨0, _, rfl, rfl, by rw [ht]; exact hP, va_K.moved hW.alike hK, hD⟩, hS.F ht⟩) hS.2.2 dX7_cellDatum_27

def rmX7_cellClass : Room := { frames := 20, cells := 0, slots := 0, locals := 400 }
set_option maxHeartbeats 4000000 in
set_option maxRecDepth 100000 in
theorem tX7_cellClass {l : Launch} {D : va_G} {K : Nat → Nat → Nat} {cs : Nat → ClassId} {q : Nat → Nat} {v_t_tapeSize v_t_textSize v_t_faultKind v_g_size v_h_size v_r_takes v_r_negative v_r_namePlace v_r_faultKind v_r_faultPlace v_a_size v_a_limit v_a_digits v_a_kind v_a_from v_a_to v_o_size v_b_size v_b_limit v_b_digits v_b_kind v_b_from v_b_to v_u_marksMade v_u_came v_u_guesses v_u_right v_u_taken v_s_things v_s_looked v_s_lookedTooOften v_s_arraysMade v_s_cellsMade : Int32} {a_t_tape a_t_text a_o_out a_u_outcomes a_u_indexes a_s_classes a_s_starts a_s_lengths a_vc : Nat → Int32} {a_g_beyond a_h_beyond a_r_scratch a_r_now a_u_atom a_u_other a_u_hand : Nat} {a_g_steps a_h_steps a_u_vars a_u_marks : Nat → Option Nat} {a_s_cells a_vd a_sj : Nat → Int64} {a_L : List Nat} {a_K a_iv a_inn : Nat → Nat} {a_si a_ac : Nat → Nat → Int32} (a9 : Int32) (i9 : Int32) (p_0 : STO v_s_things v_s_cellsMade a_s_starts a_s_lengths) : CtI l yX7_cellClass (wG yX7_cellClass cX7_cellClass 5 (some .int)) rmX7_cellClass D (twT cs) K [.ref (q 17), .int a9, .int i9] (tw cs q v_t_tapeSize v_t_textSize v_t_faultKind a_t_tape a_t_text a_g_beyond v_g_size a_g_steps a_h_beyond v_h_size a_h_steps a_r_scratch a_r_now v_r_takes v_r_negative v_r_namePlace v_r_faultKind v_r_faultPlace v_a_size v_a_limit v_a_digits v_a_kind v_a_from v_a_to v_o_size a_o_out v_b_size v_b_limit v_b_digits v_b_kind v_b_from v_b_to a_u_atom a_u_other a_u_hand v_u_marksMade v_u_came v_u_guesses v_u_right v_u_taken a_u_vars a_u_marks a_u_outcomes a_u_indexes v_s_things v_s_looked v_s_lookedTooOften v_s_arraysMade v_s_cellsMade a_s_classes a_s_starts a_s_lengths a_s_cells a_L a_K a_vc a_vd a_si a_sj a_iv a_inn a_ac) (fun r w1 => w1 = (tw cs q v_t_tapeSize v_t_textSize v_t_faultKind a_t_tape a_t_text a_g_beyond v_g_size a_g_steps a_h_beyond v_h_size a_h_steps a_r_scratch a_r_now v_r_takes v_r_negative v_r_namePlace v_r_faultKind v_r_faultPlace v_a_size v_a_limit v_a_digits v_a_kind v_a_from v_a_to v_o_size a_o_out v_b_size v_b_limit v_b_digits v_b_kind v_b_from v_b_to a_u_atom a_u_other a_u_hand v_u_marksMade v_u_came v_u_guesses v_u_right v_u_taken a_u_vars a_u_marks a_u_outcomes a_u_indexes v_s_things v_s_looked v_s_lookedTooOften v_s_arraysMade v_s_cellsMade a_s_classes a_s_starts a_s_lengths a_s_cells a_L a_K a_vc a_vd a_si a_sj a_iv a_inn a_ac)) 0 0 := by
  intro sz
  refine Met.ofW (cc := cX7_cellClass) (maxL := 5) (ret := (some .int)) (by decide) rfl ?_
  intro p e s m args below meth c s₁ B hml hv
  obtain ⟨rfl, hsz, hP, hK, hD0, hE⟩ := hv
  have hx := B.exec
  have hb := B.bytes
  have hr := B.returns
  have hts := atoms_spec (ws := (wG yX7_cellClass cX7_cellClass 5 (some .int))) B.pre
  have hown : s.vm.findClass RX7 = some m.cls := findClass_of_methodNamed B.named
  have hlocks := B.notSynchronized
  subst hsz
  have hD := hD0.self (sz := s.heap.size)
  obtain ⟨A, hAe⟩ : ∃ A : Nat → Prop, A = va_A (tw cs q v_t_tapeSize v_t_textSize v_t_faultKind a_t_tape a_t_text a_g_beyond v_g_size a_g_steps a_h_beyond v_h_size a_h_steps a_r_scratch a_r_now v_r_takes v_r_negative v_r_namePlace v_r_faultKind v_r_faultPlace v_a_size v_a_limit v_a_digits v_a_kind v_a_from v_a_to v_o_size a_o_out v_b_size v_b_limit v_b_digits v_b_kind v_b_from v_b_to a_u_atom a_u_other a_u_hand v_u_marksMade v_u_came v_u_guesses v_u_right v_u_taken a_u_vars a_u_marks a_u_outcomes a_u_indexes v_s_things v_s_looked v_s_lookedTooOften v_s_arraysMade v_s_cellsMade a_s_classes a_s_starts a_s_lengths a_s_cells a_L a_K a_vc a_vd a_si a_sj a_iv a_inn a_ac) s.heap.size := ⟨_, rfl⟩
  rw [← hAe] at hD hE
  have hA : ∀ q : Nat, s.heap.size ≤ q → A q := fun q h => by rw [hAe]; exact Or.inr h
  have hS : va_S A s.heap s.heap [] := va_S.rf
  have hl := lv_entry ([.ref (q 17), .int a9, .int i9]) (n := 5) (Nat.le_of_ble_eq_true rfl)
  rw [lg_entry_eq]
  generalize (lg_sl ([.ref (q 17), .int a9, .int i9]) ++ List.replicate (5 - (lg_sl ([.ref (q 17), .int a9, .int i9])).length) Slot.unset).toArray = ls at hl ⊢
  have hl : lv_has ls 5 [(0, .ref (q 17)), (1, .int a9), (2, .int i9)] := hl
  refine wq (fun Q hQ => ?_)
  have hinX7 : ∀ w ∈ wsX70, w ∈ (wG yX7_cellClass cX7_cellClass 5 (some .int)) := fun w h => List.mem_cons_of_mem _ (inlX7 w h)
  have kc0 : (-1 : Int32).toInt = -1 := by decide
  have kc1 : (8 : Int32).toInt = 8 := by decide
  have kc2 : (20 : Int32).toInt = 20 := by decide
  have k_4_22 := hts (.fieldLink RX7 25 "ArrayTrainer$Store" "things" "I") (List.mem_cons_of_mem _ (wr4 _ (List.mem_of_getElem? (i := 22) rfl)))
  have k_4_20 := hts (.fieldLink RX7 18 "ArrayTrainer$Store" "lengths" "[I") (List.mem_cons_of_mem _ (wr4 _ (List.mem_of_getElem? (i := 20) rfl)))
  have k_4_18 := hts (.fieldLink RX7 11 "ArrayTrainer$Store" "classes" "[I") (List.mem_cons_of_mem _ (wr4 _ (List.mem_of_getElem? (i := 18) rfl)))
  have k_4_21 := hts (.fieldLink RX7 21 "ArrayTrainer$Store" "cells" "[J") (List.mem_cons_of_mem _ (wr4 _ (List.mem_of_getElem? (i := 21) rfl)))
  have k_4_19 := hts (.fieldLink RX7 15 "ArrayTrainer$Store" "starts" "[I") (List.mem_cons_of_mem _ (wr4 _ (List.mem_of_getElem? (i := 19) rfl)))
  obtain ⟨H, hH⟩ : ∃ H : Heap, H = s.heap := ⟨_, rfl⟩
  obtain ⟨locs, hlc⟩ : ∃ L : List Loc, L = [] := ⟨_, rfl⟩
  have hP : va_P D vwCl (tw cs q v_t_tapeSize v_t_textSize v_t_faultKind a_t_tape a_t_text a_g_beyond v_g_size a_g_steps a_h_beyond v_h_size a_h_steps a_r_scratch a_r_now v_r_takes v_r_negative v_r_namePlace v_r_faultKind v_r_faultPlace v_a_size v_a_limit v_a_digits v_a_kind v_a_from v_a_to v_o_size a_o_out v_b_size v_b_limit v_b_digits v_b_kind v_b_from v_b_to a_u_atom a_u_other a_u_hand v_u_marksMade v_u_came v_u_guesses v_u_right v_u_taken a_u_vars a_u_marks a_u_outcomes a_u_indexes v_s_things v_s_looked v_s_lookedTooOften v_s_arraysMade v_s_cellsMade a_s_classes a_s_starts a_s_lengths a_s_cells a_L a_K a_vc a_vd a_si a_sj a_iv a_inn a_ac) H := by rw [hH]; exact hP
  have hS : va_S A s.heap H locs := by rw [hH, hlc]; exact hS
  refine wHL hH hlc ?_
  have b_a9 := iB a9
  have b_i9 := iB i9
  obtain ⟨⟨h1, h2⟩, ⟨h3, h4⟩, h5⟩ := id p_0
  refine lv_iload_n hx hb dX7_cellClass_0 rfl (lv_at hl 1 rfl) ?_
  refine m_if_le (X := a9.toInt) (tgt := 26) hx hb dX7_cellClass_1 (by decide) rfl (fun c1 => ?_) (fun c1 => ?_)
  · skip
    refine lv_iconst (v := (-1)) hx hb dX7_cellClass_26 (by decide) ?_
    subst hAe
    rw [hQ]
    exact W.iret (v := (-1)) hx hb hr (fun t ht hW => ⟨⟨(-1), _, rfl, rfl, by rw [ht]; exact hP, va_K.moved hW.alike hK, hD⟩, hS.F ht⟩) hS.2.2 dX7_cellClass_27
  · skip
    refine lv_iload_n hx hb dX7_cellClass_4 rfl (lv_at hl 1 rfl) ?_
    refine lv_aload_n hx hb dX7_cellClass_5 rfl (lv_at hl 0 rfl) ?_
    refine va_get (D := D) (ci := 6) (v := .int v_s_things) (C := RX7) (T := TX7) (N := 9) hx hb hts hinX7 hown hK hP 17 rfl rfl 4 (by decide) k_4_22 (fun _ h9 => h9) rfl dX7_cellClass_6 ?_
    refine m_icmp_ge (X := a9.toInt) (Y := v_s_things.toInt) (tgt := 26) hx hb dX7_cellClass_9 (by decide) rfl rfl (fun c9 => ?_) (fun c9 => ?_)
    · skip
      refine lv_iconst (v := (-1)) hx hb dX7_cellClass_26 (by decide) ?_
      subst hAe
      rw [hQ]
      exact W.iret (v := (-1)) hx hb hr (fun t ht hW => ⟨⟨(-1), _, rfl, rfl, by rw [ht]; exact hP, va_K.moved hW.alike hK, hD⟩, hS.F ht⟩) hS.2.2 dX7_cellClass_27
    · skip
      refine lv_iload_n hx hb dX7_cellClass_12 rfl (lv_at hl 2 rfl) ?_
      refine m_if_lt (X := i9.toInt) (tgt := 26) hx hb dX7_cellClass_13 (by decide) rfl (fun c13 => ?_) (fun c13 => ?_)
      · skip
        refine lv_iconst (v := (-1)) hx hb dX7_cellClass_26 (by decide) ?_
        subst hAe
        rw [hQ]
        exact W.iret (v := (-1)) hx hb hr (fun t ht hW => ⟨⟨(-1), _, rfl, rfl, by rw [ht]; exact hP, va_K.moved hW.alike hK, hD⟩, hS.F ht⟩) hS.2.2 dX7_cellClass_27
      · skip
        refine lv_iload_n hx hb dX7_cellClass_16 rfl (lv_at hl 2 rfl) ?_
        refine lv_aload_n hx hb dX7_cellClass_17 rfl (lv_at hl 0 rfl) ?_
        refine va_get (D := D) (ci := 6) (v := .ref (q 20)) (C := RX7) (T := TX7) (N := 9) hx hb hts hinX7 hown hK hP 17 rfl rfl 2 (by decide) k_4_20 (fun _ h9 => h9) rfl dX7_cellClass_18 ?_
        refine lv_iload_n hx hb dX7_cellClass_21 rfl (lv_at hl 1 rfl) ?_
        obtain ⟨z1, z2, z3⟩ := p_0.at (a := a9) (by omega) (by omega)
        refine m_iald hx hb hK hP 20 0 rfl rfl (ix (by omega) (by omega)) dX7_cellClass_22 (fun x22 e_x22 => ?_)
        have b_x22 := iB x22
        have hx22 := congrArg Int32.toInt e_x22
        refine m_icmp_lt (X := i9.toInt) (Y := x22.toInt) (tgt := 28) hx hb dX7_cellClass_23 (by decide) rfl rfl (fun c23 => ?_) (fun c23 => ?_)
        · skip
          refine lv_aload_n hx hb dX7_cellClass_28 rfl (lv_at hl 0 rfl) ?_
          refine va_get (D := D) (ci := 6) (v := .ref (q 18)) (C := RX7) (T := TX7) (N := 9) hx hb hts hinX7 hown hK hP 17 rfl rfl 0 (by decide) k_4_18 (fun _ h9 => h9) rfl dX7_cellClass_29 ?_
          refine lv_iload_n hx hb dX7_cellClass_32 rfl (lv_at hl 1 rfl) ?_
          refine m_iald hx hb hK hP 18 0 rfl rfl (ix (by omega) (by omega)) dX7_cellClass_33 (fun x33 e_x33 => ?_)
          have b_x33 := iB x33
          refine lv_bipush (v := 20) hx hb dX7_cellClass_34 (by decide) ?_
          refine m_isub (X := x33.toInt) (Y := 20) hx hb dX7_cellClass_36 rfl (by decide) (fun x36 e_x36 g9 => ?_)
          obtain ⟨k_x36, g_x36⟩ := g9
          have b_x36 := iB x36
          try (have q_x36 : x36.toInt = x33.toInt - 20 := (by omega); clear g_x36 k_x36)
          refine lv_istore_n (lv' := [(3, .int x36), (0, .ref (q 17)), (1, .int a9), (2, .int i9)]) hx hb dX7_cellClass_37 rfl hl (by decide) rfl (fun ls hl => ?_)
          refine lv_iload_n hx hb dX7_cellClass_38 rfl (lv_at hl 0 rfl) ?_
          refine lv_bipush (v := 8) hx hb dX7_cellClass_39 (by decide) ?_
          refine m_icmp_ge (X := x36.toInt) (Y := 8) (tgt := 46) hx hb dX7_cellClass_41 (by decide) rfl (by decide) (fun c41 => ?_) (fun c41 => ?_)
          · skip
            refine lv_aload_n hx hb dX7_cellClass_46 rfl (lv_at hl 1 rfl) ?_
            refine va_get (D := D) (ci := 6) (v := .ref (q 21)) (C := RX7) (T := TX7) (N := 9) hx hb hts hinX7 hown hK hP 17 rfl rfl 3 (by decide) k_4_21 (fun _ h9 => h9) rfl dX7_cellClass_47 ?_
            refine lv_aload_n hx hb dX7_cellClass_50 rfl (lv_at hl 1 rfl) ?_
            refine va_get (D := D) (ci := 6) (v := .ref (q 19)) (C := RX7) (T := TX7) (N := 9) hx hb hts hinX7 hown hK hP 17 rfl rfl 1 (by decide) k_4_19 (fun _ h9 => h9) rfl dX7_cellClass_51 ?_
            refine lv_iload_n hx hb dX7_cellClass_54 rfl (lv_at hl 2 rfl) ?_
            refine m_iald hx hb hK hP 19 0 rfl rfl (ix (by omega) (by omega)) dX7_cellClass_55 (fun x55 e_x55 => ?_)
            have b_x55 := iB x55
            obtain ⟨z1, z2, z3⟩ := p_0.at (a := a9) (by omega) (by omega)
            have hx55 := congrArg Int32.toInt e_x55
            refine lv_iload_n hx hb dX7_cellClass_56 rfl (lv_at hl 3 rfl) ?_
            refine m_iadd (X := x55.toInt) (Y := i9.toInt) hx hb dX7_cellClass_57 rfl rfl (fun x57 e_x57 g9 => ?_)
            obtain ⟨k_x57, g_x57⟩ := g9
            have b_x57 := iB x57
            try (have q_x57 : x57.toInt = x55.toInt + i9.toInt := (by omega); clear g_x57 k_x57)
            refine m_lald hx hb hK hP 21 1 rfl rfl (ix (by omega) (by omega)) dX7_cellClass_58 (fun x58 e_x58 => ?_)
            have b_x58 := jB x58
            refine m_l2i hx hb dX7_cellClass_59 (fun x59 e_x59 => ?_)
            have b_x59 := iB x59
            refine lv_istore (lv' := [(4, .int x59), (3, .int x36), (0, .ref (q 17)), (1, .int a9), (2, .int i9)]) hx hb dX7_cellClass_60 hl (by decide) rfl (fun ls hl => ?_)
            refine lv_iload hx hb dX7_cellClass_62 (lv_at hl 0 rfl) ?_
            refine m_if_le (X := x59.toInt) (tgt := 86) hx hb dX7_cellClass_64 (by decide) rfl (fun c64 => ?_) (fun c64 => ?_)
            · skip
              refine lv_iconst (v := (-1)) hx hb dX7_cellClass_86 (by decide) ?_
              subst hAe
              rw [hQ]
              exact W.iret (v := (-1)) hx hb hr (fun t ht hW => ⟨⟨(-1), _, rfl, rfl, by rw [ht]; exact hP, va_K.moved hW.alike hK, hD⟩, hS.F ht⟩) hS.2.2 dX7_cellClass_87
            · skip
              refine lv_iload hx hb dX7_cellClass_67 (lv_at hl 0 rfl) ?_
              refine lv_aload_n hx hb dX7_cellClass_69 rfl (lv_at hl 2 rfl) ?_
              refine va_get (D := D) (ci := 6) (v := .int v_s_things) (C := RX7) (T := TX7) (N := 9) hx hb hts hinX7 hown hK hP 17 rfl rfl 4 (by decide) k_4_22 (fun _ h9 => h9) rfl dX7_cellClass_70 ?_
              refine m_icmp_ge (X := x59.toInt) (Y := v_s_things.toInt) (tgt := 86) hx hb dX7_cellClass_73 (by decide) rfl rfl (fun c73 => ?_) (fun c73 => ?_)
              · skip
                refine lv_iconst (v := (-1)) hx hb dX7_cellClass_86 (by decide) ?_
                subst hAe
                rw [hQ]
                exact W.iret (v := (-1)) hx hb hr (fun t ht hW => ⟨⟨(-1), _, rfl, rfl, by rw [ht]; exact hP, va_K.moved hW.alike hK, hD⟩, hS.F ht⟩) hS.2.2 dX7_cellClass_87
              · skip
                refine lv_aload_n hx hb dX7_cellClass_76 rfl (lv_at hl 2 rfl) ?_
                refine va_get (D := D) (ci := 6) (v := .ref (q 18)) (C := RX7) (T := TX7) (N := 9) hx hb hts hinX7 hown hK hP 17 rfl rfl 0 (by decide) k_4_18 (fun _ h9 => h9) rfl dX7_cellClass_77 ?_
                refine lv_iload hx hb dX7_cellClass_80 (lv_at hl 0 rfl) ?_
                refine m_iald hx hb hK hP 18 0 rfl rfl (ix (by omega) (by omega)) dX7_cellClass_82 (fun x82 e_x82 => ?_)
                have b_x82 := iB x82
                refine lv_goto (tgt := 87) hx hb dX7_cellClass_83 (by decide) ?_
                subst hAe
                rw [hQ]
                exact W.iret (v := x82) hx hb hr (fun t ht hW => ⟨⟨x82, _, rfl, rfl, by rw [ht]; exact hP, va_K.moved hW.alike hK, hD⟩, hS.F ht⟩) hS.2.2 dX7_cellClass_87
          · skip
            refine lv_iload_n hx hb dX7_cellClass_44 rfl (lv_at hl 0 rfl) ?_
            subst hAe
            rw [hQ]
            exact W.iret (v := x36) hx hb hr (fun t ht hW => ⟨⟨x36, _, rfl, rfl, by rw [ht]; exact hP, va_K.moved hW.alike hK, hD⟩, hS.F ht⟩) hS.2.2 dX7_cellClass_45
        · skip
          refine lv_iconst (v := (-1)) hx hb dX7_cellClass_26 (by decide) ?_
          subst hAe
          rw [hQ]
          exact W.iret (v := (-1)) hx hb hr (fun t ht hW => ⟨⟨(-1), _, rfl, rfl, by rw [ht]; exact hP, va_K.moved hW.alike hK, hD⟩, hS.F ht⟩) hS.2.2 dX7_cellClass_27

def rmX7_read : Room := { frames := 40, cells := 0, slots := 0, locals := 800 }
set_option maxHeartbeats 4000000 in
set_option maxRecDepth 100000 in
theorem tX7_read {l : Launch} {D : va_G} {K : Nat → Nat → Nat} {cs : Nat → ClassId} {q : Nat → Nat} {v_t_tapeSize v_t_textSize v_t_faultKind v_g_size v_h_size v_r_takes v_r_negative v_r_namePlace v_r_faultKind v_r_faultPlace v_a_size v_a_limit v_a_digits v_a_kind v_a_from v_a_to v_o_size v_b_size v_b_limit v_b_digits v_b_kind v_b_from v_b_to v_u_marksMade v_u_came v_u_guesses v_u_right v_u_taken v_s_things v_s_looked v_s_lookedTooOften v_s_arraysMade v_s_cellsMade : Int32} {a_t_tape a_t_text a_o_out a_u_outcomes a_u_indexes a_s_classes a_s_starts a_s_lengths a_vc : Nat → Int32} {a_g_beyond a_h_beyond a_r_scratch a_r_now a_u_atom a_u_other a_u_hand : Nat} {a_g_steps a_h_steps a_u_vars a_u_marks : Nat → Option Nat} {a_s_cells a_vd a_sj : Nat → Int64} {a_L : List Nat} {a_K a_iv a_inn : Nat → Nat} {a_si a_ac : Nat → Nat → Int32} (a9 : Int32) (i9 : Int32) (v9 : Nat) (h_v9 : aV a_L a_K v9) (p_0 : STO v_s_things v_s_cellsMade a_s_starts a_s_lengths) : CtV l yX7_read (wG yX7_read cX7_read 4 none) rmX7_read D (twT cs) K [.ref (q 17), .int a9, .int i9, .ref v9] (tw cs q v_t_tapeSize v_t_textSize v_t_faultKind a_t_tape a_t_text a_g_beyond v_g_size a_g_steps a_h_beyond v_h_size a_h_steps a_r_scratch a_r_now v_r_takes v_r_negative v_r_namePlace v_r_faultKind v_r_faultPlace v_a_size v_a_limit v_a_digits v_a_kind v_a_from v_a_to v_o_size a_o_out v_b_size v_b_limit v_b_digits v_b_kind v_b_from v_b_to a_u_atom a_u_other a_u_hand v_u_marksMade v_u_came v_u_guesses v_u_right v_u_taken a_u_vars a_u_marks a_u_outcomes a_u_indexes v_s_things v_s_looked v_s_lookedTooOften v_s_arraysMade v_s_cellsMade a_s_classes a_s_starts a_s_lengths a_s_cells a_L a_K a_vc a_vd a_si a_sj a_iv a_inn a_ac) (fun w1 => ∃ (a_vc' : Nat → Int32) (a_vd' : Nat → Int64), w1 = (tw cs q v_t_tapeSize v_t_textSize v_t_faultKind a_t_tape a_t_text a_g_beyond v_g_size a_g_steps a_h_beyond v_h_size a_h_steps a_r_scratch a_r_now v_r_takes v_r_negative v_r_namePlace v_r_faultKind v_r_faultPlace v_a_size v_a_limit v_a_digits v_a_kind v_a_from v_a_to v_o_size a_o_out v_b_size v_b_limit v_b_digits v_b_kind v_b_from v_b_to a_u_atom a_u_other a_u_hand v_u_marksMade v_u_came v_u_guesses v_u_right v_u_taken a_u_vars a_u_marks a_u_outcomes a_u_indexes v_s_things v_s_looked v_s_lookedTooOften v_s_arraysMade v_s_cellsMade a_s_classes a_s_starts a_s_lengths a_s_cells a_L a_K a_vc' a_vd' a_si a_sj a_iv a_inn a_ac)) 0 0 := by
  intro sz
  refine Met.ofW (cc := cX7_read) (maxL := 4) (ret := none) (by decide) rfl ?_
  intro p e s m args below meth c s₁ B hml hv
  obtain ⟨rfl, hsz, hP, hK, hD0, hE⟩ := hv
  have hx := B.exec
  have hb := B.bytes
  have hr := B.returns
  have hts := atoms_spec (ws := (wG yX7_read cX7_read 4 none)) B.pre
  have hown : s.vm.findClass RX7 = some m.cls := findClass_of_methodNamed B.named
  have hlocks := B.notSynchronized
  subst hsz
  have hD := hD0.self (sz := s.heap.size)
  obtain ⟨A, hAe⟩ : ∃ A : Nat → Prop, A = va_A (tw cs q v_t_tapeSize v_t_textSize v_t_faultKind a_t_tape a_t_text a_g_beyond v_g_size a_g_steps a_h_beyond v_h_size a_h_steps a_r_scratch a_r_now v_r_takes v_r_negative v_r_namePlace v_r_faultKind v_r_faultPlace v_a_size v_a_limit v_a_digits v_a_kind v_a_from v_a_to v_o_size a_o_out v_b_size v_b_limit v_b_digits v_b_kind v_b_from v_b_to a_u_atom a_u_other a_u_hand v_u_marksMade v_u_came v_u_guesses v_u_right v_u_taken a_u_vars a_u_marks a_u_outcomes a_u_indexes v_s_things v_s_looked v_s_lookedTooOften v_s_arraysMade v_s_cellsMade a_s_classes a_s_starts a_s_lengths a_s_cells a_L a_K a_vc a_vd a_si a_sj a_iv a_inn a_ac) s.heap.size := ⟨_, rfl⟩
  rw [← hAe] at hD hE
  have hA : ∀ q : Nat, s.heap.size ≤ q → A q := fun q h => by rw [hAe]; exact Or.inr h
  have hS : va_S A s.heap s.heap [] := va_S.rf
  have hl := lv_entry ([.ref (q 17), .int a9, .int i9, .ref v9]) (n := 4) (Nat.le_of_ble_eq_true rfl)
  rw [lg_entry_eq]
  generalize (lg_sl ([.ref (q 17), .int a9, .int i9, .ref v9]) ++ List.replicate (4 - (lg_sl ([.ref (q 17), .int a9, .int i9, .ref v9])).length) Slot.unset).toArray = ls at hl ⊢
  have hl : lv_has ls 4 [(0, .ref (q 17)), (1, .int a9), (2, .int i9), (3, .ref v9)] := hl
  refine wq (fun Q hQ => ?_)
  obtain ⟨H, hH⟩ : ∃ H : Heap, H = s.heap := ⟨_, rfl⟩
  obtain ⟨locs, hlc⟩ : ∃ L : List Loc, L = [] := ⟨_, rfl⟩
  have hP : va_P D vwCl (tw cs q v_t_tapeSize v_t_textSize v_t_faultKind a_t_tape a_t_text a_g_beyond v_g_size a_g_steps a_h_beyond v_h_size a_h_steps a_r_scratch a_r_now v_r_takes v_r_negative v_r_namePlace v_r_faultKind v_r_faultPlace v_a_size v_a_limit v_a_digits v_a_kind v_a_from v_a_to v_o_size a_o_out v_b_size v_b_limit v_b_digits v_b_kind v_b_from v_b_to a_u_atom a_u_other a_u_hand v_u_marksMade v_u_came v_u_guesses v_u_right v_u_taken a_u_vars a_u_marks a_u_outcomes a_u_indexes v_s_things v_s_looked v_s_lookedTooOften v_s_arraysMade v_s_cellsMade a_s_classes a_s_starts a_s_lengths a_s_cells a_L a_K a_vc a_vd a_si a_sj a_iv a_inn a_ac) H := by rw [hH]; exact hP
  have hS : va_S A s.heap H locs := by rw [hH, hlc]; exact hS
  refine wHL hH hlc ?_
  have b_a9 := iB a9
  have b_i9 := iB i9
  refine lv_aload_n hx hb dX7_read_0 rfl (lv_at hl 3 rfl) ?_
  refine lv_aload_n hx hb dX7_read_1 rfl (lv_at hl 0 rfl) ?_
  refine lv_iload_n hx hb dX7_read_2 rfl (lv_at hl 1 rfl) ?_
  refine lv_iload_n hx hb dX7_read_3 rfl (lv_at hl 2 rfl) ?_
  refine call_i (As := [.int a9, .int i9]) (rest := [.ref v9]) ⟨hx, hb, hml, hown, hts⟩ (tX7_cellClass (l := l) a9 i9 (by first | assumption | omega | (intros; omega) | decide)) (cwV 2 hts (gV (wr38 _ (List.mem_of_getElem? (i := 20) rfl)) (wr38 _ (List.mem_of_getElem? (i := 21) rfl)) (wr38 _ (List.mem_of_getElem? (i := 22) rfl)) (wr4 _ (List.mem_of_getElem? (i := 3) rfl)) (wr38 _ (List.mem_of_getElem? (i := 23) rfl))) rfl rfl rfl (by decide +kernel) ⟨Nat.le_of_ble_eq_true rfl, Nat.le_of_ble_eq_true rfl⟩) (va_recv hK hP (ci := 6) (q0 := 17) rfl rfl) hK hP hD hE hS hA rfl hl.1 rfl (Nat.le_of_ble_eq_true rfl) dX7_read_4 ⟨Nat.le_of_ble_eq_true rfl, Nat.le_of_ble_eq_true rfl⟩ (fun r4 w9 H locs hw4 hP hD hS => ?_)
  obtain ⟨rfl⟩ := hw4
  have b_r4 := iB r4
  refine lv_aload_n hx hb dX7_read_7 rfl (lv_at hl 0 rfl) ?_
  refine lv_iload_n hx hb dX7_read_8 rfl (lv_at hl 1 rfl) ?_
  refine lv_iload_n hx hb dX7_read_9 rfl (lv_at hl 2 rfl) ?_
  refine call_j (As := [.int a9, .int i9]) (rest := [.int r4, .ref v9]) ⟨hx, hb, hml, hown, hts⟩ (tX7_cellDatum (l := l) a9 i9 (by first | assumption | omega | (intros; omega) | decide)) (cwV 2 hts (gV (wr39 _ (List.mem_of_getElem? (i := 0) rfl)) (wr39 _ (List.mem_of_getElem? (i := 1) rfl)) (wr39 _ (List.mem_of_getElem? (i := 2) rfl)) (wr4 _ (List.mem_of_getElem? (i := 3) rfl)) (wr39 _ (List.mem_of_getElem? (i := 3) rfl))) rfl rfl rfl (by decide +kernel) ⟨Nat.le_of_ble_eq_true rfl, Nat.le_of_ble_eq_true rfl⟩) (va_recv hK hP (ci := 6) (q0 := 17) rfl rfl) hK hP hD hE hS hA rfl hl.1 rfl (Nat.le_of_ble_eq_true rfl) dX7_read_10 ⟨Nat.le_of_ble_eq_true rfl, Nat.le_of_ble_eq_true rfl⟩ (fun r10 w9 H locs hw10 hP hD hS => ?_)
  obtain ⟨rfl⟩ := hw10
  have b_r10 := jB r10
  obtain ⟨k13_, hk13_⟩ := pl_V (X := (twX cs q v_t_tapeSize v_t_textSize v_t_faultKind a_t_tape a_t_text a_g_beyond v_g_size a_g_steps a_h_beyond v_h_size a_h_steps a_r_scratch a_r_now v_r_takes v_r_negative v_r_namePlace v_r_faultKind v_r_faultPlace v_a_size v_a_limit v_a_digits v_a_kind v_a_from v_a_to v_o_size a_o_out v_b_size v_b_limit v_b_digits v_b_kind v_b_from v_b_to a_u_atom a_u_other a_u_hand v_u_marksMade v_u_came v_u_guesses v_u_right v_u_taken a_u_vars a_u_marks a_u_outcomes a_u_indexes v_s_things v_s_looked v_s_lookedTooOften v_s_arraysMade v_s_cellsMade a_s_classes a_s_starts a_s_lengths a_s_cells)) (cI := cs 0) (vc := a_vc) (vd := a_vd) (si := a_si) (sj := a_sj) (iv := a_iv) (inn := a_inn) (ac := a_ac) h_v9
  refine call_v (As := [.int r4, .long r10]) (rest := []) ⟨hx, hb, hml, hown, hts⟩ (tX8_become (l := l) v9 h_v9 r4 r10) (cwV 2 hts (gV (wr39 _ (List.mem_of_getElem? (i := 4) rfl)) (wr22 _ (List.mem_of_getElem? (i := 3) rfl)) (wr22 _ (List.mem_of_getElem? (i := 4) rfl)) (wr4 _ (List.mem_of_getElem? (i := 11) rfl)) (wr22 _ (List.mem_of_getElem? (i := 5) rfl))) rfl rfl rfl (by decide +kernel) ⟨Nat.le_of_ble_eq_true rfl, Nat.le_of_ble_eq_true rfl⟩) (va_recv hK hP (ci := 7) (q0 := k13_) rfl hk13_) hK hP hD hE hS hA rfl hl.1 rfl (Nat.le_of_ble_eq_true rfl) dX7_read_13 ⟨Nat.le_of_ble_eq_true rfl, Nat.le_of_ble_eq_true rfl⟩ (fun w9 H locs hw13 hP hD hS => ?_)
  obtain ⟨a_vc_13, a_vd_13, rfl⟩ := hw13
  subst hAe
  rw [hQ]
  exact W.vret hx hb hr (fun t ht hW => ⟨⟨_, rfl, ⟨a_vc_13, a_vd_13, rfl⟩, by rw [ht]; exact hP, va_K.moved hW.alike hK, hD⟩, hS.F ht⟩) hS.2.2 dX7_read_16

def rmX7_goInto : Room := { frames := 40, cells := 0, slots := 0, locals := 800 }
set_option maxHeartbeats 4000000 in
set_option maxRecDepth 100000 in
theorem tX7_goInto {l : Launch} {D : va_G} {K : Nat → Nat → Nat} {cs : Nat → ClassId} {q : Nat → Nat} {v_t_tapeSize v_t_textSize v_t_faultKind v_g_size v_h_size v_r_takes v_r_negative v_r_namePlace v_r_faultKind v_r_faultPlace v_a_size v_a_limit v_a_digits v_a_kind v_a_from v_a_to v_o_size v_b_size v_b_limit v_b_digits v_b_kind v_b_from v_b_to v_u_marksMade v_u_came v_u_guesses v_u_right v_u_taken v_s_things v_s_looked v_s_lookedTooOften v_s_arraysMade v_s_cellsMade : Int32} {a_t_tape a_t_text a_o_out a_u_outcomes a_u_indexes a_s_classes a_s_starts a_s_lengths a_vc : Nat → Int32} {a_g_beyond a_h_beyond a_r_scratch a_r_now a_u_atom a_u_other a_u_hand : Nat} {a_g_steps a_h_steps a_u_vars a_u_marks : Nat → Option Nat} {a_s_cells a_vd a_sj : Nat → Int64} {a_L : List Nat} {a_K a_iv a_inn : Nat → Nat} {a_si a_ac : Nat → Nat → Int32} (v9 : Nat) (h_v9 : aV a_L a_K v9) (i9 : Int32) (p_0 : STO v_s_things v_s_cellsMade a_s_starts a_s_lengths) : CtI l yX7_goInto (wG yX7_goInto cX7_goInto 4 (some .boolean)) rmX7_goInto D (twT cs) K [.ref (q 17), .ref v9, .int i9] (tw cs q v_t_tapeSize v_t_textSize v_t_faultKind a_t_tape a_t_text a_g_beyond v_g_size a_g_steps a_h_beyond v_h_size a_h_steps a_r_scratch a_r_now v_r_takes v_r_negative v_r_namePlace v_r_faultKind v_r_faultPlace v_a_size v_a_limit v_a_digits v_a_kind v_a_from v_a_to v_o_size a_o_out v_b_size v_b_limit v_b_digits v_b_kind v_b_from v_b_to a_u_atom a_u_other a_u_hand v_u_marksMade v_u_came v_u_guesses v_u_right v_u_taken a_u_vars a_u_marks a_u_outcomes a_u_indexes v_s_things v_s_looked v_s_lookedTooOften v_s_arraysMade v_s_cellsMade a_s_classes a_s_starts a_s_lengths a_s_cells a_L a_K a_vc a_vd a_si a_sj a_iv a_inn a_ac) (fun r w1 => ∃ (a_vc' : Nat → Int32) (a_vd' : Nat → Int64), w1 = (tw cs q v_t_tapeSize v_t_textSize v_t_faultKind a_t_tape a_t_text a_g_beyond v_g_size a_g_steps a_h_beyond v_h_size a_h_steps a_r_scratch a_r_now v_r_takes v_r_negative v_r_namePlace v_r_faultKind v_r_faultPlace v_a_size v_a_limit v_a_digits v_a_kind v_a_from v_a_to v_o_size a_o_out v_b_size v_b_limit v_b_digits v_b_kind v_b_from v_b_to a_u_atom a_u_other a_u_hand v_u_marksMade v_u_came v_u_guesses v_u_right v_u_taken a_u_vars a_u_marks a_u_outcomes a_u_indexes v_s_things v_s_looked v_s_lookedTooOften v_s_arraysMade v_s_cellsMade a_s_classes a_s_starts a_s_lengths a_s_cells a_L a_K a_vc' a_vd' a_si a_sj a_iv a_inn a_ac) ∧ (r.toInt = 0 ∨ r.toInt = 1)) 0 0 := by
  intro sz
  refine Met.ofW (cc := cX7_goInto) (maxL := 4) (ret := (some .boolean)) (by decide) rfl ?_
  intro p e s m args below meth c s₁ B hml hv
  obtain ⟨rfl, hsz, hP, hK, hD0, hE⟩ := hv
  have hx := B.exec
  have hb := B.bytes
  have hr := B.returns
  have hts := atoms_spec (ws := (wG yX7_goInto cX7_goInto 4 (some .boolean))) B.pre
  have hown : s.vm.findClass RX7 = some m.cls := findClass_of_methodNamed B.named
  have hlocks := B.notSynchronized
  subst hsz
  have hD := hD0.self (sz := s.heap.size)
  obtain ⟨A, hAe⟩ : ∃ A : Nat → Prop, A = va_A (tw cs q v_t_tapeSize v_t_textSize v_t_faultKind a_t_tape a_t_text a_g_beyond v_g_size a_g_steps a_h_beyond v_h_size a_h_steps a_r_scratch a_r_now v_r_takes v_r_negative v_r_namePlace v_r_faultKind v_r_faultPlace v_a_size v_a_limit v_a_digits v_a_kind v_a_from v_a_to v_o_size a_o_out v_b_size v_b_limit v_b_digits v_b_kind v_b_from v_b_to a_u_atom a_u_other a_u_hand v_u_marksMade v_u_came v_u_guesses v_u_right v_u_taken a_u_vars a_u_marks a_u_outcomes a_u_indexes v_s_things v_s_looked v_s_lookedTooOften v_s_arraysMade v_s_cellsMade a_s_classes a_s_starts a_s_lengths a_s_cells a_L a_K a_vc a_vd a_si a_sj a_iv a_inn a_ac) s.heap.size := ⟨_, rfl⟩
  rw [← hAe] at hD hE
  have hA : ∀ q : Nat, s.heap.size ≤ q → A q := fun q h => by rw [hAe]; exact Or.inr h
  have hS : va_S A s.heap s.heap [] := va_S.rf
  have hl := lv_entry ([.ref (q 17), .ref v9, .int i9]) (n := 4) (Nat.le_of_ble_eq_true rfl)
  rw [lg_entry_eq]
  generalize (lg_sl ([.ref (q 17), .ref v9, .int i9]) ++ List.replicate (4 - (lg_sl ([.ref (q 17), .ref v9, .int i9])).length) Slot.unset).toArray = ls at hl ⊢
  have hl : lv_has ls 4 [(0, .ref (q 17)), (1, .ref v9), (2, .int i9)] := hl
  refine wq (fun Q hQ => ?_)
  have kc0 : (0 : Int32).toInt = 0 := by decide
  have kc1 : (1 : Int32).toInt = 1 := by decide
  obtain ⟨H, hH⟩ : ∃ H : Heap, H = s.heap := ⟨_, rfl⟩
  obtain ⟨locs, hlc⟩ : ∃ L : List Loc, L = [] := ⟨_, rfl⟩
  have hP : va_P D vwCl (tw cs q v_t_tapeSize v_t_textSize v_t_faultKind a_t_tape a_t_text a_g_beyond v_g_size a_g_steps a_h_beyond v_h_size a_h_steps a_r_scratch a_r_now v_r_takes v_r_negative v_r_namePlace v_r_faultKind v_r_faultPlace v_a_size v_a_limit v_a_digits v_a_kind v_a_from v_a_to v_o_size a_o_out v_b_size v_b_limit v_b_digits v_b_kind v_b_from v_b_to a_u_atom a_u_other a_u_hand v_u_marksMade v_u_came v_u_guesses v_u_right v_u_taken a_u_vars a_u_marks a_u_outcomes a_u_indexes v_s_things v_s_looked v_s_lookedTooOften v_s_arraysMade v_s_cellsMade a_s_classes a_s_starts a_s_lengths a_s_cells a_L a_K a_vc a_vd a_si a_sj a_iv a_inn a_ac) H := by rw [hH]; exact hP
  have hS : va_S A s.heap H locs := by rw [hH, hlc]; exact hS
  refine wHL hH hlc ?_
  have b_i9 := iB i9
  refine lv_aload_n hx hb dX7_goInto_0 rfl (lv_at hl 1 rfl) ?_
  obtain ⟨k1_, hk1_⟩ := pl_V (X := (twX cs q v_t_tapeSize v_t_textSize v_t_faultKind a_t_tape a_t_text a_g_beyond v_g_size a_g_steps a_h_beyond v_h_size a_h_steps a_r_scratch a_r_now v_r_takes v_r_negative v_r_namePlace v_r_faultKind v_r_faultPlace v_a_size v_a_limit v_a_digits v_a_kind v_a_from v_a_to v_o_size a_o_out v_b_size v_b_limit v_b_digits v_b_kind v_b_from v_b_to a_u_atom a_u_other a_u_hand v_u_marksMade v_u_came v_u_guesses v_u_right v_u_taken a_u_vars a_u_marks a_u_outcomes a_u_indexes v_s_things v_s_looked v_s_lookedTooOften v_s_arraysMade v_s_cellsMade a_s_classes a_s_starts a_s_lengths a_s_cells)) (cI := cs 0) (vc := a_vc) (vd := a_vd) (si := a_si) (sj := a_sj) (iv := a_iv) (inn := a_inn) (ac := a_ac) h_v9
  refine call_i (As := []) (rest := []) ⟨hx, hb, hml, hown, hts⟩ (tX8_array (l := l) v9 h_v9 ) (cwV 0 hts (gV (wr38 _ (List.mem_of_getElem? (i := 12) rfl)) (wr38 _ (List.mem_of_getElem? (i := 13) rfl)) (wr38 _ (List.mem_of_getElem? (i := 14) rfl)) (wr4 _ (List.mem_of_getElem? (i := 11) rfl)) (wr38 _ (List.mem_of_getElem? (i := 15) rfl))) rfl rfl rfl (by decide +kernel) ⟨Nat.le_of_ble_eq_true rfl, Nat.le_of_ble_eq_true rfl⟩) (va_recv hK hP (ci := 7) (q0 := k1_) rfl hk1_) hK hP hD hE hS hA rfl hl.1 rfl (Nat.le_of_ble_eq_true rfl) dX7_goInto_1 ⟨Nat.le_of_ble_eq_true rfl, Nat.le_of_ble_eq_true rfl⟩ (fun r1 w9 H locs hw1 hP hD hS => ?_)
  obtain ⟨rfl⟩ := hw1
  have b_r1 := iB r1
  refine lv_istore_n (lv' := [(3, .int r1), (0, .ref (q 17)), (1, .ref v9), (2, .int i9)]) hx hb dX7_goInto_4 rfl hl (by decide) rfl (fun ls hl => ?_)
  refine lv_aload_n hx hb dX7_goInto_5 rfl (lv_at hl 1 rfl) ?_
  refine lv_iload_n hx hb dX7_goInto_6 rfl (lv_at hl 0 rfl) ?_
  refine lv_iload_n hx hb dX7_goInto_7 rfl (lv_at hl 3 rfl) ?_
  refine call_i (As := [.int r1, .int i9]) (rest := []) ⟨hx, hb, hml, hown, hts⟩ (tX7_hasCell (l := l) r1 i9 (by first | assumption | omega | (intros; omega) | decide)) (cwV 2 hts (gV (wr38 _ (List.mem_of_getElem? (i := 16) rfl)) (wr38 _ (List.mem_of_getElem? (i := 17) rfl)) (wr38 _ (List.mem_of_getElem? (i := 18) rfl)) (wr4 _ (List.mem_of_getElem? (i := 3) rfl)) (wr38 _ (List.mem_of_getElem? (i := 19) rfl))) rfl rfl rfl (by decide +kernel) ⟨Nat.le_of_ble_eq_true rfl, Nat.le_of_ble_eq_true rfl⟩) (va_recv hK hP (ci := 6) (q0 := 17) rfl rfl) hK hP hD hE hS hA rfl hl.1 rfl (Nat.le_of_ble_eq_true rfl) dX7_goInto_8 ⟨Nat.le_of_ble_eq_true rfl, Nat.le_of_ble_eq_true rfl⟩ (fun r8 w9 H locs hw8 hP hD hS => ?_)
  obtain ⟨rfl, hw8_0⟩ := hw8
  have b_r8 := iB r8
  refine m_if_ne (X := r8.toInt) (tgt := 16) hx hb dX7_goInto_11 (by decide) rfl (fun c11 => ?_) (fun c11 => ?_)
  · skip
    refine lv_aload_n hx hb dX7_goInto_16 rfl (lv_at hl 2 rfl) ?_
    refine lv_aload_n hx hb dX7_goInto_17 rfl (lv_at hl 1 rfl) ?_
    refine lv_iload_n hx hb dX7_goInto_18 rfl (lv_at hl 0 rfl) ?_
    refine lv_iload_n hx hb dX7_goInto_19 rfl (lv_at hl 3 rfl) ?_
    refine call_i (As := [.int r1, .int i9]) (rest := [.ref v9]) ⟨hx, hb, hml, hown, hts⟩ (tX7_cellClass (l := l) r1 i9 (by first | assumption | omega | (intros; omega) | decide)) (cwV 2 hts (gV (wr38 _ (List.mem_of_getElem? (i := 20) rfl)) (wr38 _ (List.mem_of_getElem? (i := 21) rfl)) (wr38 _ (List.mem_of_getElem? (i := 22) rfl)) (wr4 _ (List.mem_of_getElem? (i := 3) rfl)) (wr38 _ (List.mem_of_getElem? (i := 23) rfl))) rfl rfl rfl (by decide +kernel) ⟨Nat.le_of_ble_eq_true rfl, Nat.le_of_ble_eq_true rfl⟩) (va_recv hK hP (ci := 6) (q0 := 17) rfl rfl) hK hP hD hE hS hA rfl hl.1 rfl (Nat.le_of_ble_eq_true rfl) dX7_goInto_20 ⟨Nat.le_of_ble_eq_true rfl, Nat.le_of_ble_eq_true rfl⟩ (fun r20 w9 H locs hw20 hP hD hS => ?_)
    obtain ⟨rfl⟩ := hw20
    have b_r20 := iB r20
    refine lv_aload_n hx hb dX7_goInto_23 rfl (lv_at hl 1 rfl) ?_
    refine lv_iload_n hx hb dX7_goInto_24 rfl (lv_at hl 0 rfl) ?_
    refine lv_iload_n hx hb dX7_goInto_25 rfl (lv_at hl 3 rfl) ?_
    refine call_j (As := [.int r1, .int i9]) (rest := [.int r20, .ref v9]) ⟨hx, hb, hml, hown, hts⟩ (tX7_cellDatum (l := l) r1 i9 (by first | assumption | omega | (intros; omega) | decide)) (cwV 2 hts (gV (wr39 _ (List.mem_of_getElem? (i := 0) rfl)) (wr39 _ (List.mem_of_getElem? (i := 1) rfl)) (wr39 _ (List.mem_of_getElem? (i := 2) rfl)) (wr4 _ (List.mem_of_getElem? (i := 3) rfl)) (wr39 _ (List.mem_of_getElem? (i := 3) rfl))) rfl rfl rfl (by decide +kernel) ⟨Nat.le_of_ble_eq_true rfl, Nat.le_of_ble_eq_true rfl⟩) (va_recv hK hP (ci := 6) (q0 := 17) rfl rfl) hK hP hD hE hS hA rfl hl.1 rfl (Nat.le_of_ble_eq_true rfl) dX7_goInto_26 ⟨Nat.le_of_ble_eq_true rfl, Nat.le_of_ble_eq_true rfl⟩ (fun r26 w9 H locs hw26 hP hD hS => ?_)
    obtain ⟨rfl⟩ := hw26
    have b_r26 := jB r26
    obtain ⟨k29_, hk29_⟩ := pl_V (X := (twX cs q v_t_tapeSize v_t_textSize v_t_faultKind a_t_tape a_t_text a_g_beyond v_g_size a_g_steps a_h_beyond v_h_size a_h_steps a_r_scratch a_r_now v_r_takes v_r_negative v_r_namePlace v_r_faultKind v_r_faultPlace v_a_size v_a_limit v_a_digits v_a_kind v_a_from v_a_to v_o_size a_o_out v_b_size v_b_limit v_b_digits v_b_kind v_b_from v_b_to a_u_atom a_u_other a_u_hand v_u_marksMade v_u_came v_u_guesses v_u_right v_u_taken a_u_vars a_u_marks a_u_outcomes a_u_indexes v_s_things v_s_looked v_s_lookedTooOften v_s_arraysMade v_s_cellsMade a_s_classes a_s_starts a_s_lengths a_s_cells)) (cI := cs 0) (vc := a_vc) (vd := a_vd) (si := a_si) (sj := a_sj) (iv := a_iv) (inn := a_inn) (ac := a_ac) h_v9
    refine call_v (As := [.int r20, .long r26]) (rest := []) ⟨hx, hb, hml, hown, hts⟩ (tX8_become (l := l) v9 h_v9 r20 r26) (cwV 2 hts (gV (wr39 _ (List.mem_of_getElem? (i := 4) rfl)) (wr22 _ (List.mem_of_getElem? (i := 3) rfl)) (wr22 _ (List.mem_of_getElem? (i := 4) rfl)) (wr4 _ (List.mem_of_getElem? (i := 11) rfl)) (wr22 _ (List.mem_of_getElem? (i := 5) rfl))) rfl rfl rfl (by decide +kernel) ⟨Nat.le_of_ble_eq_true rfl, Nat.le_of_ble_eq_true rfl⟩) (va_recv hK hP (ci := 7) (q0 := k29_) rfl hk29_) hK hP hD hE hS hA rfl hl.1 rfl (Nat.le_of_ble_eq_true rfl) dX7_goInto_29 ⟨Nat.le_of_ble_eq_true rfl, Nat.le_of_ble_eq_true rfl⟩ (fun w9 H locs hw29 hP hD hS => ?_)
    obtain ⟨a_vc_29, a_vd_29, rfl⟩ := hw29
    refine lv_iconst (v := 1) hx hb dX7_goInto_32 (by decide) ?_
    subst hAe
    rw [hQ]
    exact W.zret (v := 1) hx hb hr (by decide) (fun t ht hW => ⟨⟨1, _, rfl, ⟨a_vc_29, a_vd_29, rfl, by first | assumption | omega | (intros; omega) | decide⟩, by rw [ht]; exact hP, va_K.moved hW.alike hK, hD⟩, hS.F ht⟩) hS.2.2 dX7_goInto_33
  · skip
    refine lv_iconst (v := 0) hx hb dX7_goInto_14 (by decide) ?_
    subst hAe
    rw [hQ]
    exact W.zret (v := 0) hx hb hr (by decide) (fun t ht hW => ⟨⟨0, _, rfl, ⟨a_vc, a_vd, rfl, by first | assumption | omega | (intros; omega) | decide⟩, by rw [ht]; exact hP, va_K.moved hW.alike hK, hD⟩, hS.F ht⟩) hS.2.2 dX7_goInto_15

def rmX7_write : Room := { frames := 40, cells := 0, slots := 0, locals := 800 }
set_option maxHeartbeats 4000000 in
set_option maxRecDepth 100000 in
theorem tX7_write {l : Launch} {D : va_G} {K : Nat → Nat → Nat} {cs : Nat → ClassId} {q : Nat → Nat} {v_t_tapeSize v_t_textSize v_t_faultKind v_g_size v_h_size v_r_takes v_r_negative v_r_namePlace v_r_faultKind v_r_faultPlace v_a_size v_a_limit v_a_digits v_a_kind v_a_from v_a_to v_o_size v_b_size v_b_limit v_b_digits v_b_kind v_b_from v_b_to v_u_marksMade v_u_came v_u_guesses v_u_right v_u_taken v_s_things v_s_looked v_s_lookedTooOften v_s_arraysMade v_s_cellsMade : Int32} {a_t_tape a_t_text a_o_out a_u_outcomes a_u_indexes a_s_classes a_s_starts a_s_lengths a_vc : Nat → Int32} {a_g_beyond a_h_beyond a_r_scratch a_r_now a_u_atom a_u_other a_u_hand : Nat} {a_g_steps a_h_steps a_u_vars a_u_marks : Nat → Option Nat} {a_s_cells a_vd a_sj : Nat → Int64} {a_L : List Nat} {a_K a_iv a_inn : Nat → Nat} {a_si a_ac : Nat → Nat → Int32} (a9 : Int32) (i9 : Int32) (d9 : Int64) (p_0 : STO v_s_things v_s_cellsMade a_s_starts a_s_lengths) : CtV l yX7_write (wG yX7_write cX7_write 5 none) rmX7_write D (twT cs) K [.ref (q 17), .int a9, .int i9, .long d9] (tw cs q v_t_tapeSize v_t_textSize v_t_faultKind a_t_tape a_t_text a_g_beyond v_g_size a_g_steps a_h_beyond v_h_size a_h_steps a_r_scratch a_r_now v_r_takes v_r_negative v_r_namePlace v_r_faultKind v_r_faultPlace v_a_size v_a_limit v_a_digits v_a_kind v_a_from v_a_to v_o_size a_o_out v_b_size v_b_limit v_b_digits v_b_kind v_b_from v_b_to a_u_atom a_u_other a_u_hand v_u_marksMade v_u_came v_u_guesses v_u_right v_u_taken a_u_vars a_u_marks a_u_outcomes a_u_indexes v_s_things v_s_looked v_s_lookedTooOften v_s_arraysMade v_s_cellsMade a_s_classes a_s_starts a_s_lengths a_s_cells a_L a_K a_vc a_vd a_si a_sj a_iv a_inn a_ac) (fun w1 => ∃ (a_s_cells' : Nat → Int64), w1 = (tw cs q v_t_tapeSize v_t_textSize v_t_faultKind a_t_tape a_t_text a_g_beyond v_g_size a_g_steps a_h_beyond v_h_size a_h_steps a_r_scratch a_r_now v_r_takes v_r_negative v_r_namePlace v_r_faultKind v_r_faultPlace v_a_size v_a_limit v_a_digits v_a_kind v_a_from v_a_to v_o_size a_o_out v_b_size v_b_limit v_b_digits v_b_kind v_b_from v_b_to a_u_atom a_u_other a_u_hand v_u_marksMade v_u_came v_u_guesses v_u_right v_u_taken a_u_vars a_u_marks a_u_outcomes a_u_indexes v_s_things v_s_looked v_s_lookedTooOften v_s_arraysMade v_s_cellsMade a_s_classes a_s_starts a_s_lengths a_s_cells' a_L a_K a_vc a_vd a_si a_sj a_iv a_inn a_ac)) 0 0 := by
  intro sz
  refine Met.ofW (cc := cX7_write) (maxL := 5) (ret := none) (by decide) rfl ?_
  intro p e s m args below meth c s₁ B hml hv
  obtain ⟨rfl, hsz, hP, hK, hD0, hE⟩ := hv
  have hx := B.exec
  have hb := B.bytes
  have hr := B.returns
  have hts := atoms_spec (ws := (wG yX7_write cX7_write 5 none)) B.pre
  have hown : s.vm.findClass RX7 = some m.cls := findClass_of_methodNamed B.named
  have hlocks := B.notSynchronized
  subst hsz
  have hD := hD0.self (sz := s.heap.size)
  obtain ⟨A, hAe⟩ : ∃ A : Nat → Prop, A = va_A (tw cs q v_t_tapeSize v_t_textSize v_t_faultKind a_t_tape a_t_text a_g_beyond v_g_size a_g_steps a_h_beyond v_h_size a_h_steps a_r_scratch a_r_now v_r_takes v_r_negative v_r_namePlace v_r_faultKind v_r_faultPlace v_a_size v_a_limit v_a_digits v_a_kind v_a_from v_a_to v_o_size a_o_out v_b_size v_b_limit v_b_digits v_b_kind v_b_from v_b_to a_u_atom a_u_other a_u_hand v_u_marksMade v_u_came v_u_guesses v_u_right v_u_taken a_u_vars a_u_marks a_u_outcomes a_u_indexes v_s_things v_s_looked v_s_lookedTooOften v_s_arraysMade v_s_cellsMade a_s_classes a_s_starts a_s_lengths a_s_cells a_L a_K a_vc a_vd a_si a_sj a_iv a_inn a_ac) s.heap.size := ⟨_, rfl⟩
  rw [← hAe] at hD hE
  have hA : ∀ q : Nat, s.heap.size ≤ q → A q := fun q h => by rw [hAe]; exact Or.inr h
  have hS : va_S A s.heap s.heap [] := va_S.rf
  have hl := lv_entry ([.ref (q 17), .int a9, .int i9, .long d9]) (n := 5) (Nat.le_of_ble_eq_true rfl)
  rw [lg_entry_eq]
  generalize (lg_sl ([.ref (q 17), .int a9, .int i9, .long d9]) ++ List.replicate (5 - (lg_sl ([.ref (q 17), .int a9, .int i9, .long d9])).length) Slot.unset).toArray = ls at hl ⊢
  have hl : lv_has ls 5 [(0, .ref (q 17)), (1, .int a9), (2, .int i9), (3, .long d9)] := hl
  refine wq (fun Q hQ => ?_)
  have hinX7 : ∀ w ∈ wsX70, w ∈ (wG yX7_write cX7_write 5 none) := fun w h => List.mem_cons_of_mem _ (inlX7 w h)
  have k_4_21 := hts (.fieldLink RX7 21 "ArrayTrainer$Store" "cells" "[J") (List.mem_cons_of_mem _ (wr4 _ (List.mem_of_getElem? (i := 21) rfl)))
  have k_4_19 := hts (.fieldLink RX7 15 "ArrayTrainer$Store" "starts" "[I") (List.mem_cons_of_mem _ (wr4 _ (List.mem_of_getElem? (i := 19) rfl)))
  obtain ⟨H, hH⟩ : ∃ H : Heap, H = s.heap := ⟨_, rfl⟩
  obtain ⟨locs, hlc⟩ : ∃ L : List Loc, L = [] := ⟨_, rfl⟩
  have hP : va_P D vwCl (tw cs q v_t_tapeSize v_t_textSize v_t_faultKind a_t_tape a_t_text a_g_beyond v_g_size a_g_steps a_h_beyond v_h_size a_h_steps a_r_scratch a_r_now v_r_takes v_r_negative v_r_namePlace v_r_faultKind v_r_faultPlace v_a_size v_a_limit v_a_digits v_a_kind v_a_from v_a_to v_o_size a_o_out v_b_size v_b_limit v_b_digits v_b_kind v_b_from v_b_to a_u_atom a_u_other a_u_hand v_u_marksMade v_u_came v_u_guesses v_u_right v_u_taken a_u_vars a_u_marks a_u_outcomes a_u_indexes v_s_things v_s_looked v_s_lookedTooOften v_s_arraysMade v_s_cellsMade a_s_classes a_s_starts a_s_lengths a_s_cells a_L a_K a_vc a_vd a_si a_sj a_iv a_inn a_ac) H := by rw [hH]; exact hP
  have hS : va_S A s.heap H locs := by rw [hH, hlc]; exact hS
  refine wHL hH hlc ?_
  have b_a9 := iB a9
  have b_i9 := iB i9
  have b_d9 := jB d9
  obtain ⟨⟨h1, h2⟩, ⟨h3, h4⟩, h5⟩ := id p_0
  refine lv_aload_n hx hb dX7_write_0 rfl (lv_at hl 0 rfl) ?_
  refine lv_iload_n hx hb dX7_write_1 rfl (lv_at hl 1 rfl) ?_
  refine lv_iload_n hx hb dX7_write_2 rfl (lv_at hl 2 rfl) ?_
  refine call_i (As := [.int a9, .int i9]) (rest := []) ⟨hx, hb, hml, hown, hts⟩ (tX7_hasCell (l := l) a9 i9 (by first | assumption | omega | (intros; omega) | decide)) (cwV 2 hts (gV (wr38 _ (List.mem_of_getElem? (i := 16) rfl)) (wr38 _ (List.mem_of_getElem? (i := 17) rfl)) (wr38 _ (List.mem_of_getElem? (i := 18) rfl)) (wr4 _ (List.mem_of_getElem? (i := 3) rfl)) (wr38 _ (List.mem_of_getElem? (i := 19) rfl))) rfl rfl rfl (by decide +kernel) ⟨Nat.le_of_ble_eq_true rfl, Nat.le_of_ble_eq_true rfl⟩) (va_recv hK hP (ci := 6) (q0 := 17) rfl rfl) hK hP hD hE hS hA rfl hl.1 rfl (Nat.le_of_ble_eq_true rfl) dX7_write_3 ⟨Nat.le_of_ble_eq_true rfl, Nat.le_of_ble_eq_true rfl⟩ (fun r3 w9 H locs hw3 hP hD hS => ?_)
  obtain ⟨rfl, hw3_0⟩ := hw3
  have b_r3 := iB r3
  refine m_if_eq (X := r3.toInt) (tgt := 23) hx hb dX7_write_6 (by decide) rfl (fun c6 => ?_) (fun c6 => ?_)
  · skip
    subst hAe
    rw [hQ]
    exact W.vret hx hb hr (fun t ht hW => ⟨⟨_, rfl, ⟨a_s_cells, rfl⟩, by rw [ht]; exact hP, va_K.moved hW.alike hK, hD⟩, hS.F ht⟩) hS.2.2 dX7_write_23
  · skip
    refine lv_aload_n hx hb dX7_write_9 rfl (lv_at hl 0 rfl) ?_
    refine va_get (D := D) (ci := 6) (v := .ref (q 21)) (C := RX7) (T := TX7) (N := 9) hx hb hts hinX7 hown hK hP 17 rfl rfl 3 (by decide) k_4_21 (fun _ h9 => h9) rfl dX7_write_10 ?_
    refine lv_aload_n hx hb dX7_write_13 rfl (lv_at hl 0 rfl) ?_
    refine va_get (D := D) (ci := 6) (v := .ref (q 19)) (C := RX7) (T := TX7) (N := 9) hx hb hts hinX7 hown hK hP 17 rfl rfl 1 (by decide) k_4_19 (fun _ h9 => h9) rfl dX7_write_14 ?_
    refine lv_iload_n hx hb dX7_write_17 rfl (lv_at hl 1 rfl) ?_
    obtain ⟨z1, z2, z3⟩ := p_0.at (a := a9) (by omega) (by omega)
    refine m_iald hx hb hK hP 19 0 rfl rfl (ix (by omega) (by omega)) dX7_write_18 (fun x18 e_x18 => ?_)
    have b_x18 := iB x18
    have hx18 := congrArg Int32.toInt e_x18
    refine lv_iload_n hx hb dX7_write_19 rfl (lv_at hl 2 rfl) ?_
    refine m_iadd (X := x18.toInt) (Y := i9.toInt) hx hb dX7_write_20 rfl rfl (fun x20 e_x20 g9 => ?_)
    obtain ⟨k_x20, g_x20⟩ := g9
    have b_x20 := iB x20
    try (have q_x20 : x20.toInt = x18.toInt + i9.toInt := (by omega); clear g_x20 k_x20)
    refine lv_lload_n hx hb dX7_write_21 rfl (lv_at hl 3 rfl) ?_
    refine va_last hx hb hK hP hD hS 21 1 rfl rfl (ix (by omega) (by omega)) dX7_write_22 (fun H locs hP hD hS => ?_)
    obtain ⟨a_s_cells_22, e_a_s_cells_22⟩ : ∃ g, g = vp_updL a_s_cells x20.toNatClampNeg d9 := ⟨_, rfl⟩
    have hP : va_P D vwCl (tw cs q v_t_tapeSize v_t_textSize v_t_faultKind a_t_tape a_t_text a_g_beyond v_g_size a_g_steps a_h_beyond v_h_size a_h_steps a_r_scratch a_r_now v_r_takes v_r_negative v_r_namePlace v_r_faultKind v_r_faultPlace v_a_size v_a_limit v_a_digits v_a_kind v_a_from v_a_to v_o_size a_o_out v_b_size v_b_limit v_b_digits v_b_kind v_b_from v_b_to a_u_atom a_u_other a_u_hand v_u_marksMade v_u_came v_u_guesses v_u_right v_u_taken a_u_vars a_u_marks a_u_outcomes a_u_indexes v_s_things v_s_looked v_s_lookedTooOften v_s_arraysMade v_s_cellsMade a_s_classes a_s_starts a_s_lengths a_s_cells_22 a_L a_K a_vc a_vd a_si a_sj a_iv a_inn a_ac) H := by rw [e_a_s_cells_22]; exact hP
    have hD : va_D A (tw cs q v_t_tapeSize v_t_textSize v_t_faultKind a_t_tape a_t_text a_g_beyond v_g_size a_g_steps a_h_beyond v_h_size a_h_steps a_r_scratch a_r_now v_r_takes v_r_negative v_r_namePlace v_r_faultKind v_r_faultPlace v_a_size v_a_limit v_a_digits v_a_kind v_a_from v_a_to v_o_size a_o_out v_b_size v_b_limit v_b_digits v_b_kind v_b_from v_b_to a_u_atom a_u_other a_u_hand v_u_marksMade v_u_came v_u_guesses v_u_right v_u_taken a_u_vars a_u_marks a_u_outcomes a_u_indexes v_s_things v_s_looked v_s_lookedTooOften v_s_arraysMade v_s_cellsMade a_s_classes a_s_starts a_s_lengths a_s_cells_22 a_L a_K a_vc a_vd a_si a_sj a_iv a_inn a_ac) := by rw [e_a_s_cells_22]; exact hD
    subst hAe
    rw [hQ]
    exact W.vret hx hb hr (fun t ht hW => ⟨⟨_, rfl, ⟨a_s_cells_22, rfl⟩, by rw [ht]; exact hP, va_K.moved hW.alike hK, hD⟩, hS.F ht⟩) hS.2.2 dX7_write_23

def rmX7_swap : Room := { frames := 60, cells := 0, slots := 0, locals := 1200 }
set_option maxHeartbeats 4000000 in
set_option maxRecDepth 100000 in
theorem tX7_swap {l : Launch} {D : va_G} {K : Nat → Nat → Nat} {cs : Nat → ClassId} {q : Nat → Nat} {v_t_tapeSize v_t_textSize v_t_faultKind v_g_size v_h_size v_r_takes v_r_negative v_r_namePlace v_r_faultKind v_r_faultPlace v_a_size v_a_limit v_a_digits v_a_kind v_a_from v_a_to v_o_size v_b_size v_b_limit v_b_digits v_b_kind v_b_from v_b_to v_u_marksMade v_u_came v_u_guesses v_u_right v_u_taken v_s_things v_s_looked v_s_lookedTooOften v_s_arraysMade v_s_cellsMade : Int32} {a_t_tape a_t_text a_o_out a_u_outcomes a_u_indexes a_s_classes a_s_starts a_s_lengths a_vc : Nat → Int32} {a_g_beyond a_h_beyond a_r_scratch a_r_now a_u_atom a_u_other a_u_hand : Nat} {a_g_steps a_h_steps a_u_vars a_u_marks : Nat → Option Nat} {a_s_cells a_vd a_sj : Nat → Int64} {a_L : List Nat} {a_K a_iv a_inn : Nat → Nat} {a_si a_ac : Nat → Nat → Int32} (a9 : Int32) (i9 : Int32) (j9 : Int32) (p_0 : STO v_s_things v_s_cellsMade a_s_starts a_s_lengths) : CtV l yX7_swap (wG yX7_swap cX7_swap 6 none) rmX7_swap D (twT cs) K [.ref (q 17), .int a9, .int i9, .int j9] (tw cs q v_t_tapeSize v_t_textSize v_t_faultKind a_t_tape a_t_text a_g_beyond v_g_size a_g_steps a_h_beyond v_h_size a_h_steps a_r_scratch a_r_now v_r_takes v_r_negative v_r_namePlace v_r_faultKind v_r_faultPlace v_a_size v_a_limit v_a_digits v_a_kind v_a_from v_a_to v_o_size a_o_out v_b_size v_b_limit v_b_digits v_b_kind v_b_from v_b_to a_u_atom a_u_other a_u_hand v_u_marksMade v_u_came v_u_guesses v_u_right v_u_taken a_u_vars a_u_marks a_u_outcomes a_u_indexes v_s_things v_s_looked v_s_lookedTooOften v_s_arraysMade v_s_cellsMade a_s_classes a_s_starts a_s_lengths a_s_cells a_L a_K a_vc a_vd a_si a_sj a_iv a_inn a_ac) (fun w1 => ∃ (a_s_cells' : Nat → Int64), w1 = (tw cs q v_t_tapeSize v_t_textSize v_t_faultKind a_t_tape a_t_text a_g_beyond v_g_size a_g_steps a_h_beyond v_h_size a_h_steps a_r_scratch a_r_now v_r_takes v_r_negative v_r_namePlace v_r_faultKind v_r_faultPlace v_a_size v_a_limit v_a_digits v_a_kind v_a_from v_a_to v_o_size a_o_out v_b_size v_b_limit v_b_digits v_b_kind v_b_from v_b_to a_u_atom a_u_other a_u_hand v_u_marksMade v_u_came v_u_guesses v_u_right v_u_taken a_u_vars a_u_marks a_u_outcomes a_u_indexes v_s_things v_s_looked v_s_lookedTooOften v_s_arraysMade v_s_cellsMade a_s_classes a_s_starts a_s_lengths a_s_cells' a_L a_K a_vc a_vd a_si a_sj a_iv a_inn a_ac)) 0 0 := by
  intro sz
  refine Met.ofW (cc := cX7_swap) (maxL := 6) (ret := none) (by decide) rfl ?_
  intro p e s m args below meth c s₁ B hml hv
  obtain ⟨rfl, hsz, hP, hK, hD0, hE⟩ := hv
  have hx := B.exec
  have hb := B.bytes
  have hr := B.returns
  have hts := atoms_spec (ws := (wG yX7_swap cX7_swap 6 none)) B.pre
  have hown : s.vm.findClass RX7 = some m.cls := findClass_of_methodNamed B.named
  have hlocks := B.notSynchronized
  subst hsz
  have hD := hD0.self (sz := s.heap.size)
  obtain ⟨A, hAe⟩ : ∃ A : Nat → Prop, A = va_A (tw cs q v_t_tapeSize v_t_textSize v_t_faultKind a_t_tape a_t_text a_g_beyond v_g_size a_g_steps a_h_beyond v_h_size a_h_steps a_r_scratch a_r_now v_r_takes v_r_negative v_r_namePlace v_r_faultKind v_r_faultPlace v_a_size v_a_limit v_a_digits v_a_kind v_a_from v_a_to v_o_size a_o_out v_b_size v_b_limit v_b_digits v_b_kind v_b_from v_b_to a_u_atom a_u_other a_u_hand v_u_marksMade v_u_came v_u_guesses v_u_right v_u_taken a_u_vars a_u_marks a_u_outcomes a_u_indexes v_s_things v_s_looked v_s_lookedTooOften v_s_arraysMade v_s_cellsMade a_s_classes a_s_starts a_s_lengths a_s_cells a_L a_K a_vc a_vd a_si a_sj a_iv a_inn a_ac) s.heap.size := ⟨_, rfl⟩
  rw [← hAe] at hD hE
  have hA : ∀ q : Nat, s.heap.size ≤ q → A q := fun q h => by rw [hAe]; exact Or.inr h
  have hS : va_S A s.heap s.heap [] := va_S.rf
  have hl := lv_entry ([.ref (q 17), .int a9, .int i9, .int j9]) (n := 6) (Nat.le_of_ble_eq_true rfl)
  rw [lg_entry_eq]
  generalize (lg_sl ([.ref (q 17), .int a9, .int i9, .int j9]) ++ List.replicate (6 - (lg_sl ([.ref (q 17), .int a9, .int i9, .int j9])).length) Slot.unset).toArray = ls at hl ⊢
  have hl : lv_has ls 6 [(0, .ref (q 17)), (1, .int a9), (2, .int i9), (3, .int j9)] := hl
  refine wq (fun Q hQ => ?_)
  obtain ⟨H, hH⟩ : ∃ H : Heap, H = s.heap := ⟨_, rfl⟩
  obtain ⟨locs, hlc⟩ : ∃ L : List Loc, L = [] := ⟨_, rfl⟩
  have hP : va_P D vwCl (tw cs q v_t_tapeSize v_t_textSize v_t_faultKind a_t_tape a_t_text a_g_beyond v_g_size a_g_steps a_h_beyond v_h_size a_h_steps a_r_scratch a_r_now v_r_takes v_r_negative v_r_namePlace v_r_faultKind v_r_faultPlace v_a_size v_a_limit v_a_digits v_a_kind v_a_from v_a_to v_o_size a_o_out v_b_size v_b_limit v_b_digits v_b_kind v_b_from v_b_to a_u_atom a_u_other a_u_hand v_u_marksMade v_u_came v_u_guesses v_u_right v_u_taken a_u_vars a_u_marks a_u_outcomes a_u_indexes v_s_things v_s_looked v_s_lookedTooOften v_s_arraysMade v_s_cellsMade a_s_classes a_s_starts a_s_lengths a_s_cells a_L a_K a_vc a_vd a_si a_sj a_iv a_inn a_ac) H := by rw [hH]; exact hP
  have hS : va_S A s.heap H locs := by rw [hH, hlc]; exact hS
  refine wHL hH hlc ?_
  have b_a9 := iB a9
  have b_i9 := iB i9
  have b_j9 := iB j9
  refine lv_aload_n hx hb dX7_swap_0 rfl (lv_at hl 0 rfl) ?_
  refine lv_iload_n hx hb dX7_swap_1 rfl (lv_at hl 1 rfl) ?_
  refine lv_iload_n hx hb dX7_swap_2 rfl (lv_at hl 2 rfl) ?_
  refine call_j (As := [.int a9, .int i9]) (rest := []) ⟨hx, hb, hml, hown, hts⟩ (tX7_cellDatum (l := l) a9 i9 (by first | assumption | omega | (intros; omega) | decide)) (cwV 2 hts (gV (wr39 _ (List.mem_of_getElem? (i := 0) rfl)) (wr39 _ (List.mem_of_getElem? (i := 1) rfl)) (wr39 _ (List.mem_of_getElem? (i := 2) rfl)) (wr4 _ (List.mem_of_getElem? (i := 3) rfl)) (wr39 _ (List.mem_of_getElem? (i := 3) rfl))) rfl rfl rfl (by decide +kernel) ⟨Nat.le_of_ble_eq_true rfl, Nat.le_of_ble_eq_true rfl⟩) (va_recv hK hP (ci := 6) (q0 := 17) rfl rfl) hK hP hD hE hS hA rfl hl.1 rfl (Nat.le_of_ble_eq_true rfl) dX7_swap_3 ⟨Nat.le_of_ble_eq_true rfl, Nat.le_of_ble_eq_true rfl⟩ (fun r3 w9 H locs hw3 hP hD hS => ?_)
  obtain ⟨rfl⟩ := hw3
  have b_r3 := jB r3
  refine lv_lstore (lv' := [(4, .long r3), (0, .ref (q 17)), (1, .int a9), (2, .int i9), (3, .int j9)]) hx hb dX7_swap_6 hl (by decide) rfl (fun ls hl => ?_)
  refine lv_aload_n hx hb dX7_swap_8 rfl (lv_at hl 1 rfl) ?_
  refine lv_iload_n hx hb dX7_swap_9 rfl (lv_at hl 2 rfl) ?_
  refine lv_iload_n hx hb dX7_swap_10 rfl (lv_at hl 3 rfl) ?_
  refine lv_aload_n hx hb dX7_swap_11 rfl (lv_at hl 1 rfl) ?_
  refine lv_iload_n hx hb dX7_swap_12 rfl (lv_at hl 2 rfl) ?_
  refine lv_iload_n hx hb dX7_swap_13 rfl (lv_at hl 4 rfl) ?_
  refine call_j (As := [.int a9, .int j9]) (rest := [.int i9, .int a9, .ref (q 17)]) ⟨hx, hb, hml, hown, hts⟩ (tX7_cellDatum (l := l) a9 j9 (by first | assumption | omega | (intros; omega) | decide)) (cwV 2 hts (gV (wr39 _ (List.mem_of_getElem? (i := 0) rfl)) (wr39 _ (List.mem_of_getElem? (i := 1) rfl)) (wr39 _ (List.mem_of_getElem? (i := 2) rfl)) (wr4 _ (List.mem_of_getElem? (i := 3) rfl)) (wr39 _ (List.mem_of_getElem? (i := 3) rfl))) rfl rfl rfl (by decide +kernel) ⟨Nat.le_of_ble_eq_true rfl, Nat.le_of_ble_eq_true rfl⟩) (va_recv hK hP (ci := 6) (q0 := 17) rfl rfl) hK hP hD hE hS hA rfl hl.1 rfl (Nat.le_of_ble_eq_true rfl) dX7_swap_14 ⟨Nat.le_of_ble_eq_true rfl, Nat.le_of_ble_eq_true rfl⟩ (fun r14 w9 H locs hw14 hP hD hS => ?_)
  obtain ⟨rfl⟩ := hw14
  have b_r14 := jB r14
  refine call_v (As := [.int a9, .int i9, .long r14]) (rest := []) ⟨hx, hb, hml, hown, hts⟩ (tX7_write (l := l) a9 i9 r14 (by first | assumption | omega | (intros; omega) | decide)) (cwV 3 hts (gV (wr45 _ (List.mem_of_getElem? (i := 15) rfl)) (wr40 _ (List.mem_of_getElem? (i := 23) rfl)) (wr41 _ (List.mem_of_getElem? (i := 0) rfl)) (wr4 _ (List.mem_of_getElem? (i := 3) rfl)) (wr41 _ (List.mem_of_getElem? (i := 1) rfl))) rfl rfl rfl (by decide +kernel) ⟨Nat.le_of_ble_eq_true rfl, Nat.le_of_ble_eq_true rfl⟩) (va_recv hK hP (ci := 6) (q0 := 17) rfl rfl) hK hP hD hE hS hA rfl hl.1 rfl (Nat.le_of_ble_eq_true rfl) dX7_swap_17 ⟨Nat.le_of_ble_eq_true rfl, Nat.le_of_ble_eq_true rfl⟩ (fun w9 H locs hw17 hP hD hS => ?_)
  obtain ⟨a_s_cells_17, rfl⟩ := hw17
  refine lv_aload_n hx hb dX7_swap_20 rfl (lv_at hl 1 rfl) ?_
  refine lv_iload_n hx hb dX7_swap_21 rfl (lv_at hl 2 rfl) ?_
  refine lv_iload_n hx hb dX7_swap_22 rfl (lv_at hl 4 rfl) ?_
  refine lv_lload hx hb dX7_swap_23 (lv_at hl 0 rfl) ?_
  refine call_v (As := [.int a9, .int j9, .long r3]) (rest := []) ⟨hx, hb, hml, hown, hts⟩ (tX7_write (l := l) a9 j9 r3 (by first | assumption | omega | (intros; omega) | decide)) (cwV 3 hts (gV (wr45 _ (List.mem_of_getElem? (i := 15) rfl)) (wr40 _ (List.mem_of_getElem? (i := 23) rfl)) (wr41 _ (List.mem_of_getElem? (i := 0) rfl)) (wr4 _ (List.mem_of_getElem? (i := 3) rfl)) (wr41 _ (List.mem_of_getElem? (i := 1) rfl))) rfl rfl rfl (by decide +kernel) ⟨Nat.le_of_ble_eq_true rfl, Nat.le_of_ble_eq_true rfl⟩) (va_recv hK hP (ci := 6) (q0 := 17) rfl rfl) hK hP hD hE hS hA rfl hl.1 rfl (Nat.le_of_ble_eq_true rfl) dX7_swap_25 ⟨Nat.le_of_ble_eq_true rfl, Nat.le_of_ble_eq_true rfl⟩ (fun w9 H locs hw25 hP hD hS => ?_)
  obtain ⟨a_s_cells_25, rfl⟩ := hw25
  subst hAe
  rw [hQ]
  exact W.vret hx hb hr (fun t ht hW => ⟨⟨_, rfl, ⟨a_s_cells_25, rfl⟩, by rw [ht]; exact hP, va_K.moved hW.alike hK, hD⟩, hS.F ht⟩) hS.2.2 dX7_swap_28

def rmX7_makeClone : Room := { frames := 40, cells := 0, slots := 0, locals := 800 }
set_option maxHeartbeats 4000000 in
set_option maxRecDepth 100000 in
theorem tX7_makeClone {l : Launch} {D : va_G} {K : Nat → Nat → Nat} {cs : Nat → ClassId} {q : Nat → Nat} {v_t_tapeSize v_t_textSize v_t_faultKind v_g_size v_h_size v_r_takes v_r_negative v_r_namePlace v_r_faultKind v_r_faultPlace v_a_size v_a_limit v_a_digits v_a_kind v_a_from v_a_to v_o_size v_b_size v_b_limit v_b_digits v_b_kind v_b_from v_b_to v_u_marksMade v_u_came v_u_guesses v_u_right v_u_taken v_s_things v_s_looked v_s_lookedTooOften v_s_arraysMade v_s_cellsMade : Int32} {a_t_tape a_t_text a_o_out a_u_outcomes a_u_indexes a_s_classes a_s_starts a_s_lengths a_vc : Nat → Int32} {a_g_beyond a_h_beyond a_r_scratch a_r_now a_u_atom a_u_other a_u_hand : Nat} {a_g_steps a_h_steps a_u_vars a_u_marks : Nat → Option Nat} {a_s_cells a_vd a_sj : Nat → Int64} {a_L : List Nat} {a_K a_iv a_inn : Nat → Nat} {a_si a_ac : Nat → Nat → Int32} (a9 : Int32) (p_0 : STO v_s_things v_s_cellsMade a_s_starts a_s_lengths) : CtI l yX7_makeClone (wG yX7_makeClone cX7_makeClone 3 (some .int)) rmX7_makeClone D (twT cs) K [.ref (q 17), .int a9] (tw cs q v_t_tapeSize v_t_textSize v_t_faultKind a_t_tape a_t_text a_g_beyond v_g_size a_g_steps a_h_beyond v_h_size a_h_steps a_r_scratch a_r_now v_r_takes v_r_negative v_r_namePlace v_r_faultKind v_r_faultPlace v_a_size v_a_limit v_a_digits v_a_kind v_a_from v_a_to v_o_size a_o_out v_b_size v_b_limit v_b_digits v_b_kind v_b_from v_b_to a_u_atom a_u_other a_u_hand v_u_marksMade v_u_came v_u_guesses v_u_right v_u_taken a_u_vars a_u_marks a_u_outcomes a_u_indexes v_s_things v_s_looked v_s_lookedTooOften v_s_arraysMade v_s_cellsMade a_s_classes a_s_starts a_s_lengths a_s_cells a_L a_K a_vc a_vd a_si a_sj a_iv a_inn a_ac) (fun r w1 => ∃ (v_s_things' : Int32) (v_s_arraysMade' : Int32) (v_s_cellsMade' : Int32) (a_s_classes' : Nat → Int32) (a_s_starts' : Nat → Int32) (a_s_lengths' : Nat → Int32) (a_s_cells' : Nat → Int64), w1 = (tw cs q v_t_tapeSize v_t_textSize v_t_faultKind a_t_tape a_t_text a_g_beyond v_g_size a_g_steps a_h_beyond v_h_size a_h_steps a_r_scratch a_r_now v_r_takes v_r_negative v_r_namePlace v_r_faultKind v_r_faultPlace v_a_size v_a_limit v_a_digits v_a_kind v_a_from v_a_to v_o_size a_o_out v_b_size v_b_limit v_b_digits v_b_kind v_b_from v_b_to a_u_atom a_u_other a_u_hand v_u_marksMade v_u_came v_u_guesses v_u_right v_u_taken a_u_vars a_u_marks a_u_outcomes a_u_indexes v_s_things' v_s_looked v_s_lookedTooOften v_s_arraysMade' v_s_cellsMade' a_s_classes' a_s_starts' a_s_lengths' a_s_cells' a_L a_K a_vc a_vd a_si a_sj a_iv a_inn a_ac) ∧ (STO v_s_things' v_s_cellsMade' a_s_starts' a_s_lengths') ∧ (0 ≤ r.toInt)) 0 0 := by
  intro sz
  refine Met.ofW (cc := cX7_makeClone) (maxL := 3) (ret := (some .int)) (by decide) rfl ?_
  intro p e s m args below meth c s₁ B hml hv
  obtain ⟨rfl, hsz, hP, hK, hD0, hE⟩ := hv
  have hx := B.exec
  have hb := B.bytes
  have hr := B.returns
  have hts := atoms_spec (ws := (wG yX7_makeClone cX7_makeClone 3 (some .int))) B.pre
  have hown : s.vm.findClass RX7 = some m.cls := findClass_of_methodNamed B.named
  have hlocks := B.notSynchronized
  subst hsz
  have hD := hD0.self (sz := s.heap.size)
  obtain ⟨A, hAe⟩ : ∃ A : Nat → Prop, A = va_A (tw cs q v_t_tapeSize v_t_textSize v_t_faultKind a_t_tape a_t_text a_g_beyond v_g_size a_g_steps a_h_beyond v_h_size a_h_steps a_r_scratch a_r_now v_r_takes v_r_negative v_r_namePlace v_r_faultKind v_r_faultPlace v_a_size v_a_limit v_a_digits v_a_kind v_a_from v_a_to v_o_size a_o_out v_b_size v_b_limit v_b_digits v_b_kind v_b_from v_b_to a_u_atom a_u_other a_u_hand v_u_marksMade v_u_came v_u_guesses v_u_right v_u_taken a_u_vars a_u_marks a_u_outcomes a_u_indexes v_s_things v_s_looked v_s_lookedTooOften v_s_arraysMade v_s_cellsMade a_s_classes a_s_starts a_s_lengths a_s_cells a_L a_K a_vc a_vd a_si a_sj a_iv a_inn a_ac) s.heap.size := ⟨_, rfl⟩
  rw [← hAe] at hD hE
  have hA : ∀ q : Nat, s.heap.size ≤ q → A q := fun q h => by rw [hAe]; exact Or.inr h
  have hS : va_S A s.heap s.heap [] := va_S.rf
  have hl := lv_entry ([.ref (q 17), .int a9]) (n := 3) (Nat.le_of_ble_eq_true rfl)
  rw [lg_entry_eq]
  generalize (lg_sl ([.ref (q 17), .int a9]) ++ List.replicate (3 - (lg_sl ([.ref (q 17), .int a9])).length) Slot.unset).toArray = ls at hl ⊢
  have hl : lv_has ls 3 [(0, .ref (q 17)), (1, .int a9)] := hl
  refine wq (fun Q hQ => ?_)
  have hinX7 : ∀ w ∈ wsX70, w ∈ (wG yX7_makeClone cX7_makeClone 3 (some .int)) := fun w h => List.mem_cons_of_mem _ (inlX7 w h)
  have kc0 : (0 : Int32).toInt = 0 := by decide
  have k_4_18 := hts (.fieldLink RX7 11 "ArrayTrainer$Store" "classes" "[I") (List.mem_cons_of_mem _ (wr4 _ (List.mem_of_getElem? (i := 18) rfl)))
  have k_4_20 := hts (.fieldLink RX7 18 "ArrayTrainer$Store" "lengths" "[I") (List.mem_cons_of_mem _ (wr4 _ (List.mem_of_getElem? (i := 20) rfl)))
  have k_4_21 := hts (.fieldLink RX7 21 "ArrayTrainer$Store" "cells" "[J") (List.mem_cons_of_mem _ (wr4 _ (List.mem_of_getElem? (i := 21) rfl)))
  have k_4_19 := hts (.fieldLink RX7 15 "ArrayTrainer$Store" "starts" "[I") (List.mem_cons_of_mem _ (wr4 _ (List.mem_of_getElem? (i := 19) rfl)))
  have k_42_7 := hts (.methodLink RX7 45 arraycopyName) (List.mem_cons_of_mem _ (wr42 _ (List.mem_of_getElem? (i := 7) rfl)))
  have k_8_7 := hts (.native arraycopyName) (List.mem_cons_of_mem _ (wr8 _ (List.mem_of_getElem? (i := 7) rfl)))
  have k_8_8 := hts (.static arraycopyName) (List.mem_cons_of_mem _ (wr8 _ (List.mem_of_getElem? (i := 8) rfl)))
  have k_8_9 := hts (.initialized "java/lang/System") (List.mem_cons_of_mem _ (wr8 _ (List.mem_of_getElem? (i := 9) rfl)))
  obtain ⟨H, hH⟩ : ∃ H : Heap, H = s.heap := ⟨_, rfl⟩
  obtain ⟨locs, hlc⟩ : ∃ L : List Loc, L = [] := ⟨_, rfl⟩
  have hP : va_P D vwCl (tw cs q v_t_tapeSize v_t_textSize v_t_faultKind a_t_tape a_t_text a_g_beyond v_g_size a_g_steps a_h_beyond v_h_size a_h_steps a_r_scratch a_r_now v_r_takes v_r_negative v_r_namePlace v_r_faultKind v_r_faultPlace v_a_size v_a_limit v_a_digits v_a_kind v_a_from v_a_to v_o_size a_o_out v_b_size v_b_limit v_b_digits v_b_kind v_b_from v_b_to a_u_atom a_u_other a_u_hand v_u_marksMade v_u_came v_u_guesses v_u_right v_u_taken a_u_vars a_u_marks a_u_outcomes a_u_indexes v_s_things v_s_looked v_s_lookedTooOften v_s_arraysMade v_s_cellsMade a_s_classes a_s_starts a_s_lengths a_s_cells a_L a_K a_vc a_vd a_si a_sj a_iv a_inn a_ac) H := by rw [hH]; exact hP
  have hS : va_S A s.heap H locs := by rw [hH, hlc]; exact hS
  refine wHL hH hlc ?_
  have b_a9 := iB a9
  obtain ⟨⟨h1, h2⟩, ⟨h3, h4⟩, h5⟩ := id p_0
  refine lv_aload_n hx hb dX7_makeClone_0 rfl (lv_at hl 0 rfl) ?_
  refine lv_iload_n hx hb dX7_makeClone_1 rfl (lv_at hl 1 rfl) ?_
  refine call_i (As := [.int a9]) (rest := []) ⟨hx, hb, hml, hown, hts⟩ (tX7_isThing (l := l) a9) (cwV 1 hts (gV (wr42 _ (List.mem_of_getElem? (i := 8) rfl)) (wr42 _ (List.mem_of_getElem? (i := 9) rfl)) (wr42 _ (List.mem_of_getElem? (i := 10) rfl)) (wr4 _ (List.mem_of_getElem? (i := 3) rfl)) (wr42 _ (List.mem_of_getElem? (i := 11) rfl))) rfl rfl rfl (by decide +kernel) ⟨Nat.le_of_ble_eq_true rfl, Nat.le_of_ble_eq_true rfl⟩) (va_recv hK hP (ci := 6) (q0 := 17) rfl rfl) hK hP hD hE hS hA rfl hl.1 rfl (Nat.le_of_ble_eq_true rfl) dX7_makeClone_2 ⟨Nat.le_of_ble_eq_true rfl, Nat.le_of_ble_eq_true rfl⟩ (fun r2 w9 H locs hw2 hP hD hS => ?_)
  obtain ⟨rfl, hw2_0⟩ := hw2
  have b_r2 := iB r2
  refine m_if_ne (X := r2.toInt) (tgt := 10) hx hb dX7_makeClone_5 (by decide) rfl (fun c5 => ?_) (fun c5 => ?_)
  · skip
    refine lv_aload_n hx hb dX7_makeClone_10 rfl (lv_at hl 0 rfl) ?_
    refine lv_aload_n hx hb dX7_makeClone_11 rfl (lv_at hl 0 rfl) ?_
    refine va_get (D := D) (ci := 6) (v := .ref (q 18)) (C := RX7) (T := TX7) (N := 9) hx hb hts hinX7 hown hK hP 17 rfl rfl 0 (by decide) k_4_18 (fun _ h9 => h9) rfl dX7_makeClone_12 ?_
    refine lv_iload_n hx hb dX7_makeClone_15 rfl (lv_at hl 1 rfl) ?_
    refine m_iald hx hb hK hP 18 0 rfl rfl (ix (by omega) (by omega)) dX7_makeClone_16 (fun x16 e_x16 => ?_)
    have b_x16 := iB x16
    refine lv_aload_n hx hb dX7_makeClone_17 rfl (lv_at hl 0 rfl) ?_
    refine va_get (D := D) (ci := 6) (v := .ref (q 20)) (C := RX7) (T := TX7) (N := 9) hx hb hts hinX7 hown hK hP 17 rfl rfl 2 (by decide) k_4_20 (fun _ h9 => h9) rfl dX7_makeClone_18 ?_
    refine lv_iload_n hx hb dX7_makeClone_21 rfl (lv_at hl 1 rfl) ?_
    refine m_iald hx hb hK hP 20 0 rfl rfl (ix (by omega) (by omega)) dX7_makeClone_22 (fun x22 e_x22 => ?_)
    have b_x22 := iB x22
    have hx22 := congrArg Int32.toInt e_x22
    obtain ⟨z1, z2, z3⟩ := p_0.at (a := a9) (by omega) (by omega)
    refine call_i (As := [.int x16, .int x22]) (rest := []) ⟨hx, hb, hml, hown, hts⟩ (tX7_makeArray (l := l) x16 x22 (by first | assumption | omega | (intros; omega) | decide)) (cwV 2 hts (gV (wr42 _ (List.mem_of_getElem? (i := 12) rfl)) (wr41 _ (List.mem_of_getElem? (i := 16) rfl)) (wr41 _ (List.mem_of_getElem? (i := 17) rfl)) (wr4 _ (List.mem_of_getElem? (i := 3) rfl)) (wr41 _ (List.mem_of_getElem? (i := 18) rfl))) rfl rfl rfl (by decide +kernel) ⟨Nat.le_of_ble_eq_true rfl, Nat.le_of_ble_eq_true rfl⟩) (va_recv hK hP (ci := 6) (q0 := 17) rfl rfl) hK hP hD hE hS hA rfl hl.1 rfl (Nat.le_of_ble_eq_true rfl) dX7_makeClone_23 ⟨Nat.le_of_ble_eq_true rfl, Nat.le_of_ble_eq_true rfl⟩ (fun r23 w9 H locs hw23 hP hD hS => ?_)
    obtain ⟨v_s_things_23, v_s_arraysMade_23, v_s_cellsMade_23, a_s_classes_23, a_s_starts_23, a_s_lengths_23, a_s_cells_23, rfl, hw23_0, hw23_1, hw23_2, hw23_3⟩ := hw23
    have b_v_s_things_23 := iB v_s_things_23
    have b_v_s_arraysMade_23 := iB v_s_arraysMade_23
    have b_v_s_cellsMade_23 := iB v_s_cellsMade_23
    have b_r23 := iB r23
    refine lv_istore_n (lv' := [(2, .int r23), (0, .ref (q 17)), (1, .int a9)]) hx hb dX7_makeClone_26 rfl hl (by decide) rfl (fun ls hl => ?_)
    refine lv_iload_n hx hb dX7_makeClone_27 rfl (lv_at hl 0 rfl) ?_
    refine m_if_eq (X := r23.toInt) (tgt := 60) hx hb dX7_makeClone_28 (by decide) rfl (fun c28 => ?_) (fun c28 => ?_)
    · skip
      refine lv_iload_n hx hb dX7_makeClone_60 rfl (lv_at hl 0 rfl) ?_
      subst hAe
      rw [hQ]
      exact W.iret (v := r23) hx hb hr (fun t ht hW => ⟨⟨r23, _, rfl, ⟨v_s_things_23, v_s_arraysMade_23, v_s_cellsMade_23, a_s_classes_23, a_s_starts_23, a_s_lengths_23, a_s_cells_23, rfl, by first | assumption | omega | (intros; omega) | decide, by first | assumption | omega | (intros; omega) | decide⟩, by rw [ht]; exact hP, va_K.moved hW.alike hK, hD⟩, hS.F ht⟩) hS.2.2 dX7_makeClone_61
    · skip
      refine lv_aload_n hx hb dX7_makeClone_31 rfl (lv_at hl 1 rfl) ?_
      refine va_get (D := D) (ci := 6) (v := .ref (q 21)) (C := RX7) (T := TX7) (N := 9) hx hb hts hinX7 hown hK hP 17 rfl rfl 3 (by decide) k_4_21 (fun _ h9 => h9) rfl dX7_makeClone_32 ?_
      refine lv_aload_n hx hb dX7_makeClone_35 rfl (lv_at hl 1 rfl) ?_
      refine va_get (D := D) (ci := 6) (v := .ref (q 19)) (C := RX7) (T := TX7) (N := 9) hx hb hts hinX7 hown hK hP 17 rfl rfl 1 (by decide) k_4_19 (fun _ h9 => h9) rfl dX7_makeClone_36 ?_
      refine lv_iload_n hx hb dX7_makeClone_39 rfl (lv_at hl 2 rfl) ?_
      refine m_iald hx hb hK hP 19 0 rfl rfl (ix (by omega) (by omega)) dX7_makeClone_40 (fun x40 e_x40 => ?_)
      have b_x40 := iB x40
      refine lv_aload_n hx hb dX7_makeClone_41 rfl (lv_at hl 1 rfl) ?_
      refine va_get (D := D) (ci := 6) (v := .ref (q 21)) (C := RX7) (T := TX7) (N := 9) hx hb hts hinX7 hown hK hP 17 rfl rfl 3 (by decide) k_4_21 (fun _ h9 => h9) rfl dX7_makeClone_42 ?_
      refine lv_aload_n hx hb dX7_makeClone_45 rfl (lv_at hl 1 rfl) ?_
      refine va_get (D := D) (ci := 6) (v := .ref (q 19)) (C := RX7) (T := TX7) (N := 9) hx hb hts hinX7 hown hK hP 17 rfl rfl 1 (by decide) k_4_19 (fun _ h9 => h9) rfl dX7_makeClone_46 ?_
      refine lv_iload_n hx hb dX7_makeClone_49 rfl (lv_at hl 0 rfl) ?_
      refine m_iald hx hb hK hP 19 0 rfl rfl (ix (by omega) (by omega)) dX7_makeClone_50 (fun x50 e_x50 => ?_)
      have b_x50 := iB x50
      refine lv_aload_n hx hb dX7_makeClone_51 rfl (lv_at hl 1 rfl) ?_
      refine va_get (D := D) (ci := 6) (v := .ref (q 20)) (C := RX7) (T := TX7) (N := 9) hx hb hts hinX7 hown hK hP 17 rfl rfl 2 (by decide) k_4_20 (fun _ h9 => h9) rfl dX7_makeClone_52 ?_
      refine lv_iload_n hx hb dX7_makeClone_55 rfl (lv_at hl 2 rfl) ?_
      refine m_iald hx hb hK hP 20 0 rfl rfl (ix (by omega) (by omega)) dX7_makeClone_56 (fun x56 e_x56 => ?_)
      have b_x56 := iB x56
      have hm := hw23_1.resolve_left (fun q => by omega)
      obtain ⟨m1, m2, m3, m4⟩ := hm
      have ta := tn (i := a9) (by omega)
      have tt := tn (i := v_s_things) (by omega)
      have ne9 : a9.toNatClampNeg ≠ v_s_things.toNatClampNeg := by omega
      have hx40 : x40.toInt = (a_s_starts a9.toNatClampNeg).toInt := by rw [e_x40, m2, upd_ne _ _ ne9]
      have hx56 : x56.toInt = (a_s_lengths a9.toNatClampNeg).toInt := by rw [e_x56, m3, upd_ne _ _ ne9]
      have hx50 : x50.toInt = v_s_cellsMade.toInt := by rw [e_x50, m2, show r23 = v_s_things from iEq.mpr m1, upd_at]
      refine va_copyl (ty := .long) hx hb (by rw [hml]; exact hl.1.symm) hown k_42_7 k_8_7 k_8_8 k_8_9 hK hP hD hS 21 21 1 1 rfl rfl rfl rfl rfl (nneg (by omega)) (nneg (by omega)) (nneg (by omega)) (cpB (by omega) (by omega) (by omega)) (cpB (by omega) (by omega) (by omega)) (fun _ _ => rfl) (Nat.le_of_ble_eq_true rfl) (Nat.le_of_ble_eq_true rfl) dX7_makeClone_57 (fun H locs hP hD hS => ?_)
      obtain ⟨a_s_cells_57, e_a_s_cells_57⟩ : ∃ g, g = va_cpy a_s_cells_23 a_s_cells_23 x40.toNatClampNeg x50.toNatClampNeg x56.toNatClampNeg := ⟨_, rfl⟩
      have hP : va_P D vwCl (tw cs q v_t_tapeSize v_t_textSize v_t_faultKind a_t_tape a_t_text a_g_beyond v_g_size a_g_steps a_h_beyond v_h_size a_h_steps a_r_scratch a_r_now v_r_takes v_r_negative v_r_namePlace v_r_faultKind v_r_faultPlace v_a_size v_a_limit v_a_digits v_a_kind v_a_from v_a_to v_o_size a_o_out v_b_size v_b_limit v_b_digits v_b_kind v_b_from v_b_to a_u_atom a_u_other a_u_hand v_u_marksMade v_u_came v_u_guesses v_u_right v_u_taken a_u_vars a_u_marks a_u_outcomes a_u_indexes v_s_things_23 v_s_looked v_s_lookedTooOften v_s_arraysMade_23 v_s_cellsMade_23 a_s_classes_23 a_s_starts_23 a_s_lengths_23 a_s_cells_57 a_L a_K a_vc a_vd a_si a_sj a_iv a_inn a_ac) H := by rw [e_a_s_cells_57]; exact hP
      have hD : va_D A (tw cs q v_t_tapeSize v_t_textSize v_t_faultKind a_t_tape a_t_text a_g_beyond v_g_size a_g_steps a_h_beyond v_h_size a_h_steps a_r_scratch a_r_now v_r_takes v_r_negative v_r_namePlace v_r_faultKind v_r_faultPlace v_a_size v_a_limit v_a_digits v_a_kind v_a_from v_a_to v_o_size a_o_out v_b_size v_b_limit v_b_digits v_b_kind v_b_from v_b_to a_u_atom a_u_other a_u_hand v_u_marksMade v_u_came v_u_guesses v_u_right v_u_taken a_u_vars a_u_marks a_u_outcomes a_u_indexes v_s_things_23 v_s_looked v_s_lookedTooOften v_s_arraysMade_23 v_s_cellsMade_23 a_s_classes_23 a_s_starts_23 a_s_lengths_23 a_s_cells_57 a_L a_K a_vc a_vd a_si a_sj a_iv a_inn a_ac) := by rw [e_a_s_cells_57]; exact hD
      refine lv_iload_n hx hb dX7_makeClone_60 rfl (lv_at hl 0 rfl) ?_
      subst hAe
      rw [hQ]
      exact W.iret (v := r23) hx hb hr (fun t ht hW => ⟨⟨r23, _, rfl, ⟨v_s_things_23, v_s_arraysMade_23, v_s_cellsMade_23, a_s_classes_23, a_s_starts_23, a_s_lengths_23, a_s_cells_57, rfl, by first | assumption | omega | (intros; omega) | decide, by first | assumption | omega | (intros; omega) | decide⟩, by rw [ht]; exact hP, va_K.moved hW.alike hK, hD⟩, hS.F ht⟩) hS.2.2 dX7_makeClone_61
  · skip
    refine lv_iconst (v := 0) hx hb dX7_makeClone_8 (by decide) ?_
    subst hAe
    rw [hQ]
    exact W.iret (v := 0) hx hb hr (fun t ht hW => ⟨⟨0, _, rfl, ⟨v_s_things, v_s_arraysMade, v_s_cellsMade, a_s_classes, a_s_starts, a_s_lengths, a_s_cells, rfl, by first | assumption | omega | (intros; omega) | decide, by first | assumption | omega | (intros; omega) | decide⟩, by rw [ht]; exact hP, va_K.moved hW.alike hK, hD⟩, hS.F ht⟩) hS.2.2 dX7_makeClone_9

def rmX7_copyCells : Room := { frames := 60, cells := 0, slots := 0, locals := 1200 }
set_option maxHeartbeats 4000000 in
set_option maxRecDepth 100000 in
theorem tX7_copyCells {l : Launch} {D : va_G} {K : Nat → Nat → Nat} {cs : Nat → ClassId} {q : Nat → Nat} {v_t_tapeSize v_t_textSize v_t_faultKind v_g_size v_h_size v_r_takes v_r_negative v_r_namePlace v_r_faultKind v_r_faultPlace v_a_size v_a_limit v_a_digits v_a_kind v_a_from v_a_to v_o_size v_b_size v_b_limit v_b_digits v_b_kind v_b_from v_b_to v_u_marksMade v_u_came v_u_guesses v_u_right v_u_taken v_s_things v_s_looked v_s_lookedTooOften v_s_arraysMade v_s_cellsMade : Int32} {a_t_tape a_t_text a_o_out a_u_outcomes a_u_indexes a_s_classes a_s_starts a_s_lengths a_vc : Nat → Int32} {a_g_beyond a_h_beyond a_r_scratch a_r_now a_u_atom a_u_other a_u_hand : Nat} {a_g_steps a_h_steps a_u_vars a_u_marks : Nat → Option Nat} {a_s_cells a_vd a_sj : Nat → Int64} {a_L : List Nat} {a_K a_iv a_inn : Nat → Nat} {a_si a_ac : Nat → Nat → Int32} (f9 : Int32) (i9 : Int32) (t9 : Int32) (j9 : Int32) (n9 : Int32) (p_0 : STO v_s_things v_s_cellsMade a_s_starts a_s_lengths) : CtI l yX7_copyCells (wG yX7_copyCells cX7_copyCells 8 (some .int)) rmX7_copyCells D (twT cs) K [.ref (q 17), .int f9, .int i9, .int t9, .int j9, .int n9] (tw cs q v_t_tapeSize v_t_textSize v_t_faultKind a_t_tape a_t_text a_g_beyond v_g_size a_g_steps a_h_beyond v_h_size a_h_steps a_r_scratch a_r_now v_r_takes v_r_negative v_r_namePlace v_r_faultKind v_r_faultPlace v_a_size v_a_limit v_a_digits v_a_kind v_a_from v_a_to v_o_size a_o_out v_b_size v_b_limit v_b_digits v_b_kind v_b_from v_b_to a_u_atom a_u_other a_u_hand v_u_marksMade v_u_came v_u_guesses v_u_right v_u_taken a_u_vars a_u_marks a_u_outcomes a_u_indexes v_s_things v_s_looked v_s_lookedTooOften v_s_arraysMade v_s_cellsMade a_s_classes a_s_starts a_s_lengths a_s_cells a_L a_K a_vc a_vd a_si a_sj a_iv a_inn a_ac) (fun r w1 => ∃ (a_s_cells' : Nat → Int64), w1 = (tw cs q v_t_tapeSize v_t_textSize v_t_faultKind a_t_tape a_t_text a_g_beyond v_g_size a_g_steps a_h_beyond v_h_size a_h_steps a_r_scratch a_r_now v_r_takes v_r_negative v_r_namePlace v_r_faultKind v_r_faultPlace v_a_size v_a_limit v_a_digits v_a_kind v_a_from v_a_to v_o_size a_o_out v_b_size v_b_limit v_b_digits v_b_kind v_b_from v_b_to a_u_atom a_u_other a_u_hand v_u_marksMade v_u_came v_u_guesses v_u_right v_u_taken a_u_vars a_u_marks a_u_outcomes a_u_indexes v_s_things v_s_looked v_s_lookedTooOften v_s_arraysMade v_s_cellsMade a_s_classes a_s_starts a_s_lengths a_s_cells' a_L a_K a_vc a_vd a_si a_sj a_iv a_inn a_ac)) 0 0 := by
  intro sz
  refine Met.ofW (cc := cX7_copyCells) (maxL := 8) (ret := (some .int)) (by decide) rfl ?_
  intro p e s m args below meth c s₁ B hml hv
  obtain ⟨rfl, hsz, hP, hK, hD0, hE⟩ := hv
  have hx := B.exec
  have hb := B.bytes
  have hr := B.returns
  have hts := atoms_spec (ws := (wG yX7_copyCells cX7_copyCells 8 (some .int))) B.pre
  have hown : s.vm.findClass RX7 = some m.cls := findClass_of_methodNamed B.named
  have hlocks := B.notSynchronized
  subst hsz
  have hD := hD0.self (sz := s.heap.size)
  obtain ⟨A, hAe⟩ : ∃ A : Nat → Prop, A = va_A (tw cs q v_t_tapeSize v_t_textSize v_t_faultKind a_t_tape a_t_text a_g_beyond v_g_size a_g_steps a_h_beyond v_h_size a_h_steps a_r_scratch a_r_now v_r_takes v_r_negative v_r_namePlace v_r_faultKind v_r_faultPlace v_a_size v_a_limit v_a_digits v_a_kind v_a_from v_a_to v_o_size a_o_out v_b_size v_b_limit v_b_digits v_b_kind v_b_from v_b_to a_u_atom a_u_other a_u_hand v_u_marksMade v_u_came v_u_guesses v_u_right v_u_taken a_u_vars a_u_marks a_u_outcomes a_u_indexes v_s_things v_s_looked v_s_lookedTooOften v_s_arraysMade v_s_cellsMade a_s_classes a_s_starts a_s_lengths a_s_cells a_L a_K a_vc a_vd a_si a_sj a_iv a_inn a_ac) s.heap.size := ⟨_, rfl⟩
  rw [← hAe] at hD hE
  have hA : ∀ q : Nat, s.heap.size ≤ q → A q := fun q h => by rw [hAe]; exact Or.inr h
  have hS : va_S A s.heap s.heap [] := va_S.rf
  have hl := lv_entry ([.ref (q 17), .int f9, .int i9, .int t9, .int j9, .int n9]) (n := 8) (Nat.le_of_ble_eq_true rfl)
  rw [lg_entry_eq]
  generalize (lg_sl ([.ref (q 17), .int f9, .int i9, .int t9, .int j9, .int n9]) ++ List.replicate (8 - (lg_sl ([.ref (q 17), .int f9, .int i9, .int t9, .int j9, .int n9])).length) Slot.unset).toArray = ls at hl ⊢
  have hl : lv_has ls 8 [(0, .ref (q 17)), (1, .int f9), (2, .int i9), (3, .int t9), (4, .int j9), (5, .int n9)] := hl
  refine wq (fun Q hQ => ?_)
  have hinX7 : ∀ w ∈ wsX70, w ∈ (wG yX7_copyCells cX7_copyCells 8 (some .int)) := fun w h => List.mem_cons_of_mem _ (inlX7 w h)
  have kc0 : (0 : Int32).toInt = 0 := by decide
  have kc1 : (2 : Int32).toInt = 2 := by decide
  have kc2 : (4 : Int32).toInt = 4 := by decide
  have k_4_21 := hts (.fieldLink RX7 21 "ArrayTrainer$Store" "cells" "[J") (List.mem_cons_of_mem _ (wr4 _ (List.mem_of_getElem? (i := 21) rfl)))
  have k_4_19 := hts (.fieldLink RX7 15 "ArrayTrainer$Store" "starts" "[I") (List.mem_cons_of_mem _ (wr4 _ (List.mem_of_getElem? (i := 19) rfl)))
  have k_42_7 := hts (.methodLink RX7 45 arraycopyName) (List.mem_cons_of_mem _ (wr42 _ (List.mem_of_getElem? (i := 7) rfl)))
  have k_8_7 := hts (.native arraycopyName) (List.mem_cons_of_mem _ (wr8 _ (List.mem_of_getElem? (i := 7) rfl)))
  have k_8_8 := hts (.static arraycopyName) (List.mem_cons_of_mem _ (wr8 _ (List.mem_of_getElem? (i := 8) rfl)))
  have k_8_9 := hts (.initialized "java/lang/System") (List.mem_cons_of_mem _ (wr8 _ (List.mem_of_getElem? (i := 9) rfl)))
  have k_4_18 := hts (.fieldLink RX7 11 "ArrayTrainer$Store" "classes" "[I") (List.mem_cons_of_mem _ (wr4 _ (List.mem_of_getElem? (i := 18) rfl)))
  obtain ⟨H, hH⟩ : ∃ H : Heap, H = s.heap := ⟨_, rfl⟩
  obtain ⟨locs, hlc⟩ : ∃ L : List Loc, L = [] := ⟨_, rfl⟩
  have hP : va_P D vwCl (tw cs q v_t_tapeSize v_t_textSize v_t_faultKind a_t_tape a_t_text a_g_beyond v_g_size a_g_steps a_h_beyond v_h_size a_h_steps a_r_scratch a_r_now v_r_takes v_r_negative v_r_namePlace v_r_faultKind v_r_faultPlace v_a_size v_a_limit v_a_digits v_a_kind v_a_from v_a_to v_o_size a_o_out v_b_size v_b_limit v_b_digits v_b_kind v_b_from v_b_to a_u_atom a_u_other a_u_hand v_u_marksMade v_u_came v_u_guesses v_u_right v_u_taken a_u_vars a_u_marks a_u_outcomes a_u_indexes v_s_things v_s_looked v_s_lookedTooOften v_s_arraysMade v_s_cellsMade a_s_classes a_s_starts a_s_lengths a_s_cells a_L a_K a_vc a_vd a_si a_sj a_iv a_inn a_ac) H := by rw [hH]; exact hP
  have hS : va_S A s.heap H locs := by rw [hH, hlc]; exact hS
  refine wHL hH hlc ?_
  have b_f9 := iB f9
  have b_i9 := iB i9
  have b_t9 := iB t9
  have b_j9 := iB j9
  have b_n9 := iB n9
  obtain ⟨⟨h1, h2⟩, ⟨h3, h4⟩, h5⟩ := id p_0
  refine lv_aload_n hx hb dX7_copyCells_0 rfl (lv_at hl 0 rfl) ?_
  refine lv_iload_n hx hb dX7_copyCells_1 rfl (lv_at hl 1 rfl) ?_
  refine lv_iload_n hx hb dX7_copyCells_2 rfl (lv_at hl 2 rfl) ?_
  refine lv_iload hx hb dX7_copyCells_3 (lv_at hl 5 rfl) ?_
  refine call_i (As := [.int f9, .int i9, .int n9]) (rest := []) ⟨hx, hb, hml, hown, hts⟩ (tX7_hasCells (l := l) f9 i9 n9 (by first | assumption | omega | (intros; omega) | decide)) (cwV 3 hts (gV (wr45 _ (List.mem_of_getElem? (i := 8) rfl)) (wr45 _ (List.mem_of_getElem? (i := 9) rfl)) (wr45 _ (List.mem_of_getElem? (i := 10) rfl)) (wr4 _ (List.mem_of_getElem? (i := 3) rfl)) (wr45 _ (List.mem_of_getElem? (i := 11) rfl))) rfl rfl rfl (by decide +kernel) ⟨Nat.le_of_ble_eq_true rfl, Nat.le_of_ble_eq_true rfl⟩) (va_recv hK hP (ci := 6) (q0 := 17) rfl rfl) hK hP hD hE hS hA rfl hl.1 rfl (Nat.le_of_ble_eq_true rfl) dX7_copyCells_5 ⟨Nat.le_of_ble_eq_true rfl, Nat.le_of_ble_eq_true rfl⟩ (fun r5 w9 H locs hw5 hP hD hS => ?_)
  obtain ⟨rfl, hw5_0⟩ := hw5
  have b_r5 := iB r5
  refine m_if_eq (X := r5.toInt) (tgt := 39) hx hb dX7_copyCells_8 (by decide) rfl (fun c8 => ?_) (fun c8 => ?_)
  · skip
    refine lv_iconst (v := 2) hx hb dX7_copyCells_39 (by decide) ?_
    subst hAe
    rw [hQ]
    exact W.iret (v := 2) hx hb hr (fun t ht hW => ⟨⟨2, _, rfl, ⟨a_s_cells, rfl⟩, by rw [ht]; exact hP, va_K.moved hW.alike hK, hD⟩, hS.F ht⟩) hS.2.2 dX7_copyCells_40
  · skip
    refine lv_aload_n hx hb dX7_copyCells_11 rfl (lv_at hl 0 rfl) ?_
    refine lv_iload_n hx hb dX7_copyCells_12 rfl (lv_at hl 3 rfl) ?_
    refine lv_iload hx hb dX7_copyCells_13 (lv_at hl 4 rfl) ?_
    refine lv_iload hx hb dX7_copyCells_15 (lv_at hl 5 rfl) ?_
    refine call_i (As := [.int t9, .int j9, .int n9]) (rest := []) ⟨hx, hb, hml, hown, hts⟩ (tX7_hasCells (l := l) t9 j9 n9 (by first | assumption | omega | (intros; omega) | decide)) (cwV 3 hts (gV (wr45 _ (List.mem_of_getElem? (i := 8) rfl)) (wr45 _ (List.mem_of_getElem? (i := 9) rfl)) (wr45 _ (List.mem_of_getElem? (i := 10) rfl)) (wr4 _ (List.mem_of_getElem? (i := 3) rfl)) (wr45 _ (List.mem_of_getElem? (i := 11) rfl))) rfl rfl rfl (by decide +kernel) ⟨Nat.le_of_ble_eq_true rfl, Nat.le_of_ble_eq_true rfl⟩) (va_recv hK hP (ci := 6) (q0 := 17) rfl rfl) hK hP hD hE hS hA rfl hl.1 rfl (Nat.le_of_ble_eq_true rfl) dX7_copyCells_17 ⟨Nat.le_of_ble_eq_true rfl, Nat.le_of_ble_eq_true rfl⟩ (fun r17 w9 H locs hw17 hP hD hS => ?_)
    obtain ⟨rfl, hw17_0⟩ := hw17
    have b_r17 := iB r17
    refine m_if_eq (X := r17.toInt) (tgt := 39) hx hb dX7_copyCells_20 (by decide) rfl (fun c20 => ?_) (fun c20 => ?_)
    · skip
      refine lv_iconst (v := 2) hx hb dX7_copyCells_39 (by decide) ?_
      subst hAe
      rw [hQ]
      exact W.iret (v := 2) hx hb hr (fun t ht hW => ⟨⟨2, _, rfl, ⟨a_s_cells, rfl⟩, by rw [ht]; exact hP, va_K.moved hW.alike hK, hD⟩, hS.F ht⟩) hS.2.2 dX7_copyCells_40
    · skip
      refine lv_aload_n hx hb dX7_copyCells_23 rfl (lv_at hl 0 rfl) ?_
      refine lv_iload_n hx hb dX7_copyCells_24 rfl (lv_at hl 1 rfl) ?_
      refine call_i (As := [.int f9]) (rest := []) ⟨hx, hb, hml, hown, hts⟩ (tX7_isThing (l := l) f9) (cwV 1 hts (gV (wr42 _ (List.mem_of_getElem? (i := 8) rfl)) (wr42 _ (List.mem_of_getElem? (i := 9) rfl)) (wr42 _ (List.mem_of_getElem? (i := 10) rfl)) (wr4 _ (List.mem_of_getElem? (i := 3) rfl)) (wr42 _ (List.mem_of_getElem? (i := 11) rfl))) rfl rfl rfl (by decide +kernel) ⟨Nat.le_of_ble_eq_true rfl, Nat.le_of_ble_eq_true rfl⟩) (va_recv hK hP (ci := 6) (q0 := 17) rfl rfl) hK hP hD hE hS hA rfl hl.1 rfl (Nat.le_of_ble_eq_true rfl) dX7_copyCells_25 ⟨Nat.le_of_ble_eq_true rfl, Nat.le_of_ble_eq_true rfl⟩ (fun r25 w9 H locs hw25 hP hD hS => ?_)
      obtain ⟨rfl, hw25_0⟩ := hw25
      have b_r25 := iB r25
      refine m_if_eq (X := r25.toInt) (tgt := 39) hx hb dX7_copyCells_28 (by decide) rfl (fun c28 => ?_) (fun c28 => ?_)
      · skip
        refine lv_iconst (v := 2) hx hb dX7_copyCells_39 (by decide) ?_
        subst hAe
        rw [hQ]
        exact W.iret (v := 2) hx hb hr (fun t ht hW => ⟨⟨2, _, rfl, ⟨a_s_cells, rfl⟩, by rw [ht]; exact hP, va_K.moved hW.alike hK, hD⟩, hS.F ht⟩) hS.2.2 dX7_copyCells_40
      · skip
        refine lv_aload_n hx hb dX7_copyCells_31 rfl (lv_at hl 0 rfl) ?_
        refine lv_iload_n hx hb dX7_copyCells_32 rfl (lv_at hl 3 rfl) ?_
        refine call_i (As := [.int t9]) (rest := []) ⟨hx, hb, hml, hown, hts⟩ (tX7_isThing (l := l) t9) (cwV 1 hts (gV (wr42 _ (List.mem_of_getElem? (i := 8) rfl)) (wr42 _ (List.mem_of_getElem? (i := 9) rfl)) (wr42 _ (List.mem_of_getElem? (i := 10) rfl)) (wr4 _ (List.mem_of_getElem? (i := 3) rfl)) (wr42 _ (List.mem_of_getElem? (i := 11) rfl))) rfl rfl rfl (by decide +kernel) ⟨Nat.le_of_ble_eq_true rfl, Nat.le_of_ble_eq_true rfl⟩) (va_recv hK hP (ci := 6) (q0 := 17) rfl rfl) hK hP hD hE hS hA rfl hl.1 rfl (Nat.le_of_ble_eq_true rfl) dX7_copyCells_33 ⟨Nat.le_of_ble_eq_true rfl, Nat.le_of_ble_eq_true rfl⟩ (fun r33 w9 H locs hw33 hP hD hS => ?_)
        obtain ⟨rfl, hw33_0⟩ := hw33
        have b_r33 := iB r33
        refine m_if_ne (X := r33.toInt) (tgt := 41) hx hb dX7_copyCells_36 (by decide) rfl (fun c36 => ?_) (fun c36 => ?_)
        · skip
          obtain ⟨y1, y2, y3⟩ := p_0.at (a := f9) (by omega) (by omega)
          obtain ⟨z1, z2, z3⟩ := p_0.at (a := t9) (by omega) (by omega)
          refine lv_iload_n hx hb dX7_copyCells_41 rfl (lv_at hl 1 rfl) ?_
          refine lv_iload_n hx hb dX7_copyCells_42 rfl (lv_at hl 3 rfl) ?_
          have J58 : ∀ (H : Heap) (locs : List Loc) (ls : Array Slot), (True) → va_P D vwCl (tw cs q v_t_tapeSize v_t_textSize v_t_faultKind a_t_tape a_t_text a_g_beyond v_g_size a_g_steps a_h_beyond v_h_size a_h_steps a_r_scratch a_r_now v_r_takes v_r_negative v_r_namePlace v_r_faultKind v_r_faultPlace v_a_size v_a_limit v_a_digits v_a_kind v_a_from v_a_to v_o_size a_o_out v_b_size v_b_limit v_b_digits v_b_kind v_b_from v_b_to a_u_atom a_u_other a_u_hand v_u_marksMade v_u_came v_u_guesses v_u_right v_u_taken a_u_vars a_u_marks a_u_outcomes a_u_indexes v_s_things v_s_looked v_s_lookedTooOften v_s_arraysMade v_s_cellsMade a_s_classes a_s_starts a_s_lengths a_s_cells a_L a_K a_vc a_vd a_si a_sj a_iv a_inn a_ac) H → va_D A (tw cs q v_t_tapeSize v_t_textSize v_t_faultKind a_t_tape a_t_text a_g_beyond v_g_size a_g_steps a_h_beyond v_h_size a_h_steps a_r_scratch a_r_now v_r_takes v_r_negative v_r_namePlace v_r_faultKind v_r_faultPlace v_a_size v_a_limit v_a_digits v_a_kind v_a_from v_a_to v_o_size a_o_out v_b_size v_b_limit v_b_digits v_b_kind v_b_from v_b_to a_u_atom a_u_other a_u_hand v_u_marksMade v_u_came v_u_guesses v_u_right v_u_taken a_u_vars a_u_marks a_u_outcomes a_u_indexes v_s_things v_s_looked v_s_lookedTooOften v_s_arraysMade v_s_cellsMade a_s_classes a_s_starts a_s_lengths a_s_cells a_L a_K a_vc a_vd a_si a_sj a_iv a_inn a_ac) → va_S A s.heap H locs → lv_has ls 8 [(0, .ref (q 17)), (1, .int f9), (2, .int i9), (3, .int t9), (4, .int j9), (5, .int n9)] → W p l e (headSpec (wG yX7_copyCells cX7_copyCells 8 (some .int)) rmX7_copyCells).room s m ([.ref (q 17), .int f9, .int i9, .int t9, .int j9, .int n9] : List Value).toArray below meth c H locs 0 0 Q (F0 m 58 ls []) := by
            intro H locs ls f58_0 hP hD hS hl
            refine lv_aload_n hx hb dX7_copyCells_58 rfl (lv_at hl 0 rfl) ?_
            refine va_get (D := D) (ci := 6) (v := .ref (q 21)) (C := RX7) (T := TX7) (N := 9) hx hb hts hinX7 hown hK hP 17 rfl rfl 3 (by decide) k_4_21 (fun _ h9 => h9) rfl dX7_copyCells_59 ?_
            refine lv_aload_n hx hb dX7_copyCells_62 rfl (lv_at hl 0 rfl) ?_
            refine va_get (D := D) (ci := 6) (v := .ref (q 19)) (C := RX7) (T := TX7) (N := 9) hx hb hts hinX7 hown hK hP 17 rfl rfl 1 (by decide) k_4_19 (fun _ h9 => h9) rfl dX7_copyCells_63 ?_
            refine lv_iload_n hx hb dX7_copyCells_66 rfl (lv_at hl 1 rfl) ?_
            refine m_iald hx hb hK hP 19 0 rfl rfl (ix (by omega) (by omega)) dX7_copyCells_67 (fun x67 e_x67 => ?_)
            have b_x67 := iB x67
            refine lv_iload_n hx hb dX7_copyCells_68 rfl (lv_at hl 2 rfl) ?_
            refine m_iadd (X := x67.toInt) (Y := i9.toInt) hx hb dX7_copyCells_69 rfl rfl (fun x69 e_x69 g9 => ?_)
            obtain ⟨k_x69, g_x69⟩ := g9
            have b_x69 := iB x69
            try (have q_x69 : x69.toInt = x67.toInt + i9.toInt := (by omega); clear g_x69 k_x69)
            refine lv_aload_n hx hb dX7_copyCells_70 rfl (lv_at hl 0 rfl) ?_
            refine va_get (D := D) (ci := 6) (v := .ref (q 21)) (C := RX7) (T := TX7) (N := 9) hx hb hts hinX7 hown hK hP 17 rfl rfl 3 (by decide) k_4_21 (fun _ h9 => h9) rfl dX7_copyCells_71 ?_
            refine lv_aload_n hx hb dX7_copyCells_74 rfl (lv_at hl 0 rfl) ?_
            refine va_get (D := D) (ci := 6) (v := .ref (q 19)) (C := RX7) (T := TX7) (N := 9) hx hb hts hinX7 hown hK hP 17 rfl rfl 1 (by decide) k_4_19 (fun _ h9 => h9) rfl dX7_copyCells_75 ?_
            refine lv_iload_n hx hb dX7_copyCells_78 rfl (lv_at hl 3 rfl) ?_
            refine m_iald hx hb hK hP 19 0 rfl rfl (ix (by omega) (by omega)) dX7_copyCells_79 (fun x79 e_x79 => ?_)
            have b_x79 := iB x79
            refine lv_iload hx hb dX7_copyCells_80 (lv_at hl 4 rfl) ?_
            refine m_iadd (X := x79.toInt) (Y := j9.toInt) hx hb dX7_copyCells_82 rfl rfl (fun x82 e_x82 g9 => ?_)
            obtain ⟨k_x82, g_x82⟩ := g9
            have b_x82 := iB x82
            try (have q_x82 : x82.toInt = x79.toInt + j9.toInt := (by omega); clear g_x82 k_x82)
            refine lv_iload hx hb dX7_copyCells_83 (lv_at hl 5 rfl) ?_
            have hx67 := congrArg Int32.toInt e_x67
            have hx79 := congrArg Int32.toInt e_x79
            refine va_copyl (ty := .long) hx hb (by rw [hml]; exact hl.1.symm) hown k_42_7 k_8_7 k_8_8 k_8_9 hK hP hD hS 21 21 1 1 rfl rfl rfl rfl rfl (nneg (by omega)) (nneg (by omega)) (nneg (by omega)) (cpB (by omega) (by omega) (by omega)) (cpB (by omega) (by omega) (by omega)) (fun _ _ => rfl) (Nat.le_of_ble_eq_true rfl) (Nat.le_of_ble_eq_true rfl) dX7_copyCells_85 (fun H locs hP hD hS => ?_)
            obtain ⟨a_s_cells_85, e_a_s_cells_85⟩ : ∃ g, g = va_cpy a_s_cells a_s_cells x69.toNatClampNeg x82.toNatClampNeg n9.toNatClampNeg := ⟨_, rfl⟩
            have hP : va_P D vwCl (tw cs q v_t_tapeSize v_t_textSize v_t_faultKind a_t_tape a_t_text a_g_beyond v_g_size a_g_steps a_h_beyond v_h_size a_h_steps a_r_scratch a_r_now v_r_takes v_r_negative v_r_namePlace v_r_faultKind v_r_faultPlace v_a_size v_a_limit v_a_digits v_a_kind v_a_from v_a_to v_o_size a_o_out v_b_size v_b_limit v_b_digits v_b_kind v_b_from v_b_to a_u_atom a_u_other a_u_hand v_u_marksMade v_u_came v_u_guesses v_u_right v_u_taken a_u_vars a_u_marks a_u_outcomes a_u_indexes v_s_things v_s_looked v_s_lookedTooOften v_s_arraysMade v_s_cellsMade a_s_classes a_s_starts a_s_lengths a_s_cells_85 a_L a_K a_vc a_vd a_si a_sj a_iv a_inn a_ac) H := by rw [e_a_s_cells_85]; exact hP
            have hD : va_D A (tw cs q v_t_tapeSize v_t_textSize v_t_faultKind a_t_tape a_t_text a_g_beyond v_g_size a_g_steps a_h_beyond v_h_size a_h_steps a_r_scratch a_r_now v_r_takes v_r_negative v_r_namePlace v_r_faultKind v_r_faultPlace v_a_size v_a_limit v_a_digits v_a_kind v_a_from v_a_to v_o_size a_o_out v_b_size v_b_limit v_b_digits v_b_kind v_b_from v_b_to a_u_atom a_u_other a_u_hand v_u_marksMade v_u_came v_u_guesses v_u_right v_u_taken a_u_vars a_u_marks a_u_outcomes a_u_indexes v_s_things v_s_looked v_s_lookedTooOften v_s_arraysMade v_s_cellsMade a_s_classes a_s_starts a_s_lengths a_s_cells_85 a_L a_K a_vc a_vd a_si a_sj a_iv a_inn a_ac) := by rw [e_a_s_cells_85]; exact hD
            refine lv_iconst (v := 0) hx hb dX7_copyCells_88 (by decide) ?_
            subst hAe
            rw [hQ]
            exact W.iret (v := 0) hx hb hr (fun t ht hW => ⟨⟨0, _, rfl, ⟨a_s_cells_85, rfl⟩, by rw [ht]; exact hP, va_K.moved hW.alike hK, hD⟩, hS.F ht⟩) hS.2.2 dX7_copyCells_89
          refine m_icmp_eq (X := f9.toInt) (Y := t9.toInt) (tgt := 58) hx hb dX7_copyCells_43 (by decide) rfl rfl (fun c43 => ?_) (fun c43 => ?_)
          · skip
            exact J58 H locs ls (by trivial) hP hD hS (lv_sub hl [0, 1, 2, 3, 4, 5] rfl)
          · skip
            refine lv_aload_n hx hb dX7_copyCells_46 rfl (lv_at hl 0 rfl) ?_
            refine va_get (D := D) (ci := 6) (v := .ref (q 18)) (C := RX7) (T := TX7) (N := 9) hx hb hts hinX7 hown hK hP 17 rfl rfl 0 (by decide) k_4_18 (fun _ h9 => h9) rfl dX7_copyCells_47 ?_
            refine lv_iload_n hx hb dX7_copyCells_50 rfl (lv_at hl 1 rfl) ?_
            refine m_iald hx hb hK hP 18 0 rfl rfl (ix (by omega) (by omega)) dX7_copyCells_51 (fun x51 e_x51 => ?_)
            have b_x51 := iB x51
            refine call_iSP (As := [.int x51]) (rest := []) ⟨hx, hb, hml, hown, hts⟩ (tX0_ofNumbers (l := l) x51) (va_cwS 1 hts (gS (wr45 _ (List.mem_of_getElem? (i := 12) rfl)) (wr45 _ (List.mem_of_getElem? (i := 2) rfl)) (wr19 _ (List.mem_of_getElem? (i := 5) rfl)) (wr45 _ (List.mem_of_getElem? (i := 3) rfl))) rfl rfl rfl (by decide +kernel) ⟨Nat.le_of_ble_eq_true rfl, Nat.le_of_ble_eq_true rfl⟩) (hK.sub [] rfl) hP hD hE hS hA rfl hl.1 rfl (Nat.le_of_ble_eq_true rfl) dX7_copyCells_52 ⟨Nat.le_of_ble_eq_true rfl, Nat.le_of_ble_eq_true rfl⟩ (fun r52 w9 H locs hw52 hP hD hS => ?_)
            obtain ⟨rfl, hw52_0⟩ := hw52
            have b_r52 := iB r52
            refine m_if_eq (X := r52.toInt) (tgt := 90) hx hb dX7_copyCells_55 (by decide) rfl (fun c55 => ?_) (fun c55 => ?_)
            · skip
              refine lv_aload_n hx hb dX7_copyCells_90 rfl (lv_at hl 0 rfl) ?_
              refine va_get (D := D) (ci := 6) (v := .ref (q 18)) (C := RX7) (T := TX7) (N := 9) hx hb hts hinX7 hown hK hP 17 rfl rfl 0 (by decide) k_4_18 (fun _ h9 => h9) rfl dX7_copyCells_91 ?_
              refine lv_iload_n hx hb dX7_copyCells_94 rfl (lv_at hl 3 rfl) ?_
              refine m_iald hx hb hK hP 18 0 rfl rfl (ix (by omega) (by omega)) dX7_copyCells_95 (fun x95 e_x95 => ?_)
              have b_x95 := iB x95
              refine call_iSP (As := [.int x95]) (rest := []) ⟨hx, hb, hml, hown, hts⟩ (tX0_elementsOf (l := l) x95) (va_cwS 1 hts (gS (wr45 _ (List.mem_of_getElem? (i := 13) rfl)) (wr39 _ (List.mem_of_getElem? (i := 14) rfl)) (wr19 _ (List.mem_of_getElem? (i := 5) rfl)) (wr39 _ (List.mem_of_getElem? (i := 15) rfl))) rfl rfl rfl (by decide +kernel) ⟨Nat.le_of_ble_eq_true rfl, Nat.le_of_ble_eq_true rfl⟩) (hK.sub [] rfl) hP hD hE hS hA rfl hl.1 rfl (Nat.le_of_ble_eq_true rfl) dX7_copyCells_96 ⟨Nat.le_of_ble_eq_true rfl, Nat.le_of_ble_eq_true rfl⟩ (fun r96 w9 H locs hw96 hP hD hS => ?_)
              obtain ⟨rfl, hw96_0⟩ := hw96
              have b_r96 := iB r96
              refine lv_istore (lv' := [(6, .int r96), (0, .ref (q 17)), (1, .int f9), (2, .int i9), (3, .int t9), (4, .int j9), (5, .int n9)]) hx hb dX7_copyCells_99 hl (by decide) rfl (fun ls hl => ?_)
              refine lv_iconst (v := 0) hx hb dX7_copyCells_101 (by decide) ?_
              refine lv_istore (lv' := [(7, .int 0), (6, .int r96), (0, .ref (q 17)), (1, .int f9), (2, .int i9), (3, .int t9), (4, .int j9), (5, .int n9)]) hx hb dX7_copyCells_102 hl (by decide) rfl (fun ls hl => ?_)
              have J104 : ∀ (n104 : Nat) (l7_104 : Int32) (a_s_cells_104 : Nat → Int64) (H : Heap) (locs : List Loc) (ls : Array Slot), (0 ≤ l7_104.toInt) → (l7_104.toInt ≤ n9.toInt) → (n9.toInt - l7_104.toInt < (n104 : Int)) → va_P D vwCl (tw cs q v_t_tapeSize v_t_textSize v_t_faultKind a_t_tape a_t_text a_g_beyond v_g_size a_g_steps a_h_beyond v_h_size a_h_steps a_r_scratch a_r_now v_r_takes v_r_negative v_r_namePlace v_r_faultKind v_r_faultPlace v_a_size v_a_limit v_a_digits v_a_kind v_a_from v_a_to v_o_size a_o_out v_b_size v_b_limit v_b_digits v_b_kind v_b_from v_b_to a_u_atom a_u_other a_u_hand v_u_marksMade v_u_came v_u_guesses v_u_right v_u_taken a_u_vars a_u_marks a_u_outcomes a_u_indexes v_s_things v_s_looked v_s_lookedTooOften v_s_arraysMade v_s_cellsMade a_s_classes a_s_starts a_s_lengths a_s_cells_104 a_L a_K a_vc a_vd a_si a_sj a_iv a_inn a_ac) H → va_D A (tw cs q v_t_tapeSize v_t_textSize v_t_faultKind a_t_tape a_t_text a_g_beyond v_g_size a_g_steps a_h_beyond v_h_size a_h_steps a_r_scratch a_r_now v_r_takes v_r_negative v_r_namePlace v_r_faultKind v_r_faultPlace v_a_size v_a_limit v_a_digits v_a_kind v_a_from v_a_to v_o_size a_o_out v_b_size v_b_limit v_b_digits v_b_kind v_b_from v_b_to a_u_atom a_u_other a_u_hand v_u_marksMade v_u_came v_u_guesses v_u_right v_u_taken a_u_vars a_u_marks a_u_outcomes a_u_indexes v_s_things v_s_looked v_s_lookedTooOften v_s_arraysMade v_s_cellsMade a_s_classes a_s_starts a_s_lengths a_s_cells_104 a_L a_K a_vc a_vd a_si a_sj a_iv a_inn a_ac) → va_S A s.heap H locs → lv_has ls 8 [(0, .ref (q 17)), (1, .int f9), (2, .int i9), (3, .int t9), (4, .int j9), (5, .int n9), (6, .int r96), (7, .int l7_104)] → W p l e (headSpec (wG yX7_copyCells cX7_copyCells 8 (some .int)) rmX7_copyCells).room s m ([.ref (q 17), .int f9, .int i9, .int t9, .int j9, .int n9] : List Value).toArray below meth c H locs 0 0 Q (F0 m 104 ls []) := by
                intro n104
                induction n104 with
                | zero =>
                  intro l7_104 a_s_cells_104 H locs ls f104_0 f104_1 hm104
                  exfalso
                  omega
                | succ n104 ih104 =>
                  intro l7_104 a_s_cells_104 H locs ls f104_0 f104_1 hm104 hP hD hS hl
                  refine lv_iload hx hb dX7_copyCells_104 (lv_at hl 7 rfl) ?_
                  refine lv_iload hx hb dX7_copyCells_106 (lv_at hl 5 rfl) ?_
                  refine m_icmp_ge (X := l7_104.toInt) (Y := n9.toInt) (tgt := 155) hx hb dX7_copyCells_108 (by decide) rfl rfl (fun c108 => ?_) (fun c108 => ?_)
                  · skip
                    refine lv_iconst (v := 0) hx hb dX7_copyCells_155 (by decide) ?_
                    subst hAe
                    rw [hQ]
                    exact W.iret (v := 0) hx hb hr (fun t ht hW => ⟨⟨0, _, rfl, ⟨a_s_cells_104, rfl⟩, by rw [ht]; exact hP, va_K.moved hW.alike hK, hD⟩, hS.F ht⟩) hS.2.2 dX7_copyCells_156
                  · skip
                    refine lv_iload hx hb dX7_copyCells_111 (lv_at hl 6 rfl) ?_
                    refine lv_aload_n hx hb dX7_copyCells_113 rfl (lv_at hl 0 rfl) ?_
                    refine lv_iload_n hx hb dX7_copyCells_114 rfl (lv_at hl 1 rfl) ?_
                    refine lv_iload_n hx hb dX7_copyCells_115 rfl (lv_at hl 2 rfl) ?_
                    refine lv_iload hx hb dX7_copyCells_116 (lv_at hl 7 rfl) ?_
                    refine m_iadd (X := i9.toInt) (Y := l7_104.toInt) hx hb dX7_copyCells_118 rfl rfl (fun x118 e_x118 g9 => ?_)
                    obtain ⟨k_x118, g_x118⟩ := g9
                    have b_x118 := iB x118
                    try (have q_x118 : x118.toInt = i9.toInt + l7_104.toInt := (by omega); clear g_x118 k_x118)
                    refine call_i (As := [.int f9, .int x118]) (rest := [.int r96]) ⟨hx, hb, hml, hown, hts⟩ (tX7_cellClass (l := l) f9 x118 (by first | assumption | omega | (intros; omega) | decide)) (cwV 2 hts (gV (wr38 _ (List.mem_of_getElem? (i := 20) rfl)) (wr38 _ (List.mem_of_getElem? (i := 21) rfl)) (wr38 _ (List.mem_of_getElem? (i := 22) rfl)) (wr4 _ (List.mem_of_getElem? (i := 3) rfl)) (wr38 _ (List.mem_of_getElem? (i := 23) rfl))) rfl rfl rfl (by decide +kernel) ⟨Nat.le_of_ble_eq_true rfl, Nat.le_of_ble_eq_true rfl⟩) (va_recv hK hP (ci := 6) (q0 := 17) rfl rfl) hK hP hD hE hS hA rfl hl.1 rfl (Nat.le_of_ble_eq_true rfl) dX7_copyCells_119 ⟨Nat.le_of_ble_eq_true rfl, Nat.le_of_ble_eq_true rfl⟩ (fun r119 w9 H locs hw119 hP hD hS => ?_)
                    obtain ⟨rfl⟩ := hw119
                    have b_r119 := iB r119
                    refine call_iSP (As := [.int r96, .int r119]) (rest := []) ⟨hx, hb, hml, hown, hts⟩ (tX0_writeRefusal (l := l) r96 r119) (va_cwS 2 hts (gS (wr45 _ (List.mem_of_getElem? (i := 14) rfl)) (wr40 _ (List.mem_of_getElem? (i := 1) rfl)) (wr19 _ (List.mem_of_getElem? (i := 5) rfl)) (wr40 _ (List.mem_of_getElem? (i := 2) rfl))) rfl rfl rfl (by decide +kernel) ⟨Nat.le_of_ble_eq_true rfl, Nat.le_of_ble_eq_true rfl⟩) (hK.sub [] rfl) hP hD hE hS hA rfl hl.1 rfl (Nat.le_of_ble_eq_true rfl) dX7_copyCells_122 ⟨Nat.le_of_ble_eq_true rfl, Nat.le_of_ble_eq_true rfl⟩ (fun r122 w9 H locs hw122 hP hD hS => ?_)
                    obtain ⟨rfl, hw122_0⟩ := hw122
                    have b_r122 := iB r122
                    refine m_if_eq (X := r122.toInt) (tgt := 130) hx hb dX7_copyCells_125 (by decide) rfl (fun c125 => ?_) (fun c125 => ?_)
                    · skip
                      refine lv_aload_n hx hb dX7_copyCells_130 rfl (lv_at hl 0 rfl) ?_
                      refine lv_iload_n hx hb dX7_copyCells_131 rfl (lv_at hl 3 rfl) ?_
                      refine lv_iload hx hb dX7_copyCells_132 (lv_at hl 4 rfl) ?_
                      refine lv_iload hx hb dX7_copyCells_134 (lv_at hl 7 rfl) ?_
                      refine m_iadd (X := j9.toInt) (Y := l7_104.toInt) hx hb dX7_copyCells_136 rfl rfl (fun x136 e_x136 g9 => ?_)
                      obtain ⟨k_x136, g_x136⟩ := g9
                      have b_x136 := iB x136
                      try (have q_x136 : x136.toInt = j9.toInt + l7_104.toInt := (by omega); clear g_x136 k_x136)
                      refine lv_aload_n hx hb dX7_copyCells_137 rfl (lv_at hl 0 rfl) ?_
                      refine lv_iload_n hx hb dX7_copyCells_138 rfl (lv_at hl 1 rfl) ?_
                      refine lv_iload_n hx hb dX7_copyCells_139 rfl (lv_at hl 2 rfl) ?_
                      refine lv_iload hx hb dX7_copyCells_140 (lv_at hl 7 rfl) ?_
                      refine m_iadd (X := i9.toInt) (Y := l7_104.toInt) hx hb dX7_copyCells_142 rfl rfl (fun x142 e_x142 g9 => ?_)
                      obtain ⟨k_x142, g_x142⟩ := g9
                      have b_x142 := iB x142
                      try (have q_x142 : x142.toInt = i9.toInt + l7_104.toInt := (by omega); clear g_x142 k_x142)
                      refine call_j (As := [.int f9, .int x142]) (rest := [.int x136, .int t9, .ref (q 17)]) ⟨hx, hb, hml, hown, hts⟩ (tX7_cellDatum (l := l) f9 x142 (by first | assumption | omega | (intros; omega) | decide)) (cwV 2 hts (gV (wr39 _ (List.mem_of_getElem? (i := 0) rfl)) (wr39 _ (List.mem_of_getElem? (i := 1) rfl)) (wr39 _ (List.mem_of_getElem? (i := 2) rfl)) (wr4 _ (List.mem_of_getElem? (i := 3) rfl)) (wr39 _ (List.mem_of_getElem? (i := 3) rfl))) rfl rfl rfl (by decide +kernel) ⟨Nat.le_of_ble_eq_true rfl, Nat.le_of_ble_eq_true rfl⟩) (va_recv hK hP (ci := 6) (q0 := 17) rfl rfl) hK hP hD hE hS hA rfl hl.1 rfl (Nat.le_of_ble_eq_true rfl) dX7_copyCells_143 ⟨Nat.le_of_ble_eq_true rfl, Nat.le_of_ble_eq_true rfl⟩ (fun r143 w9 H locs hw143 hP hD hS => ?_)
                      obtain ⟨rfl⟩ := hw143
                      have b_r143 := jB r143
                      refine call_v (As := [.int t9, .int x136, .long r143]) (rest := []) ⟨hx, hb, hml, hown, hts⟩ (tX7_write (l := l) t9 x136 r143 (by first | assumption | omega | (intros; omega) | decide)) (cwV 3 hts (gV (wr45 _ (List.mem_of_getElem? (i := 15) rfl)) (wr40 _ (List.mem_of_getElem? (i := 23) rfl)) (wr41 _ (List.mem_of_getElem? (i := 0) rfl)) (wr4 _ (List.mem_of_getElem? (i := 3) rfl)) (wr41 _ (List.mem_of_getElem? (i := 1) rfl))) rfl rfl rfl (by decide +kernel) ⟨Nat.le_of_ble_eq_true rfl, Nat.le_of_ble_eq_true rfl⟩) (va_recv hK hP (ci := 6) (q0 := 17) rfl rfl) hK hP hD hE hS hA rfl hl.1 rfl (Nat.le_of_ble_eq_true rfl) dX7_copyCells_146 ⟨Nat.le_of_ble_eq_true rfl, Nat.le_of_ble_eq_true rfl⟩ (fun w9 H locs hw146 hP hD hS => ?_)
                      obtain ⟨a_s_cells_146, rfl⟩ := hw146
                      obtain ⟨x149, e_x149⟩ : ∃ z : Int32, z = l7_104 + (1 : Int32) := ⟨_, rfl⟩
                      obtain ⟨k_x149, g_x149⟩ : ∃ k : Int, x149.toInt = l7_104.toInt + (1) + k * 4294967296 := by rw [e_x149]; exact iAdd l7_104 (1)
                      have b_x149 := iB x149
                      try (have q_x149 : x149.toInt = l7_104.toInt + (1) := (by omega); clear g_x149 k_x149)
                      refine lv_iinc (v := x149) (lv' := [(7, .int x149), (0, .ref (q 17)), (1, .int f9), (2, .int i9), (3, .int t9), (4, .int j9), (5, .int n9), (6, .int r96)]) hx hb dX7_copyCells_149 hl (k := 7) rfl (by rw [e_x149]; rfl) (by decide) rfl (fun ls hl => ?_)
                      refine lv_goto (tgt := 104) hx hb dX7_copyCells_152 (by decide) ?_
                      exact ih104 x149 a_s_cells_146 H locs ls (by first | assumption | omega | (intros; omega) | decide) (by first | assumption | omega | (intros; omega) | decide) (by omega) hP hD hS (lv_sub hl [1, 2, 3, 4, 5, 6, 7, 0] rfl)
                    · skip
                      refine lv_iconst (v := 4) hx hb dX7_copyCells_128 (by decide) ?_
                      subst hAe
                      rw [hQ]
                      exact W.iret (v := 4) hx hb hr (fun t ht hW => ⟨⟨4, _, rfl, ⟨a_s_cells_104, rfl⟩, by rw [ht]; exact hP, va_K.moved hW.alike hK, hD⟩, hS.F ht⟩) hS.2.2 dX7_copyCells_129
              exact J104 ((n9.toInt - (0 : Int32).toInt).toNat + 1) (0 : Int32) a_s_cells H locs ls (by first | assumption | omega | (intros; omega) | decide) (by first | assumption | omega | (intros; omega) | decide) (by omega) hP hD hS (lv_sub hl [2, 3, 4, 5, 6, 7, 1, 0] rfl)
            · skip
              exact J58 H locs ls (by trivial) hP hD hS (lv_sub hl [0, 1, 2, 3, 4, 5] rfl)
        · skip
          refine lv_iconst (v := 2) hx hb dX7_copyCells_39 (by decide) ?_
          subst hAe
          rw [hQ]
          exact W.iret (v := 2) hx hb hr (fun t ht hW => ⟨⟨2, _, rfl, ⟨a_s_cells, rfl⟩, by rw [ht]; exact hP, va_K.moved hW.alike hK, hD⟩, hS.F ht⟩) hS.2.2 dX7_copyCells_40

def rmX7_startLooking : Room := { frames := 20, cells := 0, slots := 0, locals := 400 }
set_option maxHeartbeats 4000000 in
set_option maxRecDepth 100000 in
theorem tX7_startLooking {l : Launch} {D : va_G} {K : Nat → Nat → Nat} {cs : Nat → ClassId} {q : Nat → Nat} {v_t_tapeSize v_t_textSize v_t_faultKind v_g_size v_h_size v_r_takes v_r_negative v_r_namePlace v_r_faultKind v_r_faultPlace v_a_size v_a_limit v_a_digits v_a_kind v_a_from v_a_to v_o_size v_b_size v_b_limit v_b_digits v_b_kind v_b_from v_b_to v_u_marksMade v_u_came v_u_guesses v_u_right v_u_taken v_s_things v_s_looked v_s_lookedTooOften v_s_arraysMade v_s_cellsMade : Int32} {a_t_tape a_t_text a_o_out a_u_outcomes a_u_indexes a_s_classes a_s_starts a_s_lengths a_vc : Nat → Int32} {a_g_beyond a_h_beyond a_r_scratch a_r_now a_u_atom a_u_other a_u_hand : Nat} {a_g_steps a_h_steps a_u_vars a_u_marks : Nat → Option Nat} {a_s_cells a_vd a_sj : Nat → Int64} {a_L : List Nat} {a_K a_iv a_inn : Nat → Nat} {a_si a_ac : Nat → Nat → Int32} : CtV l yX7_startLooking (wG yX7_startLooking cX7_startLooking 1 none) rmX7_startLooking D (twT cs) K [.ref (q 17)] (tw cs q v_t_tapeSize v_t_textSize v_t_faultKind a_t_tape a_t_text a_g_beyond v_g_size a_g_steps a_h_beyond v_h_size a_h_steps a_r_scratch a_r_now v_r_takes v_r_negative v_r_namePlace v_r_faultKind v_r_faultPlace v_a_size v_a_limit v_a_digits v_a_kind v_a_from v_a_to v_o_size a_o_out v_b_size v_b_limit v_b_digits v_b_kind v_b_from v_b_to a_u_atom a_u_other a_u_hand v_u_marksMade v_u_came v_u_guesses v_u_right v_u_taken a_u_vars a_u_marks a_u_outcomes a_u_indexes v_s_things v_s_looked v_s_lookedTooOften v_s_arraysMade v_s_cellsMade a_s_classes a_s_starts a_s_lengths a_s_cells a_L a_K a_vc a_vd a_si a_sj a_iv a_inn a_ac) (fun w1 => ∃ (v_s_looked' : Int32) (v_s_lookedTooOften' : Int32), w1 = (tw cs q v_t_tapeSize v_t_textSize v_t_faultKind a_t_tape a_t_text a_g_beyond v_g_size a_g_steps a_h_beyond v_h_size a_h_steps a_r_scratch a_r_now v_r_takes v_r_negative v_r_namePlace v_r_faultKind v_r_faultPlace v_a_size v_a_limit v_a_digits v_a_kind v_a_from v_a_to v_o_size a_o_out v_b_size v_b_limit v_b_digits v_b_kind v_b_from v_b_to a_u_atom a_u_other a_u_hand v_u_marksMade v_u_came v_u_guesses v_u_right v_u_taken a_u_vars a_u_marks a_u_outcomes a_u_indexes v_s_things v_s_looked' v_s_lookedTooOften' v_s_arraysMade v_s_cellsMade a_s_classes a_s_starts a_s_lengths a_s_cells a_L a_K a_vc a_vd a_si a_sj a_iv a_inn a_ac)) 0 0 := by
  intro sz
  refine Met.ofW (cc := cX7_startLooking) (maxL := 1) (ret := none) (by decide) rfl ?_
  intro p e s m args below meth c s₁ B hml hv
  obtain ⟨rfl, hsz, hP, hK, hD0, hE⟩ := hv
  have hx := B.exec
  have hb := B.bytes
  have hr := B.returns
  have hts := atoms_spec (ws := (wG yX7_startLooking cX7_startLooking 1 none)) B.pre
  have hown : s.vm.findClass RX7 = some m.cls := findClass_of_methodNamed B.named
  have hlocks := B.notSynchronized
  subst hsz
  have hD := hD0.self (sz := s.heap.size)
  obtain ⟨A, hAe⟩ : ∃ A : Nat → Prop, A = va_A (tw cs q v_t_tapeSize v_t_textSize v_t_faultKind a_t_tape a_t_text a_g_beyond v_g_size a_g_steps a_h_beyond v_h_size a_h_steps a_r_scratch a_r_now v_r_takes v_r_negative v_r_namePlace v_r_faultKind v_r_faultPlace v_a_size v_a_limit v_a_digits v_a_kind v_a_from v_a_to v_o_size a_o_out v_b_size v_b_limit v_b_digits v_b_kind v_b_from v_b_to a_u_atom a_u_other a_u_hand v_u_marksMade v_u_came v_u_guesses v_u_right v_u_taken a_u_vars a_u_marks a_u_outcomes a_u_indexes v_s_things v_s_looked v_s_lookedTooOften v_s_arraysMade v_s_cellsMade a_s_classes a_s_starts a_s_lengths a_s_cells a_L a_K a_vc a_vd a_si a_sj a_iv a_inn a_ac) s.heap.size := ⟨_, rfl⟩
  rw [← hAe] at hD hE
  have hA : ∀ q : Nat, s.heap.size ≤ q → A q := fun q h => by rw [hAe]; exact Or.inr h
  have hS : va_S A s.heap s.heap [] := va_S.rf
  have hl := lv_entry ([.ref (q 17)]) (n := 1) (Nat.le_of_ble_eq_true rfl)
  rw [lg_entry_eq]
  generalize (lg_sl ([.ref (q 17)]) ++ List.replicate (1 - (lg_sl ([.ref (q 17)])).length) Slot.unset).toArray = ls at hl ⊢
  have hl : lv_has ls 1 [(0, .ref (q 17))] := hl
  refine wq (fun Q hQ => ?_)
  have hinX7 : ∀ w ∈ wsX70, w ∈ (wG yX7_startLooking cX7_startLooking 1 none) := fun w h => List.mem_cons_of_mem _ (inlX7 w h)
  have kc0 : (0 : Int32).toInt = 0 := by decide
  have k_43_13 := hts (.fieldLink RX7 113 "ArrayTrainer$Store" "looked" "I") (List.mem_cons_of_mem _ (wr43 _ (List.mem_of_getElem? (i := 13) rfl)))
  have k_43_14 := hts (.fieldLink RX7 116 "ArrayTrainer$Store" "lookedTooOften" "Z") (List.mem_cons_of_mem _ (wr43 _ (List.mem_of_getElem? (i := 14) rfl)))
  obtain ⟨H, hH⟩ : ∃ H : Heap, H = s.heap := ⟨_, rfl⟩
  obtain ⟨locs, hlc⟩ : ∃ L : List Loc, L = [] := ⟨_, rfl⟩
  have hP : va_P D vwCl (tw cs q v_t_tapeSize v_t_textSize v_t_faultKind a_t_tape a_t_text a_g_beyond v_g_size a_g_steps a_h_beyond v_h_size a_h_steps a_r_scratch a_r_now v_r_takes v_r_negative v_r_namePlace v_r_faultKind v_r_faultPlace v_a_size v_a_limit v_a_digits v_a_kind v_a_from v_a_to v_o_size a_o_out v_b_size v_b_limit v_b_digits v_b_kind v_b_from v_b_to a_u_atom a_u_other a_u_hand v_u_marksMade v_u_came v_u_guesses v_u_right v_u_taken a_u_vars a_u_marks a_u_outcomes a_u_indexes v_s_things v_s_looked v_s_lookedTooOften v_s_arraysMade v_s_cellsMade a_s_classes a_s_starts a_s_lengths a_s_cells a_L a_K a_vc a_vd a_si a_sj a_iv a_inn a_ac) H := by rw [hH]; exact hP
  have hS : va_S A s.heap H locs := by rw [hH, hlc]; exact hS
  refine wHL hH hlc ?_
  refine lv_aload_n hx hb dX7_startLooking_0 rfl (lv_at hl 0 rfl) ?_
  refine lv_iconst (v := 0) hx hb dX7_startLooking_1 (by decide) ?_
  refine va_put (D := D) (ci := 6) (v := .int 0) (ty := .int) (C := RX7) (T := TX7) (N := 9) hx hb hts hinX7 tyX7 tyX7_ok nmX7 hown hK hP hD hS 17 rfl rfl 5 (by decide) k_43_13 (fun _ h9 => h9) rfl (by decide +kernel) rfl rfl (Nat.le_of_ble_eq_true rfl) dX7_startLooking_2 (fun H locs hP hD hS => ?_)
  have hP : va_P D vwCl (tw cs q v_t_tapeSize v_t_textSize v_t_faultKind a_t_tape a_t_text a_g_beyond v_g_size a_g_steps a_h_beyond v_h_size a_h_steps a_r_scratch a_r_now v_r_takes v_r_negative v_r_namePlace v_r_faultKind v_r_faultPlace v_a_size v_a_limit v_a_digits v_a_kind v_a_from v_a_to v_o_size a_o_out v_b_size v_b_limit v_b_digits v_b_kind v_b_from v_b_to a_u_atom a_u_other a_u_hand v_u_marksMade v_u_came v_u_guesses v_u_right v_u_taken a_u_vars a_u_marks a_u_outcomes a_u_indexes v_s_things (0 : Int32) v_s_lookedTooOften v_s_arraysMade v_s_cellsMade a_s_classes a_s_starts a_s_lengths a_s_cells a_L a_K a_vc a_vd a_si a_sj a_iv a_inn a_ac) H := hP
  have hD : va_D A (tw cs q v_t_tapeSize v_t_textSize v_t_faultKind a_t_tape a_t_text a_g_beyond v_g_size a_g_steps a_h_beyond v_h_size a_h_steps a_r_scratch a_r_now v_r_takes v_r_negative v_r_namePlace v_r_faultKind v_r_faultPlace v_a_size v_a_limit v_a_digits v_a_kind v_a_from v_a_to v_o_size a_o_out v_b_size v_b_limit v_b_digits v_b_kind v_b_from v_b_to a_u_atom a_u_other a_u_hand v_u_marksMade v_u_came v_u_guesses v_u_right v_u_taken a_u_vars a_u_marks a_u_outcomes a_u_indexes v_s_things (0 : Int32) v_s_lookedTooOften v_s_arraysMade v_s_cellsMade a_s_classes a_s_starts a_s_lengths a_s_cells a_L a_K a_vc a_vd a_si a_sj a_iv a_inn a_ac) := hD
  refine lv_aload_n hx hb dX7_startLooking_5 rfl (lv_at hl 0 rfl) ?_
  refine lv_iconst (v := 0) hx hb dX7_startLooking_6 (by decide) ?_
  refine va_put (D := D) (ci := 6) (v := .int 0) (ty := .boolean) (C := RX7) (T := TX7) (N := 9) hx hb hts hinX7 tyX7 tyX7_ok nmX7 hown hK hP hD hS 17 rfl rfl 6 (by decide) k_43_14 (fun _ h9 => h9) rfl (by decide +kernel) (by decide) (by decide) (Nat.le_of_ble_eq_true rfl) dX7_startLooking_7 (fun H locs hP hD hS => ?_)
  have hP : va_P D vwCl (tw cs q v_t_tapeSize v_t_textSize v_t_faultKind a_t_tape a_t_text a_g_beyond v_g_size a_g_steps a_h_beyond v_h_size a_h_steps a_r_scratch a_r_now v_r_takes v_r_negative v_r_namePlace v_r_faultKind v_r_faultPlace v_a_size v_a_limit v_a_digits v_a_kind v_a_from v_a_to v_o_size a_o_out v_b_size v_b_limit v_b_digits v_b_kind v_b_from v_b_to a_u_atom a_u_other a_u_hand v_u_marksMade v_u_came v_u_guesses v_u_right v_u_taken a_u_vars a_u_marks a_u_outcomes a_u_indexes v_s_things (0 : Int32) (0 : Int32) v_s_arraysMade v_s_cellsMade a_s_classes a_s_starts a_s_lengths a_s_cells a_L a_K a_vc a_vd a_si a_sj a_iv a_inn a_ac) H := hP
  have hD : va_D A (tw cs q v_t_tapeSize v_t_textSize v_t_faultKind a_t_tape a_t_text a_g_beyond v_g_size a_g_steps a_h_beyond v_h_size a_h_steps a_r_scratch a_r_now v_r_takes v_r_negative v_r_namePlace v_r_faultKind v_r_faultPlace v_a_size v_a_limit v_a_digits v_a_kind v_a_from v_a_to v_o_size a_o_out v_b_size v_b_limit v_b_digits v_b_kind v_b_from v_b_to a_u_atom a_u_other a_u_hand v_u_marksMade v_u_came v_u_guesses v_u_right v_u_taken a_u_vars a_u_marks a_u_outcomes a_u_indexes v_s_things (0 : Int32) (0 : Int32) v_s_arraysMade v_s_cellsMade a_s_classes a_s_starts a_s_lengths a_s_cells a_L a_K a_vc a_vd a_si a_sj a_iv a_inn a_ac) := hD
  subst hAe
  rw [hQ]
  exact W.vret hx hb hr (fun t ht hW => ⟨⟨_, rfl, ⟨(0 : Int32), (0 : Int32), rfl⟩, by rw [ht]; exact hP, va_K.moved hW.alike hK, hD⟩, hS.F ht⟩) hS.2.2 dX7_startLooking_10

def rmX7_mayLook : Room := { frames := 20, cells := 0, slots := 0, locals := 400 }
set_option maxHeartbeats 4000000 in
set_option maxRecDepth 100000 in
theorem tX7_mayLook {l : Launch} {D : va_G} {K : Nat → Nat → Nat} {cs : Nat → ClassId} {q : Nat → Nat} {v_t_tapeSize v_t_textSize v_t_faultKind v_g_size v_h_size v_r_takes v_r_negative v_r_namePlace v_r_faultKind v_r_faultPlace v_a_size v_a_limit v_a_digits v_a_kind v_a_from v_a_to v_o_size v_b_size v_b_limit v_b_digits v_b_kind v_b_from v_b_to v_u_marksMade v_u_came v_u_guesses v_u_right v_u_taken v_s_things v_s_looked v_s_lookedTooOften v_s_arraysMade v_s_cellsMade : Int32} {a_t_tape a_t_text a_o_out a_u_outcomes a_u_indexes a_s_classes a_s_starts a_s_lengths a_vc : Nat → Int32} {a_g_beyond a_h_beyond a_r_scratch a_r_now a_u_atom a_u_other a_u_hand : Nat} {a_g_steps a_h_steps a_u_vars a_u_marks : Nat → Option Nat} {a_s_cells a_vd a_sj : Nat → Int64} {a_L : List Nat} {a_K a_iv a_inn : Nat → Nat} {a_si a_ac : Nat → Nat → Int32} : CtI l yX7_mayLook (wG yX7_mayLook cX7_mayLook 1 (some .boolean)) rmX7_mayLook D (twT cs) K [.ref (q 17)] (tw cs q v_t_tapeSize v_t_textSize v_t_faultKind a_t_tape a_t_text a_g_beyond v_g_size a_g_steps a_h_beyond v_h_size a_h_steps a_r_scratch a_r_now v_r_takes v_r_negative v_r_namePlace v_r_faultKind v_r_faultPlace v_a_size v_a_limit v_a_digits v_a_kind v_a_from v_a_to v_o_size a_o_out v_b_size v_b_limit v_b_digits v_b_kind v_b_from v_b_to a_u_atom a_u_other a_u_hand v_u_marksMade v_u_came v_u_guesses v_u_right v_u_taken a_u_vars a_u_marks a_u_outcomes a_u_indexes v_s_things v_s_looked v_s_lookedTooOften v_s_arraysMade v_s_cellsMade a_s_classes a_s_starts a_s_lengths a_s_cells a_L a_K a_vc a_vd a_si a_sj a_iv a_inn a_ac) (fun r w1 => ∃ (v_s_looked' : Int32) (v_s_lookedTooOften' : Int32), w1 = (tw cs q v_t_tapeSize v_t_textSize v_t_faultKind a_t_tape a_t_text a_g_beyond v_g_size a_g_steps a_h_beyond v_h_size a_h_steps a_r_scratch a_r_now v_r_takes v_r_negative v_r_namePlace v_r_faultKind v_r_faultPlace v_a_size v_a_limit v_a_digits v_a_kind v_a_from v_a_to v_o_size a_o_out v_b_size v_b_limit v_b_digits v_b_kind v_b_from v_b_to a_u_atom a_u_other a_u_hand v_u_marksMade v_u_came v_u_guesses v_u_right v_u_taken a_u_vars a_u_marks a_u_outcomes a_u_indexes v_s_things v_s_looked' v_s_lookedTooOften' v_s_arraysMade v_s_cellsMade a_s_classes a_s_starts a_s_lengths a_s_cells a_L a_K a_vc a_vd a_si a_sj a_iv a_inn a_ac) ∧ (r.toInt = 0 ∨ r.toInt = 1)) 0 0 := by
  intro sz
  refine Met.ofW (cc := cX7_mayLook) (maxL := 1) (ret := (some .boolean)) (by decide) rfl ?_
  intro p e s m args below meth c s₁ B hml hv
  obtain ⟨rfl, hsz, hP, hK, hD0, hE⟩ := hv
  have hx := B.exec
  have hb := B.bytes
  have hr := B.returns
  have hts := atoms_spec (ws := (wG yX7_mayLook cX7_mayLook 1 (some .boolean))) B.pre
  have hown : s.vm.findClass RX7 = some m.cls := findClass_of_methodNamed B.named
  have hlocks := B.notSynchronized
  subst hsz
  have hD := hD0.self (sz := s.heap.size)
  obtain ⟨A, hAe⟩ : ∃ A : Nat → Prop, A = va_A (tw cs q v_t_tapeSize v_t_textSize v_t_faultKind a_t_tape a_t_text a_g_beyond v_g_size a_g_steps a_h_beyond v_h_size a_h_steps a_r_scratch a_r_now v_r_takes v_r_negative v_r_namePlace v_r_faultKind v_r_faultPlace v_a_size v_a_limit v_a_digits v_a_kind v_a_from v_a_to v_o_size a_o_out v_b_size v_b_limit v_b_digits v_b_kind v_b_from v_b_to a_u_atom a_u_other a_u_hand v_u_marksMade v_u_came v_u_guesses v_u_right v_u_taken a_u_vars a_u_marks a_u_outcomes a_u_indexes v_s_things v_s_looked v_s_lookedTooOften v_s_arraysMade v_s_cellsMade a_s_classes a_s_starts a_s_lengths a_s_cells a_L a_K a_vc a_vd a_si a_sj a_iv a_inn a_ac) s.heap.size := ⟨_, rfl⟩
  rw [← hAe] at hD hE
  have hA : ∀ q : Nat, s.heap.size ≤ q → A q := fun q h => by rw [hAe]; exact Or.inr h
  have hS : va_S A s.heap s.heap [] := va_S.rf
  have hl := lv_entry ([.ref (q 17)]) (n := 1) (Nat.le_of_ble_eq_true rfl)
  rw [lg_entry_eq]
  generalize (lg_sl ([.ref (q 17)]) ++ List.replicate (1 - (lg_sl ([.ref (q 17)])).length) Slot.unset).toArray = ls at hl ⊢
  have hl : lv_has ls 1 [(0, .ref (q 17))] := hl
  refine wq (fun Q hQ => ?_)
  have hinX7 : ∀ w ∈ wsX70, w ∈ (wG yX7_mayLook cX7_mayLook 1 (some .boolean)) := fun w h => List.mem_cons_of_mem _ (inlX7 w h)
  have kc0 : (0 : Int32).toInt = 0 := by decide
  have kc1 : (1 : Int32).toInt = 1 := by decide
  have kc2 : (20000 : Int32).toInt = 20000 := by decide
  have k_43_13 := hts (.fieldLink RX7 113 "ArrayTrainer$Store" "looked" "I") (List.mem_cons_of_mem _ (wr43 _ (List.mem_of_getElem? (i := 13) rfl)))
  have k_43_14 := hts (.fieldLink RX7 116 "ArrayTrainer$Store" "lookedTooOften" "Z") (List.mem_cons_of_mem _ (wr43 _ (List.mem_of_getElem? (i := 14) rfl)))
  obtain ⟨H, hH⟩ : ∃ H : Heap, H = s.heap := ⟨_, rfl⟩
  obtain ⟨locs, hlc⟩ : ∃ L : List Loc, L = [] := ⟨_, rfl⟩
  have hP : va_P D vwCl (tw cs q v_t_tapeSize v_t_textSize v_t_faultKind a_t_tape a_t_text a_g_beyond v_g_size a_g_steps a_h_beyond v_h_size a_h_steps a_r_scratch a_r_now v_r_takes v_r_negative v_r_namePlace v_r_faultKind v_r_faultPlace v_a_size v_a_limit v_a_digits v_a_kind v_a_from v_a_to v_o_size a_o_out v_b_size v_b_limit v_b_digits v_b_kind v_b_from v_b_to a_u_atom a_u_other a_u_hand v_u_marksMade v_u_came v_u_guesses v_u_right v_u_taken a_u_vars a_u_marks a_u_outcomes a_u_indexes v_s_things v_s_looked v_s_lookedTooOften v_s_arraysMade v_s_cellsMade a_s_classes a_s_starts a_s_lengths a_s_cells a_L a_K a_vc a_vd a_si a_sj a_iv a_inn a_ac) H := by rw [hH]; exact hP
  have hS : va_S A s.heap H locs := by rw [hH, hlc]; exact hS
  refine wHL hH hlc ?_
  refine lv_aload_n hx hb dX7_mayLook_0 rfl (lv_at hl 0 rfl) ?_
  refine va_get (D := D) (ci := 6) (v := .int v_s_looked) (C := RX7) (T := TX7) (N := 9) hx hb hts hinX7 hown hK hP 17 rfl rfl 5 (by decide) k_43_13 (fun _ h9 => h9) rfl dX7_mayLook_1 ?_
  refine lv_sipush (v := 20000) hx hb dX7_mayLook_4 (by decide) ?_
  refine m_icmp_ne (X := v_s_looked.toInt) (Y := 20000) (tgt := 17) hx hb dX7_mayLook_7 (by decide) rfl (by decide) (fun c7 => ?_) (fun c7 => ?_)
  · skip
    refine lv_aload_n hx hb dX7_mayLook_17 rfl (lv_at hl 0 rfl) ?_
    refine lv_dup hx hb dX7_mayLook_18 rfl ?_
    refine va_get (D := D) (ci := 6) (v := .int v_s_looked) (C := RX7) (T := TX7) (N := 9) hx hb hts hinX7 hown hK hP 17 rfl rfl 5 (by decide) k_43_13 (fun _ h9 => h9) rfl dX7_mayLook_19 ?_
    refine lv_iconst (v := 1) hx hb dX7_mayLook_22 (by decide) ?_
    refine m_iadd (X := v_s_looked.toInt) (Y := 1) hx hb dX7_mayLook_23 rfl (by decide) (fun x23 e_x23 g9 => ?_)
    obtain ⟨k_x23, g_x23⟩ := g9
    have b_x23 := iB x23
    try (have q_x23 : x23.toInt = v_s_looked.toInt + 1 := (by omega); clear g_x23 k_x23)
    refine va_put (D := D) (ci := 6) (v := .int x23) (ty := .int) (C := RX7) (T := TX7) (N := 9) hx hb hts hinX7 tyX7 tyX7_ok nmX7 hown hK hP hD hS 17 rfl rfl 5 (by decide) k_43_13 (fun _ h9 => h9) rfl (by decide +kernel) rfl rfl (Nat.le_of_ble_eq_true rfl) dX7_mayLook_24 (fun H locs hP hD hS => ?_)
    have hP : va_P D vwCl (tw cs q v_t_tapeSize v_t_textSize v_t_faultKind a_t_tape a_t_text a_g_beyond v_g_size a_g_steps a_h_beyond v_h_size a_h_steps a_r_scratch a_r_now v_r_takes v_r_negative v_r_namePlace v_r_faultKind v_r_faultPlace v_a_size v_a_limit v_a_digits v_a_kind v_a_from v_a_to v_o_size a_o_out v_b_size v_b_limit v_b_digits v_b_kind v_b_from v_b_to a_u_atom a_u_other a_u_hand v_u_marksMade v_u_came v_u_guesses v_u_right v_u_taken a_u_vars a_u_marks a_u_outcomes a_u_indexes v_s_things x23 v_s_lookedTooOften v_s_arraysMade v_s_cellsMade a_s_classes a_s_starts a_s_lengths a_s_cells a_L a_K a_vc a_vd a_si a_sj a_iv a_inn a_ac) H := hP
    have hD : va_D A (tw cs q v_t_tapeSize v_t_textSize v_t_faultKind a_t_tape a_t_text a_g_beyond v_g_size a_g_steps a_h_beyond v_h_size a_h_steps a_r_scratch a_r_now v_r_takes v_r_negative v_r_namePlace v_r_faultKind v_r_faultPlace v_a_size v_a_limit v_a_digits v_a_kind v_a_from v_a_to v_o_size a_o_out v_b_size v_b_limit v_b_digits v_b_kind v_b_from v_b_to a_u_atom a_u_other a_u_hand v_u_marksMade v_u_came v_u_guesses v_u_right v_u_taken a_u_vars a_u_marks a_u_outcomes a_u_indexes v_s_things x23 v_s_lookedTooOften v_s_arraysMade v_s_cellsMade a_s_classes a_s_starts a_s_lengths a_s_cells a_L a_K a_vc a_vd a_si a_sj a_iv a_inn a_ac) := hD
    refine lv_iconst (v := 1) hx hb dX7_mayLook_27 (by decide) ?_
    subst hAe
    rw [hQ]
    exact W.zret (v := 1) hx hb hr (by decide) (fun t ht hW => ⟨⟨1, _, rfl, ⟨x23, v_s_lookedTooOften, rfl, by first | assumption | omega | (intros; omega) | decide⟩, by rw [ht]; exact hP, va_K.moved hW.alike hK, hD⟩, hS.F ht⟩) hS.2.2 dX7_mayLook_28
  · skip
    refine lv_aload_n hx hb dX7_mayLook_10 rfl (lv_at hl 0 rfl) ?_
    refine lv_iconst (v := 1) hx hb dX7_mayLook_11 (by decide) ?_
    refine va_put (D := D) (ci := 6) (v := .int 1) (ty := .boolean) (C := RX7) (T := TX7) (N := 9) hx hb hts hinX7 tyX7 tyX7_ok nmX7 hown hK hP hD hS 17 rfl rfl 6 (by decide) k_43_14 (fun _ h9 => h9) rfl (by decide +kernel) (by decide) (by decide) (Nat.le_of_ble_eq_true rfl) dX7_mayLook_12 (fun H locs hP hD hS => ?_)
    have hP : va_P D vwCl (tw cs q v_t_tapeSize v_t_textSize v_t_faultKind a_t_tape a_t_text a_g_beyond v_g_size a_g_steps a_h_beyond v_h_size a_h_steps a_r_scratch a_r_now v_r_takes v_r_negative v_r_namePlace v_r_faultKind v_r_faultPlace v_a_size v_a_limit v_a_digits v_a_kind v_a_from v_a_to v_o_size a_o_out v_b_size v_b_limit v_b_digits v_b_kind v_b_from v_b_to a_u_atom a_u_other a_u_hand v_u_marksMade v_u_came v_u_guesses v_u_right v_u_taken a_u_vars a_u_marks a_u_outcomes a_u_indexes v_s_things v_s_looked (1 : Int32) v_s_arraysMade v_s_cellsMade a_s_classes a_s_starts a_s_lengths a_s_cells a_L a_K a_vc a_vd a_si a_sj a_iv a_inn a_ac) H := hP
    have hD : va_D A (tw cs q v_t_tapeSize v_t_textSize v_t_faultKind a_t_tape a_t_text a_g_beyond v_g_size a_g_steps a_h_beyond v_h_size a_h_steps a_r_scratch a_r_now v_r_takes v_r_negative v_r_namePlace v_r_faultKind v_r_faultPlace v_a_size v_a_limit v_a_digits v_a_kind v_a_from v_a_to v_o_size a_o_out v_b_size v_b_limit v_b_digits v_b_kind v_b_from v_b_to a_u_atom a_u_other a_u_hand v_u_marksMade v_u_came v_u_guesses v_u_right v_u_taken a_u_vars a_u_marks a_u_outcomes a_u_indexes v_s_things v_s_looked (1 : Int32) v_s_arraysMade v_s_cellsMade a_s_classes a_s_starts a_s_lengths a_s_cells a_L a_K a_vc a_vd a_si a_sj a_iv a_inn a_ac) := hD
    refine lv_iconst (v := 0) hx hb dX7_mayLook_15 (by decide) ?_
    subst hAe
    rw [hQ]
    exact W.zret (v := 0) hx hb hr (by decide) (fun t ht hW => ⟨⟨0, _, rfl, ⟨v_s_looked, (1 : Int32), rfl, by first | assumption | omega | (intros; omega) | decide⟩, by rw [ht]; exact hP, va_K.moved hW.alike hK, hD⟩, hS.F ht⟩) hS.2.2 dX7_mayLook_16

def rmX7_hashDown_q0 : Room := { frames := 40, cells := 0, slots := 0, locals := 800 }
set_option maxHeartbeats 4000000 in
set_option maxRecDepth 100000 in
theorem tX7_hashDown_q0 {l : Launch} {D : va_G} {K : Nat → Nat → Nat} {cs : Nat → ClassId} {q : Nat → Nat} {v_t_tapeSize v_t_textSize v_t_faultKind v_g_size v_h_size v_r_takes v_r_negative v_r_namePlace v_r_faultKind v_r_faultPlace v_a_size v_a_limit v_a_digits v_a_kind v_a_from v_a_to v_o_size v_b_size v_b_limit v_b_digits v_b_kind v_b_from v_b_to v_u_marksMade v_u_came v_u_guesses v_u_right v_u_taken v_s_things v_s_looked v_s_lookedTooOften v_s_arraysMade v_s_cellsMade : Int32} {a_t_tape a_t_text a_o_out a_u_outcomes a_u_indexes a_s_classes a_s_starts a_s_lengths a_vc : Nat → Int32} {a_g_beyond a_h_beyond a_r_scratch a_r_now a_u_atom a_u_other a_u_hand : Nat} {a_g_steps a_h_steps a_u_vars a_u_marks : Nat → Option Nat} {a_s_cells a_vd a_sj : Nat → Int64} {a_L : List Nat} {a_K a_iv a_inn : Nat → Nat} {a_si a_ac : Nat → Nat → Int32} (g9 : Int32) (d9 : Int64) (e9 : Int32) (p_0 : STO v_s_things v_s_cellsMade a_s_starts a_s_lengths) (p_1 : 4 ≤ e9.toInt) (p_2 : e9.toInt ≤ 4) : CtI l yX7_hashDown (wG yX7_hashDown cX7_hashDown 9 (some .int)) rmX7_hashDown_q0 D (twT cs) K [.ref (q 17), .int g9, .long d9, .int e9] (tw cs q v_t_tapeSize v_t_textSize v_t_faultKind a_t_tape a_t_text a_g_beyond v_g_size a_g_steps a_h_beyond v_h_size a_h_steps a_r_scratch a_r_now v_r_takes v_r_negative v_r_namePlace v_r_faultKind v_r_faultPlace v_a_size v_a_limit v_a_digits v_a_kind v_a_from v_a_to v_o_size a_o_out v_b_size v_b_limit v_b_digits v_b_kind v_b_from v_b_to a_u_atom a_u_other a_u_hand v_u_marksMade v_u_came v_u_guesses v_u_right v_u_taken a_u_vars a_u_marks a_u_outcomes a_u_indexes v_s_things v_s_looked v_s_lookedTooOften v_s_arraysMade v_s_cellsMade a_s_classes a_s_starts a_s_lengths a_s_cells a_L a_K a_vc a_vd a_si a_sj a_iv a_inn a_ac) (fun r w1 => w1 = (tw cs q v_t_tapeSize v_t_textSize v_t_faultKind a_t_tape a_t_text a_g_beyond v_g_size a_g_steps a_h_beyond v_h_size a_h_steps a_r_scratch a_r_now v_r_takes v_r_negative v_r_namePlace v_r_faultKind v_r_faultPlace v_a_size v_a_limit v_a_digits v_a_kind v_a_from v_a_to v_o_size a_o_out v_b_size v_b_limit v_b_digits v_b_kind v_b_from v_b_to a_u_atom a_u_other a_u_hand v_u_marksMade v_u_came v_u_guesses v_u_right v_u_taken a_u_vars a_u_marks a_u_outcomes a_u_indexes v_s_things v_s_looked v_s_lookedTooOften v_s_arraysMade v_s_cellsMade a_s_classes a_s_starts a_s_lengths a_s_cells a_L a_K a_vc a_vd a_si a_sj a_iv a_inn a_ac)) 0 0 := by
  intro sz
  refine Met.ofW (cc := cX7_hashDown) (maxL := 9) (ret := (some .int)) (by decide) rfl ?_
  intro p e s m args below meth c s₁ B hml hv
  obtain ⟨rfl, hsz, hP, hK, hD0, hE⟩ := hv
  have hx := B.exec
  have hb := B.bytes
  have hr := B.returns
  have hts := atoms_spec (ws := (wG yX7_hashDown cX7_hashDown 9 (some .int))) B.pre
  have hown : s.vm.findClass RX7 = some m.cls := findClass_of_methodNamed B.named
  have hlocks := B.notSynchronized
  subst hsz
  have hD := hD0.self (sz := s.heap.size)
  obtain ⟨A, hAe⟩ : ∃ A : Nat → Prop, A = va_A (tw cs q v_t_tapeSize v_t_textSize v_t_faultKind a_t_tape a_t_text a_g_beyond v_g_size a_g_steps a_h_beyond v_h_size a_h_steps a_r_scratch a_r_now v_r_takes v_r_negative v_r_namePlace v_r_faultKind v_r_faultPlace v_a_size v_a_limit v_a_digits v_a_kind v_a_from v_a_to v_o_size a_o_out v_b_size v_b_limit v_b_digits v_b_kind v_b_from v_b_to a_u_atom a_u_other a_u_hand v_u_marksMade v_u_came v_u_guesses v_u_right v_u_taken a_u_vars a_u_marks a_u_outcomes a_u_indexes v_s_things v_s_looked v_s_lookedTooOften v_s_arraysMade v_s_cellsMade a_s_classes a_s_starts a_s_lengths a_s_cells a_L a_K a_vc a_vd a_si a_sj a_iv a_inn a_ac) s.heap.size := ⟨_, rfl⟩
  rw [← hAe] at hD hE
  have hA : ∀ q : Nat, s.heap.size ≤ q → A q := fun q h => by rw [hAe]; exact Or.inr h
  have hS : va_S A s.heap s.heap [] := va_S.rf
  have hl := lv_entry ([.ref (q 17), .int g9, .long d9, .int e9]) (n := 9) (Nat.le_of_ble_eq_true rfl)
  rw [lg_entry_eq]
  generalize (lg_sl ([.ref (q 17), .int g9, .long d9, .int e9]) ++ List.replicate (9 - (lg_sl ([.ref (q 17), .int g9, .long d9, .int e9])).length) Slot.unset).toArray = ls at hl ⊢
  have hl : lv_has ls 9 [(0, .ref (q 17)), (1, .int g9), (2, .long d9), (4, .int e9)] := hl
  refine wq (fun Q hQ => ?_)
  have kc0 : (-1 : Int32).toInt = -1 := by decide
  have kc1 : (0 : Int32).toInt = 0 := by decide
  have kc2 : (3 : Int32).toInt = 3 := by decide
  have kc3 : (20 : Int32).toInt = 20 := by decide
  have kc4 : (32 : Int32).toInt = 32 := by decide
  obtain ⟨H, hH⟩ : ∃ H : Heap, H = s.heap := ⟨_, rfl⟩
  obtain ⟨locs, hlc⟩ : ∃ L : List Loc, L = [] := ⟨_, rfl⟩
  have hP : va_P D vwCl (tw cs q v_t_tapeSize v_t_textSize v_t_faultKind a_t_tape a_t_text a_g_beyond v_g_size a_g_steps a_h_beyond v_h_size a_h_steps a_r_scratch a_r_now v_r_takes v_r_negative v_r_namePlace v_r_faultKind v_r_faultPlace v_a_size v_a_limit v_a_digits v_a_kind v_a_from v_a_to v_o_size a_o_out v_b_size v_b_limit v_b_digits v_b_kind v_b_from v_b_to a_u_atom a_u_other a_u_hand v_u_marksMade v_u_came v_u_guesses v_u_right v_u_taken a_u_vars a_u_marks a_u_outcomes a_u_indexes v_s_things v_s_looked v_s_lookedTooOften v_s_arraysMade v_s_cellsMade a_s_classes a_s_starts a_s_lengths a_s_cells a_L a_K a_vc a_vd a_si a_sj a_iv a_inn a_ac) H := by rw [hH]; exact hP
  have hS : va_S A s.heap H locs := by rw [hH, hlc]; exact hS
  refine wHL hH hlc ?_
  have b_g9 := iB g9
  have b_d9 := jB d9
  have b_e9 := iB e9
  refine lv_iload_n hx hb dX7_hashDown_0 rfl (lv_at hl 1 rfl) ?_
  refine lv_iconst (v := (-1)) hx hb dX7_hashDown_1 (by decide) ?_
  refine m_icmp_ne (X := g9.toInt) (Y := (-1)) (tgt := 7) hx hb dX7_hashDown_2 (by decide) rfl (by decide) (fun c2 => ?_) (fun c2 => ?_)
  · skip
    refine lv_iload_n hx hb dX7_hashDown_7 rfl (lv_at hl 1 rfl) ?_
    refine call_iSP (As := [.int g9]) (rest := []) ⟨hx, hb, hml, hown, hts⟩ (tX0_isNumber (l := l) g9) (va_cwS 1 hts (gS (wr43 _ (List.mem_of_getElem? (i := 19) rfl)) (wr19 _ (List.mem_of_getElem? (i := 17) rfl)) (wr19 _ (List.mem_of_getElem? (i := 5) rfl)) (wr19 _ (List.mem_of_getElem? (i := 18) rfl))) rfl rfl rfl (by decide +kernel) ⟨Nat.le_of_ble_eq_true rfl, Nat.le_of_ble_eq_true rfl⟩) (hK.sub [] rfl) hP hD hE hS hA rfl hl.1 rfl (Nat.le_of_ble_eq_true rfl) dX7_hashDown_8 ⟨Nat.le_of_ble_eq_true rfl, Nat.le_of_ble_eq_true rfl⟩ (fun r8 w9 H locs hw8 hP hD hS => ?_)
    obtain ⟨rfl, hw8_0⟩ := hw8
    have b_r8 := iB r8
    refine m_if_eq (X := r8.toInt) (tgt := 22) hx hb dX7_hashDown_11 (by decide) rfl (fun c11 => ?_) (fun c11 => ?_)
    · skip
      refine lv_iload_n hx hb dX7_hashDown_22 rfl (lv_at hl 1 rfl) ?_
      refine lv_bipush (v := 20) hx hb dX7_hashDown_23 (by decide) ?_
      refine m_icmp_lt (X := g9.toInt) (Y := 20) (tgt := 34) hx hb dX7_hashDown_25 (by decide) rfl (by decide) (fun c25 => ?_) (fun c25 => ?_)
      · skip
        refine lv_iload_n hx hb dX7_hashDown_34 rfl (lv_at hl 1 rfl) ?_
        subst hAe
        rw [hQ]
        exact W.iret (v := g9) hx hb hr (fun t ht hW => ⟨⟨g9, _, rfl, rfl, by rw [ht]; exact hP, va_K.moved hW.alike hK, hD⟩, hS.F ht⟩) hS.2.2 dX7_hashDown_35
      · skip
        refine lv_iload hx hb dX7_hashDown_28 (lv_at hl 3 rfl) ?_
        refine lv_iconst (v := 3) hx hb dX7_hashDown_30 (by decide) ?_
        refine m_icmp_le (X := e9.toInt) (Y := 3) (tgt := 36) hx hb dX7_hashDown_31 (by decide) rfl (by decide) (fun c31 => ?_) (fun c31 => ?_)
        · skip
          exfalso
          omega
        · skip
          refine lv_iload_n hx hb dX7_hashDown_34 rfl (lv_at hl 1 rfl) ?_
          subst hAe
          rw [hQ]
          exact W.iret (v := g9) hx hb hr (fun t ht hW => ⟨⟨g9, _, rfl, rfl, by rw [ht]; exact hP, va_K.moved hW.alike hK, hD⟩, hS.F ht⟩) hS.2.2 dX7_hashDown_35
    · skip
      refine lv_lload_n hx hb dX7_hashDown_14 rfl (lv_at hl 2 rfl) ?_
      refine lv_lload_n hx hb dX7_hashDown_15 rfl (lv_at hl 2 rfl) ?_
      refine lv_bipush (v := 32) hx hb dX7_hashDown_16 (by decide) ?_
      refine m_lushr hx hb dX7_hashDown_18 (fun x18 e_x18 => ?_)
      have b_x18 := jB x18
      refine m_lxor hx hb dX7_hashDown_19 (fun x19 e_x19 => ?_)
      have b_x19 := jB x19
      refine m_l2i hx hb dX7_hashDown_20 (fun x20 e_x20 => ?_)
      have b_x20 := iB x20
      subst hAe
      rw [hQ]
      exact W.iret (v := x20) hx hb hr (fun t ht hW => ⟨⟨x20, _, rfl, rfl, by rw [ht]; exact hP, va_K.moved hW.alike hK, hD⟩, hS.F ht⟩) hS.2.2 dX7_hashDown_21
  · skip
    refine lv_iconst (v := 0) hx hb dX7_hashDown_5 (by decide) ?_
    subst hAe
    rw [hQ]
    exact W.iret (v := 0) hx hb hr (fun t ht hW => ⟨⟨0, _, rfl, rfl, by rw [ht]; exact hP, va_K.moved hW.alike hK, hD⟩, hS.F ht⟩) hS.2.2 dX7_hashDown_6

def rmX7_hashDown_q1 : Room := { frames := 60, cells := 0, slots := 0, locals := 1200 }
set_option maxHeartbeats 4000000 in
set_option maxRecDepth 100000 in
theorem tX7_hashDown_q1 {l : Launch} {D : va_G} {K : Nat → Nat → Nat} {cs : Nat → ClassId} {q : Nat → Nat} {v_t_tapeSize v_t_textSize v_t_faultKind v_g_size v_h_size v_r_takes v_r_negative v_r_namePlace v_r_faultKind v_r_faultPlace v_a_size v_a_limit v_a_digits v_a_kind v_a_from v_a_to v_o_size v_b_size v_b_limit v_b_digits v_b_kind v_b_from v_b_to v_u_marksMade v_u_came v_u_guesses v_u_right v_u_taken v_s_things v_s_looked v_s_lookedTooOften v_s_arraysMade v_s_cellsMade : Int32} {a_t_tape a_t_text a_o_out a_u_outcomes a_u_indexes a_s_classes a_s_starts a_s_lengths a_vc : Nat → Int32} {a_g_beyond a_h_beyond a_r_scratch a_r_now a_u_atom a_u_other a_u_hand : Nat} {a_g_steps a_h_steps a_u_vars a_u_marks : Nat → Option Nat} {a_s_cells a_vd a_sj : Nat → Int64} {a_L : List Nat} {a_K a_iv a_inn : Nat → Nat} {a_si a_ac : Nat → Nat → Int32} (g9 : Int32) (d9 : Int64) (e9 : Int32) (p_0 : STO v_s_things v_s_cellsMade a_s_starts a_s_lengths) (p_1 : 3 ≤ e9.toInt) (p_2 : e9.toInt ≤ 4) : CtI l yX7_hashDown (wG yX7_hashDown cX7_hashDown 9 (some .int)) rmX7_hashDown_q1 D (twT cs) K [.ref (q 17), .int g9, .long d9, .int e9] (tw cs q v_t_tapeSize v_t_textSize v_t_faultKind a_t_tape a_t_text a_g_beyond v_g_size a_g_steps a_h_beyond v_h_size a_h_steps a_r_scratch a_r_now v_r_takes v_r_negative v_r_namePlace v_r_faultKind v_r_faultPlace v_a_size v_a_limit v_a_digits v_a_kind v_a_from v_a_to v_o_size a_o_out v_b_size v_b_limit v_b_digits v_b_kind v_b_from v_b_to a_u_atom a_u_other a_u_hand v_u_marksMade v_u_came v_u_guesses v_u_right v_u_taken a_u_vars a_u_marks a_u_outcomes a_u_indexes v_s_things v_s_looked v_s_lookedTooOften v_s_arraysMade v_s_cellsMade a_s_classes a_s_starts a_s_lengths a_s_cells a_L a_K a_vc a_vd a_si a_sj a_iv a_inn a_ac) (fun r w1 => ∃ (v_s_looked' : Int32) (v_s_lookedTooOften' : Int32), w1 = (tw cs q v_t_tapeSize v_t_textSize v_t_faultKind a_t_tape a_t_text a_g_beyond v_g_size a_g_steps a_h_beyond v_h_size a_h_steps a_r_scratch a_r_now v_r_takes v_r_negative v_r_namePlace v_r_faultKind v_r_faultPlace v_a_size v_a_limit v_a_digits v_a_kind v_a_from v_a_to v_o_size a_o_out v_b_size v_b_limit v_b_digits v_b_kind v_b_from v_b_to a_u_atom a_u_other a_u_hand v_u_marksMade v_u_came v_u_guesses v_u_right v_u_taken a_u_vars a_u_marks a_u_outcomes a_u_indexes v_s_things v_s_looked' v_s_lookedTooOften' v_s_arraysMade v_s_cellsMade a_s_classes a_s_starts a_s_lengths a_s_cells a_L a_K a_vc a_vd a_si a_sj a_iv a_inn a_ac)) 0 0 := by
  intro sz
  refine Met.ofW (cc := cX7_hashDown) (maxL := 9) (ret := (some .int)) (by decide) rfl ?_
  intro p e s m args below meth c s₁ B hml hv
  obtain ⟨rfl, hsz, hP, hK, hD0, hE⟩ := hv
  have hx := B.exec
  have hb := B.bytes
  have hr := B.returns
  have hts := atoms_spec (ws := (wG yX7_hashDown cX7_hashDown 9 (some .int))) B.pre
  have hown : s.vm.findClass RX7 = some m.cls := findClass_of_methodNamed B.named
  have hlocks := B.notSynchronized
  subst hsz
  have hD := hD0.self (sz := s.heap.size)
  obtain ⟨A, hAe⟩ : ∃ A : Nat → Prop, A = va_A (tw cs q v_t_tapeSize v_t_textSize v_t_faultKind a_t_tape a_t_text a_g_beyond v_g_size a_g_steps a_h_beyond v_h_size a_h_steps a_r_scratch a_r_now v_r_takes v_r_negative v_r_namePlace v_r_faultKind v_r_faultPlace v_a_size v_a_limit v_a_digits v_a_kind v_a_from v_a_to v_o_size a_o_out v_b_size v_b_limit v_b_digits v_b_kind v_b_from v_b_to a_u_atom a_u_other a_u_hand v_u_marksMade v_u_came v_u_guesses v_u_right v_u_taken a_u_vars a_u_marks a_u_outcomes a_u_indexes v_s_things v_s_looked v_s_lookedTooOften v_s_arraysMade v_s_cellsMade a_s_classes a_s_starts a_s_lengths a_s_cells a_L a_K a_vc a_vd a_si a_sj a_iv a_inn a_ac) s.heap.size := ⟨_, rfl⟩
  rw [← hAe] at hD hE
  have hA : ∀ q : Nat, s.heap.size ≤ q → A q := fun q h => by rw [hAe]; exact Or.inr h
  have hS : va_S A s.heap s.heap [] := va_S.rf
  have hl := lv_entry ([.ref (q 17), .int g9, .long d9, .int e9]) (n := 9) (Nat.le_of_ble_eq_true rfl)
  rw [lg_entry_eq]
  generalize (lg_sl ([.ref (q 17), .int g9, .long d9, .int e9]) ++ List.replicate (9 - (lg_sl ([.ref (q 17), .int g9, .long d9, .int e9])).length) Slot.unset).toArray = ls at hl ⊢
  have hl : lv_has ls 9 [(0, .ref (q 17)), (1, .int g9), (2, .long d9), (4, .int e9)] := hl
  refine wq (fun Q hQ => ?_)
  have kc0 : (-1 : Int32).toInt = -1 := by decide
  have kc1 : (0 : Int32).toInt = 0 := by decide
  have kc2 : (1 : Int32).toInt = 1 := by decide
  have kc3 : (3 : Int32).toInt = 3 := by decide
  have kc4 : (20 : Int32).toInt = 20 := by decide
  have kc5 : (31 : Int32).toInt = 31 := by decide
  have kc6 : (32 : Int32).toInt = 32 := by decide
  obtain ⟨H, hH⟩ : ∃ H : Heap, H = s.heap := ⟨_, rfl⟩
  obtain ⟨locs, hlc⟩ : ∃ L : List Loc, L = [] := ⟨_, rfl⟩
  have hP : va_P D vwCl (tw cs q v_t_tapeSize v_t_textSize v_t_faultKind a_t_tape a_t_text a_g_beyond v_g_size a_g_steps a_h_beyond v_h_size a_h_steps a_r_scratch a_r_now v_r_takes v_r_negative v_r_namePlace v_r_faultKind v_r_faultPlace v_a_size v_a_limit v_a_digits v_a_kind v_a_from v_a_to v_o_size a_o_out v_b_size v_b_limit v_b_digits v_b_kind v_b_from v_b_to a_u_atom a_u_other a_u_hand v_u_marksMade v_u_came v_u_guesses v_u_right v_u_taken a_u_vars a_u_marks a_u_outcomes a_u_indexes v_s_things v_s_looked v_s_lookedTooOften v_s_arraysMade v_s_cellsMade a_s_classes a_s_starts a_s_lengths a_s_cells a_L a_K a_vc a_vd a_si a_sj a_iv a_inn a_ac) H := by rw [hH]; exact hP
  have hS : va_S A s.heap H locs := by rw [hH, hlc]; exact hS
  refine wHL hH hlc ?_
  have b_g9 := iB g9
  have b_d9 := jB d9
  have b_e9 := iB e9
  refine lv_iload_n hx hb dX7_hashDown_0 rfl (lv_at hl 1 rfl) ?_
  refine lv_iconst (v := (-1)) hx hb dX7_hashDown_1 (by decide) ?_
  refine m_icmp_ne (X := g9.toInt) (Y := (-1)) (tgt := 7) hx hb dX7_hashDown_2 (by decide) rfl (by decide) (fun c2 => ?_) (fun c2 => ?_)
  · skip
    refine lv_iload_n hx hb dX7_hashDown_7 rfl (lv_at hl 1 rfl) ?_
    refine call_iSP (As := [.int g9]) (rest := []) ⟨hx, hb, hml, hown, hts⟩ (tX0_isNumber (l := l) g9) (va_cwS 1 hts (gS (wr43 _ (List.mem_of_getElem? (i := 19) rfl)) (wr19 _ (List.mem_of_getElem? (i := 17) rfl)) (wr19 _ (List.mem_of_getElem? (i := 5) rfl)) (wr19 _ (List.mem_of_getElem? (i := 18) rfl))) rfl rfl rfl (by decide +kernel) ⟨Nat.le_of_ble_eq_true rfl, Nat.le_of_ble_eq_true rfl⟩) (hK.sub [] rfl) hP hD hE hS hA rfl hl.1 rfl (Nat.le_of_ble_eq_true rfl) dX7_hashDown_8 ⟨Nat.le_of_ble_eq_true rfl, Nat.le_of_ble_eq_true rfl⟩ (fun r8 w9 H locs hw8 hP hD hS => ?_)
    obtain ⟨rfl, hw8_0⟩ := hw8
    have b_r8 := iB r8
    refine m_if_eq (X := r8.toInt) (tgt := 22) hx hb dX7_hashDown_11 (by decide) rfl (fun c11 => ?_) (fun c11 => ?_)
    · skip
      refine lv_iload_n hx hb dX7_hashDown_22 rfl (lv_at hl 1 rfl) ?_
      refine lv_bipush (v := 20) hx hb dX7_hashDown_23 (by decide) ?_
      refine m_icmp_lt (X := g9.toInt) (Y := 20) (tgt := 34) hx hb dX7_hashDown_25 (by decide) rfl (by decide) (fun c25 => ?_) (fun c25 => ?_)
      · skip
        refine lv_iload_n hx hb dX7_hashDown_34 rfl (lv_at hl 1 rfl) ?_
        subst hAe
        rw [hQ]
        exact W.iret (v := g9) hx hb hr (fun t ht hW => ⟨⟨g9, _, rfl, ⟨v_s_looked, v_s_lookedTooOften, rfl⟩, by rw [ht]; exact hP, va_K.moved hW.alike hK, hD⟩, hS.F ht⟩) hS.2.2 dX7_hashDown_35
      · skip
        refine lv_iload hx hb dX7_hashDown_28 (lv_at hl 3 rfl) ?_
        refine lv_iconst (v := 3) hx hb dX7_hashDown_30 (by decide) ?_
        refine m_icmp_le (X := e9.toInt) (Y := 3) (tgt := 36) hx hb dX7_hashDown_31 (by decide) rfl (by decide) (fun c31 => ?_) (fun c31 => ?_)
        · skip
          refine lv_lload_n hx hb dX7_hashDown_36 rfl (lv_at hl 2 rfl) ?_
          refine m_l2i hx hb dX7_hashDown_37 (fun x37 e_x37 => ?_)
          have b_x37 := iB x37
          refine lv_istore (lv' := [(5, .int x37), (0, .ref (q 17)), (1, .int g9), (2, .long d9), (4, .int e9)]) hx hb dX7_hashDown_38 hl (by decide) rfl (fun ls hl => ?_)
          refine lv_aload_n hx hb dX7_hashDown_40 rfl (lv_at hl 1 rfl) ?_
          refine lv_iload hx hb dX7_hashDown_41 (lv_at hl 0 rfl) ?_
          refine call_i (As := [.int x37]) (rest := []) ⟨hx, hb, hml, hown, hts⟩ (tX7_lengthOf (l := l) x37 (by first | assumption | omega | (intros; omega) | decide)) (cwV 1 hts (gV (wr43 _ (List.mem_of_getElem? (i := 20) rfl)) (wr41 _ (List.mem_of_getElem? (i := 20) rfl)) (wr41 _ (List.mem_of_getElem? (i := 21) rfl)) (wr4 _ (List.mem_of_getElem? (i := 3) rfl)) (wr41 _ (List.mem_of_getElem? (i := 22) rfl))) rfl rfl rfl (by decide +kernel) ⟨Nat.le_of_ble_eq_true rfl, Nat.le_of_ble_eq_true rfl⟩) (va_recv hK hP (ci := 6) (q0 := 17) rfl rfl) hK hP hD hE hS hA rfl hl.1 rfl (Nat.le_of_ble_eq_true rfl) dX7_hashDown_43 ⟨Nat.le_of_ble_eq_true rfl, Nat.le_of_ble_eq_true rfl⟩ (fun r43 w9 H locs hw43 hP hD hS => ?_)
          obtain ⟨rfl, hw43_0, hw43_1, hw43_2⟩ := hw43
          have b_r43 := iB r43
          refine lv_istore (lv' := [(6, .int r43), (5, .int x37), (0, .ref (q 17)), (1, .int g9), (2, .long d9), (4, .int e9)]) hx hb dX7_hashDown_46 hl (by decide) rfl (fun ls hl => ?_)
          refine lv_iload_n hx hb dX7_hashDown_48 rfl (lv_at hl 3 rfl) ?_
          refine lv_istore (lv' := [(7, .int g9), (6, .int r43), (5, .int x37), (0, .ref (q 17)), (1, .int g9), (2, .long d9), (4, .int e9)]) hx hb dX7_hashDown_49 hl (by decide) rfl (fun ls hl => ?_)
          refine lv_iconst (v := 0) hx hb dX7_hashDown_51 (by decide) ?_
          refine lv_istore (lv' := [(8, .int 0), (7, .int g9), (6, .int r43), (5, .int x37), (0, .ref (q 17)), (1, .int g9), (2, .long d9), (4, .int e9)]) hx hb dX7_hashDown_52 hl (by decide) rfl (fun ls hl => ?_)
          have J54 : ∀ (n54 : Nat) (l7_54 : Int32) (l8_54 : Int32) (v_s_looked_54 : Int32) (v_s_lookedTooOften_54 : Int32) (H : Heap) (locs : List Loc) (ls : Array Slot), (0 ≤ l8_54.toInt) → (l8_54.toInt ≤ 4000) → (4000 - l8_54.toInt < (n54 : Int)) → va_P D vwCl (tw cs q v_t_tapeSize v_t_textSize v_t_faultKind a_t_tape a_t_text a_g_beyond v_g_size a_g_steps a_h_beyond v_h_size a_h_steps a_r_scratch a_r_now v_r_takes v_r_negative v_r_namePlace v_r_faultKind v_r_faultPlace v_a_size v_a_limit v_a_digits v_a_kind v_a_from v_a_to v_o_size a_o_out v_b_size v_b_limit v_b_digits v_b_kind v_b_from v_b_to a_u_atom a_u_other a_u_hand v_u_marksMade v_u_came v_u_guesses v_u_right v_u_taken a_u_vars a_u_marks a_u_outcomes a_u_indexes v_s_things v_s_looked_54 v_s_lookedTooOften_54 v_s_arraysMade v_s_cellsMade a_s_classes a_s_starts a_s_lengths a_s_cells a_L a_K a_vc a_vd a_si a_sj a_iv a_inn a_ac) H → va_D A (tw cs q v_t_tapeSize v_t_textSize v_t_faultKind a_t_tape a_t_text a_g_beyond v_g_size a_g_steps a_h_beyond v_h_size a_h_steps a_r_scratch a_r_now v_r_takes v_r_negative v_r_namePlace v_r_faultKind v_r_faultPlace v_a_size v_a_limit v_a_digits v_a_kind v_a_from v_a_to v_o_size a_o_out v_b_size v_b_limit v_b_digits v_b_kind v_b_from v_b_to a_u_atom a_u_other a_u_hand v_u_marksMade v_u_came v_u_guesses v_u_right v_u_taken a_u_vars a_u_marks a_u_outcomes a_u_indexes v_s_things v_s_looked_54 v_s_lookedTooOften_54 v_s_arraysMade v_s_cellsMade a_s_classes a_s_starts a_s_lengths a_s_cells a_L a_K a_vc a_vd a_si a_sj a_iv a_inn a_ac) → va_S A s.heap H locs → lv_has ls 9 [(0, .ref (q 17)), (4, .int e9), (5, .int x37), (6, .int r43), (7, .int l7_54), (8, .int l8_54)] → W p l e (headSpec (wG yX7_hashDown cX7_hashDown 9 (some .int)) rmX7_hashDown_q1).room s m ([.ref (q 17), .int g9, .long d9, .int e9] : List Value).toArray below meth c H locs 0 0 Q (F0 m 54 ls []) := by
            intro n54
            induction n54 with
            | zero =>
              intro l7_54 l8_54 v_s_looked_54 v_s_lookedTooOften_54 H locs ls f54_0 f54_1 hm54
              exfalso
              omega
            | succ n54 ih54 =>
              intro l7_54 l8_54 v_s_looked_54 v_s_lookedTooOften_54 H locs ls f54_0 f54_1 hm54 hP hD hS hl
              refine lv_iload hx hb dX7_hashDown_54 (lv_at hl 5 rfl) ?_
              refine lv_iload hx hb dX7_hashDown_56 (lv_at hl 3 rfl) ?_
              refine m_icmp_ge (X := l8_54.toInt) (Y := r43.toInt) (tgt := 106) hx hb dX7_hashDown_58 (by decide) rfl rfl (fun c58 => ?_) (fun c58 => ?_)
              · skip
                refine lv_iload hx hb dX7_hashDown_106 (lv_at hl 4 rfl) ?_
                subst hAe
                rw [hQ]
                exact W.iret (v := l7_54) hx hb hr (fun t ht hW => ⟨⟨l7_54, _, rfl, ⟨v_s_looked_54, v_s_lookedTooOften_54, rfl⟩, by rw [ht]; exact hP, va_K.moved hW.alike hK, hD⟩, hS.F ht⟩) hS.2.2 dX7_hashDown_108
              · skip
                refine lv_aload_n hx hb dX7_hashDown_61 rfl (lv_at hl 0 rfl) ?_
                refine call_i (As := []) (rest := []) ⟨hx, hb, hml, hown, hts⟩ (tX7_mayLook (l := l) ) (cwV 0 hts (gV (wr43 _ (List.mem_of_getElem? (i := 21) rfl)) (wr43 _ (List.mem_of_getElem? (i := 22) rfl)) (wr43 _ (List.mem_of_getElem? (i := 23) rfl)) (wr4 _ (List.mem_of_getElem? (i := 3) rfl)) (wr44 _ (List.mem_of_getElem? (i := 0) rfl))) rfl rfl rfl (by decide +kernel) ⟨Nat.le_of_ble_eq_true rfl, Nat.le_of_ble_eq_true rfl⟩) (va_recv hK hP (ci := 6) (q0 := 17) rfl rfl) hK hP hD hE hS hA rfl hl.1 rfl (Nat.le_of_ble_eq_true rfl) dX7_hashDown_62 ⟨Nat.le_of_ble_eq_true rfl, Nat.le_of_ble_eq_true rfl⟩ (fun r62 w9 H locs hw62 hP hD hS => ?_)
                obtain ⟨v_s_looked_62, v_s_lookedTooOften_62, rfl, hw62_0⟩ := hw62
                have b_v_s_looked_62 := iB v_s_looked_62
                have b_v_s_lookedTooOften_62 := iB v_s_lookedTooOften_62
                have b_r62 := iB r62
                refine m_if_eq (X := r62.toInt) (tgt := 106) hx hb dX7_hashDown_65 (by decide) rfl (fun c65 => ?_) (fun c65 => ?_)
                · skip
                  refine lv_iload hx hb dX7_hashDown_106 (lv_at hl 4 rfl) ?_
                  subst hAe
                  rw [hQ]
                  exact W.iret (v := l7_54) hx hb hr (fun t ht hW => ⟨⟨l7_54, _, rfl, ⟨v_s_looked_62, v_s_lookedTooOften_62, rfl⟩, by rw [ht]; exact hP, va_K.moved hW.alike hK, hD⟩, hS.F ht⟩) hS.2.2 dX7_hashDown_108
                · skip
                  refine lv_bipush (v := 31) hx hb dX7_hashDown_68 (by decide) ?_
                  refine lv_iload hx hb dX7_hashDown_70 (lv_at hl 4 rfl) ?_
                  refine m_imul (X := 31) (Y := l7_54.toInt) hx hb dX7_hashDown_72 (by decide) rfl (fun x72 e_x72 g9 => ?_)
                  obtain ⟨k_x72, g_x72⟩ := g9
                  have b_x72 := iB x72
                  try (have q_x72 : x72.toInt = 31 * l7_54.toInt := (by omega); clear g_x72 k_x72)
                  refine lv_aload_n hx hb dX7_hashDown_73 rfl (lv_at hl 0 rfl) ?_
                  refine lv_aload_n hx hb dX7_hashDown_74 rfl (lv_at hl 0 rfl) ?_
                  refine lv_iload hx hb dX7_hashDown_75 (lv_at hl 2 rfl) ?_
                  refine lv_iload hx hb dX7_hashDown_77 (lv_at hl 5 rfl) ?_
                  refine call_i (As := [.int x37, .int l8_54]) (rest := [.ref (q 17), .int x72]) ⟨hx, hb, hml, hown, hts⟩ (tX7_cellClass (l := l) x37 l8_54 (by first | assumption | omega | (intros; omega) | decide)) (cwV 2 hts (gV (wr38 _ (List.mem_of_getElem? (i := 20) rfl)) (wr38 _ (List.mem_of_getElem? (i := 21) rfl)) (wr38 _ (List.mem_of_getElem? (i := 22) rfl)) (wr4 _ (List.mem_of_getElem? (i := 3) rfl)) (wr38 _ (List.mem_of_getElem? (i := 23) rfl))) rfl rfl rfl (by decide +kernel) ⟨Nat.le_of_ble_eq_true rfl, Nat.le_of_ble_eq_true rfl⟩) (va_recv hK hP (ci := 6) (q0 := 17) rfl rfl) hK hP hD hE hS hA rfl hl.1 rfl (Nat.le_of_ble_eq_true rfl) dX7_hashDown_79 ⟨Nat.le_of_ble_eq_true rfl, Nat.le_of_ble_eq_true rfl⟩ (fun r79 w9 H locs hw79 hP hD hS => ?_)
                  obtain ⟨rfl⟩ := hw79
                  have b_r79 := iB r79
                  refine lv_aload_n hx hb dX7_hashDown_82 rfl (lv_at hl 0 rfl) ?_
                  refine lv_iload hx hb dX7_hashDown_83 (lv_at hl 2 rfl) ?_
                  refine lv_iload hx hb dX7_hashDown_85 (lv_at hl 5 rfl) ?_
                  refine call_j (As := [.int x37, .int l8_54]) (rest := [.int r79, .ref (q 17), .int x72]) ⟨hx, hb, hml, hown, hts⟩ (tX7_cellDatum (l := l) x37 l8_54 (by first | assumption | omega | (intros; omega) | decide)) (cwV 2 hts (gV (wr39 _ (List.mem_of_getElem? (i := 0) rfl)) (wr39 _ (List.mem_of_getElem? (i := 1) rfl)) (wr39 _ (List.mem_of_getElem? (i := 2) rfl)) (wr4 _ (List.mem_of_getElem? (i := 3) rfl)) (wr39 _ (List.mem_of_getElem? (i := 3) rfl))) rfl rfl rfl (by decide +kernel) ⟨Nat.le_of_ble_eq_true rfl, Nat.le_of_ble_eq_true rfl⟩) (va_recv hK hP (ci := 6) (q0 := 17) rfl rfl) hK hP hD hE hS hA rfl hl.1 rfl (Nat.le_of_ble_eq_true rfl) dX7_hashDown_87 ⟨Nat.le_of_ble_eq_true rfl, Nat.le_of_ble_eq_true rfl⟩ (fun r87 w9 H locs hw87 hP hD hS => ?_)
                  obtain ⟨rfl⟩ := hw87
                  have b_r87 := jB r87
                  refine lv_iload hx hb dX7_hashDown_90 (lv_at hl 1 rfl) ?_
                  refine lv_iconst (v := 1) hx hb dX7_hashDown_92 (by decide) ?_
                  refine m_iadd (X := e9.toInt) (Y := 1) hx hb dX7_hashDown_93 rfl (by decide) (fun x93 e_x93 g9 => ?_)
                  obtain ⟨k_x93, g_x93⟩ := g9
                  have b_x93 := iB x93
                  try (have q_x93 : x93.toInt = e9.toInt + 1 := (by omega); clear g_x93 k_x93)
                  refine call_i (As := [.int r79, .long r87, .int x93]) (rest := [.int x72]) ⟨hx, hb, hml, hown, hts⟩ (tX7_hashDown_q0 (l := l) r79 r87 x93 (by first | assumption | omega | (intros; omega) | decide) (by first | assumption | omega | (intros; omega) | decide) (by first | assumption | omega | (intros; omega) | decide)) (cwV 3 hts (gV (wr43 _ (List.mem_of_getElem? (i := 15) rfl)) (wr43 _ (List.mem_of_getElem? (i := 16) rfl)) (wr43 _ (List.mem_of_getElem? (i := 17) rfl)) (wr4 _ (List.mem_of_getElem? (i := 3) rfl)) (wr43 _ (List.mem_of_getElem? (i := 18) rfl))) rfl rfl rfl (by decide +kernel) ⟨Nat.le_of_ble_eq_true rfl, Nat.le_of_ble_eq_true rfl⟩) (va_recv hK hP (ci := 6) (q0 := 17) rfl rfl) hK hP hD hE hS hA rfl hl.1 rfl (Nat.le_of_ble_eq_true rfl) dX7_hashDown_94 ⟨Nat.le_of_ble_eq_true rfl, Nat.le_of_ble_eq_true rfl⟩ (fun r94 w9 H locs hw94 hP hD hS => ?_)
                  obtain ⟨rfl⟩ := hw94
                  have b_r94 := iB r94
                  refine m_iadd (X := x72.toInt) (Y := r94.toInt) hx hb dX7_hashDown_97 rfl rfl (fun x97 e_x97 g9 => ?_)
                  obtain ⟨k_x97, g_x97⟩ := g9
                  have b_x97 := iB x97
                  try (have q_x97 : x97.toInt = x72.toInt + r94.toInt := (by omega); clear g_x97 k_x97)
                  refine lv_istore (lv' := [(7, .int x97), (0, .ref (q 17)), (4, .int e9), (5, .int x37), (6, .int r43), (8, .int l8_54)]) hx hb dX7_hashDown_98 hl (by decide) rfl (fun ls hl => ?_)
                  obtain ⟨x100, e_x100⟩ : ∃ z : Int32, z = l8_54 + (1 : Int32) := ⟨_, rfl⟩
                  obtain ⟨k_x100, g_x100⟩ : ∃ k : Int, x100.toInt = l8_54.toInt + (1) + k * 4294967296 := by rw [e_x100]; exact iAdd l8_54 (1)
                  have b_x100 := iB x100
                  try (have q_x100 : x100.toInt = l8_54.toInt + (1) := (by omega); clear g_x100 k_x100)
                  refine lv_iinc (v := x100) (lv' := [(8, .int x100), (7, .int x97), (0, .ref (q 17)), (4, .int e9), (5, .int x37), (6, .int r43)]) hx hb dX7_hashDown_100 hl (k := 5) rfl (by rw [e_x100]; rfl) (by decide) rfl (fun ls hl => ?_)
                  refine lv_goto (tgt := 54) hx hb dX7_hashDown_103 (by decide) ?_
                  exact ih54 x97 x100 v_s_looked_62 v_s_lookedTooOften_62 H locs ls (by first | assumption | omega | (intros; omega) | decide) (by first | assumption | omega | (intros; omega) | decide) (by omega) hP hD hS (lv_sub hl [2, 3, 4, 5, 1, 0] rfl)
          exact J54 ((4000 - (0 : Int32).toInt).toNat + 1) g9 (0 : Int32) v_s_looked v_s_lookedTooOften H locs ls (by first | assumption | omega | (intros; omega) | decide) (by first | assumption | omega | (intros; omega) | decide) (by omega) hP hD hS (lv_sub hl [4, 7, 3, 2, 1, 0] rfl)
        · skip
          refine lv_iload_n hx hb dX7_hashDown_34 rfl (lv_at hl 1 rfl) ?_
          subst hAe
          rw [hQ]
          exact W.iret (v := g9) hx hb hr (fun t ht hW => ⟨⟨g9, _, rfl, ⟨v_s_looked, v_s_lookedTooOften, rfl⟩, by rw [ht]; exact hP, va_K.moved hW.alike hK, hD⟩, hS.F ht⟩) hS.2.2 dX7_hashDown_35
    · skip
      refine lv_lload_n hx hb dX7_hashDown_14 rfl (lv_at hl 2 rfl) ?_
      refine lv_lload_n hx hb dX7_hashDown_15 rfl (lv_at hl 2 rfl) ?_
      refine lv_bipush (v := 32) hx hb dX7_hashDown_16 (by decide) ?_
      refine m_lushr hx hb dX7_hashDown_18 (fun x18 e_x18 => ?_)
      have b_x18 := jB x18
      refine m_lxor hx hb dX7_hashDown_19 (fun x19 e_x19 => ?_)
      have b_x19 := jB x19
      refine m_l2i hx hb dX7_hashDown_20 (fun x20 e_x20 => ?_)
      have b_x20 := iB x20
      subst hAe
      rw [hQ]
      exact W.iret (v := x20) hx hb hr (fun t ht hW => ⟨⟨x20, _, rfl, ⟨v_s_looked, v_s_lookedTooOften, rfl⟩, by rw [ht]; exact hP, va_K.moved hW.alike hK, hD⟩, hS.F ht⟩) hS.2.2 dX7_hashDown_21
  · skip
    refine lv_iconst (v := 0) hx hb dX7_hashDown_5 (by decide) ?_
    subst hAe
    rw [hQ]
    exact W.iret (v := 0) hx hb hr (fun t ht hW => ⟨⟨0, _, rfl, ⟨v_s_looked, v_s_lookedTooOften, rfl⟩, by rw [ht]; exact hP, va_K.moved hW.alike hK, hD⟩, hS.F ht⟩) hS.2.2 dX7_hashDown_6

def rmX7_hashDown_q2 : Room := { frames := 80, cells := 0, slots := 0, locals := 1600 }
set_option maxHeartbeats 4000000 in
set_option maxRecDepth 100000 in
theorem tX7_hashDown_q2 {l : Launch} {D : va_G} {K : Nat → Nat → Nat} {cs : Nat → ClassId} {q : Nat → Nat} {v_t_tapeSize v_t_textSize v_t_faultKind v_g_size v_h_size v_r_takes v_r_negative v_r_namePlace v_r_faultKind v_r_faultPlace v_a_size v_a_limit v_a_digits v_a_kind v_a_from v_a_to v_o_size v_b_size v_b_limit v_b_digits v_b_kind v_b_from v_b_to v_u_marksMade v_u_came v_u_guesses v_u_right v_u_taken v_s_things v_s_looked v_s_lookedTooOften v_s_arraysMade v_s_cellsMade : Int32} {a_t_tape a_t_text a_o_out a_u_outcomes a_u_indexes a_s_classes a_s_starts a_s_lengths a_vc : Nat → Int32} {a_g_beyond a_h_beyond a_r_scratch a_r_now a_u_atom a_u_other a_u_hand : Nat} {a_g_steps a_h_steps a_u_vars a_u_marks : Nat → Option Nat} {a_s_cells a_vd a_sj : Nat → Int64} {a_L : List Nat} {a_K a_iv a_inn : Nat → Nat} {a_si a_ac : Nat → Nat → Int32} (g9 : Int32) (d9 : Int64) (e9 : Int32) (p_0 : STO v_s_things v_s_cellsMade a_s_starts a_s_lengths) (p_1 : 2 ≤ e9.toInt) (p_2 : e9.toInt ≤ 4) : CtI l yX7_hashDown (wG yX7_hashDown cX7_hashDown 9 (some .int)) rmX7_hashDown_q2 D (twT cs) K [.ref (q 17), .int g9, .long d9, .int e9] (tw cs q v_t_tapeSize v_t_textSize v_t_faultKind a_t_tape a_t_text a_g_beyond v_g_size a_g_steps a_h_beyond v_h_size a_h_steps a_r_scratch a_r_now v_r_takes v_r_negative v_r_namePlace v_r_faultKind v_r_faultPlace v_a_size v_a_limit v_a_digits v_a_kind v_a_from v_a_to v_o_size a_o_out v_b_size v_b_limit v_b_digits v_b_kind v_b_from v_b_to a_u_atom a_u_other a_u_hand v_u_marksMade v_u_came v_u_guesses v_u_right v_u_taken a_u_vars a_u_marks a_u_outcomes a_u_indexes v_s_things v_s_looked v_s_lookedTooOften v_s_arraysMade v_s_cellsMade a_s_classes a_s_starts a_s_lengths a_s_cells a_L a_K a_vc a_vd a_si a_sj a_iv a_inn a_ac) (fun r w1 => ∃ (v_s_looked' : Int32) (v_s_lookedTooOften' : Int32), w1 = (tw cs q v_t_tapeSize v_t_textSize v_t_faultKind a_t_tape a_t_text a_g_beyond v_g_size a_g_steps a_h_beyond v_h_size a_h_steps a_r_scratch a_r_now v_r_takes v_r_negative v_r_namePlace v_r_faultKind v_r_faultPlace v_a_size v_a_limit v_a_digits v_a_kind v_a_from v_a_to v_o_size a_o_out v_b_size v_b_limit v_b_digits v_b_kind v_b_from v_b_to a_u_atom a_u_other a_u_hand v_u_marksMade v_u_came v_u_guesses v_u_right v_u_taken a_u_vars a_u_marks a_u_outcomes a_u_indexes v_s_things v_s_looked' v_s_lookedTooOften' v_s_arraysMade v_s_cellsMade a_s_classes a_s_starts a_s_lengths a_s_cells a_L a_K a_vc a_vd a_si a_sj a_iv a_inn a_ac)) 0 0 := by
  intro sz
  refine Met.ofW (cc := cX7_hashDown) (maxL := 9) (ret := (some .int)) (by decide) rfl ?_
  intro p e s m args below meth c s₁ B hml hv
  obtain ⟨rfl, hsz, hP, hK, hD0, hE⟩ := hv
  have hx := B.exec
  have hb := B.bytes
  have hr := B.returns
  have hts := atoms_spec (ws := (wG yX7_hashDown cX7_hashDown 9 (some .int))) B.pre
  have hown : s.vm.findClass RX7 = some m.cls := findClass_of_methodNamed B.named
  have hlocks := B.notSynchronized
  subst hsz
  have hD := hD0.self (sz := s.heap.size)
  obtain ⟨A, hAe⟩ : ∃ A : Nat → Prop, A = va_A (tw cs q v_t_tapeSize v_t_textSize v_t_faultKind a_t_tape a_t_text a_g_beyond v_g_size a_g_steps a_h_beyond v_h_size a_h_steps a_r_scratch a_r_now v_r_takes v_r_negative v_r_namePlace v_r_faultKind v_r_faultPlace v_a_size v_a_limit v_a_digits v_a_kind v_a_from v_a_to v_o_size a_o_out v_b_size v_b_limit v_b_digits v_b_kind v_b_from v_b_to a_u_atom a_u_other a_u_hand v_u_marksMade v_u_came v_u_guesses v_u_right v_u_taken a_u_vars a_u_marks a_u_outcomes a_u_indexes v_s_things v_s_looked v_s_lookedTooOften v_s_arraysMade v_s_cellsMade a_s_classes a_s_starts a_s_lengths a_s_cells a_L a_K a_vc a_vd a_si a_sj a_iv a_inn a_ac) s.heap.size := ⟨_, rfl⟩
  rw [← hAe] at hD hE
  have hA : ∀ q : Nat, s.heap.size ≤ q → A q := fun q h => by rw [hAe]; exact Or.inr h
  have hS : va_S A s.heap s.heap [] := va_S.rf
  have hl := lv_entry ([.ref (q 17), .int g9, .long d9, .int e9]) (n := 9) (Nat.le_of_ble_eq_true rfl)
  rw [lg_entry_eq]
  generalize (lg_sl ([.ref (q 17), .int g9, .long d9, .int e9]) ++ List.replicate (9 - (lg_sl ([.ref (q 17), .int g9, .long d9, .int e9])).length) Slot.unset).toArray = ls at hl ⊢
  have hl : lv_has ls 9 [(0, .ref (q 17)), (1, .int g9), (2, .long d9), (4, .int e9)] := hl
  refine wq (fun Q hQ => ?_)
  have kc0 : (-1 : Int32).toInt = -1 := by decide
  have kc1 : (0 : Int32).toInt = 0 := by decide
  have kc2 : (1 : Int32).toInt = 1 := by decide
  have kc3 : (3 : Int32).toInt = 3 := by decide
  have kc4 : (20 : Int32).toInt = 20 := by decide
  have kc5 : (31 : Int32).toInt = 31 := by decide
  have kc6 : (32 : Int32).toInt = 32 := by decide
  obtain ⟨H, hH⟩ : ∃ H : Heap, H = s.heap := ⟨_, rfl⟩
  obtain ⟨locs, hlc⟩ : ∃ L : List Loc, L = [] := ⟨_, rfl⟩
  have hP : va_P D vwCl (tw cs q v_t_tapeSize v_t_textSize v_t_faultKind a_t_tape a_t_text a_g_beyond v_g_size a_g_steps a_h_beyond v_h_size a_h_steps a_r_scratch a_r_now v_r_takes v_r_negative v_r_namePlace v_r_faultKind v_r_faultPlace v_a_size v_a_limit v_a_digits v_a_kind v_a_from v_a_to v_o_size a_o_out v_b_size v_b_limit v_b_digits v_b_kind v_b_from v_b_to a_u_atom a_u_other a_u_hand v_u_marksMade v_u_came v_u_guesses v_u_right v_u_taken a_u_vars a_u_marks a_u_outcomes a_u_indexes v_s_things v_s_looked v_s_lookedTooOften v_s_arraysMade v_s_cellsMade a_s_classes a_s_starts a_s_lengths a_s_cells a_L a_K a_vc a_vd a_si a_sj a_iv a_inn a_ac) H := by rw [hH]; exact hP
  have hS : va_S A s.heap H locs := by rw [hH, hlc]; exact hS
  refine wHL hH hlc ?_
  have b_g9 := iB g9
  have b_d9 := jB d9
  have b_e9 := iB e9
  refine lv_iload_n hx hb dX7_hashDown_0 rfl (lv_at hl 1 rfl) ?_
  refine lv_iconst (v := (-1)) hx hb dX7_hashDown_1 (by decide) ?_
  refine m_icmp_ne (X := g9.toInt) (Y := (-1)) (tgt := 7) hx hb dX7_hashDown_2 (by decide) rfl (by decide) (fun c2 => ?_) (fun c2 => ?_)
  · skip
    refine lv_iload_n hx hb dX7_hashDown_7 rfl (lv_at hl 1 rfl) ?_
    refine call_iSP (As := [.int g9]) (rest := []) ⟨hx, hb, hml, hown, hts⟩ (tX0_isNumber (l := l) g9) (va_cwS 1 hts (gS (wr43 _ (List.mem_of_getElem? (i := 19) rfl)) (wr19 _ (List.mem_of_getElem? (i := 17) rfl)) (wr19 _ (List.mem_of_getElem? (i := 5) rfl)) (wr19 _ (List.mem_of_getElem? (i := 18) rfl))) rfl rfl rfl (by decide +kernel) ⟨Nat.le_of_ble_eq_true rfl, Nat.le_of_ble_eq_true rfl⟩) (hK.sub [] rfl) hP hD hE hS hA rfl hl.1 rfl (Nat.le_of_ble_eq_true rfl) dX7_hashDown_8 ⟨Nat.le_of_ble_eq_true rfl, Nat.le_of_ble_eq_true rfl⟩ (fun r8 w9 H locs hw8 hP hD hS => ?_)
    obtain ⟨rfl, hw8_0⟩ := hw8
    have b_r8 := iB r8
    refine m_if_eq (X := r8.toInt) (tgt := 22) hx hb dX7_hashDown_11 (by decide) rfl (fun c11 => ?_) (fun c11 => ?_)
    · skip
      refine lv_iload_n hx hb dX7_hashDown_22 rfl (lv_at hl 1 rfl) ?_
      refine lv_bipush (v := 20) hx hb dX7_hashDown_23 (by decide) ?_
      refine m_icmp_lt (X := g9.toInt) (Y := 20) (tgt := 34) hx hb dX7_hashDown_25 (by decide) rfl (by decide) (fun c25 => ?_) (fun c25 => ?_)
      · skip
        refine lv_iload_n hx hb dX7_hashDown_34 rfl (lv_at hl 1 rfl) ?_
        subst hAe
        rw [hQ]
        exact W.iret (v := g9) hx hb hr (fun t ht hW => ⟨⟨g9, _, rfl, ⟨v_s_looked, v_s_lookedTooOften, rfl⟩, by rw [ht]; exact hP, va_K.moved hW.alike hK, hD⟩, hS.F ht⟩) hS.2.2 dX7_hashDown_35
      · skip
        refine lv_iload hx hb dX7_hashDown_28 (lv_at hl 3 rfl) ?_
        refine lv_iconst (v := 3) hx hb dX7_hashDown_30 (by decide) ?_
        refine m_icmp_le (X := e9.toInt) (Y := 3) (tgt := 36) hx hb dX7_hashDown_31 (by decide) rfl (by decide) (fun c31 => ?_) (fun c31 => ?_)
        · skip
          refine lv_lload_n hx hb dX7_hashDown_36 rfl (lv_at hl 2 rfl) ?_
          refine m_l2i hx hb dX7_hashDown_37 (fun x37 e_x37 => ?_)
          have b_x37 := iB x37
          refine lv_istore (lv' := [(5, .int x37), (0, .ref (q 17)), (1, .int g9), (2, .long d9), (4, .int e9)]) hx hb dX7_hashDown_38 hl (by decide) rfl (fun ls hl => ?_)
          refine lv_aload_n hx hb dX7_hashDown_40 rfl (lv_at hl 1 rfl) ?_
          refine lv_iload hx hb dX7_hashDown_41 (lv_at hl 0 rfl) ?_
          refine call_i (As := [.int x37]) (rest := []) ⟨hx, hb, hml, hown, hts⟩ (tX7_lengthOf (l := l) x37 (by first | assumption | omega | (intros; omega) | decide)) (cwV 1 hts (gV (wr43 _ (List.mem_of_getElem? (i := 20) rfl)) (wr41 _ (List.mem_of_getElem? (i := 20) rfl)) (wr41 _ (List.mem_of_getElem? (i := 21) rfl)) (wr4 _ (List.mem_of_getElem? (i := 3) rfl)) (wr41 _ (List.mem_of_getElem? (i := 22) rfl))) rfl rfl rfl (by decide +kernel) ⟨Nat.le_of_ble_eq_true rfl, Nat.le_of_ble_eq_true rfl⟩) (va_recv hK hP (ci := 6) (q0 := 17) rfl rfl) hK hP hD hE hS hA rfl hl.1 rfl (Nat.le_of_ble_eq_true rfl) dX7_hashDown_43 ⟨Nat.le_of_ble_eq_true rfl, Nat.le_of_ble_eq_true rfl⟩ (fun r43 w9 H locs hw43 hP hD hS => ?_)
          obtain ⟨rfl, hw43_0, hw43_1, hw43_2⟩ := hw43
          have b_r43 := iB r43
          refine lv_istore (lv' := [(6, .int r43), (5, .int x37), (0, .ref (q 17)), (1, .int g9), (2, .long d9), (4, .int e9)]) hx hb dX7_hashDown_46 hl (by decide) rfl (fun ls hl => ?_)
          refine lv_iload_n hx hb dX7_hashDown_48 rfl (lv_at hl 3 rfl) ?_
          refine lv_istore (lv' := [(7, .int g9), (6, .int r43), (5, .int x37), (0, .ref (q 17)), (1, .int g9), (2, .long d9), (4, .int e9)]) hx hb dX7_hashDown_49 hl (by decide) rfl (fun ls hl => ?_)
          refine lv_iconst (v := 0) hx hb dX7_hashDown_51 (by decide) ?_
          refine lv_istore (lv' := [(8, .int 0), (7, .int g9), (6, .int r43), (5, .int x37), (0, .ref (q 17)), (1, .int g9), (2, .long d9), (4, .int e9)]) hx hb dX7_hashDown_52 hl (by decide) rfl (fun ls hl => ?_)
          have J54 : ∀ (n54 : Nat) (l7_54 : Int32) (l8_54 : Int32) (v_s_looked_54 : Int32) (v_s_lookedTooOften_54 : Int32) (H : Heap) (locs : List Loc) (ls : Array Slot), (0 ≤ l8_54.toInt) → (l8_54.toInt ≤ 4000) → (4000 - l8_54.toInt < (n54 : Int)) → va_P D vwCl (tw cs q v_t_tapeSize v_t_textSize v_t_faultKind a_t_tape a_t_text a_g_beyond v_g_size a_g_steps a_h_beyond v_h_size a_h_steps a_r_scratch a_r_now v_r_takes v_r_negative v_r_namePlace v_r_faultKind v_r_faultPlace v_a_size v_a_limit v_a_digits v_a_kind v_a_from v_a_to v_o_size a_o_out v_b_size v_b_limit v_b_digits v_b_kind v_b_from v_b_to a_u_atom a_u_other a_u_hand v_u_marksMade v_u_came v_u_guesses v_u_right v_u_taken a_u_vars a_u_marks a_u_outcomes a_u_indexes v_s_things v_s_looked_54 v_s_lookedTooOften_54 v_s_arraysMade v_s_cellsMade a_s_classes a_s_starts a_s_lengths a_s_cells a_L a_K a_vc a_vd a_si a_sj a_iv a_inn a_ac) H → va_D A (tw cs q v_t_tapeSize v_t_textSize v_t_faultKind a_t_tape a_t_text a_g_beyond v_g_size a_g_steps a_h_beyond v_h_size a_h_steps a_r_scratch a_r_now v_r_takes v_r_negative v_r_namePlace v_r_faultKind v_r_faultPlace v_a_size v_a_limit v_a_digits v_a_kind v_a_from v_a_to v_o_size a_o_out v_b_size v_b_limit v_b_digits v_b_kind v_b_from v_b_to a_u_atom a_u_other a_u_hand v_u_marksMade v_u_came v_u_guesses v_u_right v_u_taken a_u_vars a_u_marks a_u_outcomes a_u_indexes v_s_things v_s_looked_54 v_s_lookedTooOften_54 v_s_arraysMade v_s_cellsMade a_s_classes a_s_starts a_s_lengths a_s_cells a_L a_K a_vc a_vd a_si a_sj a_iv a_inn a_ac) → va_S A s.heap H locs → lv_has ls 9 [(0, .ref (q 17)), (4, .int e9), (5, .int x37), (6, .int r43), (7, .int l7_54), (8, .int l8_54)] → W p l e (headSpec (wG yX7_hashDown cX7_hashDown 9 (some .int)) rmX7_hashDown_q2).room s m ([.ref (q 17), .int g9, .long d9, .int e9] : List Value).toArray below meth c H locs 0 0 Q (F0 m 54 ls []) := by
            intro n54
            induction n54 with
            | zero =>
              intro l7_54 l8_54 v_s_looked_54 v_s_lookedTooOften_54 H locs ls f54_0 f54_1 hm54
              exfalso
              omega
            | succ n54 ih54 =>
              intro l7_54 l8_54 v_s_looked_54 v_s_lookedTooOften_54 H locs ls f54_0 f54_1 hm54 hP hD hS hl
              refine lv_iload hx hb dX7_hashDown_54 (lv_at hl 5 rfl) ?_
              refine lv_iload hx hb dX7_hashDown_56 (lv_at hl 3 rfl) ?_
              refine m_icmp_ge (X := l8_54.toInt) (Y := r43.toInt) (tgt := 106) hx hb dX7_hashDown_58 (by decide) rfl rfl (fun c58 => ?_) (fun c58 => ?_)
              · skip
                refine lv_iload hx hb dX7_hashDown_106 (lv_at hl 4 rfl) ?_
                subst hAe
                rw [hQ]
                exact W.iret (v := l7_54) hx hb hr (fun t ht hW => ⟨⟨l7_54, _, rfl, ⟨v_s_looked_54, v_s_lookedTooOften_54, rfl⟩, by rw [ht]; exact hP, va_K.moved hW.alike hK, hD⟩, hS.F ht⟩) hS.2.2 dX7_hashDown_108
              · skip
                refine lv_aload_n hx hb dX7_hashDown_61 rfl (lv_at hl 0 rfl) ?_
                refine call_i (As := []) (rest := []) ⟨hx, hb, hml, hown, hts⟩ (tX7_mayLook (l := l) ) (cwV 0 hts (gV (wr43 _ (List.mem_of_getElem? (i := 21) rfl)) (wr43 _ (List.mem_of_getElem? (i := 22) rfl)) (wr43 _ (List.mem_of_getElem? (i := 23) rfl)) (wr4 _ (List.mem_of_getElem? (i := 3) rfl)) (wr44 _ (List.mem_of_getElem? (i := 0) rfl))) rfl rfl rfl (by decide +kernel) ⟨Nat.le_of_ble_eq_true rfl, Nat.le_of_ble_eq_true rfl⟩) (va_recv hK hP (ci := 6) (q0 := 17) rfl rfl) hK hP hD hE hS hA rfl hl.1 rfl (Nat.le_of_ble_eq_true rfl) dX7_hashDown_62 ⟨Nat.le_of_ble_eq_true rfl, Nat.le_of_ble_eq_true rfl⟩ (fun r62 w9 H locs hw62 hP hD hS => ?_)
                obtain ⟨v_s_looked_62, v_s_lookedTooOften_62, rfl, hw62_0⟩ := hw62
                have b_v_s_looked_62 := iB v_s_looked_62
                have b_v_s_lookedTooOften_62 := iB v_s_lookedTooOften_62
                have b_r62 := iB r62
                refine m_if_eq (X := r62.toInt) (tgt := 106) hx hb dX7_hashDown_65 (by decide) rfl (fun c65 => ?_) (fun c65 => ?_)
                · skip
                  refine lv_iload hx hb dX7_hashDown_106 (lv_at hl 4 rfl) ?_
                  subst hAe
                  rw [hQ]
                  exact W.iret (v := l7_54) hx hb hr (fun t ht hW => ⟨⟨l7_54, _, rfl, ⟨v_s_looked_62, v_s_lookedTooOften_62, rfl⟩, by rw [ht]; exact hP, va_K.moved hW.alike hK, hD⟩, hS.F ht⟩) hS.2.2 dX7_hashDown_108
                · skip
                  refine lv_bipush (v := 31) hx hb dX7_hashDown_68 (by decide) ?_
                  refine lv_iload hx hb dX7_hashDown_70 (lv_at hl 4 rfl) ?_
                  refine m_imul (X := 31) (Y := l7_54.toInt) hx hb dX7_hashDown_72 (by decide) rfl (fun x72 e_x72 g9 => ?_)
                  obtain ⟨k_x72, g_x72⟩ := g9
                  have b_x72 := iB x72
                  try (have q_x72 : x72.toInt = 31 * l7_54.toInt := (by omega); clear g_x72 k_x72)
                  refine lv_aload_n hx hb dX7_hashDown_73 rfl (lv_at hl 0 rfl) ?_
                  refine lv_aload_n hx hb dX7_hashDown_74 rfl (lv_at hl 0 rfl) ?_
                  refine lv_iload hx hb dX7_hashDown_75 (lv_at hl 2 rfl) ?_
                  refine lv_iload hx hb dX7_hashDown_77 (lv_at hl 5 rfl) ?_
                  refine call_i (As := [.int x37, .int l8_54]) (rest := [.ref (q 17), .int x72]) ⟨hx, hb, hml, hown, hts⟩ (tX7_cellClass (l := l) x37 l8_54 (by first | assumption | omega | (intros; omega) | decide)) (cwV 2 hts (gV (wr38 _ (List.mem_of_getElem? (i := 20) rfl)) (wr38 _ (List.mem_of_getElem? (i := 21) rfl)) (wr38 _ (List.mem_of_getElem? (i := 22) rfl)) (wr4 _ (List.mem_of_getElem? (i := 3) rfl)) (wr38 _ (List.mem_of_getElem? (i := 23) rfl))) rfl rfl rfl (by decide +kernel) ⟨Nat.le_of_ble_eq_true rfl, Nat.le_of_ble_eq_true rfl⟩) (va_recv hK hP (ci := 6) (q0 := 17) rfl rfl) hK hP hD hE hS hA rfl hl.1 rfl (Nat.le_of_ble_eq_true rfl) dX7_hashDown_79 ⟨Nat.le_of_ble_eq_true rfl, Nat.le_of_ble_eq_true rfl⟩ (fun r79 w9 H locs hw79 hP hD hS => ?_)
                  obtain ⟨rfl⟩ := hw79
                  have b_r79 := iB r79
                  refine lv_aload_n hx hb dX7_hashDown_82 rfl (lv_at hl 0 rfl) ?_
                  refine lv_iload hx hb dX7_hashDown_83 (lv_at hl 2 rfl) ?_
                  refine lv_iload hx hb dX7_hashDown_85 (lv_at hl 5 rfl) ?_
                  refine call_j (As := [.int x37, .int l8_54]) (rest := [.int r79, .ref (q 17), .int x72]) ⟨hx, hb, hml, hown, hts⟩ (tX7_cellDatum (l := l) x37 l8_54 (by first | assumption | omega | (intros; omega) | decide)) (cwV 2 hts (gV (wr39 _ (List.mem_of_getElem? (i := 0) rfl)) (wr39 _ (List.mem_of_getElem? (i := 1) rfl)) (wr39 _ (List.mem_of_getElem? (i := 2) rfl)) (wr4 _ (List.mem_of_getElem? (i := 3) rfl)) (wr39 _ (List.mem_of_getElem? (i := 3) rfl))) rfl rfl rfl (by decide +kernel) ⟨Nat.le_of_ble_eq_true rfl, Nat.le_of_ble_eq_true rfl⟩) (va_recv hK hP (ci := 6) (q0 := 17) rfl rfl) hK hP hD hE hS hA rfl hl.1 rfl (Nat.le_of_ble_eq_true rfl) dX7_hashDown_87 ⟨Nat.le_of_ble_eq_true rfl, Nat.le_of_ble_eq_true rfl⟩ (fun r87 w9 H locs hw87 hP hD hS => ?_)
                  obtain ⟨rfl⟩ := hw87
                  have b_r87 := jB r87
                  refine lv_iload hx hb dX7_hashDown_90 (lv_at hl 1 rfl) ?_
                  refine lv_iconst (v := 1) hx hb dX7_hashDown_92 (by decide) ?_
                  refine m_iadd (X := e9.toInt) (Y := 1) hx hb dX7_hashDown_93 rfl (by decide) (fun x93 e_x93 g9 => ?_)
                  obtain ⟨k_x93, g_x93⟩ := g9
                  have b_x93 := iB x93
                  try (have q_x93 : x93.toInt = e9.toInt + 1 := (by omega); clear g_x93 k_x93)
                  refine call_i (As := [.int r79, .long r87, .int x93]) (rest := [.int x72]) ⟨hx, hb, hml, hown, hts⟩ (tX7_hashDown_q1 (l := l) r79 r87 x93 (by first | assumption | omega | (intros; omega) | decide) (by first | assumption | omega | (intros; omega) | decide) (by first | assumption | omega | (intros; omega) | decide)) (cwV 3 hts (gV (wr43 _ (List.mem_of_getElem? (i := 15) rfl)) (wr43 _ (List.mem_of_getElem? (i := 16) rfl)) (wr43 _ (List.mem_of_getElem? (i := 17) rfl)) (wr4 _ (List.mem_of_getElem? (i := 3) rfl)) (wr43 _ (List.mem_of_getElem? (i := 18) rfl))) rfl rfl rfl (by decide +kernel) ⟨Nat.le_of_ble_eq_true rfl, Nat.le_of_ble_eq_true rfl⟩) (va_recv hK hP (ci := 6) (q0 := 17) rfl rfl) hK hP hD hE hS hA rfl hl.1 rfl (Nat.le_of_ble_eq_true rfl) dX7_hashDown_94 ⟨Nat.le_of_ble_eq_true rfl, Nat.le_of_ble_eq_true rfl⟩ (fun r94 w9 H locs hw94 hP hD hS => ?_)
                  obtain ⟨v_s_looked_94, v_s_lookedTooOften_94, rfl⟩ := hw94
                  have b_v_s_looked_94 := iB v_s_looked_94
                  have b_v_s_lookedTooOften_94 := iB v_s_lookedTooOften_94
                  have b_r94 := iB r94
                  refine m_iadd (X := x72.toInt) (Y := r94.toInt) hx hb dX7_hashDown_97 rfl rfl (fun x97 e_x97 g9 => ?_)
                  obtain ⟨k_x97, g_x97⟩ := g9
                  have b_x97 := iB x97
                  try (have q_x97 : x97.toInt = x72.toInt + r94.toInt := (by omega); clear g_x97 k_x97)
                  refine lv_istore (lv' := [(7, .int x97), (0, .ref (q 17)), (4, .int e9), (5, .int x37), (6, .int r43), (8, .int l8_54)]) hx hb dX7_hashDown_98 hl (by decide) rfl (fun ls hl => ?_)
                  obtain ⟨x100, e_x100⟩ : ∃ z : Int32, z = l8_54 + (1 : Int32) := ⟨_, rfl⟩
                  obtain ⟨k_x100, g_x100⟩ : ∃ k : Int, x100.toInt = l8_54.toInt + (1) + k * 4294967296 := by rw [e_x100]; exact iAdd l8_54 (1)
                  have b_x100 := iB x100
                  try (have q_x100 : x100.toInt = l8_54.toInt + (1) := (by omega); clear g_x100 k_x100)
                  refine lv_iinc (v := x100) (lv' := [(8, .int x100), (7, .int x97), (0, .ref (q 17)), (4, .int e9), (5, .int x37), (6, .int r43)]) hx hb dX7_hashDown_100 hl (k := 5) rfl (by rw [e_x100]; rfl) (by decide) rfl (fun ls hl => ?_)
                  refine lv_goto (tgt := 54) hx hb dX7_hashDown_103 (by decide) ?_
                  exact ih54 x97 x100 v_s_looked_94 v_s_lookedTooOften_94 H locs ls (by first | assumption | omega | (intros; omega) | decide) (by first | assumption | omega | (intros; omega) | decide) (by omega) hP hD hS (lv_sub hl [2, 3, 4, 5, 1, 0] rfl)
          exact J54 ((4000 - (0 : Int32).toInt).toNat + 1) g9 (0 : Int32) v_s_looked v_s_lookedTooOften H locs ls (by first | assumption | omega | (intros; omega) | decide) (by first | assumption | omega | (intros; omega) | decide) (by omega) hP hD hS (lv_sub hl [4, 7, 3, 2, 1, 0] rfl)
        · skip
          refine lv_iload_n hx hb dX7_hashDown_34 rfl (lv_at hl 1 rfl) ?_
          subst hAe
          rw [hQ]
          exact W.iret (v := g9) hx hb hr (fun t ht hW => ⟨⟨g9, _, rfl, ⟨v_s_looked, v_s_lookedTooOften, rfl⟩, by rw [ht]; exact hP, va_K.moved hW.alike hK, hD⟩, hS.F ht⟩) hS.2.2 dX7_hashDown_35
    · skip
      refine lv_lload_n hx hb dX7_hashDown_14 rfl (lv_at hl 2 rfl) ?_
      refine lv_lload_n hx hb dX7_hashDown_15 rfl (lv_at hl 2 rfl) ?_
      refine lv_bipush (v := 32) hx hb dX7_hashDown_16 (by decide) ?_
      refine m_lushr hx hb dX7_hashDown_18 (fun x18 e_x18 => ?_)
      have b_x18 := jB x18
      refine m_lxor hx hb dX7_hashDown_19 (fun x19 e_x19 => ?_)
      have b_x19 := jB x19
      refine m_l2i hx hb dX7_hashDown_20 (fun x20 e_x20 => ?_)
      have b_x20 := iB x20
      subst hAe
      rw [hQ]
      exact W.iret (v := x20) hx hb hr (fun t ht hW => ⟨⟨x20, _, rfl, ⟨v_s_looked, v_s_lookedTooOften, rfl⟩, by rw [ht]; exact hP, va_K.moved hW.alike hK, hD⟩, hS.F ht⟩) hS.2.2 dX7_hashDown_21
  · skip
    refine lv_iconst (v := 0) hx hb dX7_hashDown_5 (by decide) ?_
    subst hAe
    rw [hQ]
    exact W.iret (v := 0) hx hb hr (fun t ht hW => ⟨⟨0, _, rfl, ⟨v_s_looked, v_s_lookedTooOften, rfl⟩, by rw [ht]; exact hP, va_K.moved hW.alike hK, hD⟩, hS.F ht⟩) hS.2.2 dX7_hashDown_6

def rmX7_hashDown_q3 : Room := { frames := 100, cells := 0, slots := 0, locals := 2000 }
set_option maxHeartbeats 4000000 in
set_option maxRecDepth 100000 in
theorem tX7_hashDown_q3 {l : Launch} {D : va_G} {K : Nat → Nat → Nat} {cs : Nat → ClassId} {q : Nat → Nat} {v_t_tapeSize v_t_textSize v_t_faultKind v_g_size v_h_size v_r_takes v_r_negative v_r_namePlace v_r_faultKind v_r_faultPlace v_a_size v_a_limit v_a_digits v_a_kind v_a_from v_a_to v_o_size v_b_size v_b_limit v_b_digits v_b_kind v_b_from v_b_to v_u_marksMade v_u_came v_u_guesses v_u_right v_u_taken v_s_things v_s_looked v_s_lookedTooOften v_s_arraysMade v_s_cellsMade : Int32} {a_t_tape a_t_text a_o_out a_u_outcomes a_u_indexes a_s_classes a_s_starts a_s_lengths a_vc : Nat → Int32} {a_g_beyond a_h_beyond a_r_scratch a_r_now a_u_atom a_u_other a_u_hand : Nat} {a_g_steps a_h_steps a_u_vars a_u_marks : Nat → Option Nat} {a_s_cells a_vd a_sj : Nat → Int64} {a_L : List Nat} {a_K a_iv a_inn : Nat → Nat} {a_si a_ac : Nat → Nat → Int32} (g9 : Int32) (d9 : Int64) (e9 : Int32) (p_0 : STO v_s_things v_s_cellsMade a_s_starts a_s_lengths) (p_1 : 1 ≤ e9.toInt) (p_2 : e9.toInt ≤ 4) : CtI l yX7_hashDown (wG yX7_hashDown cX7_hashDown 9 (some .int)) rmX7_hashDown_q3 D (twT cs) K [.ref (q 17), .int g9, .long d9, .int e9] (tw cs q v_t_tapeSize v_t_textSize v_t_faultKind a_t_tape a_t_text a_g_beyond v_g_size a_g_steps a_h_beyond v_h_size a_h_steps a_r_scratch a_r_now v_r_takes v_r_negative v_r_namePlace v_r_faultKind v_r_faultPlace v_a_size v_a_limit v_a_digits v_a_kind v_a_from v_a_to v_o_size a_o_out v_b_size v_b_limit v_b_digits v_b_kind v_b_from v_b_to a_u_atom a_u_other a_u_hand v_u_marksMade v_u_came v_u_guesses v_u_right v_u_taken a_u_vars a_u_marks a_u_outcomes a_u_indexes v_s_things v_s_looked v_s_lookedTooOften v_s_arraysMade v_s_cellsMade a_s_classes a_s_starts a_s_lengths a_s_cells a_L a_K a_vc a_vd a_si a_sj a_iv a_inn a_ac) (fun r w1 => ∃ (v_s_looked' : Int32) (v_s_lookedTooOften' : Int32), w1 = (tw cs q v_t_tapeSize v_t_textSize v_t_faultKind a_t_tape a_t_text a_g_beyond v_g_size a_g_steps a_h_beyond v_h_size a_h_steps a_r_scratch a_r_now v_r_takes v_r_negative v_r_namePlace v_r_faultKind v_r_faultPlace v_a_size v_a_limit v_a_digits v_a_kind v_a_from v_a_to v_o_size a_o_out v_b_size v_b_limit v_b_digits v_b_kind v_b_from v_b_to a_u_atom a_u_other a_u_hand v_u_marksMade v_u_came v_u_guesses v_u_right v_u_taken a_u_vars a_u_marks a_u_outcomes a_u_indexes v_s_things v_s_looked' v_s_lookedTooOften' v_s_arraysMade v_s_cellsMade a_s_classes a_s_starts a_s_lengths a_s_cells a_L a_K a_vc a_vd a_si a_sj a_iv a_inn a_ac)) 0 0 := by
  intro sz
  refine Met.ofW (cc := cX7_hashDown) (maxL := 9) (ret := (some .int)) (by decide) rfl ?_
  intro p e s m args below meth c s₁ B hml hv
  obtain ⟨rfl, hsz, hP, hK, hD0, hE⟩ := hv
  have hx := B.exec
  have hb := B.bytes
  have hr := B.returns
  have hts := atoms_spec (ws := (wG yX7_hashDown cX7_hashDown 9 (some .int))) B.pre
  have hown : s.vm.findClass RX7 = some m.cls := findClass_of_methodNamed B.named
  have hlocks := B.notSynchronized
  subst hsz
  have hD := hD0.self (sz := s.heap.size)
  obtain ⟨A, hAe⟩ : ∃ A : Nat → Prop, A = va_A (tw cs q v_t_tapeSize v_t_textSize v_t_faultKind a_t_tape a_t_text a_g_beyond v_g_size a_g_steps a_h_beyond v_h_size a_h_steps a_r_scratch a_r_now v_r_takes v_r_negative v_r_namePlace v_r_faultKind v_r_faultPlace v_a_size v_a_limit v_a_digits v_a_kind v_a_from v_a_to v_o_size a_o_out v_b_size v_b_limit v_b_digits v_b_kind v_b_from v_b_to a_u_atom a_u_other a_u_hand v_u_marksMade v_u_came v_u_guesses v_u_right v_u_taken a_u_vars a_u_marks a_u_outcomes a_u_indexes v_s_things v_s_looked v_s_lookedTooOften v_s_arraysMade v_s_cellsMade a_s_classes a_s_starts a_s_lengths a_s_cells a_L a_K a_vc a_vd a_si a_sj a_iv a_inn a_ac) s.heap.size := ⟨_, rfl⟩
  rw [← hAe] at hD hE
  have hA : ∀ q : Nat, s.heap.size ≤ q → A q := fun q h => by rw [hAe]; exact Or.inr h
  have hS : va_S A s.heap s.heap [] := va_S.rf
  have hl := lv_entry ([.ref (q 17), .int g9, .long d9, .int e9]) (n := 9) (Nat.le_of_ble_eq_true rfl)
  rw [lg_entry_eq]
  generalize (lg_sl ([.ref (q 17), .int g9, .long d9, .int e9]) ++ List.replicate (9 - (lg_sl ([.ref (q 17), .int g9, .long d9, .int e9])).length) Slot.unset).toArray = ls at hl ⊢
  have hl : lv_has ls 9 [(0, .ref (q 17)), (1, .int g9), (2, .long d9), (4, .int e9)] := hl
  refine wq (fun Q hQ => ?_)
  have kc0 : (-1 : Int32).toInt = -1 := by decide
  have kc1 : (0 : Int32).toInt = 0 := by decide
  have kc2 : (1 : Int32).toInt = 1 := by decide
  have kc3 : (3 : Int32).toInt = 3 := by decide
  have kc4 : (20 : Int32).toInt = 20 := by decide
  have kc5 : (31 : Int32).toInt = 31 := by decide
  have kc6 : (32 : Int32).toInt = 32 := by decide
  obtain ⟨H, hH⟩ : ∃ H : Heap, H = s.heap := ⟨_, rfl⟩
  obtain ⟨locs, hlc⟩ : ∃ L : List Loc, L = [] := ⟨_, rfl⟩
  have hP : va_P D vwCl (tw cs q v_t_tapeSize v_t_textSize v_t_faultKind a_t_tape a_t_text a_g_beyond v_g_size a_g_steps a_h_beyond v_h_size a_h_steps a_r_scratch a_r_now v_r_takes v_r_negative v_r_namePlace v_r_faultKind v_r_faultPlace v_a_size v_a_limit v_a_digits v_a_kind v_a_from v_a_to v_o_size a_o_out v_b_size v_b_limit v_b_digits v_b_kind v_b_from v_b_to a_u_atom a_u_other a_u_hand v_u_marksMade v_u_came v_u_guesses v_u_right v_u_taken a_u_vars a_u_marks a_u_outcomes a_u_indexes v_s_things v_s_looked v_s_lookedTooOften v_s_arraysMade v_s_cellsMade a_s_classes a_s_starts a_s_lengths a_s_cells a_L a_K a_vc a_vd a_si a_sj a_iv a_inn a_ac) H := by rw [hH]; exact hP
  have hS : va_S A s.heap H locs := by rw [hH, hlc]; exact hS
  refine wHL hH hlc ?_
  have b_g9 := iB g9
  have b_d9 := jB d9
  have b_e9 := iB e9
  refine lv_iload_n hx hb dX7_hashDown_0 rfl (lv_at hl 1 rfl) ?_
  refine lv_iconst (v := (-1)) hx hb dX7_hashDown_1 (by decide) ?_
  refine m_icmp_ne (X := g9.toInt) (Y := (-1)) (tgt := 7) hx hb dX7_hashDown_2 (by decide) rfl (by decide) (fun c2 => ?_) (fun c2 => ?_)
  · skip
    refine lv_iload_n hx hb dX7_hashDown_7 rfl (lv_at hl 1 rfl) ?_
    refine call_iSP (As := [.int g9]) (rest := []) ⟨hx, hb, hml, hown, hts⟩ (tX0_isNumber (l := l) g9) (va_cwS 1 hts (gS (wr43 _ (List.mem_of_getElem? (i := 19) rfl)) (wr19 _ (List.mem_of_getElem? (i := 17) rfl)) (wr19 _ (List.mem_of_getElem? (i := 5) rfl)) (wr19 _ (List.mem_of_getElem? (i := 18) rfl))) rfl rfl rfl (by decide +kernel) ⟨Nat.le_of_ble_eq_true rfl, Nat.le_of_ble_eq_true rfl⟩) (hK.sub [] rfl) hP hD hE hS hA rfl hl.1 rfl (Nat.le_of_ble_eq_true rfl) dX7_hashDown_8 ⟨Nat.le_of_ble_eq_true rfl, Nat.le_of_ble_eq_true rfl⟩ (fun r8 w9 H locs hw8 hP hD hS => ?_)
    obtain ⟨rfl, hw8_0⟩ := hw8
    have b_r8 := iB r8
    refine m_if_eq (X := r8.toInt) (tgt := 22) hx hb dX7_hashDown_11 (by decide) rfl (fun c11 => ?_) (fun c11 => ?_)
    · skip
      refine lv_iload_n hx hb dX7_hashDown_22 rfl (lv_at hl 1 rfl) ?_
      refine lv_bipush (v := 20) hx hb dX7_hashDown_23 (by decide) ?_
      refine m_icmp_lt (X := g9.toInt) (Y := 20) (tgt := 34) hx hb dX7_hashDown_25 (by decide) rfl (by decide) (fun c25 => ?_) (fun c25 => ?_)
      · skip
        refine lv_iload_n hx hb dX7_hashDown_34 rfl (lv_at hl 1 rfl) ?_
        subst hAe
        rw [hQ]
        exact W.iret (v := g9) hx hb hr (fun t ht hW => ⟨⟨g9, _, rfl, ⟨v_s_looked, v_s_lookedTooOften, rfl⟩, by rw [ht]; exact hP, va_K.moved hW.alike hK, hD⟩, hS.F ht⟩) hS.2.2 dX7_hashDown_35
      · skip
        refine lv_iload hx hb dX7_hashDown_28 (lv_at hl 3 rfl) ?_
        refine lv_iconst (v := 3) hx hb dX7_hashDown_30 (by decide) ?_
        refine m_icmp_le (X := e9.toInt) (Y := 3) (tgt := 36) hx hb dX7_hashDown_31 (by decide) rfl (by decide) (fun c31 => ?_) (fun c31 => ?_)
        · skip
          refine lv_lload_n hx hb dX7_hashDown_36 rfl (lv_at hl 2 rfl) ?_
          refine m_l2i hx hb dX7_hashDown_37 (fun x37 e_x37 => ?_)
          have b_x37 := iB x37
          refine lv_istore (lv' := [(5, .int x37), (0, .ref (q 17)), (1, .int g9), (2, .long d9), (4, .int e9)]) hx hb dX7_hashDown_38 hl (by decide) rfl (fun ls hl => ?_)
          refine lv_aload_n hx hb dX7_hashDown_40 rfl (lv_at hl 1 rfl) ?_
          refine lv_iload hx hb dX7_hashDown_41 (lv_at hl 0 rfl) ?_
          refine call_i (As := [.int x37]) (rest := []) ⟨hx, hb, hml, hown, hts⟩ (tX7_lengthOf (l := l) x37 (by first | assumption | omega | (intros; omega) | decide)) (cwV 1 hts (gV (wr43 _ (List.mem_of_getElem? (i := 20) rfl)) (wr41 _ (List.mem_of_getElem? (i := 20) rfl)) (wr41 _ (List.mem_of_getElem? (i := 21) rfl)) (wr4 _ (List.mem_of_getElem? (i := 3) rfl)) (wr41 _ (List.mem_of_getElem? (i := 22) rfl))) rfl rfl rfl (by decide +kernel) ⟨Nat.le_of_ble_eq_true rfl, Nat.le_of_ble_eq_true rfl⟩) (va_recv hK hP (ci := 6) (q0 := 17) rfl rfl) hK hP hD hE hS hA rfl hl.1 rfl (Nat.le_of_ble_eq_true rfl) dX7_hashDown_43 ⟨Nat.le_of_ble_eq_true rfl, Nat.le_of_ble_eq_true rfl⟩ (fun r43 w9 H locs hw43 hP hD hS => ?_)
          obtain ⟨rfl, hw43_0, hw43_1, hw43_2⟩ := hw43
          have b_r43 := iB r43
          refine lv_istore (lv' := [(6, .int r43), (5, .int x37), (0, .ref (q 17)), (1, .int g9), (2, .long d9), (4, .int e9)]) hx hb dX7_hashDown_46 hl (by decide) rfl (fun ls hl => ?_)
          refine lv_iload_n hx hb dX7_hashDown_48 rfl (lv_at hl 3 rfl) ?_
          refine lv_istore (lv' := [(7, .int g9), (6, .int r43), (5, .int x37), (0, .ref (q 17)), (1, .int g9), (2, .long d9), (4, .int e9)]) hx hb dX7_hashDown_49 hl (by decide) rfl (fun ls hl => ?_)
          refine lv_iconst (v := 0) hx hb dX7_hashDown_51 (by decide) ?_
          refine lv_istore (lv' := [(8, .int 0), (7, .int g9), (6, .int r43), (5, .int x37), (0, .ref (q 17)), (1, .int g9), (2, .long d9), (4, .int e9)]) hx hb dX7_hashDown_52 hl (by decide) rfl (fun ls hl => ?_)
          have J54 : ∀ (n54 : Nat) (l7_54 : Int32) (l8_54 : Int32) (v_s_looked_54 : Int32) (v_s_lookedTooOften_54 : Int32) (H : Heap) (locs : List Loc) (ls : Array Slot), (0 ≤ l8_54.toInt) → (l8_54.toInt ≤ 4000) → (4000 - l8_54.toInt < (n54 : Int)) → va_P D vwCl (tw cs q v_t_tapeSize v_t_textSize v_t_faultKind a_t_tape a_t_text a_g_beyond v_g_size a_g_steps a_h_beyond v_h_size a_h_steps a_r_scratch a_r_now v_r_takes v_r_negative v_r_namePlace v_r_faultKind v_r_faultPlace v_a_size v_a_limit v_a_digits v_a_kind v_a_from v_a_to v_o_size a_o_out v_b_size v_b_limit v_b_digits v_b_kind v_b_from v_b_to a_u_atom a_u_other a_u_hand v_u_marksMade v_u_came v_u_guesses v_u_right v_u_taken a_u_vars a_u_marks a_u_outcomes a_u_indexes v_s_things v_s_looked_54 v_s_lookedTooOften_54 v_s_arraysMade v_s_cellsMade a_s_classes a_s_starts a_s_lengths a_s_cells a_L a_K a_vc a_vd a_si a_sj a_iv a_inn a_ac) H → va_D A (tw cs q v_t_tapeSize v_t_textSize v_t_faultKind a_t_tape a_t_text a_g_beyond v_g_size a_g_steps a_h_beyond v_h_size a_h_steps a_r_scratch a_r_now v_r_takes v_r_negative v_r_namePlace v_r_faultKind v_r_faultPlace v_a_size v_a_limit v_a_digits v_a_kind v_a_from v_a_to v_o_size a_o_out v_b_size v_b_limit v_b_digits v_b_kind v_b_from v_b_to a_u_atom a_u_other a_u_hand v_u_marksMade v_u_came v_u_guesses v_u_right v_u_taken a_u_vars a_u_marks a_u_outcomes a_u_indexes v_s_things v_s_looked_54 v_s_lookedTooOften_54 v_s_arraysMade v_s_cellsMade a_s_classes a_s_starts a_s_lengths a_s_cells a_L a_K a_vc a_vd a_si a_sj a_iv a_inn a_ac) → va_S A s.heap H locs → lv_has ls 9 [(0, .ref (q 17)), (4, .int e9), (5, .int x37), (6, .int r43), (7, .int l7_54), (8, .int l8_54)] → W p l e (headSpec (wG yX7_hashDown cX7_hashDown 9 (some .int)) rmX7_hashDown_q3).room s m ([.ref (q 17), .int g9, .long d9, .int e9] : List Value).toArray below meth c H locs 0 0 Q (F0 m 54 ls []) := by
            intro n54
            induction n54 with
            | zero =>
              intro l7_54 l8_54 v_s_looked_54 v_s_lookedTooOften_54 H locs ls f54_0 f54_1 hm54
              exfalso
              omega
            | succ n54 ih54 =>
              intro l7_54 l8_54 v_s_looked_54 v_s_lookedTooOften_54 H locs ls f54_0 f54_1 hm54 hP hD hS hl
              refine lv_iload hx hb dX7_hashDown_54 (lv_at hl 5 rfl) ?_
              refine lv_iload hx hb dX7_hashDown_56 (lv_at hl 3 rfl) ?_
              refine m_icmp_ge (X := l8_54.toInt) (Y := r43.toInt) (tgt := 106) hx hb dX7_hashDown_58 (by decide) rfl rfl (fun c58 => ?_) (fun c58 => ?_)
              · skip
                refine lv_iload hx hb dX7_hashDown_106 (lv_at hl 4 rfl) ?_
                subst hAe
                rw [hQ]
                exact W.iret (v := l7_54) hx hb hr (fun t ht hW => ⟨⟨l7_54, _, rfl, ⟨v_s_looked_54, v_s_lookedTooOften_54, rfl⟩, by rw [ht]; exact hP, va_K.moved hW.alike hK, hD⟩, hS.F ht⟩) hS.2.2 dX7_hashDown_108
              · skip
                refine lv_aload_n hx hb dX7_hashDown_61 rfl (lv_at hl 0 rfl) ?_
                refine call_i (As := []) (rest := []) ⟨hx, hb, hml, hown, hts⟩ (tX7_mayLook (l := l) ) (cwV 0 hts (gV (wr43 _ (List.mem_of_getElem? (i := 21) rfl)) (wr43 _ (List.mem_of_getElem? (i := 22) rfl)) (wr43 _ (List.mem_of_getElem? (i := 23) rfl)) (wr4 _ (List.mem_of_getElem? (i := 3) rfl)) (wr44 _ (List.mem_of_getElem? (i := 0) rfl))) rfl rfl rfl (by decide +kernel) ⟨Nat.le_of_ble_eq_true rfl, Nat.le_of_ble_eq_true rfl⟩) (va_recv hK hP (ci := 6) (q0 := 17) rfl rfl) hK hP hD hE hS hA rfl hl.1 rfl (Nat.le_of_ble_eq_true rfl) dX7_hashDown_62 ⟨Nat.le_of_ble_eq_true rfl, Nat.le_of_ble_eq_true rfl⟩ (fun r62 w9 H locs hw62 hP hD hS => ?_)
                obtain ⟨v_s_looked_62, v_s_lookedTooOften_62, rfl, hw62_0⟩ := hw62
                have b_v_s_looked_62 := iB v_s_looked_62
                have b_v_s_lookedTooOften_62 := iB v_s_lookedTooOften_62
                have b_r62 := iB r62
                refine m_if_eq (X := r62.toInt) (tgt := 106) hx hb dX7_hashDown_65 (by decide) rfl (fun c65 => ?_) (fun c65 => ?_)
                · skip
                  refine lv_iload hx hb dX7_hashDown_106 (lv_at hl 4 rfl) ?_
                  subst hAe
                  rw [hQ]
                  exact W.iret (v := l7_54) hx hb hr (fun t ht hW => ⟨⟨l7_54, _, rfl, ⟨v_s_looked_62, v_s_lookedTooOften_62, rfl⟩, by rw [ht]; exact hP, va_K.moved hW.alike hK, hD⟩, hS.F ht⟩) hS.2.2 dX7_hashDown_108
                · skip
                  refine lv_bipush (v := 31) hx hb dX7_hashDown_68 (by decide) ?_
                  refine lv_iload hx hb dX7_hashDown_70 (lv_at hl 4 rfl) ?_
                  refine m_imul (X := 31) (Y := l7_54.toInt) hx hb dX7_hashDown_72 (by decide) rfl (fun x72 e_x72 g9 => ?_)
                  obtain ⟨k_x72, g_x72⟩ := g9
                  have b_x72 := iB x72
                  try (have q_x72 : x72.toInt = 31 * l7_54.toInt := (by omega); clear g_x72 k_x72)
                  refine lv_aload_n hx hb dX7_hashDown_73 rfl (lv_at hl 0 rfl) ?_
                  refine lv_aload_n hx hb dX7_hashDown_74 rfl (lv_at hl 0 rfl) ?_
                  refine lv_iload hx hb dX7_hashDown_75 (lv_at hl 2 rfl) ?_
                  refine lv_iload hx hb dX7_hashDown_77 (lv_at hl 5 rfl) ?_
                  refine call_i (As := [.int x37, .int l8_54]) (rest := [.ref (q 17), .int x72]) ⟨hx, hb, hml, hown, hts⟩ (tX7_cellClass (l := l) x37 l8_54 (by first | assumption | omega | (intros; omega) | decide)) (cwV 2 hts (gV (wr38 _ (List.mem_of_getElem? (i := 20) rfl)) (wr38 _ (List.mem_of_getElem? (i := 21) rfl)) (wr38 _ (List.mem_of_getElem? (i := 22) rfl)) (wr4 _ (List.mem_of_getElem? (i := 3) rfl)) (wr38 _ (List.mem_of_getElem? (i := 23) rfl))) rfl rfl rfl (by decide +kernel) ⟨Nat.le_of_ble_eq_true rfl, Nat.le_of_ble_eq_true rfl⟩) (va_recv hK hP (ci := 6) (q0 := 17) rfl rfl) hK hP hD hE hS hA rfl hl.1 rfl (Nat.le_of_ble_eq_true rfl) dX7_hashDown_79 ⟨Nat.le_of_ble_eq_true rfl, Nat.le_of_ble_eq_true rfl⟩ (fun r79 w9 H locs hw79 hP hD hS => ?_)
                  obtain ⟨rfl⟩ := hw79
                  have b_r79 := iB r79
                  refine lv_aload_n hx hb dX7_hashDown_82 rfl (lv_at hl 0 rfl) ?_
                  refine lv_iload hx hb dX7_hashDown_83 (lv_at hl 2 rfl) ?_
                  refine lv_iload hx hb dX7_hashDown_85 (lv_at hl 5 rfl) ?_
                  refine call_j (As := [.int x37, .int l8_54]) (rest := [.int r79, .ref (q 17), .int x72]) ⟨hx, hb, hml, hown, hts⟩ (tX7_cellDatum (l := l) x37 l8_54 (by first | assumption | omega | (intros; omega) | decide)) (cwV 2 hts (gV (wr39 _ (List.mem_of_getElem? (i := 0) rfl)) (wr39 _ (List.mem_of_getElem? (i := 1) rfl)) (wr39 _ (List.mem_of_getElem? (i := 2) rfl)) (wr4 _ (List.mem_of_getElem? (i := 3) rfl)) (wr39 _ (List.mem_of_getElem? (i := 3) rfl))) rfl rfl rfl (by decide +kernel) ⟨Nat.le_of_ble_eq_true rfl, Nat.le_of_ble_eq_true rfl⟩) (va_recv hK hP (ci := 6) (q0 := 17) rfl rfl) hK hP hD hE hS hA rfl hl.1 rfl (Nat.le_of_ble_eq_true rfl) dX7_hashDown_87 ⟨Nat.le_of_ble_eq_true rfl, Nat.le_of_ble_eq_true rfl⟩ (fun r87 w9 H locs hw87 hP hD hS => ?_)
                  obtain ⟨rfl⟩ := hw87
                  have b_r87 := jB r87
                  refine lv_iload hx hb dX7_hashDown_90 (lv_at hl 1 rfl) ?_
                  refine lv_iconst (v := 1) hx hb dX7_hashDown_92 (by decide) ?_
                  refine m_iadd (X := e9.toInt) (Y := 1) hx hb dX7_hashDown_93 rfl (by decide) (fun x93 e_x93 g9 => ?_)
                  obtain ⟨k_x93, g_x93⟩ := g9
                  have b_x93 := iB x93
                  try (have q_x93 : x93.toInt = e9.toInt + 1 := (by omega); clear g_x93 k_x93)
                  refine call_i (As := [.int r79, .long r87, .int x93]) (rest := [.int x72]) ⟨hx, hb, hml, hown, hts⟩ (tX7_hashDown_q2 (l := l) r79 r87 x93 (by first | assumption | omega | (intros; omega) | decide) (by first | assumption | omega | (intros; omega) | decide) (by first | assumption | omega | (intros; omega) | decide)) (cwV 3 hts (gV (wr43 _ (List.mem_of_getElem? (i := 15) rfl)) (wr43 _ (List.mem_of_getElem? (i := 16) rfl)) (wr43 _ (List.mem_of_getElem? (i := 17) rfl)) (wr4 _ (List.mem_of_getElem? (i := 3) rfl)) (wr43 _ (List.mem_of_getElem? (i := 18) rfl))) rfl rfl rfl (by decide +kernel) ⟨Nat.le_of_ble_eq_true rfl, Nat.le_of_ble_eq_true rfl⟩) (va_recv hK hP (ci := 6) (q0 := 17) rfl rfl) hK hP hD hE hS hA rfl hl.1 rfl (Nat.le_of_ble_eq_true rfl) dX7_hashDown_94 ⟨Nat.le_of_ble_eq_true rfl, Nat.le_of_ble_eq_true rfl⟩ (fun r94 w9 H locs hw94 hP hD hS => ?_)
                  obtain ⟨v_s_looked_94, v_s_lookedTooOften_94, rfl⟩ := hw94
                  have b_v_s_looked_94 := iB v_s_looked_94
                  have b_v_s_lookedTooOften_94 := iB v_s_lookedTooOften_94
                  have b_r94 := iB r94
                  refine m_iadd (X := x72.toInt) (Y := r94.toInt) hx hb dX7_hashDown_97 rfl rfl (fun x97 e_x97 g9 => ?_)
                  obtain ⟨k_x97, g_x97⟩ := g9
                  have b_x97 := iB x97
                  try (have q_x97 : x97.toInt = x72.toInt + r94.toInt := (by omega); clear g_x97 k_x97)
                  refine lv_istore (lv' := [(7, .int x97), (0, .ref (q 17)), (4, .int e9), (5, .int x37), (6, .int r43), (8, .int l8_54)]) hx hb dX7_hashDown_98 hl (by decide) rfl (fun ls hl => ?_)
                  obtain ⟨x100, e_x100⟩ : ∃ z : Int32, z = l8_54 + (1 : Int32) := ⟨_, rfl⟩
                  obtain ⟨k_x100, g_x100⟩ : ∃ k : Int, x100.toInt = l8_54.toInt + (1) + k * 4294967296 := by rw [e_x100]; exact iAdd l8_54 (1)
                  have b_x100 := iB x100
                  try (have q_x100 : x100.toInt = l8_54.toInt + (1) := (by omega); clear g_x100 k_x100)
                  refine lv_iinc (v := x100) (lv' := [(8, .int x100), (7, .int x97), (0, .ref (q 17)), (4, .int e9), (5, .int x37), (6, .int r43)]) hx hb dX7_hashDown_100 hl (k := 5) rfl (by rw [e_x100]; rfl) (by decide) rfl (fun ls hl => ?_)
                  refine lv_goto (tgt := 54) hx hb dX7_hashDown_103 (by decide) ?_
                  exact ih54 x97 x100 v_s_looked_94 v_s_lookedTooOften_94 H locs ls (by first | assumption | omega | (intros; omega) | decide) (by first | assumption | omega | (intros; omega) | decide) (by omega) hP hD hS (lv_sub hl [2, 3, 4, 5, 1, 0] rfl)
          exact J54 ((4000 - (0 : Int32).toInt).toNat + 1) g9 (0 : Int32) v_s_looked v_s_lookedTooOften H locs ls (by first | assumption | omega | (intros; omega) | decide) (by first | assumption | omega | (intros; omega) | decide) (by omega) hP hD hS (lv_sub hl [4, 7, 3, 2, 1, 0] rfl)
        · skip
          refine lv_iload_n hx hb dX7_hashDown_34 rfl (lv_at hl 1 rfl) ?_
          subst hAe
          rw [hQ]
          exact W.iret (v := g9) hx hb hr (fun t ht hW => ⟨⟨g9, _, rfl, ⟨v_s_looked, v_s_lookedTooOften, rfl⟩, by rw [ht]; exact hP, va_K.moved hW.alike hK, hD⟩, hS.F ht⟩) hS.2.2 dX7_hashDown_35
    · skip
      refine lv_lload_n hx hb dX7_hashDown_14 rfl (lv_at hl 2 rfl) ?_
      refine lv_lload_n hx hb dX7_hashDown_15 rfl (lv_at hl 2 rfl) ?_
      refine lv_bipush (v := 32) hx hb dX7_hashDown_16 (by decide) ?_
      refine m_lushr hx hb dX7_hashDown_18 (fun x18 e_x18 => ?_)
      have b_x18 := jB x18
      refine m_lxor hx hb dX7_hashDown_19 (fun x19 e_x19 => ?_)
      have b_x19 := jB x19
      refine m_l2i hx hb dX7_hashDown_20 (fun x20 e_x20 => ?_)
      have b_x20 := iB x20
      subst hAe
      rw [hQ]
      exact W.iret (v := x20) hx hb hr (fun t ht hW => ⟨⟨x20, _, rfl, ⟨v_s_looked, v_s_lookedTooOften, rfl⟩, by rw [ht]; exact hP, va_K.moved hW.alike hK, hD⟩, hS.F ht⟩) hS.2.2 dX7_hashDown_21
  · skip
    refine lv_iconst (v := 0) hx hb dX7_hashDown_5 (by decide) ?_
    subst hAe
    rw [hQ]
    exact W.iret (v := 0) hx hb hr (fun t ht hW => ⟨⟨0, _, rfl, ⟨v_s_looked, v_s_lookedTooOften, rfl⟩, by rw [ht]; exact hP, va_K.moved hW.alike hK, hD⟩, hS.F ht⟩) hS.2.2 dX7_hashDown_6

def rmX7_hashDown_q4 : Room := { frames := 120, cells := 0, slots := 0, locals := 2400 }
set_option maxHeartbeats 4000000 in
set_option maxRecDepth 100000 in
theorem tX7_hashDown_q4 {l : Launch} {D : va_G} {K : Nat → Nat → Nat} {cs : Nat → ClassId} {q : Nat → Nat} {v_t_tapeSize v_t_textSize v_t_faultKind v_g_size v_h_size v_r_takes v_r_negative v_r_namePlace v_r_faultKind v_r_faultPlace v_a_size v_a_limit v_a_digits v_a_kind v_a_from v_a_to v_o_size v_b_size v_b_limit v_b_digits v_b_kind v_b_from v_b_to v_u_marksMade v_u_came v_u_guesses v_u_right v_u_taken v_s_things v_s_looked v_s_lookedTooOften v_s_arraysMade v_s_cellsMade : Int32} {a_t_tape a_t_text a_o_out a_u_outcomes a_u_indexes a_s_classes a_s_starts a_s_lengths a_vc : Nat → Int32} {a_g_beyond a_h_beyond a_r_scratch a_r_now a_u_atom a_u_other a_u_hand : Nat} {a_g_steps a_h_steps a_u_vars a_u_marks : Nat → Option Nat} {a_s_cells a_vd a_sj : Nat → Int64} {a_L : List Nat} {a_K a_iv a_inn : Nat → Nat} {a_si a_ac : Nat → Nat → Int32} (g9 : Int32) (d9 : Int64) (e9 : Int32) (p_0 : STO v_s_things v_s_cellsMade a_s_starts a_s_lengths) (p_1 : 0 ≤ e9.toInt) (p_2 : e9.toInt ≤ 4) : CtI l yX7_hashDown (wG yX7_hashDown cX7_hashDown 9 (some .int)) rmX7_hashDown_q4 D (twT cs) K [.ref (q 17), .int g9, .long d9, .int e9] (tw cs q v_t_tapeSize v_t_textSize v_t_faultKind a_t_tape a_t_text a_g_beyond v_g_size a_g_steps a_h_beyond v_h_size a_h_steps a_r_scratch a_r_now v_r_takes v_r_negative v_r_namePlace v_r_faultKind v_r_faultPlace v_a_size v_a_limit v_a_digits v_a_kind v_a_from v_a_to v_o_size a_o_out v_b_size v_b_limit v_b_digits v_b_kind v_b_from v_b_to a_u_atom a_u_other a_u_hand v_u_marksMade v_u_came v_u_guesses v_u_right v_u_taken a_u_vars a_u_marks a_u_outcomes a_u_indexes v_s_things v_s_looked v_s_lookedTooOften v_s_arraysMade v_s_cellsMade a_s_classes a_s_starts a_s_lengths a_s_cells a_L a_K a_vc a_vd a_si a_sj a_iv a_inn a_ac) (fun r w1 => ∃ (v_s_looked' : Int32) (v_s_lookedTooOften' : Int32), w1 = (tw cs q v_t_tapeSize v_t_textSize v_t_faultKind a_t_tape a_t_text a_g_beyond v_g_size a_g_steps a_h_beyond v_h_size a_h_steps a_r_scratch a_r_now v_r_takes v_r_negative v_r_namePlace v_r_faultKind v_r_faultPlace v_a_size v_a_limit v_a_digits v_a_kind v_a_from v_a_to v_o_size a_o_out v_b_size v_b_limit v_b_digits v_b_kind v_b_from v_b_to a_u_atom a_u_other a_u_hand v_u_marksMade v_u_came v_u_guesses v_u_right v_u_taken a_u_vars a_u_marks a_u_outcomes a_u_indexes v_s_things v_s_looked' v_s_lookedTooOften' v_s_arraysMade v_s_cellsMade a_s_classes a_s_starts a_s_lengths a_s_cells a_L a_K a_vc a_vd a_si a_sj a_iv a_inn a_ac)) 0 0 := by
  intro sz
  refine Met.ofW (cc := cX7_hashDown) (maxL := 9) (ret := (some .int)) (by decide) rfl ?_
  intro p e s m args below meth c s₁ B hml hv
  obtain ⟨rfl, hsz, hP, hK, hD0, hE⟩ := hv
  have hx := B.exec
  have hb := B.bytes
  have hr := B.returns
  have hts := atoms_spec (ws := (wG yX7_hashDown cX7_hashDown 9 (some .int))) B.pre
  have hown : s.vm.findClass RX7 = some m.cls := findClass_of_methodNamed B.named
  have hlocks := B.notSynchronized
  subst hsz
  have hD := hD0.self (sz := s.heap.size)
  obtain ⟨A, hAe⟩ : ∃ A : Nat → Prop, A = va_A (tw cs q v_t_tapeSize v_t_textSize v_t_faultKind a_t_tape a_t_text a_g_beyond v_g_size a_g_steps a_h_beyond v_h_size a_h_steps a_r_scratch a_r_now v_r_takes v_r_negative v_r_namePlace v_r_faultKind v_r_faultPlace v_a_size v_a_limit v_a_digits v_a_kind v_a_from v_a_to v_o_size a_o_out v_b_size v_b_limit v_b_digits v_b_kind v_b_from v_b_to a_u_atom a_u_other a_u_hand v_u_marksMade v_u_came v_u_guesses v_u_right v_u_taken a_u_vars a_u_marks a_u_outcomes a_u_indexes v_s_things v_s_looked v_s_lookedTooOften v_s_arraysMade v_s_cellsMade a_s_classes a_s_starts a_s_lengths a_s_cells a_L a_K a_vc a_vd a_si a_sj a_iv a_inn a_ac) s.heap.size := ⟨_, rfl⟩
  rw [← hAe] at hD hE
  have hA : ∀ q : Nat, s.heap.size ≤ q → A q := fun q h => by rw [hAe]; exact Or.inr h
  have hS : va_S A s.heap s.heap [] := va_S.rf
  have hl := lv_entry ([.ref (q 17), .int g9, .long d9, .int e9]) (n := 9) (Nat.le_of_ble_eq_true rfl)
  rw [lg_entry_eq]
  generalize (lg_sl ([.ref (q 17), .int g9, .long d9, .int e9]) ++ List.replicate (9 - (lg_sl ([.ref (q 17), .int g9, .long d9, .int e9])).length) Slot.unset).toArray = ls at hl ⊢
  have hl : lv_has ls 9 [(0, .ref (q 17)), (1, .int g9), (2, .long d9), (4, .int e9)] := hl
  refine wq (fun Q hQ => ?_)
  have kc0 : (-1 : Int32).toInt = -1 := by decide
  have kc1 : (0 : Int32).toInt = 0 := by decide
  have kc2 : (1 : Int32).toInt = 1 := by decide
  have kc3 : (3 : Int32).toInt = 3 := by decide
  have kc4 : (20 : Int32).toInt = 20 := by decide
  have kc5 : (31 : Int32).toInt = 31 := by decide
  have kc6 : (32 : Int32).toInt = 32 := by decide
  obtain ⟨H, hH⟩ : ∃ H : Heap, H = s.heap := ⟨_, rfl⟩
  obtain ⟨locs, hlc⟩ : ∃ L : List Loc, L = [] := ⟨_, rfl⟩
  have hP : va_P D vwCl (tw cs q v_t_tapeSize v_t_textSize v_t_faultKind a_t_tape a_t_text a_g_beyond v_g_size a_g_steps a_h_beyond v_h_size a_h_steps a_r_scratch a_r_now v_r_takes v_r_negative v_r_namePlace v_r_faultKind v_r_faultPlace v_a_size v_a_limit v_a_digits v_a_kind v_a_from v_a_to v_o_size a_o_out v_b_size v_b_limit v_b_digits v_b_kind v_b_from v_b_to a_u_atom a_u_other a_u_hand v_u_marksMade v_u_came v_u_guesses v_u_right v_u_taken a_u_vars a_u_marks a_u_outcomes a_u_indexes v_s_things v_s_looked v_s_lookedTooOften v_s_arraysMade v_s_cellsMade a_s_classes a_s_starts a_s_lengths a_s_cells a_L a_K a_vc a_vd a_si a_sj a_iv a_inn a_ac) H := by rw [hH]; exact hP
  have hS : va_S A s.heap H locs := by rw [hH, hlc]; exact hS
  refine wHL hH hlc ?_
  have b_g9 := iB g9
  have b_d9 := jB d9
  have b_e9 := iB e9
  refine lv_iload_n hx hb dX7_hashDown_0 rfl (lv_at hl 1 rfl) ?_
  refine lv_iconst (v := (-1)) hx hb dX7_hashDown_1 (by decide) ?_
  refine m_icmp_ne (X := g9.toInt) (Y := (-1)) (tgt := 7) hx hb dX7_hashDown_2 (by decide) rfl (by decide) (fun c2 => ?_) (fun c2 => ?_)
  · skip
    refine lv_iload_n hx hb dX7_hashDown_7 rfl (lv_at hl 1 rfl) ?_
    refine call_iSP (As := [.int g9]) (rest := []) ⟨hx, hb, hml, hown, hts⟩ (tX0_isNumber (l := l) g9) (va_cwS 1 hts (gS (wr43 _ (List.mem_of_getElem? (i := 19) rfl)) (wr19 _ (List.mem_of_getElem? (i := 17) rfl)) (wr19 _ (List.mem_of_getElem? (i := 5) rfl)) (wr19 _ (List.mem_of_getElem? (i := 18) rfl))) rfl rfl rfl (by decide +kernel) ⟨Nat.le_of_ble_eq_true rfl, Nat.le_of_ble_eq_true rfl⟩) (hK.sub [] rfl) hP hD hE hS hA rfl hl.1 rfl (Nat.le_of_ble_eq_true rfl) dX7_hashDown_8 ⟨Nat.le_of_ble_eq_true rfl, Nat.le_of_ble_eq_true rfl⟩ (fun r8 w9 H locs hw8 hP hD hS => ?_)
    obtain ⟨rfl, hw8_0⟩ := hw8
    have b_r8 := iB r8
    refine m_if_eq (X := r8.toInt) (tgt := 22) hx hb dX7_hashDown_11 (by decide) rfl (fun c11 => ?_) (fun c11 => ?_)
    · skip
      refine lv_iload_n hx hb dX7_hashDown_22 rfl (lv_at hl 1 rfl) ?_
      refine lv_bipush (v := 20) hx hb dX7_hashDown_23 (by decide) ?_
      refine m_icmp_lt (X := g9.toInt) (Y := 20) (tgt := 34) hx hb dX7_hashDown_25 (by decide) rfl (by decide) (fun c25 => ?_) (fun c25 => ?_)
      · skip
        refine lv_iload_n hx hb dX7_hashDown_34 rfl (lv_at hl 1 rfl) ?_
        subst hAe
        rw [hQ]
        exact W.iret (v := g9) hx hb hr (fun t ht hW => ⟨⟨g9, _, rfl, ⟨v_s_looked, v_s_lookedTooOften, rfl⟩, by rw [ht]; exact hP, va_K.moved hW.alike hK, hD⟩, hS.F ht⟩) hS.2.2 dX7_hashDown_35
      · skip
        refine lv_iload hx hb dX7_hashDown_28 (lv_at hl 3 rfl) ?_
        refine lv_iconst (v := 3) hx hb dX7_hashDown_30 (by decide) ?_
        refine m_icmp_le (X := e9.toInt) (Y := 3) (tgt := 36) hx hb dX7_hashDown_31 (by decide) rfl (by decide) (fun c31 => ?_) (fun c31 => ?_)
        · skip
          refine lv_lload_n hx hb dX7_hashDown_36 rfl (lv_at hl 2 rfl) ?_
          refine m_l2i hx hb dX7_hashDown_37 (fun x37 e_x37 => ?_)
          have b_x37 := iB x37
          refine lv_istore (lv' := [(5, .int x37), (0, .ref (q 17)), (1, .int g9), (2, .long d9), (4, .int e9)]) hx hb dX7_hashDown_38 hl (by decide) rfl (fun ls hl => ?_)
          refine lv_aload_n hx hb dX7_hashDown_40 rfl (lv_at hl 1 rfl) ?_
          refine lv_iload hx hb dX7_hashDown_41 (lv_at hl 0 rfl) ?_
          refine call_i (As := [.int x37]) (rest := []) ⟨hx, hb, hml, hown, hts⟩ (tX7_lengthOf (l := l) x37 (by first | assumption | omega | (intros; omega) | decide)) (cwV 1 hts (gV (wr43 _ (List.mem_of_getElem? (i := 20) rfl)) (wr41 _ (List.mem_of_getElem? (i := 20) rfl)) (wr41 _ (List.mem_of_getElem? (i := 21) rfl)) (wr4 _ (List.mem_of_getElem? (i := 3) rfl)) (wr41 _ (List.mem_of_getElem? (i := 22) rfl))) rfl rfl rfl (by decide +kernel) ⟨Nat.le_of_ble_eq_true rfl, Nat.le_of_ble_eq_true rfl⟩) (va_recv hK hP (ci := 6) (q0 := 17) rfl rfl) hK hP hD hE hS hA rfl hl.1 rfl (Nat.le_of_ble_eq_true rfl) dX7_hashDown_43 ⟨Nat.le_of_ble_eq_true rfl, Nat.le_of_ble_eq_true rfl⟩ (fun r43 w9 H locs hw43 hP hD hS => ?_)
          obtain ⟨rfl, hw43_0, hw43_1, hw43_2⟩ := hw43
          have b_r43 := iB r43
          refine lv_istore (lv' := [(6, .int r43), (5, .int x37), (0, .ref (q 17)), (1, .int g9), (2, .long d9), (4, .int e9)]) hx hb dX7_hashDown_46 hl (by decide) rfl (fun ls hl => ?_)
          refine lv_iload_n hx hb dX7_hashDown_48 rfl (lv_at hl 3 rfl) ?_
          refine lv_istore (lv' := [(7, .int g9), (6, .int r43), (5, .int x37), (0, .ref (q 17)), (1, .int g9), (2, .long d9), (4, .int e9)]) hx hb dX7_hashDown_49 hl (by decide) rfl (fun ls hl => ?_)
          refine lv_iconst (v := 0) hx hb dX7_hashDown_51 (by decide) ?_
          refine lv_istore (lv' := [(8, .int 0), (7, .int g9), (6, .int r43), (5, .int x37), (0, .ref (q 17)), (1, .int g9), (2, .long d9), (4, .int e9)]) hx hb dX7_hashDown_52 hl (by decide) rfl (fun ls hl => ?_)
          have J54 : ∀ (n54 : Nat) (l7_54 : Int32) (l8_54 : Int32) (v_s_looked_54 : Int32) (v_s_lookedTooOften_54 : Int32) (H : Heap) (locs : List Loc) (ls : Array Slot), (0 ≤ l8_54.toInt) → (l8_54.toInt ≤ 4000) → (4000 - l8_54.toInt < (n54 : Int)) → va_P D vwCl (tw cs q v_t_tapeSize v_t_textSize v_t_faultKind a_t_tape a_t_text a_g_beyond v_g_size a_g_steps a_h_beyond v_h_size a_h_steps a_r_scratch a_r_now v_r_takes v_r_negative v_r_namePlace v_r_faultKind v_r_faultPlace v_a_size v_a_limit v_a_digits v_a_kind v_a_from v_a_to v_o_size a_o_out v_b_size v_b_limit v_b_digits v_b_kind v_b_from v_b_to a_u_atom a_u_other a_u_hand v_u_marksMade v_u_came v_u_guesses v_u_right v_u_taken a_u_vars a_u_marks a_u_outcomes a_u_indexes v_s_things v_s_looked_54 v_s_lookedTooOften_54 v_s_arraysMade v_s_cellsMade a_s_classes a_s_starts a_s_lengths a_s_cells a_L a_K a_vc a_vd a_si a_sj a_iv a_inn a_ac) H → va_D A (tw cs q v_t_tapeSize v_t_textSize v_t_faultKind a_t_tape a_t_text a_g_beyond v_g_size a_g_steps a_h_beyond v_h_size a_h_steps a_r_scratch a_r_now v_r_takes v_r_negative v_r_namePlace v_r_faultKind v_r_faultPlace v_a_size v_a_limit v_a_digits v_a_kind v_a_from v_a_to v_o_size a_o_out v_b_size v_b_limit v_b_digits v_b_kind v_b_from v_b_to a_u_atom a_u_other a_u_hand v_u_marksMade v_u_came v_u_guesses v_u_right v_u_taken a_u_vars a_u_marks a_u_outcomes a_u_indexes v_s_things v_s_looked_54 v_s_lookedTooOften_54 v_s_arraysMade v_s_cellsMade a_s_classes a_s_starts a_s_lengths a_s_cells a_L a_K a_vc a_vd a_si a_sj a_iv a_inn a_ac) → va_S A s.heap H locs → lv_has ls 9 [(0, .ref (q 17)), (4, .int e9), (5, .int x37), (6, .int r43), (7, .int l7_54), (8, .int l8_54)] → W p l e (headSpec (wG yX7_hashDown cX7_hashDown 9 (some .int)) rmX7_hashDown_q4).room s m ([.ref (q 17), .int g9, .long d9, .int e9] : List Value).toArray below meth c H locs 0 0 Q (F0 m 54 ls []) := by
            intro n54
            induction n54 with
            | zero =>
              intro l7_54 l8_54 v_s_looked_54 v_s_lookedTooOften_54 H locs ls f54_0 f54_1 hm54
              exfalso
              omega
            | succ n54 ih54 =>
              intro l7_54 l8_54 v_s_looked_54 v_s_lookedTooOften_54 H locs ls f54_0 f54_1 hm54 hP hD hS hl
              refine lv_iload hx hb dX7_hashDown_54 (lv_at hl 5 rfl) ?_
              refine lv_iload hx hb dX7_hashDown_56 (lv_at hl 3 rfl) ?_
              refine m_icmp_ge (X := l8_54.toInt) (Y := r43.toInt) (tgt := 106) hx hb dX7_hashDown_58 (by decide) rfl rfl (fun c58 => ?_) (fun c58 => ?_)
              · skip
                refine lv_iload hx hb dX7_hashDown_106 (lv_at hl 4 rfl) ?_
                subst hAe
                rw [hQ]
                exact W.iret (v := l7_54) hx hb hr (fun t ht hW => ⟨⟨l7_54, _, rfl, ⟨v_s_looked_54, v_s_lookedTooOften_54, rfl⟩, by rw [ht]; exact hP, va_K.moved hW.alike hK, hD⟩, hS.F ht⟩) hS.2.2 dX7_hashDown_108
              · skip
                refine lv_aload_n hx hb dX7_hashDown_61 rfl (lv_at hl 0 rfl) ?_
                refine call_i (As := []) (rest := []) ⟨hx, hb, hml, hown, hts⟩ (tX7_mayLook (l := l) ) (cwV 0 hts (gV (wr43 _ (List.mem_of_getElem? (i := 21) rfl)) (wr43 _ (List.mem_of_getElem? (i := 22) rfl)) (wr43 _ (List.mem_of_getElem? (i := 23) rfl)) (wr4 _ (List.mem_of_getElem? (i := 3) rfl)) (wr44 _ (List.mem_of_getElem? (i := 0) rfl))) rfl rfl rfl (by decide +kernel) ⟨Nat.le_of_ble_eq_true rfl, Nat.le_of_ble_eq_true rfl⟩) (va_recv hK hP (ci := 6) (q0 := 17) rfl rfl) hK hP hD hE hS hA rfl hl.1 rfl (Nat.le_of_ble_eq_true rfl) dX7_hashDown_62 ⟨Nat.le_of_ble_eq_true rfl, Nat.le_of_ble_eq_true rfl⟩ (fun r62 w9 H locs hw62 hP hD hS => ?_)
                obtain ⟨v_s_looked_62, v_s_lookedTooOften_62, rfl, hw62_0⟩ := hw62
                have b_v_s_looked_62 := iB v_s_looked_62
                have b_v_s_lookedTooOften_62 := iB v_s_lookedTooOften_62
                have b_r62 := iB r62
                refine m_if_eq (X := r62.toInt) (tgt := 106) hx hb dX7_hashDown_65 (by decide) rfl (fun c65 => ?_) (fun c65 => ?_)
                · skip
                  refine lv_iload hx hb dX7_hashDown_106 (lv_at hl 4 rfl) ?_
                  subst hAe
                  rw [hQ]
                  exact W.iret (v := l7_54) hx hb hr (fun t ht hW => ⟨⟨l7_54, _, rfl, ⟨v_s_looked_62, v_s_lookedTooOften_62, rfl⟩, by rw [ht]; exact hP, va_K.moved hW.alike hK, hD⟩, hS.F ht⟩) hS.2.2 dX7_hashDown_108
                · skip
                  refine lv_bipush (v := 31) hx hb dX7_hashDown_68 (by decide) ?_
                  refine lv_iload hx hb dX7_hashDown_70 (lv_at hl 4 rfl) ?_
                  refine m_imul (X := 31) (Y := l7_54.toInt) hx hb dX7_hashDown_72 (by decide) rfl (fun x72 e_x72 g9 => ?_)
                  obtain ⟨k_x72, g_x72⟩ := g9
                  have b_x72 := iB x72
                  try (have q_x72 : x72.toInt = 31 * l7_54.toInt := (by omega); clear g_x72 k_x72)
                  refine lv_aload_n hx hb dX7_hashDown_73 rfl (lv_at hl 0 rfl) ?_
                  refine lv_aload_n hx hb dX7_hashDown_74 rfl (lv_at hl 0 rfl) ?_
                  refine lv_iload hx hb dX7_hashDown_75 (lv_at hl 2 rfl) ?_
                  refine lv_iload hx hb dX7_hashDown_77 (lv_at hl 5 rfl) ?_
                  refine call_i (As := [.int x37, .int l8_54]) (rest := [.ref (q 17), .int x72]) ⟨hx, hb, hml, hown, hts⟩ (tX7_cellClass (l := l) x37 l8_54 (by first | assumption | omega | (intros; omega) | decide)) (cwV 2 hts (gV (wr38 _ (List.mem_of_getElem? (i := 20) rfl)) (wr38 _ (List.mem_of_getElem? (i := 21) rfl)) (wr38 _ (List.mem_of_getElem? (i := 22) rfl)) (wr4 _ (List.mem_of_getElem? (i := 3) rfl)) (wr38 _ (List.mem_of_getElem? (i := 23) rfl))) rfl rfl rfl (by decide +kernel) ⟨Nat.le_of_ble_eq_true rfl, Nat.le_of_ble_eq_true rfl⟩) (va_recv hK hP (ci := 6) (q0 := 17) rfl rfl) hK hP hD hE hS hA rfl hl.1 rfl (Nat.le_of_ble_eq_true rfl) dX7_hashDown_79 ⟨Nat.le_of_ble_eq_true rfl, Nat.le_of_ble_eq_true rfl⟩ (fun r79 w9 H locs hw79 hP hD hS => ?_)
                  obtain ⟨rfl⟩ := hw79
                  have b_r79 := iB r79
                  refine lv_aload_n hx hb dX7_hashDown_82 rfl (lv_at hl 0 rfl) ?_
                  refine lv_iload hx hb dX7_hashDown_83 (lv_at hl 2 rfl) ?_
                  refine lv_iload hx hb dX7_hashDown_85 (lv_at hl 5 rfl) ?_
                  refine call_j (As := [.int x37, .int l8_54]) (rest := [.int r79, .ref (q 17), .int x72]) ⟨hx, hb, hml, hown, hts⟩ (tX7_cellDatum (l := l) x37 l8_54 (by first | assumption | omega | (intros; omega) | decide)) (cwV 2 hts (gV (wr39 _ (List.mem_of_getElem? (i := 0) rfl)) (wr39 _ (List.mem_of_getElem? (i := 1) rfl)) (wr39 _ (List.mem_of_getElem? (i := 2) rfl)) (wr4 _ (List.mem_of_getElem? (i := 3) rfl)) (wr39 _ (List.mem_of_getElem? (i := 3) rfl))) rfl rfl rfl (by decide +kernel) ⟨Nat.le_of_ble_eq_true rfl, Nat.le_of_ble_eq_true rfl⟩) (va_recv hK hP (ci := 6) (q0 := 17) rfl rfl) hK hP hD hE hS hA rfl hl.1 rfl (Nat.le_of_ble_eq_true rfl) dX7_hashDown_87 ⟨Nat.le_of_ble_eq_true rfl, Nat.le_of_ble_eq_true rfl⟩ (fun r87 w9 H locs hw87 hP hD hS => ?_)
                  obtain ⟨rfl⟩ := hw87
                  have b_r87 := jB r87
                  refine lv_iload hx hb dX7_hashDown_90 (lv_at hl 1 rfl) ?_
                  refine lv_iconst (v := 1) hx hb dX7_hashDown_92 (by decide) ?_
                  refine m_iadd (X := e9.toInt) (Y := 1) hx hb dX7_hashDown_93 rfl (by decide) (fun x93 e_x93 g9 => ?_)
                  obtain ⟨k_x93, g_x93⟩ := g9
                  have b_x93 := iB x93
                  try (have q_x93 : x93.toInt = e9.toInt + 1 := (by omega); clear g_x93 k_x93)
                  refine call_i (As := [.int r79, .long r87, .int x93]) (rest := [.int x72]) ⟨hx, hb, hml, hown, hts⟩ (tX7_hashDown_q3 (l := l) r79 r87 x93 (by first | assumption | omega | (intros; omega) | decide) (by first | assumption | omega | (intros; omega) | decide) (by first | assumption | omega | (intros; omega) | decide)) (cwV 3 hts (gV (wr43 _ (List.mem_of_getElem? (i := 15) rfl)) (wr43 _ (List.mem_of_getElem? (i := 16) rfl)) (wr43 _ (List.mem_of_getElem? (i := 17) rfl)) (wr4 _ (List.mem_of_getElem? (i := 3) rfl)) (wr43 _ (List.mem_of_getElem? (i := 18) rfl))) rfl rfl rfl (by decide +kernel) ⟨Nat.le_of_ble_eq_true rfl, Nat.le_of_ble_eq_true rfl⟩) (va_recv hK hP (ci := 6) (q0 := 17) rfl rfl) hK hP hD hE hS hA rfl hl.1 rfl (Nat.le_of_ble_eq_true rfl) dX7_hashDown_94 ⟨Nat.le_of_ble_eq_true rfl, Nat.le_of_ble_eq_true rfl⟩ (fun r94 w9 H locs hw94 hP hD hS => ?_)
                  obtain ⟨v_s_looked_94, v_s_lookedTooOften_94, rfl⟩ := hw94
                  have b_v_s_looked_94 := iB v_s_looked_94
                  have b_v_s_lookedTooOften_94 := iB v_s_lookedTooOften_94
                  have b_r94 := iB r94
                  refine m_iadd (X := x72.toInt) (Y := r94.toInt) hx hb dX7_hashDown_97 rfl rfl (fun x97 e_x97 g9 => ?_)
                  obtain ⟨k_x97, g_x97⟩ := g9
                  have b_x97 := iB x97
                  try (have q_x97 : x97.toInt = x72.toInt + r94.toInt := (by omega); clear g_x97 k_x97)
                  refine lv_istore (lv' := [(7, .int x97), (0, .ref (q 17)), (4, .int e9), (5, .int x37), (6, .int r43), (8, .int l8_54)]) hx hb dX7_hashDown_98 hl (by decide) rfl (fun ls hl => ?_)
                  obtain ⟨x100, e_x100⟩ : ∃ z : Int32, z = l8_54 + (1 : Int32) := ⟨_, rfl⟩
                  obtain ⟨k_x100, g_x100⟩ : ∃ k : Int, x100.toInt = l8_54.toInt + (1) + k * 4294967296 := by rw [e_x100]; exact iAdd l8_54 (1)
                  have b_x100 := iB x100
                  try (have q_x100 : x100.toInt = l8_54.toInt + (1) := (by omega); clear g_x100 k_x100)
                  refine lv_iinc (v := x100) (lv' := [(8, .int x100), (7, .int x97), (0, .ref (q 17)), (4, .int e9), (5, .int x37), (6, .int r43)]) hx hb dX7_hashDown_100 hl (k := 5) rfl (by rw [e_x100]; rfl) (by decide) rfl (fun ls hl => ?_)
                  refine lv_goto (tgt := 54) hx hb dX7_hashDown_103 (by decide) ?_
                  exact ih54 x97 x100 v_s_looked_94 v_s_lookedTooOften_94 H locs ls (by first | assumption | omega | (intros; omega) | decide) (by first | assumption | omega | (intros; omega) | decide) (by omega) hP hD hS (lv_sub hl [2, 3, 4, 5, 1, 0] rfl)
          exact J54 ((4000 - (0 : Int32).toInt).toNat + 1) g9 (0 : Int32) v_s_looked v_s_lookedTooOften H locs ls (by first | assumption | omega | (intros; omega) | decide) (by first | assumption | omega | (intros; omega) | decide) (by omega) hP hD hS (lv_sub hl [4, 7, 3, 2, 1, 0] rfl)
        · skip
          refine lv_iload_n hx hb dX7_hashDown_34 rfl (lv_at hl 1 rfl) ?_
          subst hAe
          rw [hQ]
          exact W.iret (v := g9) hx hb hr (fun t ht hW => ⟨⟨g9, _, rfl, ⟨v_s_looked, v_s_lookedTooOften, rfl⟩, by rw [ht]; exact hP, va_K.moved hW.alike hK, hD⟩, hS.F ht⟩) hS.2.2 dX7_hashDown_35
    · skip
      refine lv_lload_n hx hb dX7_hashDown_14 rfl (lv_at hl 2 rfl) ?_
      refine lv_lload_n hx hb dX7_hashDown_15 rfl (lv_at hl 2 rfl) ?_
      refine lv_bipush (v := 32) hx hb dX7_hashDown_16 (by decide) ?_
      refine m_lushr hx hb dX7_hashDown_18 (fun x18 e_x18 => ?_)
      have b_x18 := jB x18
      refine m_lxor hx hb dX7_hashDown_19 (fun x19 e_x19 => ?_)
      have b_x19 := jB x19
      refine m_l2i hx hb dX7_hashDown_20 (fun x20 e_x20 => ?_)
      have b_x20 := iB x20
      subst hAe
      rw [hQ]
      exact W.iret (v := x20) hx hb hr (fun t ht hW => ⟨⟨x20, _, rfl, ⟨v_s_looked, v_s_lookedTooOften, rfl⟩, by rw [ht]; exact hP, va_K.moved hW.alike hK, hD⟩, hS.F ht⟩) hS.2.2 dX7_hashDown_21
  · skip
    refine lv_iconst (v := 0) hx hb dX7_hashDown_5 (by decide) ?_
    subst hAe
    rw [hQ]
    exact W.iret (v := 0) hx hb hr (fun t ht hW => ⟨⟨0, _, rfl, ⟨v_s_looked, v_s_lookedTooOften, rfl⟩, by rw [ht]; exact hP, va_K.moved hW.alike hK, hD⟩, hS.F ht⟩) hS.2.2 dX7_hashDown_6

def rmX7_equalDown_q0 : Room := { frames := 40, cells := 0, slots := 0, locals := 800 }
set_option maxHeartbeats 4000000 in
set_option maxRecDepth 100000 in
theorem tX7_equalDown_q0 {l : Launch} {D : va_G} {K : Nat → Nat → Nat} {cs : Nat → ClassId} {q : Nat → Nat} {v_t_tapeSize v_t_textSize v_t_faultKind v_g_size v_h_size v_r_takes v_r_negative v_r_namePlace v_r_faultKind v_r_faultPlace v_a_size v_a_limit v_a_digits v_a_kind v_a_from v_a_to v_o_size v_b_size v_b_limit v_b_digits v_b_kind v_b_from v_b_to v_u_marksMade v_u_came v_u_guesses v_u_right v_u_taken v_s_things v_s_looked v_s_lookedTooOften v_s_arraysMade v_s_cellsMade : Int32} {a_t_tape a_t_text a_o_out a_u_outcomes a_u_indexes a_s_classes a_s_starts a_s_lengths a_vc : Nat → Int32} {a_g_beyond a_h_beyond a_r_scratch a_r_now a_u_atom a_u_other a_u_hand : Nat} {a_g_steps a_h_steps a_u_vars a_u_marks : Nat → Option Nat} {a_s_cells a_vd a_sj : Nat → Int64} {a_L : List Nat} {a_K a_iv a_inn : Nat → Nat} {a_si a_ac : Nat → Nat → Int32} (g9 : Int32) (d9 : Int64) (o9_ : Int32) (f9 : Int64) (e9 : Int32) (p_0 : STO v_s_things v_s_cellsMade a_s_starts a_s_lengths) (p_1 : 4 ≤ e9.toInt) (p_2 : e9.toInt ≤ 4) : CtI l yX7_equalDown (wG yX7_equalDown cX7_equalDown 12 (some .boolean)) rmX7_equalDown_q0 D (twT cs) K [.ref (q 17), .int g9, .long d9, .int o9_, .long f9, .int e9] (tw cs q v_t_tapeSize v_t_textSize v_t_faultKind a_t_tape a_t_text a_g_beyond v_g_size a_g_steps a_h_beyond v_h_size a_h_steps a_r_scratch a_r_now v_r_takes v_r_negative v_r_namePlace v_r_faultKind v_r_faultPlace v_a_size v_a_limit v_a_digits v_a_kind v_a_from v_a_to v_o_size a_o_out v_b_size v_b_limit v_b_digits v_b_kind v_b_from v_b_to a_u_atom a_u_other a_u_hand v_u_marksMade v_u_came v_u_guesses v_u_right v_u_taken a_u_vars a_u_marks a_u_outcomes a_u_indexes v_s_things v_s_looked v_s_lookedTooOften v_s_arraysMade v_s_cellsMade a_s_classes a_s_starts a_s_lengths a_s_cells a_L a_K a_vc a_vd a_si a_sj a_iv a_inn a_ac) (fun r w1 => w1 = (tw cs q v_t_tapeSize v_t_textSize v_t_faultKind a_t_tape a_t_text a_g_beyond v_g_size a_g_steps a_h_beyond v_h_size a_h_steps a_r_scratch a_r_now v_r_takes v_r_negative v_r_namePlace v_r_faultKind v_r_faultPlace v_a_size v_a_limit v_a_digits v_a_kind v_a_from v_a_to v_o_size a_o_out v_b_size v_b_limit v_b_digits v_b_kind v_b_from v_b_to a_u_atom a_u_other a_u_hand v_u_marksMade v_u_came v_u_guesses v_u_right v_u_taken a_u_vars a_u_marks a_u_outcomes a_u_indexes v_s_things v_s_looked v_s_lookedTooOften v_s_arraysMade v_s_cellsMade a_s_classes a_s_starts a_s_lengths a_s_cells a_L a_K a_vc a_vd a_si a_sj a_iv a_inn a_ac) ∧ (r.toInt = 0 ∨ r.toInt = 1)) 0 0 := by
  intro sz
  refine Met.ofW (cc := cX7_equalDown) (maxL := 12) (ret := (some .boolean)) (by decide) rfl ?_
  intro p e s m args below meth c s₁ B hml hv
  obtain ⟨rfl, hsz, hP, hK, hD0, hE⟩ := hv
  have hx := B.exec
  have hb := B.bytes
  have hr := B.returns
  have hts := atoms_spec (ws := (wG yX7_equalDown cX7_equalDown 12 (some .boolean))) B.pre
  have hown : s.vm.findClass RX7 = some m.cls := findClass_of_methodNamed B.named
  have hlocks := B.notSynchronized
  subst hsz
  have hD := hD0.self (sz := s.heap.size)
  obtain ⟨A, hAe⟩ : ∃ A : Nat → Prop, A = va_A (tw cs q v_t_tapeSize v_t_textSize v_t_faultKind a_t_tape a_t_text a_g_beyond v_g_size a_g_steps a_h_beyond v_h_size a_h_steps a_r_scratch a_r_now v_r_takes v_r_negative v_r_namePlace v_r_faultKind v_r_faultPlace v_a_size v_a_limit v_a_digits v_a_kind v_a_from v_a_to v_o_size a_o_out v_b_size v_b_limit v_b_digits v_b_kind v_b_from v_b_to a_u_atom a_u_other a_u_hand v_u_marksMade v_u_came v_u_guesses v_u_right v_u_taken a_u_vars a_u_marks a_u_outcomes a_u_indexes v_s_things v_s_looked v_s_lookedTooOften v_s_arraysMade v_s_cellsMade a_s_classes a_s_starts a_s_lengths a_s_cells a_L a_K a_vc a_vd a_si a_sj a_iv a_inn a_ac) s.heap.size := ⟨_, rfl⟩
  rw [← hAe] at hD hE
  have hA : ∀ q : Nat, s.heap.size ≤ q → A q := fun q h => by rw [hAe]; exact Or.inr h
  have hS : va_S A s.heap s.heap [] := va_S.rf
  have hl := lv_entry ([.ref (q 17), .int g9, .long d9, .int o9_, .long f9, .int e9]) (n := 12) (Nat.le_of_ble_eq_true rfl)
  rw [lg_entry_eq]
  generalize (lg_sl ([.ref (q 17), .int g9, .long d9, .int o9_, .long f9, .int e9]) ++ List.replicate (12 - (lg_sl ([.ref (q 17), .int g9, .long d9, .int o9_, .long f9, .int e9])).length) Slot.unset).toArray = ls at hl ⊢
  have hl : lv_has ls 12 [(0, .ref (q 17)), (1, .int g9), (2, .long d9), (4, .int o9_), (5, .long f9), (7, .int e9)] := hl
  refine wq (fun Q hQ => ?_)
  have kc0 : (0 : Int32).toInt = 0 := by decide
  have kc1 : (1 : Int32).toInt = 1 := by decide
  have kc2 : (3 : Int32).toInt = 3 := by decide
  have kc3 : (20 : Int32).toInt = 20 := by decide
  obtain ⟨H, hH⟩ : ∃ H : Heap, H = s.heap := ⟨_, rfl⟩
  obtain ⟨locs, hlc⟩ : ∃ L : List Loc, L = [] := ⟨_, rfl⟩
  have hP : va_P D vwCl (tw cs q v_t_tapeSize v_t_textSize v_t_faultKind a_t_tape a_t_text a_g_beyond v_g_size a_g_steps a_h_beyond v_h_size a_h_steps a_r_scratch a_r_now v_r_takes v_r_negative v_r_namePlace v_r_faultKind v_r_faultPlace v_a_size v_a_limit v_a_digits v_a_kind v_a_from v_a_to v_o_size a_o_out v_b_size v_b_limit v_b_digits v_b_kind v_b_from v_b_to a_u_atom a_u_other a_u_hand v_u_marksMade v_u_came v_u_guesses v_u_right v_u_taken a_u_vars a_u_marks a_u_outcomes a_u_indexes v_s_things v_s_looked v_s_lookedTooOften v_s_arraysMade v_s_cellsMade a_s_classes a_s_starts a_s_lengths a_s_cells a_L a_K a_vc a_vd a_si a_sj a_iv a_inn a_ac) H := by rw [hH]; exact hP
  have hS : va_S A s.heap H locs := by rw [hH, hlc]; exact hS
  refine wHL hH hlc ?_
  have b_g9 := iB g9
  have b_d9 := jB d9
  have b_o9_ := iB o9_
  have b_f9 := jB f9
  have b_e9 := iB e9
  refine lv_iload_n hx hb dX7_equalDown_0 rfl (lv_at hl 1 rfl) ?_
  refine lv_iload hx hb dX7_equalDown_1 (lv_at hl 3 rfl) ?_
  refine m_icmp_eq (X := g9.toInt) (Y := o9_.toInt) (tgt := 8) hx hb dX7_equalDown_3 (by decide) rfl rfl (fun c3 => ?_) (fun c3 => ?_)
  · skip
    refine lv_iload_n hx hb dX7_equalDown_8 rfl (lv_at hl 1 rfl) ?_
    refine lv_bipush (v := 20) hx hb dX7_equalDown_9 (by decide) ?_
    have J20 : ∀ (H : Heap) (locs : List Loc) (ls : Array Slot), va_P D vwCl (tw cs q v_t_tapeSize v_t_textSize v_t_faultKind a_t_tape a_t_text a_g_beyond v_g_size a_g_steps a_h_beyond v_h_size a_h_steps a_r_scratch a_r_now v_r_takes v_r_negative v_r_namePlace v_r_faultKind v_r_faultPlace v_a_size v_a_limit v_a_digits v_a_kind v_a_from v_a_to v_o_size a_o_out v_b_size v_b_limit v_b_digits v_b_kind v_b_from v_b_to a_u_atom a_u_other a_u_hand v_u_marksMade v_u_came v_u_guesses v_u_right v_u_taken a_u_vars a_u_marks a_u_outcomes a_u_indexes v_s_things v_s_looked v_s_lookedTooOften v_s_arraysMade v_s_cellsMade a_s_classes a_s_starts a_s_lengths a_s_cells a_L a_K a_vc a_vd a_si a_sj a_iv a_inn a_ac) H → va_D A (tw cs q v_t_tapeSize v_t_textSize v_t_faultKind a_t_tape a_t_text a_g_beyond v_g_size a_g_steps a_h_beyond v_h_size a_h_steps a_r_scratch a_r_now v_r_takes v_r_negative v_r_namePlace v_r_faultKind v_r_faultPlace v_a_size v_a_limit v_a_digits v_a_kind v_a_from v_a_to v_o_size a_o_out v_b_size v_b_limit v_b_digits v_b_kind v_b_from v_b_to a_u_atom a_u_other a_u_hand v_u_marksMade v_u_came v_u_guesses v_u_right v_u_taken a_u_vars a_u_marks a_u_outcomes a_u_indexes v_s_things v_s_looked v_s_lookedTooOften v_s_arraysMade v_s_cellsMade a_s_classes a_s_starts a_s_lengths a_s_cells a_L a_K a_vc a_vd a_si a_sj a_iv a_inn a_ac) → va_S A s.heap H locs → lv_has ls 12 [(2, .long d9), (5, .long f9)] → W p l e (headSpec (wG yX7_equalDown cX7_equalDown 12 (some .boolean)) rmX7_equalDown_q0).room s m ([.ref (q 17), .int g9, .long d9, .int o9_, .long f9, .int e9] : List Value).toArray below meth c H locs 0 0 Q (F0 m 20 ls []) := by
      intro H locs ls hP hD hS hl
      refine lv_lload_n hx hb dX7_equalDown_20 rfl (lv_at hl 0 rfl) ?_
      refine lv_lload hx hb dX7_equalDown_21 (lv_at hl 1 rfl) ?_
      refine m_lcmp (X := d9.toInt) (Y := f9.toInt) hx hb dX7_equalDown_23 rfl rfl (fun x23 g_x23 => ?_)
      refine m_if_ne (X := x23.toInt) (tgt := 31) hx hb dX7_equalDown_24 (by decide) rfl (fun c24 => ?_) (fun c24 => ?_)
      · skip
        refine lv_iconst (v := 0) hx hb dX7_equalDown_31 (by decide) ?_
        subst hAe
        rw [hQ]
        exact W.zret (v := 0) hx hb hr (by decide) (fun t ht hW => ⟨⟨0, _, rfl, ⟨rfl, by first | assumption | omega | (intros; omega) | decide⟩, by rw [ht]; exact hP, va_K.moved hW.alike hK, hD⟩, hS.F ht⟩) hS.2.2 dX7_equalDown_32
      · skip
        refine lv_iconst (v := 1) hx hb dX7_equalDown_27 (by decide) ?_
        refine lv_goto (tgt := 32) hx hb dX7_equalDown_28 (by decide) ?_
        subst hAe
        rw [hQ]
        exact W.zret (v := 1) hx hb hr (by decide) (fun t ht hW => ⟨⟨1, _, rfl, ⟨rfl, by first | assumption | omega | (intros; omega) | decide⟩, by rw [ht]; exact hP, va_K.moved hW.alike hK, hD⟩, hS.F ht⟩) hS.2.2 dX7_equalDown_32
    refine m_icmp_lt (X := g9.toInt) (Y := 20) (tgt := 20) hx hb dX7_equalDown_11 (by decide) rfl (by decide) (fun c11 => ?_) (fun c11 => ?_)
    · skip
      exact J20 H locs ls hP hD hS (lv_sub hl [2, 4] rfl)
    · skip
      refine lv_iload hx hb dX7_equalDown_14 (lv_at hl 5 rfl) ?_
      refine lv_iconst (v := 3) hx hb dX7_equalDown_16 (by decide) ?_
      refine m_icmp_le (X := e9.toInt) (Y := 3) (tgt := 33) hx hb dX7_equalDown_17 (by decide) rfl (by decide) (fun c17 => ?_) (fun c17 => ?_)
      · skip
        exfalso
        omega
      · skip
        exact J20 H locs ls hP hD hS (lv_sub hl [2, 4] rfl)
  · skip
    refine lv_iconst (v := 0) hx hb dX7_equalDown_6 (by decide) ?_
    subst hAe
    rw [hQ]
    exact W.zret (v := 0) hx hb hr (by decide) (fun t ht hW => ⟨⟨0, _, rfl, ⟨rfl, by first | assumption | omega | (intros; omega) | decide⟩, by rw [ht]; exact hP, va_K.moved hW.alike hK, hD⟩, hS.F ht⟩) hS.2.2 dX7_equalDown_7

def rmX7_equalDown_q1 : Room := { frames := 60, cells := 0, slots := 0, locals := 1200 }
set_option maxHeartbeats 4000000 in
set_option maxRecDepth 100000 in
theorem tX7_equalDown_q1 {l : Launch} {D : va_G} {K : Nat → Nat → Nat} {cs : Nat → ClassId} {q : Nat → Nat} {v_t_tapeSize v_t_textSize v_t_faultKind v_g_size v_h_size v_r_takes v_r_negative v_r_namePlace v_r_faultKind v_r_faultPlace v_a_size v_a_limit v_a_digits v_a_kind v_a_from v_a_to v_o_size v_b_size v_b_limit v_b_digits v_b_kind v_b_from v_b_to v_u_marksMade v_u_came v_u_guesses v_u_right v_u_taken v_s_things v_s_looked v_s_lookedTooOften v_s_arraysMade v_s_cellsMade : Int32} {a_t_tape a_t_text a_o_out a_u_outcomes a_u_indexes a_s_classes a_s_starts a_s_lengths a_vc : Nat → Int32} {a_g_beyond a_h_beyond a_r_scratch a_r_now a_u_atom a_u_other a_u_hand : Nat} {a_g_steps a_h_steps a_u_vars a_u_marks : Nat → Option Nat} {a_s_cells a_vd a_sj : Nat → Int64} {a_L : List Nat} {a_K a_iv a_inn : Nat → Nat} {a_si a_ac : Nat → Nat → Int32} (g9 : Int32) (d9 : Int64) (o9_ : Int32) (f9 : Int64) (e9 : Int32) (p_0 : STO v_s_things v_s_cellsMade a_s_starts a_s_lengths) (p_1 : 3 ≤ e9.toInt) (p_2 : e9.toInt ≤ 4) : CtI l yX7_equalDown (wG yX7_equalDown cX7_equalDown 12 (some .boolean)) rmX7_equalDown_q1 D (twT cs) K [.ref (q 17), .int g9, .long d9, .int o9_, .long f9, .int e9] (tw cs q v_t_tapeSize v_t_textSize v_t_faultKind a_t_tape a_t_text a_g_beyond v_g_size a_g_steps a_h_beyond v_h_size a_h_steps a_r_scratch a_r_now v_r_takes v_r_negative v_r_namePlace v_r_faultKind v_r_faultPlace v_a_size v_a_limit v_a_digits v_a_kind v_a_from v_a_to v_o_size a_o_out v_b_size v_b_limit v_b_digits v_b_kind v_b_from v_b_to a_u_atom a_u_other a_u_hand v_u_marksMade v_u_came v_u_guesses v_u_right v_u_taken a_u_vars a_u_marks a_u_outcomes a_u_indexes v_s_things v_s_looked v_s_lookedTooOften v_s_arraysMade v_s_cellsMade a_s_classes a_s_starts a_s_lengths a_s_cells a_L a_K a_vc a_vd a_si a_sj a_iv a_inn a_ac) (fun r w1 => ∃ (v_s_looked' : Int32) (v_s_lookedTooOften' : Int32), w1 = (tw cs q v_t_tapeSize v_t_textSize v_t_faultKind a_t_tape a_t_text a_g_beyond v_g_size a_g_steps a_h_beyond v_h_size a_h_steps a_r_scratch a_r_now v_r_takes v_r_negative v_r_namePlace v_r_faultKind v_r_faultPlace v_a_size v_a_limit v_a_digits v_a_kind v_a_from v_a_to v_o_size a_o_out v_b_size v_b_limit v_b_digits v_b_kind v_b_from v_b_to a_u_atom a_u_other a_u_hand v_u_marksMade v_u_came v_u_guesses v_u_right v_u_taken a_u_vars a_u_marks a_u_outcomes a_u_indexes v_s_things v_s_looked' v_s_lookedTooOften' v_s_arraysMade v_s_cellsMade a_s_classes a_s_starts a_s_lengths a_s_cells a_L a_K a_vc a_vd a_si a_sj a_iv a_inn a_ac) ∧ (r.toInt = 0 ∨ r.toInt = 1)) 0 0 := by
  intro sz
  refine Met.ofW (cc := cX7_equalDown) (maxL := 12) (ret := (some .boolean)) (by decide) rfl ?_
  intro p e s m args below meth c s₁ B hml hv
  obtain ⟨rfl, hsz, hP, hK, hD0, hE⟩ := hv
  have hx := B.exec
  have hb := B.bytes
  have hr := B.returns
  have hts := atoms_spec (ws := (wG yX7_equalDown cX7_equalDown 12 (some .boolean))) B.pre
  have hown : s.vm.findClass RX7 = some m.cls := findClass_of_methodNamed B.named
  have hlocks := B.notSynchronized
  subst hsz
  have hD := hD0.self (sz := s.heap.size)
  obtain ⟨A, hAe⟩ : ∃ A : Nat → Prop, A = va_A (tw cs q v_t_tapeSize v_t_textSize v_t_faultKind a_t_tape a_t_text a_g_beyond v_g_size a_g_steps a_h_beyond v_h_size a_h_steps a_r_scratch a_r_now v_r_takes v_r_negative v_r_namePlace v_r_faultKind v_r_faultPlace v_a_size v_a_limit v_a_digits v_a_kind v_a_from v_a_to v_o_size a_o_out v_b_size v_b_limit v_b_digits v_b_kind v_b_from v_b_to a_u_atom a_u_other a_u_hand v_u_marksMade v_u_came v_u_guesses v_u_right v_u_taken a_u_vars a_u_marks a_u_outcomes a_u_indexes v_s_things v_s_looked v_s_lookedTooOften v_s_arraysMade v_s_cellsMade a_s_classes a_s_starts a_s_lengths a_s_cells a_L a_K a_vc a_vd a_si a_sj a_iv a_inn a_ac) s.heap.size := ⟨_, rfl⟩
  rw [← hAe] at hD hE
  have hA : ∀ q : Nat, s.heap.size ≤ q → A q := fun q h => by rw [hAe]; exact Or.inr h
  have hS : va_S A s.heap s.heap [] := va_S.rf
  have hl := lv_entry ([.ref (q 17), .int g9, .long d9, .int o9_, .long f9, .int e9]) (n := 12) (Nat.le_of_ble_eq_true rfl)
  rw [lg_entry_eq]
  generalize (lg_sl ([.ref (q 17), .int g9, .long d9, .int o9_, .long f9, .int e9]) ++ List.replicate (12 - (lg_sl ([.ref (q 17), .int g9, .long d9, .int o9_, .long f9, .int e9])).length) Slot.unset).toArray = ls at hl ⊢
  have hl : lv_has ls 12 [(0, .ref (q 17)), (1, .int g9), (2, .long d9), (4, .int o9_), (5, .long f9), (7, .int e9)] := hl
  refine wq (fun Q hQ => ?_)
  have kc0 : (0 : Int32).toInt = 0 := by decide
  have kc1 : (1 : Int32).toInt = 1 := by decide
  have kc2 : (3 : Int32).toInt = 3 := by decide
  have kc3 : (20 : Int32).toInt = 20 := by decide
  obtain ⟨H, hH⟩ : ∃ H : Heap, H = s.heap := ⟨_, rfl⟩
  obtain ⟨locs, hlc⟩ : ∃ L : List Loc, L = [] := ⟨_, rfl⟩
  have hP : va_P D vwCl (tw cs q v_t_tapeSize v_t_textSize v_t_faultKind a_t_tape a_t_text a_g_beyond v_g_size a_g_steps a_h_beyond v_h_size a_h_steps a_r_scratch a_r_now v_r_takes v_r_negative v_r_namePlace v_r_faultKind v_r_faultPlace v_a_size v_a_limit v_a_digits v_a_kind v_a_from v_a_to v_o_size a_o_out v_b_size v_b_limit v_b_digits v_b_kind v_b_from v_b_to a_u_atom a_u_other a_u_hand v_u_marksMade v_u_came v_u_guesses v_u_right v_u_taken a_u_vars a_u_marks a_u_outcomes a_u_indexes v_s_things v_s_looked v_s_lookedTooOften v_s_arraysMade v_s_cellsMade a_s_classes a_s_starts a_s_lengths a_s_cells a_L a_K a_vc a_vd a_si a_sj a_iv a_inn a_ac) H := by rw [hH]; exact hP
  have hS : va_S A s.heap H locs := by rw [hH, hlc]; exact hS
  refine wHL hH hlc ?_
  have b_g9 := iB g9
  have b_d9 := jB d9
  have b_o9_ := iB o9_
  have b_f9 := jB f9
  have b_e9 := iB e9
  refine lv_iload_n hx hb dX7_equalDown_0 rfl (lv_at hl 1 rfl) ?_
  refine lv_iload hx hb dX7_equalDown_1 (lv_at hl 3 rfl) ?_
  refine m_icmp_eq (X := g9.toInt) (Y := o9_.toInt) (tgt := 8) hx hb dX7_equalDown_3 (by decide) rfl rfl (fun c3 => ?_) (fun c3 => ?_)
  · skip
    refine lv_iload_n hx hb dX7_equalDown_8 rfl (lv_at hl 1 rfl) ?_
    refine lv_bipush (v := 20) hx hb dX7_equalDown_9 (by decide) ?_
    have J20 : ∀ (H : Heap) (locs : List Loc) (ls : Array Slot), va_P D vwCl (tw cs q v_t_tapeSize v_t_textSize v_t_faultKind a_t_tape a_t_text a_g_beyond v_g_size a_g_steps a_h_beyond v_h_size a_h_steps a_r_scratch a_r_now v_r_takes v_r_negative v_r_namePlace v_r_faultKind v_r_faultPlace v_a_size v_a_limit v_a_digits v_a_kind v_a_from v_a_to v_o_size a_o_out v_b_size v_b_limit v_b_digits v_b_kind v_b_from v_b_to a_u_atom a_u_other a_u_hand v_u_marksMade v_u_came v_u_guesses v_u_right v_u_taken a_u_vars a_u_marks a_u_outcomes a_u_indexes v_s_things v_s_looked v_s_lookedTooOften v_s_arraysMade v_s_cellsMade a_s_classes a_s_starts a_s_lengths a_s_cells a_L a_K a_vc a_vd a_si a_sj a_iv a_inn a_ac) H → va_D A (tw cs q v_t_tapeSize v_t_textSize v_t_faultKind a_t_tape a_t_text a_g_beyond v_g_size a_g_steps a_h_beyond v_h_size a_h_steps a_r_scratch a_r_now v_r_takes v_r_negative v_r_namePlace v_r_faultKind v_r_faultPlace v_a_size v_a_limit v_a_digits v_a_kind v_a_from v_a_to v_o_size a_o_out v_b_size v_b_limit v_b_digits v_b_kind v_b_from v_b_to a_u_atom a_u_other a_u_hand v_u_marksMade v_u_came v_u_guesses v_u_right v_u_taken a_u_vars a_u_marks a_u_outcomes a_u_indexes v_s_things v_s_looked v_s_lookedTooOften v_s_arraysMade v_s_cellsMade a_s_classes a_s_starts a_s_lengths a_s_cells a_L a_K a_vc a_vd a_si a_sj a_iv a_inn a_ac) → va_S A s.heap H locs → lv_has ls 12 [(2, .long d9), (5, .long f9)] → W p l e (headSpec (wG yX7_equalDown cX7_equalDown 12 (some .boolean)) rmX7_equalDown_q1).room s m ([.ref (q 17), .int g9, .long d9, .int o9_, .long f9, .int e9] : List Value).toArray below meth c H locs 0 0 Q (F0 m 20 ls []) := by
      intro H locs ls hP hD hS hl
      refine lv_lload_n hx hb dX7_equalDown_20 rfl (lv_at hl 0 rfl) ?_
      refine lv_lload hx hb dX7_equalDown_21 (lv_at hl 1 rfl) ?_
      refine m_lcmp (X := d9.toInt) (Y := f9.toInt) hx hb dX7_equalDown_23 rfl rfl (fun x23 g_x23 => ?_)
      refine m_if_ne (X := x23.toInt) (tgt := 31) hx hb dX7_equalDown_24 (by decide) rfl (fun c24 => ?_) (fun c24 => ?_)
      · skip
        refine lv_iconst (v := 0) hx hb dX7_equalDown_31 (by decide) ?_
        subst hAe
        rw [hQ]
        exact W.zret (v := 0) hx hb hr (by decide) (fun t ht hW => ⟨⟨0, _, rfl, ⟨v_s_looked, v_s_lookedTooOften, rfl, by first | assumption | omega | (intros; omega) | decide⟩, by rw [ht]; exact hP, va_K.moved hW.alike hK, hD⟩, hS.F ht⟩) hS.2.2 dX7_equalDown_32
      · skip
        refine lv_iconst (v := 1) hx hb dX7_equalDown_27 (by decide) ?_
        refine lv_goto (tgt := 32) hx hb dX7_equalDown_28 (by decide) ?_
        subst hAe
        rw [hQ]
        exact W.zret (v := 1) hx hb hr (by decide) (fun t ht hW => ⟨⟨1, _, rfl, ⟨v_s_looked, v_s_lookedTooOften, rfl, by first | assumption | omega | (intros; omega) | decide⟩, by rw [ht]; exact hP, va_K.moved hW.alike hK, hD⟩, hS.F ht⟩) hS.2.2 dX7_equalDown_32
    refine m_icmp_lt (X := g9.toInt) (Y := 20) (tgt := 20) hx hb dX7_equalDown_11 (by decide) rfl (by decide) (fun c11 => ?_) (fun c11 => ?_)
    · skip
      exact J20 H locs ls hP hD hS (lv_sub hl [2, 4] rfl)
    · skip
      refine lv_iload hx hb dX7_equalDown_14 (lv_at hl 5 rfl) ?_
      refine lv_iconst (v := 3) hx hb dX7_equalDown_16 (by decide) ?_
      refine m_icmp_le (X := e9.toInt) (Y := 3) (tgt := 33) hx hb dX7_equalDown_17 (by decide) rfl (by decide) (fun c17 => ?_) (fun c17 => ?_)
      · skip
        refine lv_lload_n hx hb dX7_equalDown_33 rfl (lv_at hl 2 rfl) ?_
        refine m_l2i hx hb dX7_equalDown_34 (fun x34 e_x34 => ?_)
        have b_x34 := iB x34
        refine lv_istore (lv' := [(8, .int x34), (0, .ref (q 17)), (1, .int g9), (2, .long d9), (4, .int o9_), (5, .long f9), (7, .int e9)]) hx hb dX7_equalDown_35 hl (by decide) rfl (fun ls hl => ?_)
        refine lv_lload hx hb dX7_equalDown_37 (lv_at hl 5 rfl) ?_
        refine m_l2i hx hb dX7_equalDown_39 (fun x39 e_x39 => ?_)
        have b_x39 := iB x39
        refine lv_istore (lv' := [(9, .int x39), (8, .int x34), (0, .ref (q 17)), (1, .int g9), (2, .long d9), (4, .int o9_), (5, .long f9), (7, .int e9)]) hx hb dX7_equalDown_40 hl (by decide) rfl (fun ls hl => ?_)
        refine lv_aload_n hx hb dX7_equalDown_42 rfl (lv_at hl 2 rfl) ?_
        refine lv_iload hx hb dX7_equalDown_43 (lv_at hl 1 rfl) ?_
        refine call_i (As := [.int x34]) (rest := []) ⟨hx, hb, hml, hown, hts⟩ (tX7_lengthOf (l := l) x34 (by first | assumption | omega | (intros; omega) | decide)) (cwV 1 hts (gV (wr43 _ (List.mem_of_getElem? (i := 20) rfl)) (wr41 _ (List.mem_of_getElem? (i := 20) rfl)) (wr41 _ (List.mem_of_getElem? (i := 21) rfl)) (wr4 _ (List.mem_of_getElem? (i := 3) rfl)) (wr41 _ (List.mem_of_getElem? (i := 22) rfl))) rfl rfl rfl (by decide +kernel) ⟨Nat.le_of_ble_eq_true rfl, Nat.le_of_ble_eq_true rfl⟩) (va_recv hK hP (ci := 6) (q0 := 17) rfl rfl) hK hP hD hE hS hA rfl hl.1 rfl (Nat.le_of_ble_eq_true rfl) dX7_equalDown_45 ⟨Nat.le_of_ble_eq_true rfl, Nat.le_of_ble_eq_true rfl⟩ (fun r45 w9 H locs hw45 hP hD hS => ?_)
        obtain ⟨rfl, hw45_0, hw45_1, hw45_2⟩ := hw45
        have b_r45 := iB r45
        refine lv_istore (lv' := [(10, .int r45), (9, .int x39), (8, .int x34), (0, .ref (q 17)), (1, .int g9), (2, .long d9), (4, .int o9_), (5, .long f9), (7, .int e9)]) hx hb dX7_equalDown_48 hl (by decide) rfl (fun ls hl => ?_)
        refine lv_iload hx hb dX7_equalDown_50 (lv_at hl 0 rfl) ?_
        refine lv_aload_n hx hb dX7_equalDown_52 rfl (lv_at hl 3 rfl) ?_
        refine lv_iload hx hb dX7_equalDown_53 (lv_at hl 1 rfl) ?_
        refine call_i (As := [.int x39]) (rest := [.int r45]) ⟨hx, hb, hml, hown, hts⟩ (tX7_lengthOf (l := l) x39 (by first | assumption | omega | (intros; omega) | decide)) (cwV 1 hts (gV (wr43 _ (List.mem_of_getElem? (i := 20) rfl)) (wr41 _ (List.mem_of_getElem? (i := 20) rfl)) (wr41 _ (List.mem_of_getElem? (i := 21) rfl)) (wr4 _ (List.mem_of_getElem? (i := 3) rfl)) (wr41 _ (List.mem_of_getElem? (i := 22) rfl))) rfl rfl rfl (by decide +kernel) ⟨Nat.le_of_ble_eq_true rfl, Nat.le_of_ble_eq_true rfl⟩) (va_recv hK hP (ci := 6) (q0 := 17) rfl rfl) hK hP hD hE hS hA rfl hl.1 rfl (Nat.le_of_ble_eq_true rfl) dX7_equalDown_55 ⟨Nat.le_of_ble_eq_true rfl, Nat.le_of_ble_eq_true rfl⟩ (fun r55 w9 H locs hw55 hP hD hS => ?_)
        obtain ⟨rfl, hw55_0, hw55_1, hw55_2⟩ := hw55
        have b_r55 := iB r55
        refine m_icmp_eq (X := r45.toInt) (Y := r55.toInt) (tgt := 63) hx hb dX7_equalDown_58 (by decide) rfl rfl (fun c58 => ?_) (fun c58 => ?_)
        · skip
          refine lv_iconst (v := 0) hx hb dX7_equalDown_63 (by decide) ?_
          refine lv_istore (lv' := [(11, .int 0), (10, .int r45), (9, .int x39), (8, .int x34), (0, .ref (q 17)), (1, .int g9), (2, .long d9), (4, .int o9_), (5, .long f9), (7, .int e9)]) hx hb dX7_equalDown_64 hl (by decide) rfl (fun ls hl => ?_)
          have J66 : ∀ (n66 : Nat) (l11_66 : Int32) (v_s_looked_66 : Int32) (v_s_lookedTooOften_66 : Int32) (H : Heap) (locs : List Loc) (ls : Array Slot), (0 ≤ l11_66.toInt) → (l11_66.toInt ≤ 4000) → (4000 - l11_66.toInt < (n66 : Int)) → va_P D vwCl (tw cs q v_t_tapeSize v_t_textSize v_t_faultKind a_t_tape a_t_text a_g_beyond v_g_size a_g_steps a_h_beyond v_h_size a_h_steps a_r_scratch a_r_now v_r_takes v_r_negative v_r_namePlace v_r_faultKind v_r_faultPlace v_a_size v_a_limit v_a_digits v_a_kind v_a_from v_a_to v_o_size a_o_out v_b_size v_b_limit v_b_digits v_b_kind v_b_from v_b_to a_u_atom a_u_other a_u_hand v_u_marksMade v_u_came v_u_guesses v_u_right v_u_taken a_u_vars a_u_marks a_u_outcomes a_u_indexes v_s_things v_s_looked_66 v_s_lookedTooOften_66 v_s_arraysMade v_s_cellsMade a_s_classes a_s_starts a_s_lengths a_s_cells a_L a_K a_vc a_vd a_si a_sj a_iv a_inn a_ac) H → va_D A (tw cs q v_t_tapeSize v_t_textSize v_t_faultKind a_t_tape a_t_text a_g_beyond v_g_size a_g_steps a_h_beyond v_h_size a_h_steps a_r_scratch a_r_now v_r_takes v_r_negative v_r_namePlace v_r_faultKind v_r_faultPlace v_a_size v_a_limit v_a_digits v_a_kind v_a_from v_a_to v_o_size a_o_out v_b_size v_b_limit v_b_digits v_b_kind v_b_from v_b_to a_u_atom a_u_other a_u_hand v_u_marksMade v_u_came v_u_guesses v_u_right v_u_taken a_u_vars a_u_marks a_u_outcomes a_u_indexes v_s_things v_s_looked_66 v_s_lookedTooOften_66 v_s_arraysMade v_s_cellsMade a_s_classes a_s_starts a_s_lengths a_s_cells a_L a_K a_vc a_vd a_si a_sj a_iv a_inn a_ac) → va_S A s.heap H locs → lv_has ls 12 [(0, .ref (q 17)), (7, .int e9), (8, .int x34), (9, .int x39), (10, .int r45), (11, .int l11_66)] → W p l e (headSpec (wG yX7_equalDown cX7_equalDown 12 (some .boolean)) rmX7_equalDown_q1).room s m ([.ref (q 17), .int g9, .long d9, .int o9_, .long f9, .int e9] : List Value).toArray below meth c H locs 0 0 Q (F0 m 66 ls []) := by
            intro n66
            induction n66 with
            | zero =>
              intro l11_66 v_s_looked_66 v_s_lookedTooOften_66 H locs ls f66_0 f66_1 hm66
              exfalso
              omega
            | succ n66 ih66 =>
              intro l11_66 v_s_looked_66 v_s_lookedTooOften_66 H locs ls f66_0 f66_1 hm66 hP hD hS hl
              refine lv_iload hx hb dX7_equalDown_66 (lv_at hl 5 rfl) ?_
              refine lv_iload hx hb dX7_equalDown_68 (lv_at hl 4 rfl) ?_
              refine m_icmp_ge (X := l11_66.toInt) (Y := r45.toInt) (tgt := 131) hx hb dX7_equalDown_70 (by decide) rfl rfl (fun c70 => ?_) (fun c70 => ?_)
              · skip
                refine lv_iconst (v := 1) hx hb dX7_equalDown_131 (by decide) ?_
                subst hAe
                rw [hQ]
                exact W.zret (v := 1) hx hb hr (by decide) (fun t ht hW => ⟨⟨1, _, rfl, ⟨v_s_looked_66, v_s_lookedTooOften_66, rfl, by first | assumption | omega | (intros; omega) | decide⟩, by rw [ht]; exact hP, va_K.moved hW.alike hK, hD⟩, hS.F ht⟩) hS.2.2 dX7_equalDown_132
              · skip
                refine lv_aload_n hx hb dX7_equalDown_73 rfl (lv_at hl 0 rfl) ?_
                refine call_i (As := []) (rest := []) ⟨hx, hb, hml, hown, hts⟩ (tX7_mayLook (l := l) ) (cwV 0 hts (gV (wr43 _ (List.mem_of_getElem? (i := 21) rfl)) (wr43 _ (List.mem_of_getElem? (i := 22) rfl)) (wr43 _ (List.mem_of_getElem? (i := 23) rfl)) (wr4 _ (List.mem_of_getElem? (i := 3) rfl)) (wr44 _ (List.mem_of_getElem? (i := 0) rfl))) rfl rfl rfl (by decide +kernel) ⟨Nat.le_of_ble_eq_true rfl, Nat.le_of_ble_eq_true rfl⟩) (va_recv hK hP (ci := 6) (q0 := 17) rfl rfl) hK hP hD hE hS hA rfl hl.1 rfl (Nat.le_of_ble_eq_true rfl) dX7_equalDown_74 ⟨Nat.le_of_ble_eq_true rfl, Nat.le_of_ble_eq_true rfl⟩ (fun r74 w9 H locs hw74 hP hD hS => ?_)
                obtain ⟨v_s_looked_74, v_s_lookedTooOften_74, rfl, hw74_0⟩ := hw74
                have b_v_s_looked_74 := iB v_s_looked_74
                have b_v_s_lookedTooOften_74 := iB v_s_lookedTooOften_74
                have b_r74 := iB r74
                refine m_if_eq (X := r74.toInt) (tgt := 123) hx hb dX7_equalDown_77 (by decide) rfl (fun c77 => ?_) (fun c77 => ?_)
                · skip
                  refine lv_iconst (v := 0) hx hb dX7_equalDown_123 (by decide) ?_
                  subst hAe
                  rw [hQ]
                  exact W.zret (v := 0) hx hb hr (by decide) (fun t ht hW => ⟨⟨0, _, rfl, ⟨v_s_looked_74, v_s_lookedTooOften_74, rfl, by first | assumption | omega | (intros; omega) | decide⟩, by rw [ht]; exact hP, va_K.moved hW.alike hK, hD⟩, hS.F ht⟩) hS.2.2 dX7_equalDown_124
                · skip
                  refine lv_aload_n hx hb dX7_equalDown_80 rfl (lv_at hl 0 rfl) ?_
                  refine lv_aload_n hx hb dX7_equalDown_81 rfl (lv_at hl 0 rfl) ?_
                  refine lv_iload hx hb dX7_equalDown_82 (lv_at hl 2 rfl) ?_
                  refine lv_iload hx hb dX7_equalDown_84 (lv_at hl 5 rfl) ?_
                  refine call_i (As := [.int x34, .int l11_66]) (rest := [.ref (q 17)]) ⟨hx, hb, hml, hown, hts⟩ (tX7_cellClass (l := l) x34 l11_66 (by first | assumption | omega | (intros; omega) | decide)) (cwV 2 hts (gV (wr38 _ (List.mem_of_getElem? (i := 20) rfl)) (wr38 _ (List.mem_of_getElem? (i := 21) rfl)) (wr38 _ (List.mem_of_getElem? (i := 22) rfl)) (wr4 _ (List.mem_of_getElem? (i := 3) rfl)) (wr38 _ (List.mem_of_getElem? (i := 23) rfl))) rfl rfl rfl (by decide +kernel) ⟨Nat.le_of_ble_eq_true rfl, Nat.le_of_ble_eq_true rfl⟩) (va_recv hK hP (ci := 6) (q0 := 17) rfl rfl) hK hP hD hE hS hA rfl hl.1 rfl (Nat.le_of_ble_eq_true rfl) dX7_equalDown_86 ⟨Nat.le_of_ble_eq_true rfl, Nat.le_of_ble_eq_true rfl⟩ (fun r86 w9 H locs hw86 hP hD hS => ?_)
                  obtain ⟨rfl⟩ := hw86
                  have b_r86 := iB r86
                  refine lv_aload_n hx hb dX7_equalDown_89 rfl (lv_at hl 0 rfl) ?_
                  refine lv_iload hx hb dX7_equalDown_90 (lv_at hl 2 rfl) ?_
                  refine lv_iload hx hb dX7_equalDown_92 (lv_at hl 5 rfl) ?_
                  refine call_j (As := [.int x34, .int l11_66]) (rest := [.int r86, .ref (q 17)]) ⟨hx, hb, hml, hown, hts⟩ (tX7_cellDatum (l := l) x34 l11_66 (by first | assumption | omega | (intros; omega) | decide)) (cwV 2 hts (gV (wr39 _ (List.mem_of_getElem? (i := 0) rfl)) (wr39 _ (List.mem_of_getElem? (i := 1) rfl)) (wr39 _ (List.mem_of_getElem? (i := 2) rfl)) (wr4 _ (List.mem_of_getElem? (i := 3) rfl)) (wr39 _ (List.mem_of_getElem? (i := 3) rfl))) rfl rfl rfl (by decide +kernel) ⟨Nat.le_of_ble_eq_true rfl, Nat.le_of_ble_eq_true rfl⟩) (va_recv hK hP (ci := 6) (q0 := 17) rfl rfl) hK hP hD hE hS hA rfl hl.1 rfl (Nat.le_of_ble_eq_true rfl) dX7_equalDown_94 ⟨Nat.le_of_ble_eq_true rfl, Nat.le_of_ble_eq_true rfl⟩ (fun r94 w9 H locs hw94 hP hD hS => ?_)
                  obtain ⟨rfl⟩ := hw94
                  have b_r94 := jB r94
                  refine lv_aload_n hx hb dX7_equalDown_97 rfl (lv_at hl 0 rfl) ?_
                  refine lv_iload hx hb dX7_equalDown_98 (lv_at hl 3 rfl) ?_
                  refine lv_iload hx hb dX7_equalDown_100 (lv_at hl 5 rfl) ?_
                  refine call_i (As := [.int x39, .int l11_66]) (rest := [.long r94, .int r86, .ref (q 17)]) ⟨hx, hb, hml, hown, hts⟩ (tX7_cellClass (l := l) x39 l11_66 (by first | assumption | omega | (intros; omega) | decide)) (cwV 2 hts (gV (wr38 _ (List.mem_of_getElem? (i := 20) rfl)) (wr38 _ (List.mem_of_getElem? (i := 21) rfl)) (wr38 _ (List.mem_of_getElem? (i := 22) rfl)) (wr4 _ (List.mem_of_getElem? (i := 3) rfl)) (wr38 _ (List.mem_of_getElem? (i := 23) rfl))) rfl rfl rfl (by decide +kernel) ⟨Nat.le_of_ble_eq_true rfl, Nat.le_of_ble_eq_true rfl⟩) (va_recv hK hP (ci := 6) (q0 := 17) rfl rfl) hK hP hD hE hS hA rfl hl.1 rfl (Nat.le_of_ble_eq_true rfl) dX7_equalDown_102 ⟨Nat.le_of_ble_eq_true rfl, Nat.le_of_ble_eq_true rfl⟩ (fun r102 w9 H locs hw102 hP hD hS => ?_)
                  obtain ⟨rfl⟩ := hw102
                  have b_r102 := iB r102
                  refine lv_aload_n hx hb dX7_equalDown_105 rfl (lv_at hl 0 rfl) ?_
                  refine lv_iload hx hb dX7_equalDown_106 (lv_at hl 3 rfl) ?_
                  refine lv_iload hx hb dX7_equalDown_108 (lv_at hl 5 rfl) ?_
                  refine call_j (As := [.int x39, .int l11_66]) (rest := [.int r102, .long r94, .int r86, .ref (q 17)]) ⟨hx, hb, hml, hown, hts⟩ (tX7_cellDatum (l := l) x39 l11_66 (by first | assumption | omega | (intros; omega) | decide)) (cwV 2 hts (gV (wr39 _ (List.mem_of_getElem? (i := 0) rfl)) (wr39 _ (List.mem_of_getElem? (i := 1) rfl)) (wr39 _ (List.mem_of_getElem? (i := 2) rfl)) (wr4 _ (List.mem_of_getElem? (i := 3) rfl)) (wr39 _ (List.mem_of_getElem? (i := 3) rfl))) rfl rfl rfl (by decide +kernel) ⟨Nat.le_of_ble_eq_true rfl, Nat.le_of_ble_eq_true rfl⟩) (va_recv hK hP (ci := 6) (q0 := 17) rfl rfl) hK hP hD hE hS hA rfl hl.1 rfl (Nat.le_of_ble_eq_true rfl) dX7_equalDown_110 ⟨Nat.le_of_ble_eq_true rfl, Nat.le_of_ble_eq_true rfl⟩ (fun r110 w9 H locs hw110 hP hD hS => ?_)
                  obtain ⟨rfl⟩ := hw110
                  have b_r110 := jB r110
                  refine lv_iload hx hb dX7_equalDown_113 (lv_at hl 1 rfl) ?_
                  refine lv_iconst (v := 1) hx hb dX7_equalDown_115 (by decide) ?_
                  refine m_iadd (X := e9.toInt) (Y := 1) hx hb dX7_equalDown_116 rfl (by decide) (fun x116 e_x116 g9 => ?_)
                  obtain ⟨k_x116, g_x116⟩ := g9
                  have b_x116 := iB x116
                  try (have q_x116 : x116.toInt = e9.toInt + 1 := (by omega); clear g_x116 k_x116)
                  refine call_i (As := [.int r86, .long r94, .int r102, .long r110, .int x116]) (rest := []) ⟨hx, hb, hml, hown, hts⟩ (tX7_equalDown_q0 (l := l) r86 r94 r102 r110 x116 (by first | assumption | omega | (intros; omega) | decide) (by first | assumption | omega | (intros; omega) | decide) (by first | assumption | omega | (intros; omega) | decide)) (cwV 5 hts (gV (wr44 _ (List.mem_of_getElem? (i := 10) rfl)) (wr44 _ (List.mem_of_getElem? (i := 11) rfl)) (wr44 _ (List.mem_of_getElem? (i := 12) rfl)) (wr4 _ (List.mem_of_getElem? (i := 3) rfl)) (wr44 _ (List.mem_of_getElem? (i := 13) rfl))) rfl rfl rfl (by decide +kernel) ⟨Nat.le_of_ble_eq_true rfl, Nat.le_of_ble_eq_true rfl⟩) (va_recv hK hP (ci := 6) (q0 := 17) rfl rfl) hK hP hD hE hS hA rfl hl.1 rfl (Nat.le_of_ble_eq_true rfl) dX7_equalDown_117 ⟨Nat.le_of_ble_eq_true rfl, Nat.le_of_ble_eq_true rfl⟩ (fun r117 w9 H locs hw117 hP hD hS => ?_)
                  obtain ⟨rfl, hw117_0⟩ := hw117
                  have b_r117 := iB r117
                  refine m_if_ne (X := r117.toInt) (tgt := 125) hx hb dX7_equalDown_120 (by decide) rfl (fun c120 => ?_) (fun c120 => ?_)
                  · skip
                    obtain ⟨x125, e_x125⟩ : ∃ z : Int32, z = l11_66 + (1 : Int32) := ⟨_, rfl⟩
                    obtain ⟨k_x125, g_x125⟩ : ∃ k : Int, x125.toInt = l11_66.toInt + (1) + k * 4294967296 := by rw [e_x125]; exact iAdd l11_66 (1)
                    have b_x125 := iB x125
                    try (have q_x125 : x125.toInt = l11_66.toInt + (1) := (by omega); clear g_x125 k_x125)
                    refine lv_iinc (v := x125) (lv' := [(11, .int x125), (0, .ref (q 17)), (7, .int e9), (8, .int x34), (9, .int x39), (10, .int r45)]) hx hb dX7_equalDown_125 hl (k := 5) rfl (by rw [e_x125]; rfl) (by decide) rfl (fun ls hl => ?_)
                    refine lv_goto (tgt := 66) hx hb dX7_equalDown_128 (by decide) ?_
                    exact ih66 x125 v_s_looked_74 v_s_lookedTooOften_74 H locs ls (by first | assumption | omega | (intros; omega) | decide) (by first | assumption | omega | (intros; omega) | decide) (by omega) hP hD hS (lv_sub hl [1, 2, 3, 4, 5, 0] rfl)
                  · skip
                    refine lv_iconst (v := 0) hx hb dX7_equalDown_123 (by decide) ?_
                    subst hAe
                    rw [hQ]
                    exact W.zret (v := 0) hx hb hr (by decide) (fun t ht hW => ⟨⟨0, _, rfl, ⟨v_s_looked_74, v_s_lookedTooOften_74, rfl, by first | assumption | omega | (intros; omega) | decide⟩, by rw [ht]; exact hP, va_K.moved hW.alike hK, hD⟩, hS.F ht⟩) hS.2.2 dX7_equalDown_124
          exact J66 ((4000 - (0 : Int32).toInt).toNat + 1) (0 : Int32) v_s_looked v_s_lookedTooOften H locs ls (by first | assumption | omega | (intros; omega) | decide) (by first | assumption | omega | (intros; omega) | decide) (by omega) hP hD hS (lv_sub hl [4, 9, 3, 2, 1, 0] rfl)
        · skip
          refine lv_iconst (v := 0) hx hb dX7_equalDown_61 (by decide) ?_
          subst hAe
          rw [hQ]
          exact W.zret (v := 0) hx hb hr (by decide) (fun t ht hW => ⟨⟨0, _, rfl, ⟨v_s_looked, v_s_lookedTooOften, rfl, by first | assumption | omega | (intros; omega) | decide⟩, by rw [ht]; exact hP, va_K.moved hW.alike hK, hD⟩, hS.F ht⟩) hS.2.2 dX7_equalDown_62
      · skip
        exact J20 H locs ls hP hD hS (lv_sub hl [2, 4] rfl)
  · skip
    refine lv_iconst (v := 0) hx hb dX7_equalDown_6 (by decide) ?_
    subst hAe
    rw [hQ]
    exact W.zret (v := 0) hx hb hr (by decide) (fun t ht hW => ⟨⟨0, _, rfl, ⟨v_s_looked, v_s_lookedTooOften, rfl, by first | assumption | omega | (intros; omega) | decide⟩, by rw [ht]; exact hP, va_K.moved hW.alike hK, hD⟩, hS.F ht⟩) hS.2.2 dX7_equalDown_7

def rmX7_equalDown_q2 : Room := { frames := 80, cells := 0, slots := 0, locals := 1600 }
set_option maxHeartbeats 4000000 in
set_option maxRecDepth 100000 in
theorem tX7_equalDown_q2 {l : Launch} {D : va_G} {K : Nat → Nat → Nat} {cs : Nat → ClassId} {q : Nat → Nat} {v_t_tapeSize v_t_textSize v_t_faultKind v_g_size v_h_size v_r_takes v_r_negative v_r_namePlace v_r_faultKind v_r_faultPlace v_a_size v_a_limit v_a_digits v_a_kind v_a_from v_a_to v_o_size v_b_size v_b_limit v_b_digits v_b_kind v_b_from v_b_to v_u_marksMade v_u_came v_u_guesses v_u_right v_u_taken v_s_things v_s_looked v_s_lookedTooOften v_s_arraysMade v_s_cellsMade : Int32} {a_t_tape a_t_text a_o_out a_u_outcomes a_u_indexes a_s_classes a_s_starts a_s_lengths a_vc : Nat → Int32} {a_g_beyond a_h_beyond a_r_scratch a_r_now a_u_atom a_u_other a_u_hand : Nat} {a_g_steps a_h_steps a_u_vars a_u_marks : Nat → Option Nat} {a_s_cells a_vd a_sj : Nat → Int64} {a_L : List Nat} {a_K a_iv a_inn : Nat → Nat} {a_si a_ac : Nat → Nat → Int32} (g9 : Int32) (d9 : Int64) (o9_ : Int32) (f9 : Int64) (e9 : Int32) (p_0 : STO v_s_things v_s_cellsMade a_s_starts a_s_lengths) (p_1 : 2 ≤ e9.toInt) (p_2 : e9.toInt ≤ 4) : CtI l yX7_equalDown (wG yX7_equalDown cX7_equalDown 12 (some .boolean)) rmX7_equalDown_q2 D (twT cs) K [.ref (q 17), .int g9, .long d9, .int o9_, .long f9, .int e9] (tw cs q v_t_tapeSize v_t_textSize v_t_faultKind a_t_tape a_t_text a_g_beyond v_g_size a_g_steps a_h_beyond v_h_size a_h_steps a_r_scratch a_r_now v_r_takes v_r_negative v_r_namePlace v_r_faultKind v_r_faultPlace v_a_size v_a_limit v_a_digits v_a_kind v_a_from v_a_to v_o_size a_o_out v_b_size v_b_limit v_b_digits v_b_kind v_b_from v_b_to a_u_atom a_u_other a_u_hand v_u_marksMade v_u_came v_u_guesses v_u_right v_u_taken a_u_vars a_u_marks a_u_outcomes a_u_indexes v_s_things v_s_looked v_s_lookedTooOften v_s_arraysMade v_s_cellsMade a_s_classes a_s_starts a_s_lengths a_s_cells a_L a_K a_vc a_vd a_si a_sj a_iv a_inn a_ac) (fun r w1 => ∃ (v_s_looked' : Int32) (v_s_lookedTooOften' : Int32), w1 = (tw cs q v_t_tapeSize v_t_textSize v_t_faultKind a_t_tape a_t_text a_g_beyond v_g_size a_g_steps a_h_beyond v_h_size a_h_steps a_r_scratch a_r_now v_r_takes v_r_negative v_r_namePlace v_r_faultKind v_r_faultPlace v_a_size v_a_limit v_a_digits v_a_kind v_a_from v_a_to v_o_size a_o_out v_b_size v_b_limit v_b_digits v_b_kind v_b_from v_b_to a_u_atom a_u_other a_u_hand v_u_marksMade v_u_came v_u_guesses v_u_right v_u_taken a_u_vars a_u_marks a_u_outcomes a_u_indexes v_s_things v_s_looked' v_s_lookedTooOften' v_s_arraysMade v_s_cellsMade a_s_classes a_s_starts a_s_lengths a_s_cells a_L a_K a_vc a_vd a_si a_sj a_iv a_inn a_ac) ∧ (r.toInt = 0 ∨ r.toInt = 1)) 0 0 := by
  intro sz
  refine Met.ofW (cc := cX7_equalDown) (maxL := 12) (ret := (some .boolean)) (by decide) rfl ?_
  intro p e s m args below meth c s₁ B hml hv
  obtain ⟨rfl, hsz, hP, hK, hD0, hE⟩ := hv
  have hx := B.exec
  have hb := B.bytes
  have hr := B.returns
  have hts := atoms_spec (ws := (wG yX7_equalDown cX7_equalDown 12 (some .boolean))) B.pre
  have hown : s.vm.findClass RX7 = some m.cls := findClass_of_methodNamed B.named
  have hlocks := B.notSynchronized
  subst hsz
  have hD := hD0.self (sz := s.heap.size)
  obtain ⟨A, hAe⟩ : ∃ A : Nat → Prop, A = va_A (tw cs q v_t_tapeSize v_t_textSize v_t_faultKind a_t_tape a_t_text a_g_beyond v_g_size a_g_steps a_h_beyond v_h_size a_h_steps a_r_scratch a_r_now v_r_takes v_r_negative v_r_namePlace v_r_faultKind v_r_faultPlace v_a_size v_a_limit v_a_digits v_a_kind v_a_from v_a_to v_o_size a_o_out v_b_size v_b_limit v_b_digits v_b_kind v_b_from v_b_to a_u_atom a_u_other a_u_hand v_u_marksMade v_u_came v_u_guesses v_u_right v_u_taken a_u_vars a_u_marks a_u_outcomes a_u_indexes v_s_things v_s_looked v_s_lookedTooOften v_s_arraysMade v_s_cellsMade a_s_classes a_s_starts a_s_lengths a_s_cells a_L a_K a_vc a_vd a_si a_sj a_iv a_inn a_ac) s.heap.size := ⟨_, rfl⟩
  rw [← hAe] at hD hE
  have hA : ∀ q : Nat, s.heap.size ≤ q → A q := fun q h => by rw [hAe]; exact Or.inr h
  have hS : va_S A s.heap s.heap [] := va_S.rf
  have hl := lv_entry ([.ref (q 17), .int g9, .long d9, .int o9_, .long f9, .int e9]) (n := 12) (Nat.le_of_ble_eq_true rfl)
  rw [lg_entry_eq]
  generalize (lg_sl ([.ref (q 17), .int g9, .long d9, .int o9_, .long f9, .int e9]) ++ List.replicate (12 - (lg_sl ([.ref (q 17), .int g9, .long d9, .int o9_, .long f9, .int e9])).length) Slot.unset).toArray = ls at hl ⊢
  have hl : lv_has ls 12 [(0, .ref (q 17)), (1, .int g9), (2, .long d9), (4, .int o9_), (5, .long f9), (7, .int e9)] := hl
  refine wq (fun Q hQ => ?_)
  have kc0 : (0 : Int32).toInt = 0 := by decide
  have kc1 : (1 : Int32).toInt = 1 := by decide
  have kc2 : (3 : Int32).toInt = 3 := by decide
  have kc3 : (20 : Int32).toInt = 20 := by decide
  obtain ⟨H, hH⟩ : ∃ H : Heap, H = s.heap := ⟨_, rfl⟩
  obtain ⟨locs, hlc⟩ : ∃ L : List Loc, L = [] := ⟨_, rfl⟩
  have hP : va_P D vwCl (tw cs q v_t_tapeSize v_t_textSize v_t_faultKind a_t_tape a_t_text a_g_beyond v_g_size a_g_steps a_h_beyond v_h_size a_h_steps a_r_scratch a_r_now v_r_takes v_r_negative v_r_namePlace v_r_faultKind v_r_faultPlace v_a_size v_a_limit v_a_digits v_a_kind v_a_from v_a_to v_o_size a_o_out v_b_size v_b_limit v_b_digits v_b_kind v_b_from v_b_to a_u_atom a_u_other a_u_hand v_u_marksMade v_u_came v_u_guesses v_u_right v_u_taken a_u_vars a_u_marks a_u_outcomes a_u_indexes v_s_things v_s_looked v_s_lookedTooOften v_s_arraysMade v_s_cellsMade a_s_classes a_s_starts a_s_lengths a_s_cells a_L a_K a_vc a_vd a_si a_sj a_iv a_inn a_ac) H := by rw [hH]; exact hP
  have hS : va_S A s.heap H locs := by rw [hH, hlc]; exact hS
  refine wHL hH hlc ?_
  have b_g9 := iB g9
  have b_d9 := jB d9
  have b_o9_ := iB o9_
  have b_f9 := jB f9
  have b_e9 := iB e9
  refine lv_iload_n hx hb dX7_equalDown_0 rfl (lv_at hl 1 rfl) ?_
  refine lv_iload hx hb dX7_equalDown_1 (lv_at hl 3 rfl) ?_
  refine m_icmp_eq (X := g9.toInt) (Y := o9_.toInt) (tgt := 8) hx hb dX7_equalDown_3 (by decide) rfl rfl (fun c3 => ?_) (fun c3 => ?_)
  · skip
    refine lv_iload_n hx hb dX7_equalDown_8 rfl (lv_at hl 1 rfl) ?_
    refine lv_bipush (v := 20) hx hb dX7_equalDown_9 (by decide) ?_
    have J20 : ∀ (H : Heap) (locs : List Loc) (ls : Array Slot), va_P D vwCl (tw cs q v_t_tapeSize v_t_textSize v_t_faultKind a_t_tape a_t_text a_g_beyond v_g_size a_g_steps a_h_beyond v_h_size a_h_steps a_r_scratch a_r_now v_r_takes v_r_negative v_r_namePlace v_r_faultKind v_r_faultPlace v_a_size v_a_limit v_a_digits v_a_kind v_a_from v_a_to v_o_size a_o_out v_b_size v_b_limit v_b_digits v_b_kind v_b_from v_b_to a_u_atom a_u_other a_u_hand v_u_marksMade v_u_came v_u_guesses v_u_right v_u_taken a_u_vars a_u_marks a_u_outcomes a_u_indexes v_s_things v_s_looked v_s_lookedTooOften v_s_arraysMade v_s_cellsMade a_s_classes a_s_starts a_s_lengths a_s_cells a_L a_K a_vc a_vd a_si a_sj a_iv a_inn a_ac) H → va_D A (tw cs q v_t_tapeSize v_t_textSize v_t_faultKind a_t_tape a_t_text a_g_beyond v_g_size a_g_steps a_h_beyond v_h_size a_h_steps a_r_scratch a_r_now v_r_takes v_r_negative v_r_namePlace v_r_faultKind v_r_faultPlace v_a_size v_a_limit v_a_digits v_a_kind v_a_from v_a_to v_o_size a_o_out v_b_size v_b_limit v_b_digits v_b_kind v_b_from v_b_to a_u_atom a_u_other a_u_hand v_u_marksMade v_u_came v_u_guesses v_u_right v_u_taken a_u_vars a_u_marks a_u_outcomes a_u_indexes v_s_things v_s_looked v_s_lookedTooOften v_s_arraysMade v_s_cellsMade a_s_classes a_s_starts a_s_lengths a_s_cells a_L a_K a_vc a_vd a_si a_sj a_iv a_inn a_ac) → va_S A s.heap H locs → lv_has ls 12 [(2, .long d9), (5, .long f9)] → W p l e (headSpec (wG yX7_equalDown cX7_equalDown 12 (some .boolean)) rmX7_equalDown_q2).room s m ([.ref (q 17), .int g9, .long d9, .int o9_, .long f9, .int e9] : List Value).toArray below meth c H locs 0 0 Q (F0 m 20 ls []) := by
      intro H locs ls hP hD hS hl
      refine lv_lload_n hx hb dX7_equalDown_20 rfl (lv_at hl 0 rfl) ?_
      refine lv_lload hx hb dX7_equalDown_21 (lv_at hl 1 rfl) ?_
      refine m_lcmp (X := d9.toInt) (Y := f9.toInt) hx hb dX7_equalDown_23 rfl rfl (fun x23 g_x23 => ?_)
      refine m_if_ne (X := x23.toInt) (tgt := 31) hx hb dX7_equalDown_24 (by decide) rfl (fun c24 => ?_) (fun c24 => ?_)
      · skip
        refine lv_iconst (v := 0) hx hb dX7_equalDown_31 (by decide) ?_
        subst hAe
        rw [hQ]
        exact W.zret (v := 0) hx hb hr (by decide) (fun t ht hW => ⟨⟨0, _, rfl, ⟨v_s_looked, v_s_lookedTooOften, rfl, by first | assumption | omega | (intros; omega) | decide⟩, by rw [ht]; exact hP, va_K.moved hW.alike hK, hD⟩, hS.F ht⟩) hS.2.2 dX7_equalDown_32
      · skip
        refine lv_iconst (v := 1) hx hb dX7_equalDown_27 (by decide) ?_
        refine lv_goto (tgt := 32) hx hb dX7_equalDown_28 (by decide) ?_
        subst hAe
        rw [hQ]
        exact W.zret (v := 1) hx hb hr (by decide) (fun t ht hW => ⟨⟨1, _, rfl, ⟨v_s_looked, v_s_lookedTooOften, rfl, by first | assumption | omega | (intros; omega) | decide⟩, by rw [ht]; exact hP, va_K.moved hW.alike hK, hD⟩, hS.F ht⟩) hS.2.2 dX7_equalDown_32
    refine m_icmp_lt (X := g9.toInt) (Y := 20) (tgt := 20) hx hb dX7_equalDown_11 (by decide) rfl (by decide) (fun c11 => ?_) (fun c11 => ?_)
    · skip
      exact J20 H locs ls hP hD hS (lv_sub hl [2, 4] rfl)
    · skip
      refine lv_iload hx hb dX7_equalDown_14 (lv_at hl 5 rfl) ?_
      refine lv_iconst (v := 3) hx hb dX7_equalDown_16 (by decide) ?_
      refine m_icmp_le (X := e9.toInt) (Y := 3) (tgt := 33) hx hb dX7_equalDown_17 (by decide) rfl (by decide) (fun c17 => ?_) (fun c17 => ?_)
      · skip
        refine lv_lload_n hx hb dX7_equalDown_33 rfl (lv_at hl 2 rfl) ?_
        refine m_l2i hx hb dX7_equalDown_34 (fun x34 e_x34 => ?_)
        have b_x34 := iB x34
        refine lv_istore (lv' := [(8, .int x34), (0, .ref (q 17)), (1, .int g9), (2, .long d9), (4, .int o9_), (5, .long f9), (7, .int e9)]) hx hb dX7_equalDown_35 hl (by decide) rfl (fun ls hl => ?_)
        refine lv_lload hx hb dX7_equalDown_37 (lv_at hl 5 rfl) ?_
        refine m_l2i hx hb dX7_equalDown_39 (fun x39 e_x39 => ?_)
        have b_x39 := iB x39
        refine lv_istore (lv' := [(9, .int x39), (8, .int x34), (0, .ref (q 17)), (1, .int g9), (2, .long d9), (4, .int o9_), (5, .long f9), (7, .int e9)]) hx hb dX7_equalDown_40 hl (by decide) rfl (fun ls hl => ?_)
        refine lv_aload_n hx hb dX7_equalDown_42 rfl (lv_at hl 2 rfl) ?_
        refine lv_iload hx hb dX7_equalDown_43 (lv_at hl 1 rfl) ?_
        refine call_i (As := [.int x34]) (rest := []) ⟨hx, hb, hml, hown, hts⟩ (tX7_lengthOf (l := l) x34 (by first | assumption | omega | (intros; omega) | decide)) (cwV 1 hts (gV (wr43 _ (List.mem_of_getElem? (i := 20) rfl)) (wr41 _ (List.mem_of_getElem? (i := 20) rfl)) (wr41 _ (List.mem_of_getElem? (i := 21) rfl)) (wr4 _ (List.mem_of_getElem? (i := 3) rfl)) (wr41 _ (List.mem_of_getElem? (i := 22) rfl))) rfl rfl rfl (by decide +kernel) ⟨Nat.le_of_ble_eq_true rfl, Nat.le_of_ble_eq_true rfl⟩) (va_recv hK hP (ci := 6) (q0 := 17) rfl rfl) hK hP hD hE hS hA rfl hl.1 rfl (Nat.le_of_ble_eq_true rfl) dX7_equalDown_45 ⟨Nat.le_of_ble_eq_true rfl, Nat.le_of_ble_eq_true rfl⟩ (fun r45 w9 H locs hw45 hP hD hS => ?_)
        obtain ⟨rfl, hw45_0, hw45_1, hw45_2⟩ := hw45
        have b_r45 := iB r45
        refine lv_istore (lv' := [(10, .int r45), (9, .int x39), (8, .int x34), (0, .ref (q 17)), (1, .int g9), (2, .long d9), (4, .int o9_), (5, .long f9), (7, .int e9)]) hx hb dX7_equalDown_48 hl (by decide) rfl (fun ls hl => ?_)
        refine lv_iload hx hb dX7_equalDown_50 (lv_at hl 0 rfl) ?_
        refine lv_aload_n hx hb dX7_equalDown_52 rfl (lv_at hl 3 rfl) ?_
        refine lv_iload hx hb dX7_equalDown_53 (lv_at hl 1 rfl) ?_
        refine call_i (As := [.int x39]) (rest := [.int r45]) ⟨hx, hb, hml, hown, hts⟩ (tX7_lengthOf (l := l) x39 (by first | assumption | omega | (intros; omega) | decide)) (cwV 1 hts (gV (wr43 _ (List.mem_of_getElem? (i := 20) rfl)) (wr41 _ (List.mem_of_getElem? (i := 20) rfl)) (wr41 _ (List.mem_of_getElem? (i := 21) rfl)) (wr4 _ (List.mem_of_getElem? (i := 3) rfl)) (wr41 _ (List.mem_of_getElem? (i := 22) rfl))) rfl rfl rfl (by decide +kernel) ⟨Nat.le_of_ble_eq_true rfl, Nat.le_of_ble_eq_true rfl⟩) (va_recv hK hP (ci := 6) (q0 := 17) rfl rfl) hK hP hD hE hS hA rfl hl.1 rfl (Nat.le_of_ble_eq_true rfl) dX7_equalDown_55 ⟨Nat.le_of_ble_eq_true rfl, Nat.le_of_ble_eq_true rfl⟩ (fun r55 w9 H locs hw55 hP hD hS => ?_)
        obtain ⟨rfl, hw55_0, hw55_1, hw55_2⟩ := hw55
        have b_r55 := iB r55
        refine m_icmp_eq (X := r45.toInt) (Y := r55.toInt) (tgt := 63) hx hb dX7_equalDown_58 (by decide) rfl rfl (fun c58 => ?_) (fun c58 => ?_)
        · skip
          refine lv_iconst (v := 0) hx hb dX7_equalDown_63 (by decide) ?_
          refine lv_istore (lv' := [(11, .int 0), (10, .int r45), (9, .int x39), (8, .int x34), (0, .ref (q 17)), (1, .int g9), (2, .long d9), (4, .int o9_), (5, .long f9), (7, .int e9)]) hx hb dX7_equalDown_64 hl (by decide) rfl (fun ls hl => ?_)
          have J66 : ∀ (n66 : Nat) (l11_66 : Int32) (v_s_looked_66 : Int32) (v_s_lookedTooOften_66 : Int32) (H : Heap) (locs : List Loc) (ls : Array Slot), (0 ≤ l11_66.toInt) → (l11_66.toInt ≤ 4000) → (4000 - l11_66.toInt < (n66 : Int)) → va_P D vwCl (tw cs q v_t_tapeSize v_t_textSize v_t_faultKind a_t_tape a_t_text a_g_beyond v_g_size a_g_steps a_h_beyond v_h_size a_h_steps a_r_scratch a_r_now v_r_takes v_r_negative v_r_namePlace v_r_faultKind v_r_faultPlace v_a_size v_a_limit v_a_digits v_a_kind v_a_from v_a_to v_o_size a_o_out v_b_size v_b_limit v_b_digits v_b_kind v_b_from v_b_to a_u_atom a_u_other a_u_hand v_u_marksMade v_u_came v_u_guesses v_u_right v_u_taken a_u_vars a_u_marks a_u_outcomes a_u_indexes v_s_things v_s_looked_66 v_s_lookedTooOften_66 v_s_arraysMade v_s_cellsMade a_s_classes a_s_starts a_s_lengths a_s_cells a_L a_K a_vc a_vd a_si a_sj a_iv a_inn a_ac) H → va_D A (tw cs q v_t_tapeSize v_t_textSize v_t_faultKind a_t_tape a_t_text a_g_beyond v_g_size a_g_steps a_h_beyond v_h_size a_h_steps a_r_scratch a_r_now v_r_takes v_r_negative v_r_namePlace v_r_faultKind v_r_faultPlace v_a_size v_a_limit v_a_digits v_a_kind v_a_from v_a_to v_o_size a_o_out v_b_size v_b_limit v_b_digits v_b_kind v_b_from v_b_to a_u_atom a_u_other a_u_hand v_u_marksMade v_u_came v_u_guesses v_u_right v_u_taken a_u_vars a_u_marks a_u_outcomes a_u_indexes v_s_things v_s_looked_66 v_s_lookedTooOften_66 v_s_arraysMade v_s_cellsMade a_s_classes a_s_starts a_s_lengths a_s_cells a_L a_K a_vc a_vd a_si a_sj a_iv a_inn a_ac) → va_S A s.heap H locs → lv_has ls 12 [(0, .ref (q 17)), (7, .int e9), (8, .int x34), (9, .int x39), (10, .int r45), (11, .int l11_66)] → W p l e (headSpec (wG yX7_equalDown cX7_equalDown 12 (some .boolean)) rmX7_equalDown_q2).room s m ([.ref (q 17), .int g9, .long d9, .int o9_, .long f9, .int e9] : List Value).toArray below meth c H locs 0 0 Q (F0 m 66 ls []) := by
            intro n66
            induction n66 with
            | zero =>
              intro l11_66 v_s_looked_66 v_s_lookedTooOften_66 H locs ls f66_0 f66_1 hm66
              exfalso
              omega
            | succ n66 ih66 =>
              intro l11_66 v_s_looked_66 v_s_lookedTooOften_66 H locs ls f66_0 f66_1 hm66 hP hD hS hl
              refine lv_iload hx hb dX7_equalDown_66 (lv_at hl 5 rfl) ?_
              refine lv_iload hx hb dX7_equalDown_68 (lv_at hl 4 rfl) ?_
              refine m_icmp_ge (X := l11_66.toInt) (Y := r45.toInt) (tgt := 131) hx hb dX7_equalDown_70 (by decide) rfl rfl (fun c70 => ?_) (fun c70 => ?_)
              · skip
                refine lv_iconst (v := 1) hx hb dX7_equalDown_131 (by decide) ?_
                subst hAe
                rw [hQ]
                exact W.zret (v := 1) hx hb hr (by decide) (fun t ht hW => ⟨⟨1, _, rfl, ⟨v_s_looked_66, v_s_lookedTooOften_66, rfl, by first | assumption | omega | (intros; omega) | decide⟩, by rw [ht]; exact hP, va_K.moved hW.alike hK, hD⟩, hS.F ht⟩) hS.2.2 dX7_equalDown_132
              · skip
                refine lv_aload_n hx hb dX7_equalDown_73 rfl (lv_at hl 0 rfl) ?_
                refine call_i (As := []) (rest := []) ⟨hx, hb, hml, hown, hts⟩ (tX7_mayLook (l := l) ) (cwV 0 hts (gV (wr43 _ (List.mem_of_getElem? (i := 21) rfl)) (wr43 _ (List.mem_of_getElem? (i := 22) rfl)) (wr43 _ (List.mem_of_getElem? (i := 23) rfl)) (wr4 _ (List.mem_of_getElem? (i := 3) rfl)) (wr44 _ (List.mem_of_getElem? (i := 0) rfl))) rfl rfl rfl (by decide +kernel) ⟨Nat.le_of_ble_eq_true rfl, Nat.le_of_ble_eq_true rfl⟩) (va_recv hK hP (ci := 6) (q0 := 17) rfl rfl) hK hP hD hE hS hA rfl hl.1 rfl (Nat.le_of_ble_eq_true rfl) dX7_equalDown_74 ⟨Nat.le_of_ble_eq_true rfl, Nat.le_of_ble_eq_true rfl⟩ (fun r74 w9 H locs hw74 hP hD hS => ?_)
                obtain ⟨v_s_looked_74, v_s_lookedTooOften_74, rfl, hw74_0⟩ := hw74
                have b_v_s_looked_74 := iB v_s_looked_74
                have b_v_s_lookedTooOften_74 := iB v_s_lookedTooOften_74
                have b_r74 := iB r74
                refine m_if_eq (X := r74.toInt) (tgt := 123) hx hb dX7_equalDown_77 (by decide) rfl (fun c77 => ?_) (fun c77 => ?_)
                · skip
                  refine lv_iconst (v := 0) hx hb dX7_equalDown_123 (by decide) ?_
                  subst hAe
                  rw [hQ]
                  exact W.zret (v := 0) hx hb hr (by decide) (fun t ht hW => ⟨⟨0, _, rfl, ⟨v_s_looked_74, v_s_lookedTooOften_74, rfl, by first | assumption | omega | (intros; omega) | decide⟩, by rw [ht]; exact hP, va_K.moved hW.alike hK, hD⟩, hS.F ht⟩) hS.2.2 dX7_equalDown_124
                · skip
                  refine lv_aload_n hx hb dX7_equalDown_80 rfl (lv_at hl 0 rfl) ?_
                  refine lv_aload_n hx hb dX7_equalDown_81 rfl (lv_at hl 0 rfl) ?_
                  refine lv_iload hx hb dX7_equalDown_82 (lv_at hl 2 rfl) ?_
                  refine lv_iload hx hb dX7_equalDown_84 (lv_at hl 5 rfl) ?_
                  refine call_i (As := [.int x34, .int l11_66]) (rest := [.ref (q 17)]) ⟨hx, hb, hml, hown, hts⟩ (tX7_cellClass (l := l) x34 l11_66 (by first | assumption | omega | (intros; omega) | decide)) (cwV 2 hts (gV (wr38 _ (List.mem_of_getElem? (i := 20) rfl)) (wr38 _ (List.mem_of_getElem? (i := 21) rfl)) (wr38 _ (List.mem_of_getElem? (i := 22) rfl)) (wr4 _ (List.mem_of_getElem? (i := 3) rfl)) (wr38 _ (List.mem_of_getElem? (i := 23) rfl))) rfl rfl rfl (by decide +kernel) ⟨Nat.le_of_ble_eq_true rfl, Nat.le_of_ble_eq_true rfl⟩) (va_recv hK hP (ci := 6) (q0 := 17) rfl rfl) hK hP hD hE hS hA rfl hl.1 rfl (Nat.le_of_ble_eq_true rfl) dX7_equalDown_86 ⟨Nat.le_of_ble_eq_true rfl, Nat.le_of_ble_eq_true rfl⟩ (fun r86 w9 H locs hw86 hP hD hS => ?_)
                  obtain ⟨rfl⟩ := hw86
                  have b_r86 := iB r86
                  refine lv_aload_n hx hb dX7_equalDown_89 rfl (lv_at hl 0 rfl) ?_
                  refine lv_iload hx hb dX7_equalDown_90 (lv_at hl 2 rfl) ?_
                  refine lv_iload hx hb dX7_equalDown_92 (lv_at hl 5 rfl) ?_
                  refine call_j (As := [.int x34, .int l11_66]) (rest := [.int r86, .ref (q 17)]) ⟨hx, hb, hml, hown, hts⟩ (tX7_cellDatum (l := l) x34 l11_66 (by first | assumption | omega | (intros; omega) | decide)) (cwV 2 hts (gV (wr39 _ (List.mem_of_getElem? (i := 0) rfl)) (wr39 _ (List.mem_of_getElem? (i := 1) rfl)) (wr39 _ (List.mem_of_getElem? (i := 2) rfl)) (wr4 _ (List.mem_of_getElem? (i := 3) rfl)) (wr39 _ (List.mem_of_getElem? (i := 3) rfl))) rfl rfl rfl (by decide +kernel) ⟨Nat.le_of_ble_eq_true rfl, Nat.le_of_ble_eq_true rfl⟩) (va_recv hK hP (ci := 6) (q0 := 17) rfl rfl) hK hP hD hE hS hA rfl hl.1 rfl (Nat.le_of_ble_eq_true rfl) dX7_equalDown_94 ⟨Nat.le_of_ble_eq_true rfl, Nat.le_of_ble_eq_true rfl⟩ (fun r94 w9 H locs hw94 hP hD hS => ?_)
                  obtain ⟨rfl⟩ := hw94
                  have b_r94 := jB r94
                  refine lv_aload_n hx hb dX7_equalDown_97 rfl (lv_at hl 0 rfl) ?_
                  refine lv_iload hx hb dX7_equalDown_98 (lv_at hl 3 rfl) ?_
                  refine lv_iload hx hb dX7_equalDown_100 (lv_at hl 5 rfl) ?_
                  refine call_i (As := [.int x39, .int l11_66]) (rest := [.long r94, .int r86, .ref (q 17)]) ⟨hx, hb, hml, hown, hts⟩ (tX7_cellClass (l := l) x39 l11_66 (by first | assumption | omega | (intros; omega) | decide)) (cwV 2 hts (gV (wr38 _ (List.mem_of_getElem? (i := 20) rfl)) (wr38 _ (List.mem_of_getElem? (i := 21) rfl)) (wr38 _ (List.mem_of_getElem? (i := 22) rfl)) (wr4 _ (List.mem_of_getElem? (i := 3) rfl)) (wr38 _ (List.mem_of_getElem? (i := 23) rfl))) rfl rfl rfl (by decide +kernel) ⟨Nat.le_of_ble_eq_true rfl, Nat.le_of_ble_eq_true rfl⟩) (va_recv hK hP (ci := 6) (q0 := 17) rfl rfl) hK hP hD hE hS hA rfl hl.1 rfl (Nat.le_of_ble_eq_true rfl) dX7_equalDown_102 ⟨Nat.le_of_ble_eq_true rfl, Nat.le_of_ble_eq_true rfl⟩ (fun r102 w9 H locs hw102 hP hD hS => ?_)
                  obtain ⟨rfl⟩ := hw102
                  have b_r102 := iB r102
                  refine lv_aload_n hx hb dX7_equalDown_105 rfl (lv_at hl 0 rfl) ?_
                  refine lv_iload hx hb dX7_equalDown_106 (lv_at hl 3 rfl) ?_
                  refine lv_iload hx hb dX7_equalDown_108 (lv_at hl 5 rfl) ?_
                  refine call_j (As := [.int x39, .int l11_66]) (rest := [.int r102, .long r94, .int r86, .ref (q 17)]) ⟨hx, hb, hml, hown, hts⟩ (tX7_cellDatum (l := l) x39 l11_66 (by first | assumption | omega | (intros; omega) | decide)) (cwV 2 hts (gV (wr39 _ (List.mem_of_getElem? (i := 0) rfl)) (wr39 _ (List.mem_of_getElem? (i := 1) rfl)) (wr39 _ (List.mem_of_getElem? (i := 2) rfl)) (wr4 _ (List.mem_of_getElem? (i := 3) rfl)) (wr39 _ (List.mem_of_getElem? (i := 3) rfl))) rfl rfl rfl (by decide +kernel) ⟨Nat.le_of_ble_eq_true rfl, Nat.le_of_ble_eq_true rfl⟩) (va_recv hK hP (ci := 6) (q0 := 17) rfl rfl) hK hP hD hE hS hA rfl hl.1 rfl (Nat.le_of_ble_eq_true rfl) dX7_equalDown_110 ⟨Nat.le_of_ble_eq_true rfl, Nat.le_of_ble_eq_true rfl⟩ (fun r110 w9 H locs hw110 hP hD hS => ?_)
                  obtain ⟨rfl⟩ := hw110
                  have b_r110 := jB r110
                  refine lv_iload hx hb dX7_equalDown_113 (lv_at hl 1 rfl) ?_
                  refine lv_iconst (v := 1) hx hb dX7_equalDown_115 (by decide) ?_
                  refine m_iadd (X := e9.toInt) (Y := 1) hx hb dX7_equalDown_116 rfl (by decide) (fun x116 e_x116 g9 => ?_)
                  obtain ⟨k_x116, g_x116⟩ := g9
                  have b_x116 := iB x116
                  try (have q_x116 : x116.toInt = e9.toInt + 1 := (by omega); clear g_x116 k_x116)
                  refine call_i (As := [.int r86, .long r94, .int r102, .long r110, .int x116]) (rest := []) ⟨hx, hb, hml, hown, hts⟩ (tX7_equalDown_q1 (l := l) r86 r94 r102 r110 x116 (by first | assumption | omega | (intros; omega) | decide) (by first | assumption | omega | (intros; omega) | decide) (by first | assumption | omega | (intros; omega) | decide)) (cwV 5 hts (gV (wr44 _ (List.mem_of_getElem? (i := 10) rfl)) (wr44 _ (List.mem_of_getElem? (i := 11) rfl)) (wr44 _ (List.mem_of_getElem? (i := 12) rfl)) (wr4 _ (List.mem_of_getElem? (i := 3) rfl)) (wr44 _ (List.mem_of_getElem? (i := 13) rfl))) rfl rfl rfl (by decide +kernel) ⟨Nat.le_of_ble_eq_true rfl, Nat.le_of_ble_eq_true rfl⟩) (va_recv hK hP (ci := 6) (q0 := 17) rfl rfl) hK hP hD hE hS hA rfl hl.1 rfl (Nat.le_of_ble_eq_true rfl) dX7_equalDown_117 ⟨Nat.le_of_ble_eq_true rfl, Nat.le_of_ble_eq_true rfl⟩ (fun r117 w9 H locs hw117 hP hD hS => ?_)
                  obtain ⟨v_s_looked_117, v_s_lookedTooOften_117, rfl, hw117_0⟩ := hw117
                  have b_v_s_looked_117 := iB v_s_looked_117
                  have b_v_s_lookedTooOften_117 := iB v_s_lookedTooOften_117
                  have b_r117 := iB r117
                  refine m_if_ne (X := r117.toInt) (tgt := 125) hx hb dX7_equalDown_120 (by decide) rfl (fun c120 => ?_) (fun c120 => ?_)
                  · skip
                    obtain ⟨x125, e_x125⟩ : ∃ z : Int32, z = l11_66 + (1 : Int32) := ⟨_, rfl⟩
                    obtain ⟨k_x125, g_x125⟩ : ∃ k : Int, x125.toInt = l11_66.toInt + (1) + k * 4294967296 := by rw [e_x125]; exact iAdd l11_66 (1)
                    have b_x125 := iB x125
                    try (have q_x125 : x125.toInt = l11_66.toInt + (1) := (by omega); clear g_x125 k_x125)
                    refine lv_iinc (v := x125) (lv' := [(11, .int x125), (0, .ref (q 17)), (7, .int e9), (8, .int x34), (9, .int x39), (10, .int r45)]) hx hb dX7_equalDown_125 hl (k := 5) rfl (by rw [e_x125]; rfl) (by decide) rfl (fun ls hl => ?_)
                    refine lv_goto (tgt := 66) hx hb dX7_equalDown_128 (by decide) ?_
                    exact ih66 x125 v_s_looked_117 v_s_lookedTooOften_117 H locs ls (by first | assumption | omega | (intros; omega) | decide) (by first | assumption | omega | (intros; omega) | decide) (by omega) hP hD hS (lv_sub hl [1, 2, 3, 4, 5, 0] rfl)
                  · skip
                    refine lv_iconst (v := 0) hx hb dX7_equalDown_123 (by decide) ?_
                    subst hAe
                    rw [hQ]
                    exact W.zret (v := 0) hx hb hr (by decide) (fun t ht hW => ⟨⟨0, _, rfl, ⟨v_s_looked_117, v_s_lookedTooOften_117, rfl, by first | assumption | omega | (intros; omega) | decide⟩, by rw [ht]; exact hP, va_K.moved hW.alike hK, hD⟩, hS.F ht⟩) hS.2.2 dX7_equalDown_124
          exact J66 ((4000 - (0 : Int32).toInt).toNat + 1) (0 : Int32) v_s_looked v_s_lookedTooOften H locs ls (by first | assumption | omega | (intros; omega) | decide) (by first | assumption | omega | (intros; omega) | decide) (by omega) hP hD hS (lv_sub hl [4, 9, 3, 2, 1, 0] rfl)
        · skip
          refine lv_iconst (v := 0) hx hb dX7_equalDown_61 (by decide) ?_
          subst hAe
          rw [hQ]
          exact W.zret (v := 0) hx hb hr (by decide) (fun t ht hW => ⟨⟨0, _, rfl, ⟨v_s_looked, v_s_lookedTooOften, rfl, by first | assumption | omega | (intros; omega) | decide⟩, by rw [ht]; exact hP, va_K.moved hW.alike hK, hD⟩, hS.F ht⟩) hS.2.2 dX7_equalDown_62
      · skip
        exact J20 H locs ls hP hD hS (lv_sub hl [2, 4] rfl)
  · skip
    refine lv_iconst (v := 0) hx hb dX7_equalDown_6 (by decide) ?_
    subst hAe
    rw [hQ]
    exact W.zret (v := 0) hx hb hr (by decide) (fun t ht hW => ⟨⟨0, _, rfl, ⟨v_s_looked, v_s_lookedTooOften, rfl, by first | assumption | omega | (intros; omega) | decide⟩, by rw [ht]; exact hP, va_K.moved hW.alike hK, hD⟩, hS.F ht⟩) hS.2.2 dX7_equalDown_7

def rmX7_equalDown_q3 : Room := { frames := 100, cells := 0, slots := 0, locals := 2000 }
set_option maxHeartbeats 4000000 in
set_option maxRecDepth 100000 in
theorem tX7_equalDown_q3 {l : Launch} {D : va_G} {K : Nat → Nat → Nat} {cs : Nat → ClassId} {q : Nat → Nat} {v_t_tapeSize v_t_textSize v_t_faultKind v_g_size v_h_size v_r_takes v_r_negative v_r_namePlace v_r_faultKind v_r_faultPlace v_a_size v_a_limit v_a_digits v_a_kind v_a_from v_a_to v_o_size v_b_size v_b_limit v_b_digits v_b_kind v_b_from v_b_to v_u_marksMade v_u_came v_u_guesses v_u_right v_u_taken v_s_things v_s_looked v_s_lookedTooOften v_s_arraysMade v_s_cellsMade : Int32} {a_t_tape a_t_text a_o_out a_u_outcomes a_u_indexes a_s_classes a_s_starts a_s_lengths a_vc : Nat → Int32} {a_g_beyond a_h_beyond a_r_scratch a_r_now a_u_atom a_u_other a_u_hand : Nat} {a_g_steps a_h_steps a_u_vars a_u_marks : Nat → Option Nat} {a_s_cells a_vd a_sj : Nat → Int64} {a_L : List Nat} {a_K a_iv a_inn : Nat → Nat} {a_si a_ac : Nat → Nat → Int32} (g9 : Int32) (d9 : Int64) (o9_ : Int32) (f9 : Int64) (e9 : Int32) (p_0 : STO v_s_things v_s_cellsMade a_s_starts a_s_lengths) (p_1 : 1 ≤ e9.toInt) (p_2 : e9.toInt ≤ 4) : CtI l yX7_equalDown (wG yX7_equalDown cX7_equalDown 12 (some .boolean)) rmX7_equalDown_q3 D (twT cs) K [.ref (q 17), .int g9, .long d9, .int o9_, .long f9, .int e9] (tw cs q v_t_tapeSize v_t_textSize v_t_faultKind a_t_tape a_t_text a_g_beyond v_g_size a_g_steps a_h_beyond v_h_size a_h_steps a_r_scratch a_r_now v_r_takes v_r_negative v_r_namePlace v_r_faultKind v_r_faultPlace v_a_size v_a_limit v_a_digits v_a_kind v_a_from v_a_to v_o_size a_o_out v_b_size v_b_limit v_b_digits v_b_kind v_b_from v_b_to a_u_atom a_u_other a_u_hand v_u_marksMade v_u_came v_u_guesses v_u_right v_u_taken a_u_vars a_u_marks a_u_outcomes a_u_indexes v_s_things v_s_looked v_s_lookedTooOften v_s_arraysMade v_s_cellsMade a_s_classes a_s_starts a_s_lengths a_s_cells a_L a_K a_vc a_vd a_si a_sj a_iv a_inn a_ac) (fun r w1 => ∃ (v_s_looked' : Int32) (v_s_lookedTooOften' : Int32), w1 = (tw cs q v_t_tapeSize v_t_textSize v_t_faultKind a_t_tape a_t_text a_g_beyond v_g_size a_g_steps a_h_beyond v_h_size a_h_steps a_r_scratch a_r_now v_r_takes v_r_negative v_r_namePlace v_r_faultKind v_r_faultPlace v_a_size v_a_limit v_a_digits v_a_kind v_a_from v_a_to v_o_size a_o_out v_b_size v_b_limit v_b_digits v_b_kind v_b_from v_b_to a_u_atom a_u_other a_u_hand v_u_marksMade v_u_came v_u_guesses v_u_right v_u_taken a_u_vars a_u_marks a_u_outcomes a_u_indexes v_s_things v_s_looked' v_s_lookedTooOften' v_s_arraysMade v_s_cellsMade a_s_classes a_s_starts a_s_lengths a_s_cells a_L a_K a_vc a_vd a_si a_sj a_iv a_inn a_ac) ∧ (r.toInt = 0 ∨ r.toInt = 1)) 0 0 := by
  intro sz
  refine Met.ofW (cc := cX7_equalDown) (maxL := 12) (ret := (some .boolean)) (by decide) rfl ?_
  intro p e s m args below meth c s₁ B hml hv
  obtain ⟨rfl, hsz, hP, hK, hD0, hE⟩ := hv
  have hx := B.exec
  have hb := B.bytes
  have hr := B.returns
  have hts := atoms_spec (ws := (wG yX7_equalDown cX7_equalDown 12 (some .boolean))) B.pre
  have hown : s.vm.findClass RX7 = some m.cls := findClass_of_methodNamed B.named
  have hlocks := B.notSynchronized
  subst hsz
  have hD := hD0.self (sz := s.heap.size)
  obtain ⟨A, hAe⟩ : ∃ A : Nat → Prop, A = va_A (tw cs q v_t_tapeSize v_t_textSize v_t_faultKind a_t_tape a_t_text a_g_beyond v_g_size a_g_steps a_h_beyond v_h_size a_h_steps a_r_scratch a_r_now v_r_takes v_r_negative v_r_namePlace v_r_faultKind v_r_faultPlace v_a_size v_a_limit v_a_digits v_a_kind v_a_from v_a_to v_o_size a_o_out v_b_size v_b_limit v_b_digits v_b_kind v_b_from v_b_to a_u_atom a_u_other a_u_hand v_u_marksMade v_u_came v_u_guesses v_u_right v_u_taken a_u_vars a_u_marks a_u_outcomes a_u_indexes v_s_things v_s_looked v_s_lookedTooOften v_s_arraysMade v_s_cellsMade a_s_classes a_s_starts a_s_lengths a_s_cells a_L a_K a_vc a_vd a_si a_sj a_iv a_inn a_ac) s.heap.size := ⟨_, rfl⟩
  rw [← hAe] at hD hE
  have hA : ∀ q : Nat, s.heap.size ≤ q → A q := fun q h => by rw [hAe]; exact Or.inr h
  have hS : va_S A s.heap s.heap [] := va_S.rf
  have hl := lv_entry ([.ref (q 17), .int g9, .long d9, .int o9_, .long f9, .int e9]) (n := 12) (Nat.le_of_ble_eq_true rfl)
  rw [lg_entry_eq]
  generalize (lg_sl ([.ref (q 17), .int g9, .long d9, .int o9_, .long f9, .int e9]) ++ List.replicate (12 - (lg_sl ([.ref (q 17), .int g9, .long d9, .int o9_, .long f9, .int e9])).length) Slot.unset).toArray = ls at hl ⊢
  have hl : lv_has ls 12 [(0, .ref (q 17)), (1, .int g9), (2, .long d9), (4, .int o9_), (5, .long f9), (7, .int e9)] := hl
  refine wq (fun Q hQ => ?_)
  have kc0 : (0 : Int32).toInt = 0 := by decide
  have kc1 : (1 : Int32).toInt = 1 := by decide
  have kc2 : (3 : Int32).toInt = 3 := by decide
  have kc3 : (20 : Int32).toInt = 20 := by decide
  obtain ⟨H, hH⟩ : ∃ H : Heap, H = s.heap := ⟨_, rfl⟩
  obtain ⟨locs, hlc⟩ : ∃ L : List Loc, L = [] := ⟨_, rfl⟩
  have hP : va_P D vwCl (tw cs q v_t_tapeSize v_t_textSize v_t_faultKind a_t_tape a_t_text a_g_beyond v_g_size a_g_steps a_h_beyond v_h_size a_h_steps a_r_scratch a_r_now v_r_takes v_r_negative v_r_namePlace v_r_faultKind v_r_faultPlace v_a_size v_a_limit v_a_digits v_a_kind v_a_from v_a_to v_o_size a_o_out v_b_size v_b_limit v_b_digits v_b_kind v_b_from v_b_to a_u_atom a_u_other a_u_hand v_u_marksMade v_u_came v_u_guesses v_u_right v_u_taken a_u_vars a_u_marks a_u_outcomes a_u_indexes v_s_things v_s_looked v_s_lookedTooOften v_s_arraysMade v_s_cellsMade a_s_classes a_s_starts a_s_lengths a_s_cells a_L a_K a_vc a_vd a_si a_sj a_iv a_inn a_ac) H := by rw [hH]; exact hP
  have hS : va_S A s.heap H locs := by rw [hH, hlc]; exact hS
  refine wHL hH hlc ?_
  have b_g9 := iB g9
  have b_d9 := jB d9
  have b_o9_ := iB o9_
  have b_f9 := jB f9
  have b_e9 := iB e9
  refine lv_iload_n hx hb dX7_equalDown_0 rfl (lv_at hl 1 rfl) ?_
  refine lv_iload hx hb dX7_equalDown_1 (lv_at hl 3 rfl) ?_
  refine m_icmp_eq (X := g9.toInt) (Y := o9_.toInt) (tgt := 8) hx hb dX7_equalDown_3 (by decide) rfl rfl (fun c3 => ?_) (fun c3 => ?_)
  · skip
    refine lv_iload_n hx hb dX7_equalDown_8 rfl (lv_at hl 1 rfl) ?_
    refine lv_bipush (v := 20) hx hb dX7_equalDown_9 (by decide) ?_
    have J20 : ∀ (H : Heap) (locs : List Loc) (ls : Array Slot), va_P D vwCl (tw cs q v_t_tapeSize v_t_textSize v_t_faultKind a_t_tape a_t_text a_g_beyond v_g_size a_g_steps a_h_beyond v_h_size a_h_steps a_r_scratch a_r_now v_r_takes v_r_negative v_r_namePlace v_r_faultKind v_r_faultPlace v_a_size v_a_limit v_a_digits v_a_kind v_a_from v_a_to v_o_size a_o_out v_b_size v_b_limit v_b_digits v_b_kind v_b_from v_b_to a_u_atom a_u_other a_u_hand v_u_marksMade v_u_came v_u_guesses v_u_right v_u_taken a_u_vars a_u_marks a_u_outcomes a_u_indexes v_s_things v_s_looked v_s_lookedTooOften v_s_arraysMade v_s_cellsMade a_s_classes a_s_starts a_s_lengths a_s_cells a_L a_K a_vc a_vd a_si a_sj a_iv a_inn a_ac) H → va_D A (tw cs q v_t_tapeSize v_t_textSize v_t_faultKind a_t_tape a_t_text a_g_beyond v_g_size a_g_steps a_h_beyond v_h_size a_h_steps a_r_scratch a_r_now v_r_takes v_r_negative v_r_namePlace v_r_faultKind v_r_faultPlace v_a_size v_a_limit v_a_digits v_a_kind v_a_from v_a_to v_o_size a_o_out v_b_size v_b_limit v_b_digits v_b_kind v_b_from v_b_to a_u_atom a_u_other a_u_hand v_u_marksMade v_u_came v_u_guesses v_u_right v_u_taken a_u_vars a_u_marks a_u_outcomes a_u_indexes v_s_things v_s_looked v_s_lookedTooOften v_s_arraysMade v_s_cellsMade a_s_classes a_s_starts a_s_lengths a_s_cells a_L a_K a_vc a_vd a_si a_sj a_iv a_inn a_ac) → va_S A s.heap H locs → lv_has ls 12 [(2, .long d9), (5, .long f9)] → W p l e (headSpec (wG yX7_equalDown cX7_equalDown 12 (some .boolean)) rmX7_equalDown_q3).room s m ([.ref (q 17), .int g9, .long d9, .int o9_, .long f9, .int e9] : List Value).toArray below meth c H locs 0 0 Q (F0 m 20 ls []) := by
      intro H locs ls hP hD hS hl
      refine lv_lload_n hx hb dX7_equalDown_20 rfl (lv_at hl 0 rfl) ?_
      refine lv_lload hx hb dX7_equalDown_21 (lv_at hl 1 rfl) ?_
      refine m_lcmp (X := d9.toInt) (Y := f9.toInt) hx hb dX7_equalDown_23 rfl rfl (fun x23 g_x23 => ?_)
      refine m_if_ne (X := x23.toInt) (tgt := 31) hx hb dX7_equalDown_24 (by decide) rfl (fun c24 => ?_) (fun c24 => ?_)
      · skip
        refine lv_iconst (v := 0) hx hb dX7_equalDown_31 (by decide) ?_
        subst hAe
        rw [hQ]
        exact W.zret (v := 0) hx hb hr (by decide) (fun t ht hW => ⟨⟨0, _, rfl, ⟨v_s_looked, v_s_lookedTooOften, rfl, by first | assumption | omega | (intros; omega) | decide⟩, by rw [ht]; exact hP, va_K.moved hW.alike hK, hD⟩, hS.F ht⟩) hS.2.2 dX7_equalDown_32
      · skip
        refine lv_iconst (v := 1) hx hb dX7_equalDown_27 (by decide) ?_
        refine lv_goto (tgt := 32) hx hb dX7_equalDown_28 (by decide) ?_
        subst hAe
        rw [hQ]
        exact W.zret (v := 1) hx hb hr (by decide) (fun t ht hW => ⟨⟨1, _, rfl, ⟨v_s_looked, v_s_lookedTooOften, rfl, by first | assumption | omega | (intros; omega) | decide⟩, by rw [ht]; exact hP, va_K.moved hW.alike hK, hD⟩, hS.F ht⟩) hS.2.2 dX7_equalDown_32
    refine m_icmp_lt (X := g9.toInt) (Y := 20) (tgt := 20) hx hb dX7_equalDown_11 (by decide) rfl (by decide) (fun c11 => ?_) (fun c11 => ?_)
    · skip
      exact J20 H locs ls hP hD hS (lv_sub hl [2, 4] rfl)
    · skip
      refine lv_iload hx hb dX7_equalDown_14 (lv_at hl 5 rfl) ?_
      refine lv_iconst (v := 3) hx hb dX7_equalDown_16 (by decide) ?_
      refine m_icmp_le (X := e9.toInt) (Y := 3) (tgt := 33) hx hb dX7_equalDown_17 (by decide) rfl (by decide) (fun c17 => ?_) (fun c17 => ?_)
      · skip
        refine lv_lload_n hx hb dX7_equalDown_33 rfl (lv_at hl 2 rfl) ?_
        refine m_l2i hx hb dX7_equalDown_34 (fun x34 e_x34 => ?_)
        have b_x34 := iB x34
        refine lv_istore (lv' := [(8, .int x34), (0, .ref (q 17)), (1, .int g9), (2, .long d9), (4, .int o9_), (5, .long f9), (7, .int e9)]) hx hb dX7_equalDown_35 hl (by decide) rfl (fun ls hl => ?_)
        refine lv_lload hx hb dX7_equalDown_37 (lv_at hl 5 rfl) ?_
        refine m_l2i hx hb dX7_equalDown_39 (fun x39 e_x39 => ?_)
        have b_x39 := iB x39
        refine lv_istore (lv' := [(9, .int x39), (8, .int x34), (0, .ref (q 17)), (1, .int g9), (2, .long d9), (4, .int o9_), (5, .long f9), (7, .int e9)]) hx hb dX7_equalDown_40 hl (by decide) rfl (fun ls hl => ?_)
        refine lv_aload_n hx hb dX7_equalDown_42 rfl (lv_at hl 2 rfl) ?_
        refine lv_iload hx hb dX7_equalDown_43 (lv_at hl 1 rfl) ?_
        refine call_i (As := [.int x34]) (rest := []) ⟨hx, hb, hml, hown, hts⟩ (tX7_lengthOf (l := l) x34 (by first | assumption | omega | (intros; omega) | decide)) (cwV 1 hts (gV (wr43 _ (List.mem_of_getElem? (i := 20) rfl)) (wr41 _ (List.mem_of_getElem? (i := 20) rfl)) (wr41 _ (List.mem_of_getElem? (i := 21) rfl)) (wr4 _ (List.mem_of_getElem? (i := 3) rfl)) (wr41 _ (List.mem_of_getElem? (i := 22) rfl))) rfl rfl rfl (by decide +kernel) ⟨Nat.le_of_ble_eq_true rfl, Nat.le_of_ble_eq_true rfl⟩) (va_recv hK hP (ci := 6) (q0 := 17) rfl rfl) hK hP hD hE hS hA rfl hl.1 rfl (Nat.le_of_ble_eq_true rfl) dX7_equalDown_45 ⟨Nat.le_of_ble_eq_true rfl, Nat.le_of_ble_eq_true rfl⟩ (fun r45 w9 H locs hw45 hP hD hS => ?_)
        obtain ⟨rfl, hw45_0, hw45_1, hw45_2⟩ := hw45
        have b_r45 := iB r45
        refine lv_istore (lv' := [(10, .int r45), (9, .int x39), (8, .int x34), (0, .ref (q 17)), (1, .int g9), (2, .long d9), (4, .int o9_), (5, .long f9), (7, .int e9)]) hx hb dX7_equalDown_48 hl (by decide) rfl (fun ls hl => ?_)
        refine lv_iload hx hb dX7_equalDown_50 (lv_at hl 0 rfl) ?_
        refine lv_aload_n hx hb dX7_equalDown_52 rfl (lv_at hl 3 rfl) ?_
        refine lv_iload hx hb dX7_equalDown_53 (lv_at hl 1 rfl) ?_
        refine call_i (As := [.int x39]) (rest := [.int r45]) ⟨hx, hb, hml, hown, hts⟩ (tX7_lengthOf (l := l) x39 (by first | assumption | omega | (intros; omega) | decide)) (cwV 1 hts (gV (wr43 _ (List.mem_of_getElem? (i := 20) rfl)) (wr41 _ (List.mem_of_getElem? (i := 20) rfl)) (wr41 _ (List.mem_of_getElem? (i := 21) rfl)) (wr4 _ (List.mem_of_getElem? (i := 3) rfl)) (wr41 _ (List.mem_of_getElem? (i := 22) rfl))) rfl rfl rfl (by decide +kernel) ⟨Nat.le_of_ble_eq_true rfl, Nat.le_of_ble_eq_true rfl⟩) (va_recv hK hP (ci := 6) (q0 := 17) rfl rfl) hK hP hD hE hS hA rfl hl.1 rfl (Nat.le_of_ble_eq_true rfl) dX7_equalDown_55 ⟨Nat.le_of_ble_eq_true rfl, Nat.le_of_ble_eq_true rfl⟩ (fun r55 w9 H locs hw55 hP hD hS => ?_)
        obtain ⟨rfl, hw55_0, hw55_1, hw55_2⟩ := hw55
        have b_r55 := iB r55
        refine m_icmp_eq (X := r45.toInt) (Y := r55.toInt) (tgt := 63) hx hb dX7_equalDown_58 (by decide) rfl rfl (fun c58 => ?_) (fun c58 => ?_)
        · skip
          refine lv_iconst (v := 0) hx hb dX7_equalDown_63 (by decide) ?_
          refine lv_istore (lv' := [(11, .int 0), (10, .int r45), (9, .int x39), (8, .int x34), (0, .ref (q 17)), (1, .int g9), (2, .long d9), (4, .int o9_), (5, .long f9), (7, .int e9)]) hx hb dX7_equalDown_64 hl (by decide) rfl (fun ls hl => ?_)
          have J66 : ∀ (n66 : Nat) (l11_66 : Int32) (v_s_looked_66 : Int32) (v_s_lookedTooOften_66 : Int32) (H : Heap) (locs : List Loc) (ls : Array Slot), (0 ≤ l11_66.toInt) → (l11_66.toInt ≤ 4000) → (4000 - l11_66.toInt < (n66 : Int)) → va_P D vwCl (tw cs q v_t_tapeSize v_t_textSize v_t_faultKind a_t_tape a_t_text a_g_beyond v_g_size a_g_steps a_h_beyond v_h_size a_h_steps a_r_scratch a_r_now v_r_takes v_r_negative v_r_namePlace v_r_faultKind v_r_faultPlace v_a_size v_a_limit v_a_digits v_a_kind v_a_from v_a_to v_o_size a_o_out v_b_size v_b_limit v_b_digits v_b_kind v_b_from v_b_to a_u_atom a_u_other a_u_hand v_u_marksMade v_u_came v_u_guesses v_u_right v_u_taken a_u_vars a_u_marks a_u_outcomes a_u_indexes v_s_things v_s_looked_66 v_s_lookedTooOften_66 v_s_arraysMade v_s_cellsMade a_s_classes a_s_starts a_s_lengths a_s_cells a_L a_K a_vc a_vd a_si a_sj a_iv a_inn a_ac) H → va_D A (tw cs q v_t_tapeSize v_t_textSize v_t_faultKind a_t_tape a_t_text a_g_beyond v_g_size a_g_steps a_h_beyond v_h_size a_h_steps a_r_scratch a_r_now v_r_takes v_r_negative v_r_namePlace v_r_faultKind v_r_faultPlace v_a_size v_a_limit v_a_digits v_a_kind v_a_from v_a_to v_o_size a_o_out v_b_size v_b_limit v_b_digits v_b_kind v_b_from v_b_to a_u_atom a_u_other a_u_hand v_u_marksMade v_u_came v_u_guesses v_u_right v_u_taken a_u_vars a_u_marks a_u_outcomes a_u_indexes v_s_things v_s_looked_66 v_s_lookedTooOften_66 v_s_arraysMade v_s_cellsMade a_s_classes a_s_starts a_s_lengths a_s_cells a_L a_K a_vc a_vd a_si a_sj a_iv a_inn a_ac) → va_S A s.heap H locs → lv_has ls 12 [(0, .ref (q 17)), (7, .int e9), (8, .int x34), (9, .int x39), (10, .int r45), (11, .int l11_66)] → W p l e (headSpec (wG yX7_equalDown cX7_equalDown 12 (some .boolean)) rmX7_equalDown_q3).room s m ([.ref (q 17), .int g9, .long d9, .int o9_, .long f9, .int e9] : List Value).toArray below meth c H locs 0 0 Q (F0 m 66 ls []) := by
            intro n66
            induction n66 with
            | zero =>
              intro l11_66 v_s_looked_66 v_s_lookedTooOften_66 H locs ls f66_0 f66_1 hm66
              exfalso
              omega
            | succ n66 ih66 =>
              intro l11_66 v_s_looked_66 v_s_lookedTooOften_66 H locs ls f66_0 f66_1 hm66 hP hD hS hl
              refine lv_iload hx hb dX7_equalDown_66 (lv_at hl 5 rfl) ?_
              refine lv_iload hx hb dX7_equalDown_68 (lv_at hl 4 rfl) ?_
              refine m_icmp_ge (X := l11_66.toInt) (Y := r45.toInt) (tgt := 131) hx hb dX7_equalDown_70 (by decide) rfl rfl (fun c70 => ?_) (fun c70 => ?_)
              · skip
                refine lv_iconst (v := 1) hx hb dX7_equalDown_131 (by decide) ?_
                subst hAe
                rw [hQ]
                exact W.zret (v := 1) hx hb hr (by decide) (fun t ht hW => ⟨⟨1, _, rfl, ⟨v_s_looked_66, v_s_lookedTooOften_66, rfl, by first | assumption | omega | (intros; omega) | decide⟩, by rw [ht]; exact hP, va_K.moved hW.alike hK, hD⟩, hS.F ht⟩) hS.2.2 dX7_equalDown_132
              · skip
                refine lv_aload_n hx hb dX7_equalDown_73 rfl (lv_at hl 0 rfl) ?_
                refine call_i (As := []) (rest := []) ⟨hx, hb, hml, hown, hts⟩ (tX7_mayLook (l := l) ) (cwV 0 hts (gV (wr43 _ (List.mem_of_getElem? (i := 21) rfl)) (wr43 _ (List.mem_of_getElem? (i := 22) rfl)) (wr43 _ (List.mem_of_getElem? (i := 23) rfl)) (wr4 _ (List.mem_of_getElem? (i := 3) rfl)) (wr44 _ (List.mem_of_getElem? (i := 0) rfl))) rfl rfl rfl (by decide +kernel) ⟨Nat.le_of_ble_eq_true rfl, Nat.le_of_ble_eq_true rfl⟩) (va_recv hK hP (ci := 6) (q0 := 17) rfl rfl) hK hP hD hE hS hA rfl hl.1 rfl (Nat.le_of_ble_eq_true rfl) dX7_equalDown_74 ⟨Nat.le_of_ble_eq_true rfl, Nat.le_of_ble_eq_true rfl⟩ (fun r74 w9 H locs hw74 hP hD hS => ?_)
                obtain ⟨v_s_looked_74, v_s_lookedTooOften_74, rfl, hw74_0⟩ := hw74
                have b_v_s_looked_74 := iB v_s_looked_74
                have b_v_s_lookedTooOften_74 := iB v_s_lookedTooOften_74
                have b_r74 := iB r74
                refine m_if_eq (X := r74.toInt) (tgt := 123) hx hb dX7_equalDown_77 (by decide) rfl (fun c77 => ?_) (fun c77 => ?_)
                · skip
                  refine lv_iconst (v := 0) hx hb dX7_equalDown_123 (by decide) ?_
                  subst hAe
                  rw [hQ]
                  exact W.zret (v := 0) hx hb hr (by decide) (fun t ht hW => ⟨⟨0, _, rfl, ⟨v_s_looked_74, v_s_lookedTooOften_74, rfl, by first | assumption | omega | (intros; omega) | decide⟩, by rw [ht]; exact hP, va_K.moved hW.alike hK, hD⟩, hS.F ht⟩) hS.2.2 dX7_equalDown_124
                · skip
                  refine lv_aload_n hx hb dX7_equalDown_80 rfl (lv_at hl 0 rfl) ?_
                  refine lv_aload_n hx hb dX7_equalDown_81 rfl (lv_at hl 0 rfl) ?_
                  refine lv_iload hx hb dX7_equalDown_82 (lv_at hl 2 rfl) ?_
                  refine lv_iload hx hb dX7_equalDown_84 (lv_at hl 5 rfl) ?_
                  refine call_i (As := [.int x34, .int l11_66]) (rest := [.ref (q 17)]) ⟨hx, hb, hml, hown, hts⟩ (tX7_cellClass (l := l) x34 l11_66 (by first | assumption | omega | (intros; omega) | decide)) (cwV 2 hts (gV (wr38 _ (List.mem_of_getElem? (i := 20) rfl)) (wr38 _ (List.mem_of_getElem? (i := 21) rfl)) (wr38 _ (List.mem_of_getElem? (i := 22) rfl)) (wr4 _ (List.mem_of_getElem? (i := 3) rfl)) (wr38 _ (List.mem_of_getElem? (i := 23) rfl))) rfl rfl rfl (by decide +kernel) ⟨Nat.le_of_ble_eq_true rfl, Nat.le_of_ble_eq_true rfl⟩) (va_recv hK hP (ci := 6) (q0 := 17) rfl rfl) hK hP hD hE hS hA rfl hl.1 rfl (Nat.le_of_ble_eq_true rfl) dX7_equalDown_86 ⟨Nat.le_of_ble_eq_true rfl, Nat.le_of_ble_eq_true rfl⟩ (fun r86 w9 H locs hw86 hP hD hS => ?_)
                  obtain ⟨rfl⟩ := hw86
                  have b_r86 := iB r86
                  refine lv_aload_n hx hb dX7_equalDown_89 rfl (lv_at hl 0 rfl) ?_
                  refine lv_iload hx hb dX7_equalDown_90 (lv_at hl 2 rfl) ?_
                  refine lv_iload hx hb dX7_equalDown_92 (lv_at hl 5 rfl) ?_
                  refine call_j (As := [.int x34, .int l11_66]) (rest := [.int r86, .ref (q 17)]) ⟨hx, hb, hml, hown, hts⟩ (tX7_cellDatum (l := l) x34 l11_66 (by first | assumption | omega | (intros; omega) | decide)) (cwV 2 hts (gV (wr39 _ (List.mem_of_getElem? (i := 0) rfl)) (wr39 _ (List.mem_of_getElem? (i := 1) rfl)) (wr39 _ (List.mem_of_getElem? (i := 2) rfl)) (wr4 _ (List.mem_of_getElem? (i := 3) rfl)) (wr39 _ (List.mem_of_getElem? (i := 3) rfl))) rfl rfl rfl (by decide +kernel) ⟨Nat.le_of_ble_eq_true rfl, Nat.le_of_ble_eq_true rfl⟩) (va_recv hK hP (ci := 6) (q0 := 17) rfl rfl) hK hP hD hE hS hA rfl hl.1 rfl (Nat.le_of_ble_eq_true rfl) dX7_equalDown_94 ⟨Nat.le_of_ble_eq_true rfl, Nat.le_of_ble_eq_true rfl⟩ (fun r94 w9 H locs hw94 hP hD hS => ?_)
                  obtain ⟨rfl⟩ := hw94
                  have b_r94 := jB r94
                  refine lv_aload_n hx hb dX7_equalDown_97 rfl (lv_at hl 0 rfl) ?_
                  refine lv_iload hx hb dX7_equalDown_98 (lv_at hl 3 rfl) ?_
                  refine lv_iload hx hb dX7_equalDown_100 (lv_at hl 5 rfl) ?_
                  refine call_i (As := [.int x39, .int l11_66]) (rest := [.long r94, .int r86, .ref (q 17)]) ⟨hx, hb, hml, hown, hts⟩ (tX7_cellClass (l := l) x39 l11_66 (by first | assumption | omega | (intros; omega) | decide)) (cwV 2 hts (gV (wr38 _ (List.mem_of_getElem? (i := 20) rfl)) (wr38 _ (List.mem_of_getElem? (i := 21) rfl)) (wr38 _ (List.mem_of_getElem? (i := 22) rfl)) (wr4 _ (List.mem_of_getElem? (i := 3) rfl)) (wr38 _ (List.mem_of_getElem? (i := 23) rfl))) rfl rfl rfl (by decide +kernel) ⟨Nat.le_of_ble_eq_true rfl, Nat.le_of_ble_eq_true rfl⟩) (va_recv hK hP (ci := 6) (q0 := 17) rfl rfl) hK hP hD hE hS hA rfl hl.1 rfl (Nat.le_of_ble_eq_true rfl) dX7_equalDown_102 ⟨Nat.le_of_ble_eq_true rfl, Nat.le_of_ble_eq_true rfl⟩ (fun r102 w9 H locs hw102 hP hD hS => ?_)
                  obtain ⟨rfl⟩ := hw102
                  have b_r102 := iB r102
                  refine lv_aload_n hx hb dX7_equalDown_105 rfl (lv_at hl 0 rfl) ?_
                  refine lv_iload hx hb dX7_equalDown_106 (lv_at hl 3 rfl) ?_
                  refine lv_iload hx hb dX7_equalDown_108 (lv_at hl 5 rfl) ?_
                  refine call_j (As := [.int x39, .int l11_66]) (rest := [.int r102, .long r94, .int r86, .ref (q 17)]) ⟨hx, hb, hml, hown, hts⟩ (tX7_cellDatum (l := l) x39 l11_66 (by first | assumption | omega | (intros; omega) | decide)) (cwV 2 hts (gV (wr39 _ (List.mem_of_getElem? (i := 0) rfl)) (wr39 _ (List.mem_of_getElem? (i := 1) rfl)) (wr39 _ (List.mem_of_getElem? (i := 2) rfl)) (wr4 _ (List.mem_of_getElem? (i := 3) rfl)) (wr39 _ (List.mem_of_getElem? (i := 3) rfl))) rfl rfl rfl (by decide +kernel) ⟨Nat.le_of_ble_eq_true rfl, Nat.le_of_ble_eq_true rfl⟩) (va_recv hK hP (ci := 6) (q0 := 17) rfl rfl) hK hP hD hE hS hA rfl hl.1 rfl (Nat.le_of_ble_eq_true rfl) dX7_equalDown_110 ⟨Nat.le_of_ble_eq_true rfl, Nat.le_of_ble_eq_true rfl⟩ (fun r110 w9 H locs hw110 hP hD hS => ?_)
                  obtain ⟨rfl⟩ := hw110
                  have b_r110 := jB r110
                  refine lv_iload hx hb dX7_equalDown_113 (lv_at hl 1 rfl) ?_
                  refine lv_iconst (v := 1) hx hb dX7_equalDown_115 (by decide) ?_
                  refine m_iadd (X := e9.toInt) (Y := 1) hx hb dX7_equalDown_116 rfl (by decide) (fun x116 e_x116 g9 => ?_)
                  obtain ⟨k_x116, g_x116⟩ := g9
                  have b_x116 := iB x116
                  try (have q_x116 : x116.toInt = e9.toInt + 1 := (by omega); clear g_x116 k_x116)
                  refine call_i (As := [.int r86, .long r94, .int r102, .long r110, .int x116]) (rest := []) ⟨hx, hb, hml, hown, hts⟩ (tX7_equalDown_q2 (l := l) r86 r94 r102 r110 x116 (by first | assumption | omega | (intros; omega) | decide) (by first | assumption | omega | (intros; omega) | decide) (by first | assumption | omega | (intros; omega) | decide)) (cwV 5 hts (gV (wr44 _ (List.mem_of_getElem? (i := 10) rfl)) (wr44 _ (List.mem_of_getElem? (i := 11) rfl)) (wr44 _ (List.mem_of_getElem? (i := 12) rfl)) (wr4 _ (List.mem_of_getElem? (i := 3) rfl)) (wr44 _ (List.mem_of_getElem? (i := 13) rfl))) rfl rfl rfl (by decide +kernel) ⟨Nat.le_of_ble_eq_true rfl, Nat.le_of_ble_eq_true rfl⟩) (va_recv hK hP (ci := 6) (q0 := 17) rfl rfl) hK hP hD hE hS hA rfl hl.1 rfl (Nat.le_of_ble_eq_true rfl) dX7_equalDown_117 ⟨Nat.le_of_ble_eq_true rfl, Nat.le_of_ble_eq_true rfl⟩ (fun r117 w9 H locs hw117 hP hD hS => ?_)
                  obtain ⟨v_s_looked_117, v_s_lookedTooOften_117, rfl, hw117_0⟩ := hw117
                  have b_v_s_looked_117 := iB v_s_looked_117
                  have b_v_s_lookedTooOften_117 := iB v_s_lookedTooOften_117
                  have b_r117 := iB r117
                  refine m_if_ne (X := r117.toInt) (tgt := 125) hx hb dX7_equalDown_120 (by decide) rfl (fun c120 => ?_) (fun c120 => ?_)
                  · skip
                    obtain ⟨x125, e_x125⟩ : ∃ z : Int32, z = l11_66 + (1 : Int32) := ⟨_, rfl⟩
                    obtain ⟨k_x125, g_x125⟩ : ∃ k : Int, x125.toInt = l11_66.toInt + (1) + k * 4294967296 := by rw [e_x125]; exact iAdd l11_66 (1)
                    have b_x125 := iB x125
                    try (have q_x125 : x125.toInt = l11_66.toInt + (1) := (by omega); clear g_x125 k_x125)
                    refine lv_iinc (v := x125) (lv' := [(11, .int x125), (0, .ref (q 17)), (7, .int e9), (8, .int x34), (9, .int x39), (10, .int r45)]) hx hb dX7_equalDown_125 hl (k := 5) rfl (by rw [e_x125]; rfl) (by decide) rfl (fun ls hl => ?_)
                    refine lv_goto (tgt := 66) hx hb dX7_equalDown_128 (by decide) ?_
                    exact ih66 x125 v_s_looked_117 v_s_lookedTooOften_117 H locs ls (by first | assumption | omega | (intros; omega) | decide) (by first | assumption | omega | (intros; omega) | decide) (by omega) hP hD hS (lv_sub hl [1, 2, 3, 4, 5, 0] rfl)
                  · skip
                    refine lv_iconst (v := 0) hx hb dX7_equalDown_123 (by decide) ?_
                    subst hAe
                    rw [hQ]
                    exact W.zret (v := 0) hx hb hr (by decide) (fun t ht hW => ⟨⟨0, _, rfl, ⟨v_s_looked_117, v_s_lookedTooOften_117, rfl, by first | assumption | omega | (intros; omega) | decide⟩, by rw [ht]; exact hP, va_K.moved hW.alike hK, hD⟩, hS.F ht⟩) hS.2.2 dX7_equalDown_124
          exact J66 ((4000 - (0 : Int32).toInt).toNat + 1) (0 : Int32) v_s_looked v_s_lookedTooOften H locs ls (by first | assumption | omega | (intros; omega) | decide) (by first | assumption | omega | (intros; omega) | decide) (by omega) hP hD hS (lv_sub hl [4, 9, 3, 2, 1, 0] rfl)
        · skip
          refine lv_iconst (v := 0) hx hb dX7_equalDown_61 (by decide) ?_
          subst hAe
          rw [hQ]
          exact W.zret (v := 0) hx hb hr (by decide) (fun t ht hW => ⟨⟨0, _, rfl, ⟨v_s_looked, v_s_lookedTooOften, rfl, by first | assumption | omega | (intros; omega) | decide⟩, by rw [ht]; exact hP, va_K.moved hW.alike hK, hD⟩, hS.F ht⟩) hS.2.2 dX7_equalDown_62
      · skip
        exact J20 H locs ls hP hD hS (lv_sub hl [2, 4] rfl)
  · skip
    refine lv_iconst (v := 0) hx hb dX7_equalDown_6 (by decide) ?_
    subst hAe
    rw [hQ]
    exact W.zret (v := 0) hx hb hr (by decide) (fun t ht hW => ⟨⟨0, _, rfl, ⟨v_s_looked, v_s_lookedTooOften, rfl, by first | assumption | omega | (intros; omega) | decide⟩, by rw [ht]; exact hP, va_K.moved hW.alike hK, hD⟩, hS.F ht⟩) hS.2.2 dX7_equalDown_7

def rmX7_equalDown_q4 : Room := { frames := 120, cells := 0, slots := 0, locals := 2400 }
set_option maxHeartbeats 4000000 in
set_option maxRecDepth 100000 in
theorem tX7_equalDown_q4 {l : Launch} {D : va_G} {K : Nat → Nat → Nat} {cs : Nat → ClassId} {q : Nat → Nat} {v_t_tapeSize v_t_textSize v_t_faultKind v_g_size v_h_size v_r_takes v_r_negative v_r_namePlace v_r_faultKind v_r_faultPlace v_a_size v_a_limit v_a_digits v_a_kind v_a_from v_a_to v_o_size v_b_size v_b_limit v_b_digits v_b_kind v_b_from v_b_to v_u_marksMade v_u_came v_u_guesses v_u_right v_u_taken v_s_things v_s_looked v_s_lookedTooOften v_s_arraysMade v_s_cellsMade : Int32} {a_t_tape a_t_text a_o_out a_u_outcomes a_u_indexes a_s_classes a_s_starts a_s_lengths a_vc : Nat → Int32} {a_g_beyond a_h_beyond a_r_scratch a_r_now a_u_atom a_u_other a_u_hand : Nat} {a_g_steps a_h_steps a_u_vars a_u_marks : Nat → Option Nat} {a_s_cells a_vd a_sj : Nat → Int64} {a_L : List Nat} {a_K a_iv a_inn : Nat → Nat} {a_si a_ac : Nat → Nat → Int32} (g9 : Int32) (d9 : Int64) (o9_ : Int32) (f9 : Int64) (e9 : Int32) (p_0 : STO v_s_things v_s_cellsMade a_s_starts a_s_lengths) (p_1 : 0 ≤ e9.toInt) (p_2 : e9.toInt ≤ 4) : CtI l yX7_equalDown (wG yX7_equalDown cX7_equalDown 12 (some .boolean)) rmX7_equalDown_q4 D (twT cs) K [.ref (q 17), .int g9, .long d9, .int o9_, .long f9, .int e9] (tw cs q v_t_tapeSize v_t_textSize v_t_faultKind a_t_tape a_t_text a_g_beyond v_g_size a_g_steps a_h_beyond v_h_size a_h_steps a_r_scratch a_r_now v_r_takes v_r_negative v_r_namePlace v_r_faultKind v_r_faultPlace v_a_size v_a_limit v_a_digits v_a_kind v_a_from v_a_to v_o_size a_o_out v_b_size v_b_limit v_b_digits v_b_kind v_b_from v_b_to a_u_atom a_u_other a_u_hand v_u_marksMade v_u_came v_u_guesses v_u_right v_u_taken a_u_vars a_u_marks a_u_outcomes a_u_indexes v_s_things v_s_looked v_s_lookedTooOften v_s_arraysMade v_s_cellsMade a_s_classes a_s_starts a_s_lengths a_s_cells a_L a_K a_vc a_vd a_si a_sj a_iv a_inn a_ac) (fun r w1 => ∃ (v_s_looked' : Int32) (v_s_lookedTooOften' : Int32), w1 = (tw cs q v_t_tapeSize v_t_textSize v_t_faultKind a_t_tape a_t_text a_g_beyond v_g_size a_g_steps a_h_beyond v_h_size a_h_steps a_r_scratch a_r_now v_r_takes v_r_negative v_r_namePlace v_r_faultKind v_r_faultPlace v_a_size v_a_limit v_a_digits v_a_kind v_a_from v_a_to v_o_size a_o_out v_b_size v_b_limit v_b_digits v_b_kind v_b_from v_b_to a_u_atom a_u_other a_u_hand v_u_marksMade v_u_came v_u_guesses v_u_right v_u_taken a_u_vars a_u_marks a_u_outcomes a_u_indexes v_s_things v_s_looked' v_s_lookedTooOften' v_s_arraysMade v_s_cellsMade a_s_classes a_s_starts a_s_lengths a_s_cells a_L a_K a_vc a_vd a_si a_sj a_iv a_inn a_ac) ∧ (r.toInt = 0 ∨ r.toInt = 1)) 0 0 := by
  intro sz
  refine Met.ofW (cc := cX7_equalDown) (maxL := 12) (ret := (some .boolean)) (by decide) rfl ?_
  intro p e s m args below meth c s₁ B hml hv
  obtain ⟨rfl, hsz, hP, hK, hD0, hE⟩ := hv
  have hx := B.exec
  have hb := B.bytes
  have hr := B.returns
  have hts := atoms_spec (ws := (wG yX7_equalDown cX7_equalDown 12 (some .boolean))) B.pre
  have hown : s.vm.findClass RX7 = some m.cls := findClass_of_methodNamed B.named
  have hlocks := B.notSynchronized
  subst hsz
  have hD := hD0.self (sz := s.heap.size)
  obtain ⟨A, hAe⟩ : ∃ A : Nat → Prop, A = va_A (tw cs q v_t_tapeSize v_t_textSize v_t_faultKind a_t_tape a_t_text a_g_beyond v_g_size a_g_steps a_h_beyond v_h_size a_h_steps a_r_scratch a_r_now v_r_takes v_r_negative v_r_namePlace v_r_faultKind v_r_faultPlace v_a_size v_a_limit v_a_digits v_a_kind v_a_from v_a_to v_o_size a_o_out v_b_size v_b_limit v_b_digits v_b_kind v_b_from v_b_to a_u_atom a_u_other a_u_hand v_u_marksMade v_u_came v_u_guesses v_u_right v_u_taken a_u_vars a_u_marks a_u_outcomes a_u_indexes v_s_things v_s_looked v_s_lookedTooOften v_s_arraysMade v_s_cellsMade a_s_classes a_s_starts a_s_lengths a_s_cells a_L a_K a_vc a_vd a_si a_sj a_iv a_inn a_ac) s.heap.size := ⟨_, rfl⟩
  rw [← hAe] at hD hE
  have hA : ∀ q : Nat, s.heap.size ≤ q → A q := fun q h => by rw [hAe]; exact Or.inr h
  have hS : va_S A s.heap s.heap [] := va_S.rf
  have hl := lv_entry ([.ref (q 17), .int g9, .long d9, .int o9_, .long f9, .int e9]) (n := 12) (Nat.le_of_ble_eq_true rfl)
  rw [lg_entry_eq]
  generalize (lg_sl ([.ref (q 17), .int g9, .long d9, .int o9_, .long f9, .int e9]) ++ List.replicate (12 - (lg_sl ([.ref (q 17), .int g9, .long d9, .int o9_, .long f9, .int e9])).length) Slot.unset).toArray = ls at hl ⊢
  have hl : lv_has ls 12 [(0, .ref (q 17)), (1, .int g9), (2, .long d9), (4, .int o9_), (5, .long f9), (7, .int e9)] := hl
  refine wq (fun Q hQ => ?_)
  have kc0 : (0 : Int32).toInt = 0 := by decide
  have kc1 : (1 : Int32).toInt = 1 := by decide
  have kc2 : (3 : Int32).toInt = 3 := by decide
  have kc3 : (20 : Int32).toInt = 20 := by decide
  obtain ⟨H, hH⟩ : ∃ H : Heap, H = s.heap := ⟨_, rfl⟩
  obtain ⟨locs, hlc⟩ : ∃ L : List Loc, L = [] := ⟨_, rfl⟩
  have hP : va_P D vwCl (tw cs q v_t_tapeSize v_t_textSize v_t_faultKind a_t_tape a_t_text a_g_beyond v_g_size a_g_steps a_h_beyond v_h_size a_h_steps a_r_scratch a_r_now v_r_takes v_r_negative v_r_namePlace v_r_faultKind v_r_faultPlace v_a_size v_a_limit v_a_digits v_a_kind v_a_from v_a_to v_o_size a_o_out v_b_size v_b_limit v_b_digits v_b_kind v_b_from v_b_to a_u_atom a_u_other a_u_hand v_u_marksMade v_u_came v_u_guesses v_u_right v_u_taken a_u_vars a_u_marks a_u_outcomes a_u_indexes v_s_things v_s_looked v_s_lookedTooOften v_s_arraysMade v_s_cellsMade a_s_classes a_s_starts a_s_lengths a_s_cells a_L a_K a_vc a_vd a_si a_sj a_iv a_inn a_ac) H := by rw [hH]; exact hP
  have hS : va_S A s.heap H locs := by rw [hH, hlc]; exact hS
  refine wHL hH hlc ?_
  have b_g9 := iB g9
  have b_d9 := jB d9
  have b_o9_ := iB o9_
  have b_f9 := jB f9
  have b_e9 := iB e9
  refine lv_iload_n hx hb dX7_equalDown_0 rfl (lv_at hl 1 rfl) ?_
  refine lv_iload hx hb dX7_equalDown_1 (lv_at hl 3 rfl) ?_
  refine m_icmp_eq (X := g9.toInt) (Y := o9_.toInt) (tgt := 8) hx hb dX7_equalDown_3 (by decide) rfl rfl (fun c3 => ?_) (fun c3 => ?_)
  · skip
    refine lv_iload_n hx hb dX7_equalDown_8 rfl (lv_at hl 1 rfl) ?_
    refine lv_bipush (v := 20) hx hb dX7_equalDown_9 (by decide) ?_
    have J20 : ∀ (H : Heap) (locs : List Loc) (ls : Array Slot), va_P D vwCl (tw cs q v_t_tapeSize v_t_textSize v_t_faultKind a_t_tape a_t_text a_g_beyond v_g_size a_g_steps a_h_beyond v_h_size a_h_steps a_r_scratch a_r_now v_r_takes v_r_negative v_r_namePlace v_r_faultKind v_r_faultPlace v_a_size v_a_limit v_a_digits v_a_kind v_a_from v_a_to v_o_size a_o_out v_b_size v_b_limit v_b_digits v_b_kind v_b_from v_b_to a_u_atom a_u_other a_u_hand v_u_marksMade v_u_came v_u_guesses v_u_right v_u_taken a_u_vars a_u_marks a_u_outcomes a_u_indexes v_s_things v_s_looked v_s_lookedTooOften v_s_arraysMade v_s_cellsMade a_s_classes a_s_starts a_s_lengths a_s_cells a_L a_K a_vc a_vd a_si a_sj a_iv a_inn a_ac) H → va_D A (tw cs q v_t_tapeSize v_t_textSize v_t_faultKind a_t_tape a_t_text a_g_beyond v_g_size a_g_steps a_h_beyond v_h_size a_h_steps a_r_scratch a_r_now v_r_takes v_r_negative v_r_namePlace v_r_faultKind v_r_faultPlace v_a_size v_a_limit v_a_digits v_a_kind v_a_from v_a_to v_o_size a_o_out v_b_size v_b_limit v_b_digits v_b_kind v_b_from v_b_to a_u_atom a_u_other a_u_hand v_u_marksMade v_u_came v_u_guesses v_u_right v_u_taken a_u_vars a_u_marks a_u_outcomes a_u_indexes v_s_things v_s_looked v_s_lookedTooOften v_s_arraysMade v_s_cellsMade a_s_classes a_s_starts a_s_lengths a_s_cells a_L a_K a_vc a_vd a_si a_sj a_iv a_inn a_ac) → va_S A s.heap H locs → lv_has ls 12 [(2, .long d9), (5, .long f9)] → W p l e (headSpec (wG yX7_equalDown cX7_equalDown 12 (some .boolean)) rmX7_equalDown_q4).room s m ([.ref (q 17), .int g9, .long d9, .int o9_, .long f9, .int e9] : List Value).toArray below meth c H locs 0 0 Q (F0 m 20 ls []) := by
      intro H locs ls hP hD hS hl
      refine lv_lload_n hx hb dX7_equalDown_20 rfl (lv_at hl 0 rfl) ?_
      refine lv_lload hx hb dX7_equalDown_21 (lv_at hl 1 rfl) ?_
      refine m_lcmp (X := d9.toInt) (Y := f9.toInt) hx hb dX7_equalDown_23 rfl rfl (fun x23 g_x23 => ?_)
      refine m_if_ne (X := x23.toInt) (tgt := 31) hx hb dX7_equalDown_24 (by decide) rfl (fun c24 => ?_) (fun c24 => ?_)
      · skip
        refine lv_iconst (v := 0) hx hb dX7_equalDown_31 (by decide) ?_
        subst hAe
        rw [hQ]
        exact W.zret (v := 0) hx hb hr (by decide) (fun t ht hW => ⟨⟨0, _, rfl, ⟨v_s_looked, v_s_lookedTooOften, rfl, by first | assumption | omega | (intros; omega) | decide⟩, by rw [ht]; exact hP, va_K.moved hW.alike hK, hD⟩, hS.F ht⟩) hS.2.2 dX7_equalDown_32
      · skip
        refine lv_iconst (v := 1) hx hb dX7_equalDown_27 (by decide) ?_
        refine lv_goto (tgt := 32) hx hb dX7_equalDown_28 (by decide) ?_
        subst hAe
        rw [hQ]
        exact W.zret (v := 1) hx hb hr (by decide) (fun t ht hW => ⟨⟨1, _, rfl, ⟨v_s_looked, v_s_lookedTooOften, rfl, by first | assumption | omega | (intros; omega) | decide⟩, by rw [ht]; exact hP, va_K.moved hW.alike hK, hD⟩, hS.F ht⟩) hS.2.2 dX7_equalDown_32
    refine m_icmp_lt (X := g9.toInt) (Y := 20) (tgt := 20) hx hb dX7_equalDown_11 (by decide) rfl (by decide) (fun c11 => ?_) (fun c11 => ?_)
    · skip
      exact J20 H locs ls hP hD hS (lv_sub hl [2, 4] rfl)
    · skip
      refine lv_iload hx hb dX7_equalDown_14 (lv_at hl 5 rfl) ?_
      refine lv_iconst (v := 3) hx hb dX7_equalDown_16 (by decide) ?_
      refine m_icmp_le (X := e9.toInt) (Y := 3) (tgt := 33) hx hb dX7_equalDown_17 (by decide) rfl (by decide) (fun c17 => ?_) (fun c17 => ?_)
      · skip
        refine lv_lload_n hx hb dX7_equalDown_33 rfl (lv_at hl 2 rfl) ?_
        refine m_l2i hx hb dX7_equalDown_34 (fun x34 e_x34 => ?_)
        have b_x34 := iB x34
        refine lv_istore (lv' := [(8, .int x34), (0, .ref (q 17)), (1, .int g9), (2, .long d9), (4, .int o9_), (5, .long f9), (7, .int e9)]) hx hb dX7_equalDown_35 hl (by decide) rfl (fun ls hl => ?_)
        refine lv_lload hx hb dX7_equalDown_37 (lv_at hl 5 rfl) ?_
        refine m_l2i hx hb dX7_equalDown_39 (fun x39 e_x39 => ?_)
        have b_x39 := iB x39
        refine lv_istore (lv' := [(9, .int x39), (8, .int x34), (0, .ref (q 17)), (1, .int g9), (2, .long d9), (4, .int o9_), (5, .long f9), (7, .int e9)]) hx hb dX7_equalDown_40 hl (by decide) rfl (fun ls hl => ?_)
        refine lv_aload_n hx hb dX7_equalDown_42 rfl (lv_at hl 2 rfl) ?_
        refine lv_iload hx hb dX7_equalDown_43 (lv_at hl 1 rfl) ?_
        refine call_i (As := [.int x34]) (rest := []) ⟨hx, hb, hml, hown, hts⟩ (tX7_lengthOf (l := l) x34 (by first | assumption | omega | (intros; omega) | decide)) (cwV 1 hts (gV (wr43 _ (List.mem_of_getElem? (i := 20) rfl)) (wr41 _ (List.mem_of_getElem? (i := 20) rfl)) (wr41 _ (List.mem_of_getElem? (i := 21) rfl)) (wr4 _ (List.mem_of_getElem? (i := 3) rfl)) (wr41 _ (List.mem_of_getElem? (i := 22) rfl))) rfl rfl rfl (by decide +kernel) ⟨Nat.le_of_ble_eq_true rfl, Nat.le_of_ble_eq_true rfl⟩) (va_recv hK hP (ci := 6) (q0 := 17) rfl rfl) hK hP hD hE hS hA rfl hl.1 rfl (Nat.le_of_ble_eq_true rfl) dX7_equalDown_45 ⟨Nat.le_of_ble_eq_true rfl, Nat.le_of_ble_eq_true rfl⟩ (fun r45 w9 H locs hw45 hP hD hS => ?_)
        obtain ⟨rfl, hw45_0, hw45_1, hw45_2⟩ := hw45
        have b_r45 := iB r45
        refine lv_istore (lv' := [(10, .int r45), (9, .int x39), (8, .int x34), (0, .ref (q 17)), (1, .int g9), (2, .long d9), (4, .int o9_), (5, .long f9), (7, .int e9)]) hx hb dX7_equalDown_48 hl (by decide) rfl (fun ls hl => ?_)
        refine lv_iload hx hb dX7_equalDown_50 (lv_at hl 0 rfl) ?_
        refine lv_aload_n hx hb dX7_equalDown_52 rfl (lv_at hl 3 rfl) ?_
        refine lv_iload hx hb dX7_equalDown_53 (lv_at hl 1 rfl) ?_
        refine call_i (As := [.int x39]) (rest := [.int r45]) ⟨hx, hb, hml, hown, hts⟩ (tX7_lengthOf (l := l) x39 (by first | assumption | omega | (intros; omega) | decide)) (cwV 1 hts (gV (wr43 _ (List.mem_of_getElem? (i := 20) rfl)) (wr41 _ (List.mem_of_getElem? (i := 20) rfl)) (wr41 _ (List.mem_of_getElem? (i := 21) rfl)) (wr4 _ (List.mem_of_getElem? (i := 3) rfl)) (wr41 _ (List.mem_of_getElem? (i := 22) rfl))) rfl rfl rfl (by decide +kernel) ⟨Nat.le_of_ble_eq_true rfl, Nat.le_of_ble_eq_true rfl⟩) (va_recv hK hP (ci := 6) (q0 := 17) rfl rfl) hK hP hD hE hS hA rfl hl.1 rfl (Nat.le_of_ble_eq_true rfl) dX7_equalDown_55 ⟨Nat.le_of_ble_eq_true rfl, Nat.le_of_ble_eq_true rfl⟩ (fun r55 w9 H locs hw55 hP hD hS => ?_)
        obtain ⟨rfl, hw55_0, hw55_1, hw55_2⟩ := hw55
        have b_r55 := iB r55
        refine m_icmp_eq (X := r45.toInt) (Y := r55.toInt) (tgt := 63) hx hb dX7_equalDown_58 (by decide) rfl rfl (fun c58 => ?_) (fun c58 => ?_)
        · skip
          refine lv_iconst (v := 0) hx hb dX7_equalDown_63 (by decide) ?_
          refine lv_istore (lv' := [(11, .int 0), (10, .int r45), (9, .int x39), (8, .int x34), (0, .ref (q 17)), (1, .int g9), (2, .long d9), (4, .int o9_), (5, .long f9), (7, .int e9)]) hx hb dX7_equalDown_64 hl (by decide) rfl (fun ls hl => ?_)
          have J66 : ∀ (n66 : Nat) (l11_66 : Int32) (v_s_looked_66 : Int32) (v_s_lookedTooOften_66 : Int32) (H : Heap) (locs : List Loc) (ls : Array Slot), (0 ≤ l11_66.toInt) → (l11_66.toInt ≤ 4000) → (4000 - l11_66.toInt < (n66 : Int)) → va_P D vwCl (tw cs q v_t_tapeSize v_t_textSize v_t_faultKind a_t_tape a_t_text a_g_beyond v_g_size a_g_steps a_h_beyond v_h_size a_h_steps a_r_scratch a_r_now v_r_takes v_r_negative v_r_namePlace v_r_faultKind v_r_faultPlace v_a_size v_a_limit v_a_digits v_a_kind v_a_from v_a_to v_o_size a_o_out v_b_size v_b_limit v_b_digits v_b_kind v_b_from v_b_to a_u_atom a_u_other a_u_hand v_u_marksMade v_u_came v_u_guesses v_u_right v_u_taken a_u_vars a_u_marks a_u_outcomes a_u_indexes v_s_things v_s_looked_66 v_s_lookedTooOften_66 v_s_arraysMade v_s_cellsMade a_s_classes a_s_starts a_s_lengths a_s_cells a_L a_K a_vc a_vd a_si a_sj a_iv a_inn a_ac) H → va_D A (tw cs q v_t_tapeSize v_t_textSize v_t_faultKind a_t_tape a_t_text a_g_beyond v_g_size a_g_steps a_h_beyond v_h_size a_h_steps a_r_scratch a_r_now v_r_takes v_r_negative v_r_namePlace v_r_faultKind v_r_faultPlace v_a_size v_a_limit v_a_digits v_a_kind v_a_from v_a_to v_o_size a_o_out v_b_size v_b_limit v_b_digits v_b_kind v_b_from v_b_to a_u_atom a_u_other a_u_hand v_u_marksMade v_u_came v_u_guesses v_u_right v_u_taken a_u_vars a_u_marks a_u_outcomes a_u_indexes v_s_things v_s_looked_66 v_s_lookedTooOften_66 v_s_arraysMade v_s_cellsMade a_s_classes a_s_starts a_s_lengths a_s_cells a_L a_K a_vc a_vd a_si a_sj a_iv a_inn a_ac) → va_S A s.heap H locs → lv_has ls 12 [(0, .ref (q 17)), (7, .int e9), (8, .int x34), (9, .int x39), (10, .int r45), (11, .int l11_66)] → W p l e (headSpec (wG yX7_equalDown cX7_equalDown 12 (some .boolean)) rmX7_equalDown_q4).room s m ([.ref (q 17), .int g9, .long d9, .int o9_, .long f9, .int e9] : List Value).toArray below meth c H locs 0 0 Q (F0 m 66 ls []) := by
            intro n66
            induction n66 with
            | zero =>
              intro l11_66 v_s_looked_66 v_s_lookedTooOften_66 H locs ls f66_0 f66_1 hm66
              exfalso
              omega
            | succ n66 ih66 =>
              intro l11_66 v_s_looked_66 v_s_lookedTooOften_66 H locs ls f66_0 f66_1 hm66 hP hD hS hl
              refine lv_iload hx hb dX7_equalDown_66 (lv_at hl 5 rfl) ?_
              refine lv_iload hx hb dX7_equalDown_68 (lv_at hl 4 rfl) ?_
              refine m_icmp_ge (X := l11_66.toInt) (Y := r45.toInt) (tgt := 131) hx hb dX7_equalDown_70 (by decide) rfl rfl (fun c70 => ?_) (fun c70 => ?_)
              · skip
                refine lv_iconst (v := 1) hx hb dX7_equalDown_131 (by decide) ?_
                subst hAe
                rw [hQ]
                exact W.zret (v := 1) hx hb hr (by decide) (fun t ht hW => ⟨⟨1, _, rfl, ⟨v_s_looked_66, v_s_lookedTooOften_66, rfl, by first | assumption | omega | (intros; omega) | decide⟩, by rw [ht]; exact hP, va_K.moved hW.alike hK, hD⟩, hS.F ht⟩) hS.2.2 dX7_equalDown_132
              · skip
                refine lv_aload_n hx hb dX7_equalDown_73 rfl (lv_at hl 0 rfl) ?_
                refine call_i (As := []) (rest := []) ⟨hx, hb, hml, hown, hts⟩ (tX7_mayLook (l := l) ) (cwV 0 hts (gV (wr43 _ (List.mem_of_getElem? (i := 21) rfl)) (wr43 _ (List.mem_of_getElem? (i := 22) rfl)) (wr43 _ (List.mem_of_getElem? (i := 23) rfl)) (wr4 _ (List.mem_of_getElem? (i := 3) rfl)) (wr44 _ (List.mem_of_getElem? (i := 0) rfl))) rfl rfl rfl (by decide +kernel) ⟨Nat.le_of_ble_eq_true rfl, Nat.le_of_ble_eq_true rfl⟩) (va_recv hK hP (ci := 6) (q0 := 17) rfl rfl) hK hP hD hE hS hA rfl hl.1 rfl (Nat.le_of_ble_eq_true rfl) dX7_equalDown_74 ⟨Nat.le_of_ble_eq_true rfl, Nat.le_of_ble_eq_true rfl⟩ (fun r74 w9 H locs hw74 hP hD hS => ?_)
                obtain ⟨v_s_looked_74, v_s_lookedTooOften_74, rfl, hw74_0⟩ := hw74
                have b_v_s_looked_74 := iB v_s_looked_74
                have b_v_s_lookedTooOften_74 := iB v_s_lookedTooOften_74
                have b_r74 := iB r74
                refine m_if_eq (X := r74.toInt) (tgt := 123) hx hb dX7_equalDown_77 (by decide) rfl (fun c77 => ?_) (fun c77 => ?_)
                · skip
                  refine lv_iconst (v := 0) hx hb dX7_equalDown_123 (by decide) ?_
                  subst hAe
                  rw [hQ]
                  exact W.zret (v := 0) hx hb hr (by decide) (fun t ht hW => ⟨⟨0, _, rfl, ⟨v_s_looked_74, v_s_lookedTooOften_74, rfl, by first | assumption | omega | (intros; omega) | decide⟩, by rw [ht]; exact hP, va_K.moved hW.alike hK, hD⟩, hS.F ht⟩) hS.2.2 dX7_equalDown_124
                · skip
                  refine lv_aload_n hx hb dX7_equalDown_80 rfl (lv_at hl 0 rfl) ?_
                  refine lv_aload_n hx hb dX7_equalDown_81 rfl (lv_at hl 0 rfl) ?_
                  refine lv_iload hx hb dX7_equalDown_82 (lv_at hl 2 rfl) ?_
                  refine lv_iload hx hb dX7_equalDown_84 (lv_at hl 5 rfl) ?_
                  refine call_i (As := [.int x34, .int l11_66]) (rest := [.ref (q 17)]) ⟨hx, hb, hml, hown, hts⟩ (tX7_cellClass (l := l) x34 l11_66 (by first | assumption | omega | (intros; omega) | decide)) (cwV 2 hts (gV (wr38 _ (List.mem_of_getElem? (i := 20) rfl)) (wr38 _ (List.mem_of_getElem? (i := 21) rfl)) (wr38 _ (List.mem_of_getElem? (i := 22) rfl)) (wr4 _ (List.mem_of_getElem? (i := 3) rfl)) (wr38 _ (List.mem_of_getElem? (i := 23) rfl))) rfl rfl rfl (by decide +kernel) ⟨Nat.le_of_ble_eq_true rfl, Nat.le_of_ble_eq_true rfl⟩) (va_recv hK hP (ci := 6) (q0 := 17) rfl rfl) hK hP hD hE hS hA rfl hl.1 rfl (Nat.le_of_ble_eq_true rfl) dX7_equalDown_86 ⟨Nat.le_of_ble_eq_true rfl, Nat.le_of_ble_eq_true rfl⟩ (fun r86 w9 H locs hw86 hP hD hS => ?_)
                  obtain ⟨rfl⟩ := hw86
                  have b_r86 := iB r86
                  refine lv_aload_n hx hb dX7_equalDown_89 rfl (lv_at hl 0 rfl) ?_
                  refine lv_iload hx hb dX7_equalDown_90 (lv_at hl 2 rfl) ?_
                  refine lv_iload hx hb dX7_equalDown_92 (lv_at hl 5 rfl) ?_
                  refine call_j (As := [.int x34, .int l11_66]) (rest := [.int r86, .ref (q 17)]) ⟨hx, hb, hml, hown, hts⟩ (tX7_cellDatum (l := l) x34 l11_66 (by first | assumption | omega | (intros; omega) | decide)) (cwV 2 hts (gV (wr39 _ (List.mem_of_getElem? (i := 0) rfl)) (wr39 _ (List.mem_of_getElem? (i := 1) rfl)) (wr39 _ (List.mem_of_getElem? (i := 2) rfl)) (wr4 _ (List.mem_of_getElem? (i := 3) rfl)) (wr39 _ (List.mem_of_getElem? (i := 3) rfl))) rfl rfl rfl (by decide +kernel) ⟨Nat.le_of_ble_eq_true rfl, Nat.le_of_ble_eq_true rfl⟩) (va_recv hK hP (ci := 6) (q0 := 17) rfl rfl) hK hP hD hE hS hA rfl hl.1 rfl (Nat.le_of_ble_eq_true rfl) dX7_equalDown_94 ⟨Nat.le_of_ble_eq_true rfl, Nat.le_of_ble_eq_true rfl⟩ (fun r94 w9 H locs hw94 hP hD hS => ?_)
                  obtain ⟨rfl⟩ := hw94
                  have b_r94 := jB r94
                  refine lv_aload_n hx hb dX7_equalDown_97 rfl (lv_at hl 0 rfl) ?_
                  refine lv_iload hx hb dX7_equalDown_98 (lv_at hl 3 rfl) ?_
                  refine lv_iload hx hb dX7_equalDown_100 (lv_at hl 5 rfl) ?_
                  refine call_i (As := [.int x39, .int l11_66]) (rest := [.long r94, .int r86, .ref (q 17)]) ⟨hx, hb, hml, hown, hts⟩ (tX7_cellClass (l := l) x39 l11_66 (by first | assumption | omega | (intros; omega) | decide)) (cwV 2 hts (gV (wr38 _ (List.mem_of_getElem? (i := 20) rfl)) (wr38 _ (List.mem_of_getElem? (i := 21) rfl)) (wr38 _ (List.mem_of_getElem? (i := 22) rfl)) (wr4 _ (List.mem_of_getElem? (i := 3) rfl)) (wr38 _ (List.mem_of_getElem? (i := 23) rfl))) rfl rfl rfl (by decide +kernel) ⟨Nat.le_of_ble_eq_true rfl, Nat.le_of_ble_eq_true rfl⟩) (va_recv hK hP (ci := 6) (q0 := 17) rfl rfl) hK hP hD hE hS hA rfl hl.1 rfl (Nat.le_of_ble_eq_true rfl) dX7_equalDown_102 ⟨Nat.le_of_ble_eq_true rfl, Nat.le_of_ble_eq_true rfl⟩ (fun r102 w9 H locs hw102 hP hD hS => ?_)
                  obtain ⟨rfl⟩ := hw102
                  have b_r102 := iB r102
                  refine lv_aload_n hx hb dX7_equalDown_105 rfl (lv_at hl 0 rfl) ?_
                  refine lv_iload hx hb dX7_equalDown_106 (lv_at hl 3 rfl) ?_
                  refine lv_iload hx hb dX7_equalDown_108 (lv_at hl 5 rfl) ?_
                  refine call_j (As := [.int x39, .int l11_66]) (rest := [.int r102, .long r94, .int r86, .ref (q 17)]) ⟨hx, hb, hml, hown, hts⟩ (tX7_cellDatum (l := l) x39 l11_66 (by first | assumption | omega | (intros; omega) | decide)) (cwV 2 hts (gV (wr39 _ (List.mem_of_getElem? (i := 0) rfl)) (wr39 _ (List.mem_of_getElem? (i := 1) rfl)) (wr39 _ (List.mem_of_getElem? (i := 2) rfl)) (wr4 _ (List.mem_of_getElem? (i := 3) rfl)) (wr39 _ (List.mem_of_getElem? (i := 3) rfl))) rfl rfl rfl (by decide +kernel) ⟨Nat.le_of_ble_eq_true rfl, Nat.le_of_ble_eq_true rfl⟩) (va_recv hK hP (ci := 6) (q0 := 17) rfl rfl) hK hP hD hE hS hA rfl hl.1 rfl (Nat.le_of_ble_eq_true rfl) dX7_equalDown_110 ⟨Nat.le_of_ble_eq_true rfl, Nat.le_of_ble_eq_true rfl⟩ (fun r110 w9 H locs hw110 hP hD hS => ?_)
                  obtain ⟨rfl⟩ := hw110
                  have b_r110 := jB r110
                  refine lv_iload hx hb dX7_equalDown_113 (lv_at hl 1 rfl) ?_
                  refine lv_iconst (v := 1) hx hb dX7_equalDown_115 (by decide) ?_
                  refine m_iadd (X := e9.toInt) (Y := 1) hx hb dX7_equalDown_116 rfl (by decide) (fun x116 e_x116 g9 => ?_)
                  obtain ⟨k_x116, g_x116⟩ := g9
                  have b_x116 := iB x116
                  try (have q_x116 : x116.toInt = e9.toInt + 1 := (by omega); clear g_x116 k_x116)
                  refine call_i (As := [.int r86, .long r94, .int r102, .long r110, .int x116]) (rest := []) ⟨hx, hb, hml, hown, hts⟩ (tX7_equalDown_q3 (l := l) r86 r94 r102 r110 x116 (by first | assumption | omega | (intros; omega) | decide) (by first | assumption | omega | (intros; omega) | decide) (by first | assumption | omega | (intros; omega) | decide)) (cwV 5 hts (gV (wr44 _ (List.mem_of_getElem? (i := 10) rfl)) (wr44 _ (List.mem_of_getElem? (i := 11) rfl)) (wr44 _ (List.mem_of_getElem? (i := 12) rfl)) (wr4 _ (List.mem_of_getElem? (i := 3) rfl)) (wr44 _ (List.mem_of_getElem? (i := 13) rfl))) rfl rfl rfl (by decide +kernel) ⟨Nat.le_of_ble_eq_true rfl, Nat.le_of_ble_eq_true rfl⟩) (va_recv hK hP (ci := 6) (q0 := 17) rfl rfl) hK hP hD hE hS hA rfl hl.1 rfl (Nat.le_of_ble_eq_true rfl) dX7_equalDown_117 ⟨Nat.le_of_ble_eq_true rfl, Nat.le_of_ble_eq_true rfl⟩ (fun r117 w9 H locs hw117 hP hD hS => ?_)
                  obtain ⟨v_s_looked_117, v_s_lookedTooOften_117, rfl, hw117_0⟩ := hw117
                  have b_v_s_looked_117 := iB v_s_looked_117
                  have b_v_s_lookedTooOften_117 := iB v_s_lookedTooOften_117
                  have b_r117 := iB r117
                  refine m_if_ne (X := r117.toInt) (tgt := 125) hx hb dX7_equalDown_120 (by decide) rfl (fun c120 => ?_) (fun c120 => ?_)
                  · skip
                    obtain ⟨x125, e_x125⟩ : ∃ z : Int32, z = l11_66 + (1 : Int32) := ⟨_, rfl⟩
                    obtain ⟨k_x125, g_x125⟩ : ∃ k : Int, x125.toInt = l11_66.toInt + (1) + k * 4294967296 := by rw [e_x125]; exact iAdd l11_66 (1)
                    have b_x125 := iB x125
                    try (have q_x125 : x125.toInt = l11_66.toInt + (1) := (by omega); clear g_x125 k_x125)
                    refine lv_iinc (v := x125) (lv' := [(11, .int x125), (0, .ref (q 17)), (7, .int e9), (8, .int x34), (9, .int x39), (10, .int r45)]) hx hb dX7_equalDown_125 hl (k := 5) rfl (by rw [e_x125]; rfl) (by decide) rfl (fun ls hl => ?_)
                    refine lv_goto (tgt := 66) hx hb dX7_equalDown_128 (by decide) ?_
                    exact ih66 x125 v_s_looked_117 v_s_lookedTooOften_117 H locs ls (by first | assumption | omega | (intros; omega) | decide) (by first | assumption | omega | (intros; omega) | decide) (by omega) hP hD hS (lv_sub hl [1, 2, 3, 4, 5, 0] rfl)
                  · skip
                    refine lv_iconst (v := 0) hx hb dX7_equalDown_123 (by decide) ?_
                    subst hAe
                    rw [hQ]
                    exact W.zret (v := 0) hx hb hr (by decide) (fun t ht hW => ⟨⟨0, _, rfl, ⟨v_s_looked_117, v_s_lookedTooOften_117, rfl, by first | assumption | omega | (intros; omega) | decide⟩, by rw [ht]; exact hP, va_K.moved hW.alike hK, hD⟩, hS.F ht⟩) hS.2.2 dX7_equalDown_124
          exact J66 ((4000 - (0 : Int32).toInt).toNat + 1) (0 : Int32) v_s_looked v_s_lookedTooOften H locs ls (by first | assumption | omega | (intros; omega) | decide) (by first | assumption | omega | (intros; omega) | decide) (by omega) hP hD hS (lv_sub hl [4, 9, 3, 2, 1, 0] rfl)
        · skip
          refine lv_iconst (v := 0) hx hb dX7_equalDown_61 (by decide) ?_
          subst hAe
          rw [hQ]
          exact W.zret (v := 0) hx hb hr (by decide) (fun t ht hW => ⟨⟨0, _, rfl, ⟨v_s_looked, v_s_lookedTooOften, rfl, by first | assumption | omega | (intros; omega) | decide⟩, by rw [ht]; exact hP, va_K.moved hW.alike hK, hD⟩, hS.F ht⟩) hS.2.2 dX7_equalDown_62
      · skip
        exact J20 H locs ls hP hD hS (lv_sub hl [2, 4] rfl)
  · skip
    refine lv_iconst (v := 0) hx hb dX7_equalDown_6 (by decide) ?_
    subst hAe
    rw [hQ]
    exact W.zret (v := 0) hx hb hr (by decide) (fun t ht hW => ⟨⟨0, _, rfl, ⟨v_s_looked, v_s_lookedTooOften, rfl, by first | assumption | omega | (intros; omega) | decide⟩, by rw [ht]; exact hP, va_K.moved hW.alike hK, hD⟩, hS.F ht⟩) hS.2.2 dX7_equalDown_7

def rmX7_hashOf : Room := { frames := 140, cells := 0, slots := 0, locals := 2800 }
set_option maxHeartbeats 4000000 in
set_option maxRecDepth 100000 in
theorem tX7_hashOf {l : Launch} {D : va_G} {K : Nat → Nat → Nat} {cs : Nat → ClassId} {q : Nat → Nat} {v_t_tapeSize v_t_textSize v_t_faultKind v_g_size v_h_size v_r_takes v_r_negative v_r_namePlace v_r_faultKind v_r_faultPlace v_a_size v_a_limit v_a_digits v_a_kind v_a_from v_a_to v_o_size v_b_size v_b_limit v_b_digits v_b_kind v_b_from v_b_to v_u_marksMade v_u_came v_u_guesses v_u_right v_u_taken v_s_things v_s_looked v_s_lookedTooOften v_s_arraysMade v_s_cellsMade : Int32} {a_t_tape a_t_text a_o_out a_u_outcomes a_u_indexes a_s_classes a_s_starts a_s_lengths a_vc : Nat → Int32} {a_g_beyond a_h_beyond a_r_scratch a_r_now a_u_atom a_u_other a_u_hand : Nat} {a_g_steps a_h_steps a_u_vars a_u_marks : Nat → Option Nat} {a_s_cells a_vd a_sj : Nat → Int64} {a_L : List Nat} {a_K a_iv a_inn : Nat → Nat} {a_si a_ac : Nat → Nat → Int32} (v9 : Nat) (h_v9 : aV a_L a_K v9) (p_0 : STO v_s_things v_s_cellsMade a_s_starts a_s_lengths) : CtI l yX7_hashOf (wG yX7_hashOf cX7_hashOf 2 (some .int)) rmX7_hashOf D (twT cs) K [.ref (q 17), .ref v9] (tw cs q v_t_tapeSize v_t_textSize v_t_faultKind a_t_tape a_t_text a_g_beyond v_g_size a_g_steps a_h_beyond v_h_size a_h_steps a_r_scratch a_r_now v_r_takes v_r_negative v_r_namePlace v_r_faultKind v_r_faultPlace v_a_size v_a_limit v_a_digits v_a_kind v_a_from v_a_to v_o_size a_o_out v_b_size v_b_limit v_b_digits v_b_kind v_b_from v_b_to a_u_atom a_u_other a_u_hand v_u_marksMade v_u_came v_u_guesses v_u_right v_u_taken a_u_vars a_u_marks a_u_outcomes a_u_indexes v_s_things v_s_looked v_s_lookedTooOften v_s_arraysMade v_s_cellsMade a_s_classes a_s_starts a_s_lengths a_s_cells a_L a_K a_vc a_vd a_si a_sj a_iv a_inn a_ac) (fun r w1 => ∃ (v_s_looked' : Int32) (v_s_lookedTooOften' : Int32), w1 = (tw cs q v_t_tapeSize v_t_textSize v_t_faultKind a_t_tape a_t_text a_g_beyond v_g_size a_g_steps a_h_beyond v_h_size a_h_steps a_r_scratch a_r_now v_r_takes v_r_negative v_r_namePlace v_r_faultKind v_r_faultPlace v_a_size v_a_limit v_a_digits v_a_kind v_a_from v_a_to v_o_size a_o_out v_b_size v_b_limit v_b_digits v_b_kind v_b_from v_b_to a_u_atom a_u_other a_u_hand v_u_marksMade v_u_came v_u_guesses v_u_right v_u_taken a_u_vars a_u_marks a_u_outcomes a_u_indexes v_s_things v_s_looked' v_s_lookedTooOften' v_s_arraysMade v_s_cellsMade a_s_classes a_s_starts a_s_lengths a_s_cells a_L a_K a_vc a_vd a_si a_sj a_iv a_inn a_ac)) 0 0 := by
  intro sz
  refine Met.ofW (cc := cX7_hashOf) (maxL := 2) (ret := (some .int)) (by decide) rfl ?_
  intro p e s m args below meth c s₁ B hml hv
  obtain ⟨rfl, hsz, hP, hK, hD0, hE⟩ := hv
  have hx := B.exec
  have hb := B.bytes
  have hr := B.returns
  have hts := atoms_spec (ws := (wG yX7_hashOf cX7_hashOf 2 (some .int))) B.pre
  have hown : s.vm.findClass RX7 = some m.cls := findClass_of_methodNamed B.named
  have hlocks := B.notSynchronized
  subst hsz
  have hD := hD0.self (sz := s.heap.size)
  obtain ⟨A, hAe⟩ : ∃ A : Nat → Prop, A = va_A (tw cs q v_t_tapeSize v_t_textSize v_t_faultKind a_t_tape a_t_text a_g_beyond v_g_size a_g_steps a_h_beyond v_h_size a_h_steps a_r_scratch a_r_now v_r_takes v_r_negative v_r_namePlace v_r_faultKind v_r_faultPlace v_a_size v_a_limit v_a_digits v_a_kind v_a_from v_a_to v_o_size a_o_out v_b_size v_b_limit v_b_digits v_b_kind v_b_from v_b_to a_u_atom a_u_other a_u_hand v_u_marksMade v_u_came v_u_guesses v_u_right v_u_taken a_u_vars a_u_marks a_u_outcomes a_u_indexes v_s_things v_s_looked v_s_lookedTooOften v_s_arraysMade v_s_cellsMade a_s_classes a_s_starts a_s_lengths a_s_cells a_L a_K a_vc a_vd a_si a_sj a_iv a_inn a_ac) s.heap.size := ⟨_, rfl⟩
  rw [← hAe] at hD hE
  have hA : ∀ q : Nat, s.heap.size ≤ q → A q := fun q h => by rw [hAe]; exact Or.inr h
  have hS : va_S A s.heap s.heap [] := va_S.rf
  have hl := lv_entry ([.ref (q 17), .ref v9]) (n := 2) (Nat.le_of_ble_eq_true rfl)
  rw [lg_entry_eq]
  generalize (lg_sl ([.ref (q 17), .ref v9]) ++ List.replicate (2 - (lg_sl ([.ref (q 17), .ref v9])).length) Slot.unset).toArray = ls at hl ⊢
  have hl : lv_has ls 2 [(0, .ref (q 17)), (1, .ref v9)] := hl
  refine wq (fun Q hQ => ?_)
  have hinX8 : ∀ w ∈ wsX80, w ∈ (wG yX7_hashOf cX7_hashOf 2 (some .int)) := fun w h => List.mem_cons_of_mem _ (inlX8 w h)
  have kc0 : (0 : Int32).toInt = 0 := by decide
  have k_43_7 := hts (.fieldLink RX7 98 "ArrayTrainer$Value" "cls" "I") (List.mem_cons_of_mem _ (wr43 _ (List.mem_of_getElem? (i := 7) rfl)))
  have k_43_8 := hts (.fieldLink RX7 101 "ArrayTrainer$Value" "datum" "J") (List.mem_cons_of_mem _ (wr43 _ (List.mem_of_getElem? (i := 8) rfl)))
  obtain ⟨H, hH⟩ : ∃ H : Heap, H = s.heap := ⟨_, rfl⟩
  obtain ⟨locs, hlc⟩ : ∃ L : List Loc, L = [] := ⟨_, rfl⟩
  have hP : va_P D vwCl (tw cs q v_t_tapeSize v_t_textSize v_t_faultKind a_t_tape a_t_text a_g_beyond v_g_size a_g_steps a_h_beyond v_h_size a_h_steps a_r_scratch a_r_now v_r_takes v_r_negative v_r_namePlace v_r_faultKind v_r_faultPlace v_a_size v_a_limit v_a_digits v_a_kind v_a_from v_a_to v_o_size a_o_out v_b_size v_b_limit v_b_digits v_b_kind v_b_from v_b_to a_u_atom a_u_other a_u_hand v_u_marksMade v_u_came v_u_guesses v_u_right v_u_taken a_u_vars a_u_marks a_u_outcomes a_u_indexes v_s_things v_s_looked v_s_lookedTooOften v_s_arraysMade v_s_cellsMade a_s_classes a_s_starts a_s_lengths a_s_cells a_L a_K a_vc a_vd a_si a_sj a_iv a_inn a_ac) H := by rw [hH]; exact hP
  have hS : va_S A s.heap H locs := by rw [hH, hlc]; exact hS
  refine wHL hH hlc ?_
  refine lv_aload_n hx hb dX7_hashOf_0 rfl (lv_at hl 0 rfl) ?_
  refine call_v (As := []) (rest := []) ⟨hx, hb, hml, hown, hts⟩ (tX7_startLooking (l := l) ) (cwV 0 hts (gV (wr43 _ (List.mem_of_getElem? (i := 9) rfl)) (wr43 _ (List.mem_of_getElem? (i := 10) rfl)) (wr43 _ (List.mem_of_getElem? (i := 11) rfl)) (wr4 _ (List.mem_of_getElem? (i := 3) rfl)) (wr43 _ (List.mem_of_getElem? (i := 12) rfl))) rfl rfl rfl (by decide +kernel) ⟨Nat.le_of_ble_eq_true rfl, Nat.le_of_ble_eq_true rfl⟩) (va_recv hK hP (ci := 6) (q0 := 17) rfl rfl) hK hP hD hE hS hA rfl hl.1 rfl (Nat.le_of_ble_eq_true rfl) dX7_hashOf_1 ⟨Nat.le_of_ble_eq_true rfl, Nat.le_of_ble_eq_true rfl⟩ (fun w9 H locs hw1 hP hD hS => ?_)
  obtain ⟨v_s_looked_1, v_s_lookedTooOften_1, rfl⟩ := hw1
  have b_v_s_looked_1 := iB v_s_looked_1
  have b_v_s_lookedTooOften_1 := iB v_s_lookedTooOften_1
  refine lv_aload_n hx hb dX7_hashOf_4 rfl (lv_at hl 0 rfl) ?_
  refine lv_aload_n hx hb dX7_hashOf_5 rfl (lv_at hl 1 rfl) ?_
  obtain ⟨k6_, hk6_⟩ := pl_V (X := (twX cs q v_t_tapeSize v_t_textSize v_t_faultKind a_t_tape a_t_text a_g_beyond v_g_size a_g_steps a_h_beyond v_h_size a_h_steps a_r_scratch a_r_now v_r_takes v_r_negative v_r_namePlace v_r_faultKind v_r_faultPlace v_a_size v_a_limit v_a_digits v_a_kind v_a_from v_a_to v_o_size a_o_out v_b_size v_b_limit v_b_digits v_b_kind v_b_from v_b_to a_u_atom a_u_other a_u_hand v_u_marksMade v_u_came v_u_guesses v_u_right v_u_taken a_u_vars a_u_marks a_u_outcomes a_u_indexes v_s_things v_s_looked_1 v_s_lookedTooOften_1 v_s_arraysMade v_s_cellsMade a_s_classes a_s_starts a_s_lengths a_s_cells)) (cI := cs 0) (vc := a_vc) (vd := a_vd) (si := a_si) (sj := a_sj) (iv := a_iv) (inn := a_inn) (ac := a_ac) h_v9
  refine va_get (D := D) (ci := 7) (v := .int (a_vc v9)) (C := RX8) (T := TX8) (N := 2) hx hb hts hinX8 hown hK hP k6_ hk6_ rfl 0 (by decide) k_43_7 (fun _ h9 => h9) rfl dX7_hashOf_6 ?_
  refine lv_topi (fun x6 e_x6 => ?_)
  have b_x6 := iB x6
  refine lv_aload_n hx hb dX7_hashOf_9 rfl (lv_at hl 1 rfl) ?_
  obtain ⟨k10_, hk10_⟩ := pl_V (X := (twX cs q v_t_tapeSize v_t_textSize v_t_faultKind a_t_tape a_t_text a_g_beyond v_g_size a_g_steps a_h_beyond v_h_size a_h_steps a_r_scratch a_r_now v_r_takes v_r_negative v_r_namePlace v_r_faultKind v_r_faultPlace v_a_size v_a_limit v_a_digits v_a_kind v_a_from v_a_to v_o_size a_o_out v_b_size v_b_limit v_b_digits v_b_kind v_b_from v_b_to a_u_atom a_u_other a_u_hand v_u_marksMade v_u_came v_u_guesses v_u_right v_u_taken a_u_vars a_u_marks a_u_outcomes a_u_indexes v_s_things v_s_looked_1 v_s_lookedTooOften_1 v_s_arraysMade v_s_cellsMade a_s_classes a_s_starts a_s_lengths a_s_cells)) (cI := cs 0) (vc := a_vc) (vd := a_vd) (si := a_si) (sj := a_sj) (iv := a_iv) (inn := a_inn) (ac := a_ac) h_v9
  refine va_get (D := D) (ci := 7) (v := .long (a_vd v9)) (C := RX8) (T := TX8) (N := 2) hx hb hts hinX8 hown hK hP k10_ hk10_ rfl 1 (by decide) k_43_8 (fun _ h9 => h9) rfl dX7_hashOf_10 ?_
  refine lv_topl (fun x10 e_x10 => ?_)
  have b_x10 := jB x10
  refine lv_iconst (v := 0) hx hb dX7_hashOf_13 (by decide) ?_
  refine call_i (As := [.int x6, .long x10, .int 0]) (rest := []) ⟨hx, hb, hml, hown, hts⟩ (tX7_hashDown_q4 (l := l) x6 x10 (0 : Int32) (by first | assumption | omega | (intros; omega) | decide) (by first | assumption | omega | (intros; omega) | decide) (by first | assumption | omega | (intros; omega) | decide)) (cwV 3 hts (gV (wr43 _ (List.mem_of_getElem? (i := 15) rfl)) (wr43 _ (List.mem_of_getElem? (i := 16) rfl)) (wr43 _ (List.mem_of_getElem? (i := 17) rfl)) (wr4 _ (List.mem_of_getElem? (i := 3) rfl)) (wr43 _ (List.mem_of_getElem? (i := 18) rfl))) rfl rfl rfl (by decide +kernel) ⟨Nat.le_of_ble_eq_true rfl, Nat.le_of_ble_eq_true rfl⟩) (va_recv hK hP (ci := 6) (q0 := 17) rfl rfl) hK hP hD hE hS hA rfl hl.1 rfl (Nat.le_of_ble_eq_true rfl) dX7_hashOf_14 ⟨Nat.le_of_ble_eq_true rfl, Nat.le_of_ble_eq_true rfl⟩ (fun r14 w9 H locs hw14 hP hD hS => ?_)
  obtain ⟨v_s_looked_14, v_s_lookedTooOften_14, rfl⟩ := hw14
  have b_v_s_looked_14 := iB v_s_looked_14
  have b_v_s_lookedTooOften_14 := iB v_s_lookedTooOften_14
  have b_r14 := iB r14
  subst hAe
  rw [hQ]
  exact W.iret (v := r14) hx hb hr (fun t ht hW => ⟨⟨r14, _, rfl, ⟨v_s_looked_14, v_s_lookedTooOften_14, rfl⟩, by rw [ht]; exact hP, va_K.moved hW.alike hK, hD⟩, hS.F ht⟩) hS.2.2 dX7_hashOf_17

def rmX7_areEqual : Room := { frames := 140, cells := 0, slots := 0, locals := 2800 }
set_option maxHeartbeats 4000000 in
set_option maxRecDepth 100000 in
theorem tX7_areEqual {l : Launch} {D : va_G} {K : Nat → Nat → Nat} {cs : Nat → ClassId} {q : Nat → Nat} {v_t_tapeSize v_t_textSize v_t_faultKind v_g_size v_h_size v_r_takes v_r_negative v_r_namePlace v_r_faultKind v_r_faultPlace v_a_size v_a_limit v_a_digits v_a_kind v_a_from v_a_to v_o_size v_b_size v_b_limit v_b_digits v_b_kind v_b_from v_b_to v_u_marksMade v_u_came v_u_guesses v_u_right v_u_taken v_s_things v_s_looked v_s_lookedTooOften v_s_arraysMade v_s_cellsMade : Int32} {a_t_tape a_t_text a_o_out a_u_outcomes a_u_indexes a_s_classes a_s_starts a_s_lengths a_vc : Nat → Int32} {a_g_beyond a_h_beyond a_r_scratch a_r_now a_u_atom a_u_other a_u_hand : Nat} {a_g_steps a_h_steps a_u_vars a_u_marks : Nat → Option Nat} {a_s_cells a_vd a_sj : Nat → Int64} {a_L : List Nat} {a_K a_iv a_inn : Nat → Nat} {a_si a_ac : Nat → Nat → Int32} (v9 : Nat) (h_v9 : aV a_L a_K v9) (w9 : Nat) (h_w9 : aV a_L a_K w9) (p_0 : STO v_s_things v_s_cellsMade a_s_starts a_s_lengths) : CtI l yX7_areEqual (wG yX7_areEqual cX7_areEqual 3 (some .boolean)) rmX7_areEqual D (twT cs) K [.ref (q 17), .ref v9, .ref w9] (tw cs q v_t_tapeSize v_t_textSize v_t_faultKind a_t_tape a_t_text a_g_beyond v_g_size a_g_steps a_h_beyond v_h_size a_h_steps a_r_scratch a_r_now v_r_takes v_r_negative v_r_namePlace v_r_faultKind v_r_faultPlace v_a_size v_a_limit v_a_digits v_a_kind v_a_from v_a_to v_o_size a_o_out v_b_size v_b_limit v_b_digits v_b_kind v_b_from v_b_to a_u_atom a_u_other a_u_hand v_u_marksMade v_u_came v_u_guesses v_u_right v_u_taken a_u_vars a_u_marks a_u_outcomes a_u_indexes v_s_things v_s_looked v_s_lookedTooOften v_s_arraysMade v_s_cellsMade a_s_classes a_s_starts a_s_lengths a_s_cells a_L a_K a_vc a_vd a_si a_sj a_iv a_inn a_ac) (fun r w1 => ∃ (v_s_looked' : Int32) (v_s_lookedTooOften' : Int32), w1 = (tw cs q v_t_tapeSize v_t_textSize v_t_faultKind a_t_tape a_t_text a_g_beyond v_g_size a_g_steps a_h_beyond v_h_size a_h_steps a_r_scratch a_r_now v_r_takes v_r_negative v_r_namePlace v_r_faultKind v_r_faultPlace v_a_size v_a_limit v_a_digits v_a_kind v_a_from v_a_to v_o_size a_o_out v_b_size v_b_limit v_b_digits v_b_kind v_b_from v_b_to a_u_atom a_u_other a_u_hand v_u_marksMade v_u_came v_u_guesses v_u_right v_u_taken a_u_vars a_u_marks a_u_outcomes a_u_indexes v_s_things v_s_looked' v_s_lookedTooOften' v_s_arraysMade v_s_cellsMade a_s_classes a_s_starts a_s_lengths a_s_cells a_L a_K a_vc a_vd a_si a_sj a_iv a_inn a_ac) ∧ (r.toInt = 0 ∨ r.toInt = 1)) 0 0 := by
  intro sz
  refine Met.ofW (cc := cX7_areEqual) (maxL := 3) (ret := (some .boolean)) (by decide) rfl ?_
  intro p e s m args below meth c s₁ B hml hv
  obtain ⟨rfl, hsz, hP, hK, hD0, hE⟩ := hv
  have hx := B.exec
  have hb := B.bytes
  have hr := B.returns
  have hts := atoms_spec (ws := (wG yX7_areEqual cX7_areEqual 3 (some .boolean))) B.pre
  have hown : s.vm.findClass RX7 = some m.cls := findClass_of_methodNamed B.named
  have hlocks := B.notSynchronized
  subst hsz
  have hD := hD0.self (sz := s.heap.size)
  obtain ⟨A, hAe⟩ : ∃ A : Nat → Prop, A = va_A (tw cs q v_t_tapeSize v_t_textSize v_t_faultKind a_t_tape a_t_text a_g_beyond v_g_size a_g_steps a_h_beyond v_h_size a_h_steps a_r_scratch a_r_now v_r_takes v_r_negative v_r_namePlace v_r_faultKind v_r_faultPlace v_a_size v_a_limit v_a_digits v_a_kind v_a_from v_a_to v_o_size a_o_out v_b_size v_b_limit v_b_digits v_b_kind v_b_from v_b_to a_u_atom a_u_other a_u_hand v_u_marksMade v_u_came v_u_guesses v_u_right v_u_taken a_u_vars a_u_marks a_u_outcomes a_u_indexes v_s_things v_s_looked v_s_lookedTooOften v_s_arraysMade v_s_cellsMade a_s_classes a_s_starts a_s_lengths a_s_cells a_L a_K a_vc a_vd a_si a_sj a_iv a_inn a_ac) s.heap.size := ⟨_, rfl⟩
  rw [← hAe] at hD hE
  have hA : ∀ q : Nat, s.heap.size ≤ q → A q := fun q h => by rw [hAe]; exact Or.inr h
  have hS : va_S A s.heap s.heap [] := va_S.rf
  have hl := lv_entry ([.ref (q 17), .ref v9, .ref w9]) (n := 3) (Nat.le_of_ble_eq_true rfl)
  rw [lg_entry_eq]
  generalize (lg_sl ([.ref (q 17), .ref v9, .ref w9]) ++ List.replicate (3 - (lg_sl ([.ref (q 17), .ref v9, .ref w9])).length) Slot.unset).toArray = ls at hl ⊢
  have hl : lv_has ls 3 [(0, .ref (q 17)), (1, .ref v9), (2, .ref w9)] := hl
  refine wq (fun Q hQ => ?_)
  have hinX8 : ∀ w ∈ wsX80, w ∈ (wG yX7_areEqual cX7_areEqual 3 (some .boolean)) := fun w h => List.mem_cons_of_mem _ (inlX8 w h)
  have kc0 : (0 : Int32).toInt = 0 := by decide
  have k_43_7 := hts (.fieldLink RX7 98 "ArrayTrainer$Value" "cls" "I") (List.mem_cons_of_mem _ (wr43 _ (List.mem_of_getElem? (i := 7) rfl)))
  have k_43_8 := hts (.fieldLink RX7 101 "ArrayTrainer$Value" "datum" "J") (List.mem_cons_of_mem _ (wr43 _ (List.mem_of_getElem? (i := 8) rfl)))
  obtain ⟨H, hH⟩ : ∃ H : Heap, H = s.heap := ⟨_, rfl⟩
  obtain ⟨locs, hlc⟩ : ∃ L : List Loc, L = [] := ⟨_, rfl⟩
  have hP : va_P D vwCl (tw cs q v_t_tapeSize v_t_textSize v_t_faultKind a_t_tape a_t_text a_g_beyond v_g_size a_g_steps a_h_beyond v_h_size a_h_steps a_r_scratch a_r_now v_r_takes v_r_negative v_r_namePlace v_r_faultKind v_r_faultPlace v_a_size v_a_limit v_a_digits v_a_kind v_a_from v_a_to v_o_size a_o_out v_b_size v_b_limit v_b_digits v_b_kind v_b_from v_b_to a_u_atom a_u_other a_u_hand v_u_marksMade v_u_came v_u_guesses v_u_right v_u_taken a_u_vars a_u_marks a_u_outcomes a_u_indexes v_s_things v_s_looked v_s_lookedTooOften v_s_arraysMade v_s_cellsMade a_s_classes a_s_starts a_s_lengths a_s_cells a_L a_K a_vc a_vd a_si a_sj a_iv a_inn a_ac) H := by rw [hH]; exact hP
  have hS : va_S A s.heap H locs := by rw [hH, hlc]; exact hS
  refine wHL hH hlc ?_
  refine lv_aload_n hx hb dX7_areEqual_0 rfl (lv_at hl 0 rfl) ?_
  refine call_v (As := []) (rest := []) ⟨hx, hb, hml, hown, hts⟩ (tX7_startLooking (l := l) ) (cwV 0 hts (gV (wr43 _ (List.mem_of_getElem? (i := 9) rfl)) (wr43 _ (List.mem_of_getElem? (i := 10) rfl)) (wr43 _ (List.mem_of_getElem? (i := 11) rfl)) (wr4 _ (List.mem_of_getElem? (i := 3) rfl)) (wr43 _ (List.mem_of_getElem? (i := 12) rfl))) rfl rfl rfl (by decide +kernel) ⟨Nat.le_of_ble_eq_true rfl, Nat.le_of_ble_eq_true rfl⟩) (va_recv hK hP (ci := 6) (q0 := 17) rfl rfl) hK hP hD hE hS hA rfl hl.1 rfl (Nat.le_of_ble_eq_true rfl) dX7_areEqual_1 ⟨Nat.le_of_ble_eq_true rfl, Nat.le_of_ble_eq_true rfl⟩ (fun w9 H locs hw1 hP hD hS => ?_)
  obtain ⟨v_s_looked_1, v_s_lookedTooOften_1, rfl⟩ := hw1
  have b_v_s_looked_1 := iB v_s_looked_1
  have b_v_s_lookedTooOften_1 := iB v_s_lookedTooOften_1
  refine lv_aload_n hx hb dX7_areEqual_4 rfl (lv_at hl 0 rfl) ?_
  refine lv_aload_n hx hb dX7_areEqual_5 rfl (lv_at hl 1 rfl) ?_
  obtain ⟨k6_, hk6_⟩ := pl_V (X := (twX cs q v_t_tapeSize v_t_textSize v_t_faultKind a_t_tape a_t_text a_g_beyond v_g_size a_g_steps a_h_beyond v_h_size a_h_steps a_r_scratch a_r_now v_r_takes v_r_negative v_r_namePlace v_r_faultKind v_r_faultPlace v_a_size v_a_limit v_a_digits v_a_kind v_a_from v_a_to v_o_size a_o_out v_b_size v_b_limit v_b_digits v_b_kind v_b_from v_b_to a_u_atom a_u_other a_u_hand v_u_marksMade v_u_came v_u_guesses v_u_right v_u_taken a_u_vars a_u_marks a_u_outcomes a_u_indexes v_s_things v_s_looked_1 v_s_lookedTooOften_1 v_s_arraysMade v_s_cellsMade a_s_classes a_s_starts a_s_lengths a_s_cells)) (cI := cs 0) (vc := a_vc) (vd := a_vd) (si := a_si) (sj := a_sj) (iv := a_iv) (inn := a_inn) (ac := a_ac) h_v9
  refine va_get (D := D) (ci := 7) (v := .int (a_vc v9)) (C := RX8) (T := TX8) (N := 2) hx hb hts hinX8 hown hK hP k6_ hk6_ rfl 0 (by decide) k_43_7 (fun _ h9 => h9) rfl dX7_areEqual_6 ?_
  refine lv_topi (fun x6 e_x6 => ?_)
  have b_x6 := iB x6
  refine lv_aload_n hx hb dX7_areEqual_9 rfl (lv_at hl 1 rfl) ?_
  obtain ⟨k10_, hk10_⟩ := pl_V (X := (twX cs q v_t_tapeSize v_t_textSize v_t_faultKind a_t_tape a_t_text a_g_beyond v_g_size a_g_steps a_h_beyond v_h_size a_h_steps a_r_scratch a_r_now v_r_takes v_r_negative v_r_namePlace v_r_faultKind v_r_faultPlace v_a_size v_a_limit v_a_digits v_a_kind v_a_from v_a_to v_o_size a_o_out v_b_size v_b_limit v_b_digits v_b_kind v_b_from v_b_to a_u_atom a_u_other a_u_hand v_u_marksMade v_u_came v_u_guesses v_u_right v_u_taken a_u_vars a_u_marks a_u_outcomes a_u_indexes v_s_things v_s_looked_1 v_s_lookedTooOften_1 v_s_arraysMade v_s_cellsMade a_s_classes a_s_starts a_s_lengths a_s_cells)) (cI := cs 0) (vc := a_vc) (vd := a_vd) (si := a_si) (sj := a_sj) (iv := a_iv) (inn := a_inn) (ac := a_ac) h_v9
  refine va_get (D := D) (ci := 7) (v := .long (a_vd v9)) (C := RX8) (T := TX8) (N := 2) hx hb hts hinX8 hown hK hP k10_ hk10_ rfl 1 (by decide) k_43_8 (fun _ h9 => h9) rfl dX7_areEqual_10 ?_
  refine lv_topl (fun x10 e_x10 => ?_)
  have b_x10 := jB x10
  refine lv_aload_n hx hb dX7_areEqual_13 rfl (lv_at hl 2 rfl) ?_
  obtain ⟨k14_, hk14_⟩ := pl_V (X := (twX cs q v_t_tapeSize v_t_textSize v_t_faultKind a_t_tape a_t_text a_g_beyond v_g_size a_g_steps a_h_beyond v_h_size a_h_steps a_r_scratch a_r_now v_r_takes v_r_negative v_r_namePlace v_r_faultKind v_r_faultPlace v_a_size v_a_limit v_a_digits v_a_kind v_a_from v_a_to v_o_size a_o_out v_b_size v_b_limit v_b_digits v_b_kind v_b_from v_b_to a_u_atom a_u_other a_u_hand v_u_marksMade v_u_came v_u_guesses v_u_right v_u_taken a_u_vars a_u_marks a_u_outcomes a_u_indexes v_s_things v_s_looked_1 v_s_lookedTooOften_1 v_s_arraysMade v_s_cellsMade a_s_classes a_s_starts a_s_lengths a_s_cells)) (cI := cs 0) (vc := a_vc) (vd := a_vd) (si := a_si) (sj := a_sj) (iv := a_iv) (inn := a_inn) (ac := a_ac) h_w9
  refine va_get (D := D) (ci := 7) (v := .int (a_vc w9)) (C := RX8) (T := TX8) (N := 2) hx hb hts hinX8 hown hK hP k14_ hk14_ rfl 0 (by decide) k_43_7 (fun _ h9 => h9) rfl dX7_areEqual_14 ?_
  refine lv_topi (fun x14 e_x14 => ?_)
  have b_x14 := iB x14
  refine lv_aload_n hx hb dX7_areEqual_17 rfl (lv_at hl 2 rfl) ?_
  obtain ⟨k18_, hk18_⟩ := pl_V (X := (twX cs q v_t_tapeSize v_t_textSize v_t_faultKind a_t_tape a_t_text a_g_beyond v_g_size a_g_steps a_h_beyond v_h_size a_h_steps a_r_scratch a_r_now v_r_takes v_r_negative v_r_namePlace v_r_faultKind v_r_faultPlace v_a_size v_a_limit v_a_digits v_a_kind v_a_from v_a_to v_o_size a_o_out v_b_size v_b_limit v_b_digits v_b_kind v_b_from v_b_to a_u_atom a_u_other a_u_hand v_u_marksMade v_u_came v_u_guesses v_u_right v_u_taken a_u_vars a_u_marks a_u_outcomes a_u_indexes v_s_things v_s_looked_1 v_s_lookedTooOften_1 v_s_arraysMade v_s_cellsMade a_s_classes a_s_starts a_s_lengths a_s_cells)) (cI := cs 0) (vc := a_vc) (vd := a_vd) (si := a_si) (sj := a_sj) (iv := a_iv) (inn := a_inn) (ac := a_ac) h_w9
  refine va_get (D := D) (ci := 7) (v := .long (a_vd w9)) (C := RX8) (T := TX8) (N := 2) hx hb hts hinX8 hown hK hP k18_ hk18_ rfl 1 (by decide) k_43_8 (fun _ h9 => h9) rfl dX7_areEqual_18 ?_
  refine lv_topl (fun x18 e_x18 => ?_)
  have b_x18 := jB x18
  refine lv_iconst (v := 0) hx hb dX7_areEqual_21 (by decide) ?_
  refine call_i (As := [.int x6, .long x10, .int x14, .long x18, .int 0]) (rest := []) ⟨hx, hb, hml, hown, hts⟩ (tX7_equalDown_q4 (l := l) x6 x10 x14 x18 (0 : Int32) (by first | assumption | omega | (intros; omega) | decide) (by first | assumption | omega | (intros; omega) | decide) (by first | assumption | omega | (intros; omega) | decide)) (cwV 5 hts (gV (wr44 _ (List.mem_of_getElem? (i := 10) rfl)) (wr44 _ (List.mem_of_getElem? (i := 11) rfl)) (wr44 _ (List.mem_of_getElem? (i := 12) rfl)) (wr4 _ (List.mem_of_getElem? (i := 3) rfl)) (wr44 _ (List.mem_of_getElem? (i := 13) rfl))) rfl rfl rfl (by decide +kernel) ⟨Nat.le_of_ble_eq_true rfl, Nat.le_of_ble_eq_true rfl⟩) (va_recv hK hP (ci := 6) (q0 := 17) rfl rfl) hK hP hD hE hS hA rfl hl.1 rfl (Nat.le_of_ble_eq_true rfl) dX7_areEqual_22 ⟨Nat.le_of_ble_eq_true rfl, Nat.le_of_ble_eq_true rfl⟩ (fun r22 w9 H locs hw22 hP hD hS => ?_)
  obtain ⟨v_s_looked_22, v_s_lookedTooOften_22, rfl, hw22_0⟩ := hw22
  have b_v_s_looked_22 := iB v_s_looked_22
  have b_v_s_lookedTooOften_22 := iB v_s_lookedTooOften_22
  have b_r22 := iB r22
  subst hAe
  rw [hQ]
  exact W.zret (v := r22) hx hb hr (nbool (by first | omega | decide)) (fun t ht hW => ⟨⟨r22, _, rfl, ⟨v_s_looked_22, v_s_lookedTooOften_22, rfl, by first | assumption | omega | (intros; omega) | decide⟩, by rw [ht]; exact hP, va_K.moved hW.alike hK, hD⟩, hS.F ht⟩) hS.2.2 dX7_areEqual_25
